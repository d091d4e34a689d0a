section
-- ===== PART A: goes FIRST, ahead of the names: the tables' words, and 'selects' of the private methods out of them =====
/-- a private method of a class that the tables say can be made, by its rows of tables_1 -/
def lw_okq (q : MethodName × Nat) : Prop := (q.1.cls ≠ "java/lang/invoke/MethodHandle" ∧ q.1.cls ≠ "java/lang/invoke/VarHandle") ∧ Cond.instantiable q.1.cls q.2 ∈ tables_1 ∧ Cond.privateMethod q.1 ∈ tables_1 ∧ Cond.instanceMethod q.1 ∈ tables_1
theorem lw_p0 : lw_okq (⟨"FlameGuards$History", "dropOldest", "()V"⟩, 2) := ⟨⟨by decide +kernel, by decide +kernel⟩, List.mem_of_getElem? (i := 185) (by decide +kernel), List.mem_of_getElem? (i := 267) (by decide +kernel), List.mem_of_getElem? (i := 268) (by decide +kernel)⟩
theorem lw_p1 : lw_okq (⟨"FlameGuards$Plan", "placeOf", "(I)I"⟩, 3) := ⟨⟨by decide +kernel, by decide +kernel⟩, List.mem_of_getElem? (i := 105) (by decide +kernel), List.mem_of_getElem? (i := 315) (by decide +kernel), List.mem_of_getElem? (i := 316) (by decide +kernel)⟩
theorem lw_p2 : lw_okq (⟨"FlameGuards$Plan", "makePlaceFor", "(I)I"⟩, 3) := ⟨⟨by decide +kernel, by decide +kernel⟩, List.mem_of_getElem? (i := 105) (by decide +kernel), List.mem_of_getElem? (i := 329) (by decide +kernel), List.mem_of_getElem? (i := 330) (by decide +kernel)⟩
theorem lw_p3 : lw_okq (⟨"FlameGuards$Burner", "told", "([II)I"⟩, 10) := ⟨⟨by decide +kernel, by decide +kernel⟩, List.mem_of_getElem? (i := 52) (by decide +kernel), List.mem_of_getElem? (i := 408) (by decide +kernel), List.mem_of_getElem? (i := 409) (by decide +kernel)⟩
theorem lw_p4 : lw_okq (⟨"FlameGuards$State", "blow", "(ILFlameGuards$Burner;I)V"⟩, 8) := ⟨⟨by decide +kernel, by decide +kernel⟩, List.mem_of_getElem? (i := 21) (by decide +kernel), List.mem_of_getElem? (i := 450) (by decide +kernel), List.mem_of_getElem? (i := 451) (by decide +kernel)⟩
theorem lw_p5 : lw_okq (⟨"FlameGuards$State", "spark", "(ILFlameGuards$Burner;I)V"⟩, 8) := ⟨⟨by decide +kernel, by decide +kernel⟩, List.mem_of_getElem? (i := 21) (by decide +kernel), List.mem_of_getElem? (i := 456) (by decide +kernel), List.mem_of_getElem? (i := 457) (by decide +kernel)⟩
theorem lw_p6 : lw_okq (⟨"FlameGuards$State", "warmOrDrop", "(ILFlameGuards$Burner;)V"⟩, 8) := ⟨⟨by decide +kernel, by decide +kernel⟩, List.mem_of_getElem? (i := 21) (by decide +kernel), List.mem_of_getElem? (i := 461) (by decide +kernel), List.mem_of_getElem? (i := 462) (by decide +kernel)⟩
theorem lw_p7 : lw_okq (⟨"FlameGuards$State", "flow", "(LFlameGuards$Burner;)V"⟩, 8) := ⟨⟨by decide +kernel, by decide +kernel⟩, List.mem_of_getElem? (i := 21) (by decide +kernel), List.mem_of_getElem? (i := 490) (by decide +kernel), List.mem_of_getElem? (i := 491) (by decide +kernel)⟩
theorem lw_p8 : lw_okq (⟨"FlameGuards$State", "flowsUnburnt", "(LFlameGuards$Burner;)Z"⟩, 8) := ⟨⟨by decide +kernel, by decide +kernel⟩, List.mem_of_getElem? (i := 21) (by decide +kernel), List.mem_of_getElem? (i := 494) (by decide +kernel), List.mem_of_getElem? (i := 495) (by decide +kernel)⟩
theorem lw_p9 : lw_okq (⟨"FlameGuardsModel", "records", "()V"⟩, 14) := ⟨⟨by decide +kernel, by decide +kernel⟩, List.mem_of_getElem? (i := 590) (by decide +kernel), List.mem_of_getElem? (i := 649) (by decide +kernel), List.mem_of_getElem? (i := 650) (by decide +kernel)⟩
theorem lw_p10 : lw_okq (⟨"FlameGuardsModel", "get", "(II)I"⟩, 14) := ⟨⟨by decide +kernel, by decide +kernel⟩, List.mem_of_getElem? (i := 590) (by decide +kernel), List.mem_of_getElem? (i := 660) (by decide +kernel), List.mem_of_getElem? (i := 661) (by decide +kernel)⟩
theorem lw_p11 : lw_okq (⟨"FlameGuardsModel", "lay", "(III)V"⟩, 14) := ⟨⟨by decide +kernel, by decide +kernel⟩, List.mem_of_getElem? (i := 590) (by decide +kernel), List.mem_of_getElem? (i := 664) (by decide +kernel), List.mem_of_getElem? (i := 665) (by decide +kernel)⟩
theorem lw_p12 : lw_okq (⟨"FlameGuardsModel", "entryAt", "(I)I"⟩, 14) := ⟨⟨by decide +kernel, by decide +kernel⟩, List.mem_of_getElem? (i := 590) (by decide +kernel), List.mem_of_getElem? (i := 672) (by decide +kernel), List.mem_of_getElem? (i := 673) (by decide +kernel)⟩
theorem lw_p13 : lw_okq (⟨"FlameGuardsModel", "plans", "(II)V"⟩, 14) := ⟨⟨by decide +kernel, by decide +kernel⟩, List.mem_of_getElem? (i := 590) (by decide +kernel), List.mem_of_getElem? (i := 676) (by decide +kernel), List.mem_of_getElem? (i := 677) (by decide +kernel)⟩
theorem lw_p14 : lw_okq (⟨"FlameGuardsModel", "reads", "()I"⟩, 14) := ⟨⟨by decide +kernel, by decide +kernel⟩, List.mem_of_getElem? (i := 590) (by decide +kernel), List.mem_of_getElem? (i := 684) (by decide +kernel), List.mem_of_getElem? (i := 685) (by decide +kernel)⟩
theorem lw_p15 : lw_okq (⟨"FlameGuardsModel", "readsEntry", "()V"⟩, 14) := ⟨⟨by decide +kernel, by decide +kernel⟩, List.mem_of_getElem? (i := 590) (by decide +kernel), List.mem_of_getElem? (i := 688) (by decide +kernel), List.mem_of_getElem? (i := 689) (by decide +kernel)⟩
def lw_privs_1 : List (MethodName × Nat) := [(⟨"FlameGuards$History", "dropOldest", "()V"⟩, 2), (⟨"FlameGuards$Plan", "placeOf", "(I)I"⟩, 3), (⟨"FlameGuards$Plan", "makePlaceFor", "(I)I"⟩, 3), (⟨"FlameGuards$Burner", "told", "([II)I"⟩, 10), (⟨"FlameGuards$State", "blow", "(ILFlameGuards$Burner;I)V"⟩, 8), (⟨"FlameGuards$State", "spark", "(ILFlameGuards$Burner;I)V"⟩, 8), (⟨"FlameGuards$State", "warmOrDrop", "(ILFlameGuards$Burner;)V"⟩, 8), (⟨"FlameGuards$State", "flow", "(LFlameGuards$Burner;)V"⟩, 8), (⟨"FlameGuards$State", "flowsUnburnt", "(LFlameGuards$Burner;)Z"⟩, 8), (⟨"FlameGuardsModel", "records", "()V"⟩, 14), (⟨"FlameGuardsModel", "get", "(II)I"⟩, 14), (⟨"FlameGuardsModel", "lay", "(III)V"⟩, 14), (⟨"FlameGuardsModel", "entryAt", "(I)I"⟩, 14), (⟨"FlameGuardsModel", "plans", "(II)V"⟩, 14), (⟨"FlameGuardsModel", "reads", "()I"⟩, 14), (⟨"FlameGuardsModel", "readsEntry", "()V"⟩, 14)]
theorem lw_r1 : ∀ q ∈ lw_privs_1, lw_okq q := List.forall_mem_cons.mpr ⟨lw_p0, List.forall_mem_cons.mpr ⟨lw_p1, List.forall_mem_cons.mpr ⟨lw_p2, List.forall_mem_cons.mpr ⟨lw_p3, List.forall_mem_cons.mpr ⟨lw_p4, List.forall_mem_cons.mpr ⟨lw_p5, List.forall_mem_cons.mpr ⟨lw_p6, List.forall_mem_cons.mpr ⟨lw_p7, List.forall_mem_cons.mpr ⟨lw_p8, List.forall_mem_cons.mpr ⟨lw_p9, List.forall_mem_cons.mpr ⟨lw_p10, List.forall_mem_cons.mpr ⟨lw_p11, List.forall_mem_cons.mpr ⟨lw_p12, List.forall_mem_cons.mpr ⟨lw_p13, List.forall_mem_cons.mpr ⟨lw_p14, List.forall_mem_cons.mpr ⟨lw_p15, fun _ h => absurd h List.not_mem_nil⟩⟩⟩⟩⟩⟩⟩⟩⟩⟩⟩⟩⟩⟩⟩⟩
theorem lw_p16 : lw_okq (⟨"FlameGuardsModel", "takes", "(II)I"⟩, 14) := ⟨⟨by decide +kernel, by decide +kernel⟩, List.mem_of_getElem? (i := 590) (by decide +kernel), List.mem_of_getElem? (i := 692) (by decide +kernel), List.mem_of_getElem? (i := 693) (by decide +kernel)⟩
theorem lw_p17 : lw_okq (⟨"FlameGuardsModel", "sign", "()I"⟩, 14) := ⟨⟨by decide +kernel, by decide +kernel⟩, List.mem_of_getElem? (i := 590) (by decide +kernel), List.mem_of_getElem? (i := 696) (by decide +kernel), List.mem_of_getElem? (i := 697) (by decide +kernel)⟩
theorem lw_p18 : lw_okq (⟨"FlameGuardsModel", "unlikeTicks", "()I"⟩, 14) := ⟨⟨by decide +kernel, by decide +kernel⟩, List.mem_of_getElem? (i := 590) (by decide +kernel), List.mem_of_getElem? (i := 700) (by decide +kernel), List.mem_of_getElem? (i := 701) (by decide +kernel)⟩
theorem lw_p19 : lw_okq (⟨"FlameGuardsModel", "isOpen", "(I)Z"⟩, 14) := ⟨⟨by decide +kernel, by decide +kernel⟩, List.mem_of_getElem? (i := 590) (by decide +kernel), List.mem_of_getElem? (i := 712) (by decide +kernel), List.mem_of_getElem? (i := 713) (by decide +kernel)⟩
theorem lw_p20 : lw_okq (⟨"FlameGuardsModel", "sumOver", "(I)I"⟩, 14) := ⟨⟨by decide +kernel, by decide +kernel⟩, List.mem_of_getElem? (i := 590) (by decide +kernel), List.mem_of_getElem? (i := 720) (by decide +kernel), List.mem_of_getElem? (i := 721) (by decide +kernel)⟩
theorem lw_p21 : lw_okq (⟨"FlameGuardsModel", "draftAt", "(I)I"⟩, 14) := ⟨⟨by decide +kernel, by decide +kernel⟩, List.mem_of_getElem? (i := 590) (by decide +kernel), List.mem_of_getElem? (i := 728) (by decide +kernel), List.mem_of_getElem? (i := 729) (by decide +kernel)⟩
theorem lw_p22 : lw_okq (⟨"FlameGuardsModel", "strength", "(I)I"⟩, 14) := ⟨⟨by decide +kernel, by decide +kernel⟩, List.mem_of_getElem? (i := 590) (by decide +kernel), List.mem_of_getElem? (i := 732) (by decide +kernel), List.mem_of_getElem? (i := 733) (by decide +kernel)⟩
theorem lw_p23 : lw_okq (⟨"FlameGuardsModel", "tells", "(II)V"⟩, 14) := ⟨⟨by decide +kernel, by decide +kernel⟩, List.mem_of_getElem? (i := 590) (by decide +kernel), List.mem_of_getElem? (i := 742) (by decide +kernel), List.mem_of_getElem? (i := 743) (by decide +kernel)⟩
theorem lw_p24 : lw_okq (⟨"FlameGuardsModel", "totals", "()I"⟩, 14) := ⟨⟨by decide +kernel, by decide +kernel⟩, List.mem_of_getElem? (i := 590) (by decide +kernel), List.mem_of_getElem? (i := 755) (by decide +kernel), List.mem_of_getElem? (i := 756) (by decide +kernel)⟩
theorem lw_p25 : lw_okq (⟨"FlameGuardsModel", "ticks", "()V"⟩, 14) := ⟨⟨by decide +kernel, by decide +kernel⟩, List.mem_of_getElem? (i := 590) (by decide +kernel), List.mem_of_getElem? (i := 759) (by decide +kernel), List.mem_of_getElem? (i := 760) (by decide +kernel)⟩
theorem lw_p26 : lw_okq (⟨"FlameGuardsModel", "burns", "(III)V"⟩, 14) := ⟨⟨by decide +kernel, by decide +kernel⟩, List.mem_of_getElem? (i := 590) (by decide +kernel), List.mem_of_getElem? (i := 763) (by decide +kernel), List.mem_of_getElem? (i := 764) (by decide +kernel)⟩
theorem lw_p27 : lw_okq (⟨"FlameGuardsModel", "sparks", "(II)V"⟩, 14) := ⟨⟨by decide +kernel, by decide +kernel⟩, List.mem_of_getElem? (i := 590) (by decide +kernel), List.mem_of_getElem? (i := 767) (by decide +kernel), List.mem_of_getElem? (i := 768) (by decide +kernel)⟩
theorem lw_p28 : lw_okq (⟨"FlameGuardsModel", "putAside", "()V"⟩, 14) := ⟨⟨by decide +kernel, by decide +kernel⟩, List.mem_of_getElem? (i := 590) (by decide +kernel), List.mem_of_getElem? (i := 822) (by decide +kernel), List.mem_of_getElem? (i := 823) (by decide +kernel)⟩
theorem lw_p29 : lw_okq (⟨"FlameGuardsModel", "isClear", "()Z"⟩, 14) := ⟨⟨by decide +kernel, by decide +kernel⟩, List.mem_of_getElem? (i := 590) (by decide +kernel), List.mem_of_getElem? (i := 826) (by decide +kernel), List.mem_of_getElem? (i := 827) (by decide +kernel)⟩
theorem lw_p30 : lw_okq (⟨"FlameGuardsModel", "takeBack", "()V"⟩, 14) := ⟨⟨by decide +kernel, by decide +kernel⟩, List.mem_of_getElem? (i := 590) (by decide +kernel), List.mem_of_getElem? (i := 830) (by decide +kernel), List.mem_of_getElem? (i := 831) (by decide +kernel)⟩
theorem lw_p31 : lw_okq (⟨"FlameGuardsModel", "openValves", "()I"⟩, 14) := ⟨⟨by decide +kernel, by decide +kernel⟩, List.mem_of_getElem? (i := 590) (by decide +kernel), List.mem_of_getElem? (i := 850) (by decide +kernel), List.mem_of_getElem? (i := 851) (by decide +kernel)⟩
def lw_privs_2 : List (MethodName × Nat) := [(⟨"FlameGuardsModel", "takes", "(II)I"⟩, 14), (⟨"FlameGuardsModel", "sign", "()I"⟩, 14), (⟨"FlameGuardsModel", "unlikeTicks", "()I"⟩, 14), (⟨"FlameGuardsModel", "isOpen", "(I)Z"⟩, 14), (⟨"FlameGuardsModel", "sumOver", "(I)I"⟩, 14), (⟨"FlameGuardsModel", "draftAt", "(I)I"⟩, 14), (⟨"FlameGuardsModel", "strength", "(I)I"⟩, 14), (⟨"FlameGuardsModel", "tells", "(II)V"⟩, 14), (⟨"FlameGuardsModel", "totals", "()I"⟩, 14), (⟨"FlameGuardsModel", "ticks", "()V"⟩, 14), (⟨"FlameGuardsModel", "burns", "(III)V"⟩, 14), (⟨"FlameGuardsModel", "sparks", "(II)V"⟩, 14), (⟨"FlameGuardsModel", "putAside", "()V"⟩, 14), (⟨"FlameGuardsModel", "isClear", "()Z"⟩, 14), (⟨"FlameGuardsModel", "takeBack", "()V"⟩, 14), (⟨"FlameGuardsModel", "openValves", "()I"⟩, 14)]
theorem lw_r2 : ∀ q ∈ lw_privs_2, lw_okq q := List.forall_mem_cons.mpr ⟨lw_p16, List.forall_mem_cons.mpr ⟨lw_p17, List.forall_mem_cons.mpr ⟨lw_p18, List.forall_mem_cons.mpr ⟨lw_p19, List.forall_mem_cons.mpr ⟨lw_p20, List.forall_mem_cons.mpr ⟨lw_p21, List.forall_mem_cons.mpr ⟨lw_p22, List.forall_mem_cons.mpr ⟨lw_p23, List.forall_mem_cons.mpr ⟨lw_p24, List.forall_mem_cons.mpr ⟨lw_p25, List.forall_mem_cons.mpr ⟨lw_p26, List.forall_mem_cons.mpr ⟨lw_p27, List.forall_mem_cons.mpr ⟨lw_p28, List.forall_mem_cons.mpr ⟨lw_p29, List.forall_mem_cons.mpr ⟨lw_p30, List.forall_mem_cons.mpr ⟨lw_p31, fun _ h => absurd h List.not_mem_nil⟩⟩⟩⟩⟩⟩⟩⟩⟩⟩⟩⟩⟩⟩⟩⟩
def lw_privs : List (MethodName × Nat) := lw_privs_1 ++ (lw_privs_2)
def lw_tbl : List Cond := k2_sels lw_privs ++ tables_1
theorem lw_privs_ok : ∀ q ∈ lw_privs, lw_okq q := by
  show ∀ q ∈ lw_privs_1 ++ (lw_privs_2), lw_okq q
  exact List.forall_mem_append.mpr ⟨lw_r1, lw_r2⟩
end
section
/-! ===== BEGIN words of one list among another's, by their places ===== -/
theorem goodIn_r {big : List Cond} (ws : List Cond) (ps : List Nat) (hp : ws = ps.filterMap (fun i => big[i]?)) (h : ws.all goodWord = true) : GoodIn big ws := by
  intro w hw
  have h1 := List.all_eq_true.mp h w hw
  rw [hp] at hw
  obtain ⟨i, -, hi⟩ := List.mem_filterMap.mp hw
  have hm : w ∈ big := by first | exact List.mem_of_getElem? hi | exact List.getElem?_mem hi
  exact ⟨hm, good_of_word h1⟩
theorem goodIn_app {big a b : List Cond} (ha : GoodIn big a) (hb : GoodIn big b) : GoodIn big (a ++ b) := fun w h => (List.mem_append.mp h).elim (ha w) (hb w)
theorem goodIn_ca {big a b : List Cond} {c : Cond} (ha : GoodIn big (c :: a)) (hb : GoodIn big b) : GoodIn big (c :: (a ++ b)) := fun w h => (List.mem_cons.mp h).elim (fun e => ha w (List.mem_cons.mpr (Or.inl e))) (fun h => (List.mem_append.mp h).elim (fun h => ha w (List.mem_cons.mpr (Or.inr h))) (hb w))
theorem goodIn_sub {big ws : List Cond} (hm : ∀ w ∈ ws, w ∈ big) (h : ws.all goodWord = true) : GoodIn big ws := fun w hw => ⟨hm w hw, good_of_word (List.all_eq_true.mp h w hw)⟩
/-! ===== END ===== -/

/-! ===== BEGIN printed: names, fields, word lists, decode rows ===== -/
def RX0 : String := "FlameGuards$Burner"
def TX0 : u_T := fun k => match k with
  | 0 => ("FlameGuards$Burner", "kind", "I", false)
  | 1 => ("FlameGuards$Burner", "tap", "I", false)
  | 2 => ("FlameGuards$Burner", "pressed", "Z", false)
  | 3 => ("FlameGuards$Burner", "igniter", "Z", false)
  | 4 => ("FlameGuards$Burner", "flame", "Z", false)
  | 5 => ("FlameGuards$Burner", "temperature", "I", false)
  | 6 => ("FlameGuards$Burner", "locked", "Z", false)
  | 7 => ("FlameGuards$Burner", "tries", "I", false)
  | 8 => ("FlameGuards$Burner", "dark", "I", false)
  | _ => ("FlameGuards$Burner", "unburnt", "I", false)
def tyX0 : Nat → FieldType := fun k => match k with
  | 0 => .int
  | 1 => .int
  | 2 => .boolean
  | 3 => .boolean
  | 4 => .boolean
  | 5 => .int
  | 6 => .boolean
  | 7 => .int
  | 8 => .int
  | _ => .int
abbrev wsX00 : List Cond := u_ws RX0 TX0 10
theorem nmX0 : ∀ a, a < 10 → ∀ b, b < 10 → a ≠ b → (TX0 a).2.1 ≠ (TX0 b).2.1 := by decide +kernel
theorem tyX0_ok : ∀ k, k < 10 → parseFieldDescriptor (TX0 k).2.2.1 = some (tyX0 k) := by decide +kernel
abbrev cX0_init : ByteArray := prog_2_method_1_code
def yX0_init : MethodName := ⟨RX0, "<init>", "(I)V"⟩
abbrev cX0_copyFrom : ByteArray := prog_2_method_2_code
def yX0_copyFrom : MethodName := ⟨RX0, "copyFrom", "(LFlameGuards$Burner;)V"⟩
abbrev cX0_flow : ByteArray := prog_2_method_3_code
def yX0_flow : MethodName := ⟨RX0, "flow", "()I"⟩
abbrev cX0_strength : ByteArray := prog_2_method_4_code
def yX0_strength : MethodName := ⟨RX0, "strength", "()I"⟩
abbrev cX0_heatAt : ByteArray := prog_2_method_5_code
def yX0_heatAt : MethodName := ⟨RX0, "heatAt", "(I)I"⟩
abbrev cX0_isOpen : ByteArray := prog_2_method_6_code
def yX0_isOpen : MethodName := ⟨RX0, "isOpen", "(I)Z"⟩
abbrev cX0_warmOrCool : ByteArray := prog_2_method_7_code
def yX0_warmOrCool : MethodName := ⟨RX0, "warmOrCool", "()V"⟩
abbrev cX0_temperatureAfter : ByteArray := prog_2_method_8_code
def yX0_temperatureAfter : MethodName := ⟨RX0, "temperatureAfter", "(II)I"⟩
abbrev cX0_told : ByteArray := prog_2_method_9_code
def yX0_told : MethodName := ⟨RX0, "told", "([II)I"⟩
abbrev cX0_quotient : ByteArray := prog_2_method_10_code
def yX0_quotient : MethodName := ⟨RX0, "quotient", "(II)I"⟩
def RX1 : String := "FlameGuards$History"
def TX1 : u_T := fun k => match k with
  | 0 => ("FlameGuards$History", "states", "[LFlameGuards$State;", true)
  | _ => ("FlameGuards$History", "size", "I", false)
def tyX1 : Nat → FieldType := fun k => match k with
  | 0 => .array (.object "FlameGuards$State")
  | _ => .int
abbrev wsX10 : List Cond := u_ws RX1 TX1 2
theorem nmX1 : ∀ a, a < 2 → ∀ b, b < 2 → a ≠ b → (TX1 a).2.1 ≠ (TX1 b).2.1 := by decide +kernel
theorem tyX1_ok : ∀ k, k < 2 → parseFieldDescriptor (TX1 k).2.2.1 = some (tyX1 k) := by decide +kernel
abbrev cX1_init : ByteArray := prog_3_method_1_code
def yX1_init : MethodName := ⟨RX1, "<init>", "()V"⟩
abbrev cX1_record : ByteArray := prog_3_method_2_code
def yX1_record : MethodName := ⟨RX1, "record", "(LFlameGuards$State;)V"⟩
abbrev cX1_takeBack : ByteArray := prog_3_method_3_code
def yX1_takeBack : MethodName := ⟨RX1, "takeBack", "(LFlameGuards$State;)Z"⟩
abbrev cX1_dropOldest : ByteArray := prog_3_method_4_code
def yX1_dropOldest : MethodName := ⟨RX1, "dropOldest", "()V"⟩
def RX2 : String := "FlameGuards$Log"
def TX2 : u_T := fun k => match k with
  | 0 => ("FlameGuards$Log", "events", "[I", true)
  | 1 => ("FlameGuards$Log", "burners", "[I", true)
  | 2 => ("FlameGuards$Log", "ticks", "[I", true)
  | 3 => ("FlameGuards$Log", "counts", "[I", true)
  | _ => ("FlameGuards$Log", "known", "I", false)
def tyX2 : Nat → FieldType := fun k => match k with
  | 0 => .array .int
  | 1 => .array .int
  | 2 => .array .int
  | 3 => .array .int
  | _ => .int
abbrev wsX20 : List Cond := u_ws RX2 TX2 5
theorem nmX2 : ∀ a, a < 5 → ∀ b, b < 5 → a ≠ b → (TX2 a).2.1 ≠ (TX2 b).2.1 := by decide +kernel
theorem tyX2_ok : ∀ k, k < 5 → parseFieldDescriptor (TX2 k).2.2.1 = some (tyX2 k) := by decide +kernel
abbrev cX2_init : ByteArray := prog_4_method_1_code
def yX2_init : MethodName := ⟨RX2, "<init>", "()V"⟩
abbrev cX2_copyFrom : ByteArray := prog_4_method_2_code
def yX2_copyFrom : MethodName := ⟨RX2, "copyFrom", "(LFlameGuards$Log;)V"⟩
abbrev cX2_note : ByteArray := prog_4_method_3_code
def yX2_note : MethodName := ⟨RX2, "note", "(III)V"⟩
abbrev cX2_total : ByteArray := prog_4_method_4_code
def yX2_total : MethodName := ⟨RX2, "total", "()I"⟩
abbrev cX2_putFirst : ByteArray := prog_4_method_5_code
def yX2_putFirst : MethodName := ⟨RX2, "putFirst", "([II)V"⟩
def RX3 : String := "FlameGuards$Plan"
def TX3 : u_T := fun k => match k with
  | 0 => ("FlameGuards$Plan", "ticks", "[I", true)
  | 1 => ("FlameGuards$Plan", "values", "[I", true)
  | _ => ("FlameGuards$Plan", "size", "I", false)
def tyX3 : Nat → FieldType := fun k => match k with
  | 0 => .array .int
  | 1 => .array .int
  | _ => .int
abbrev wsX30 : List Cond := u_ws RX3 TX3 3
theorem nmX3 : ∀ a, a < 3 → ∀ b, b < 3 → a ≠ b → (TX3 a).2.1 ≠ (TX3 b).2.1 := by decide +kernel
theorem tyX3_ok : ∀ k, k < 3 → parseFieldDescriptor (TX3 k).2.2.1 = some (tyX3 k) := by decide +kernel
abbrev cX3_init : ByteArray := prog_5_method_1_code
def yX3_init : MethodName := ⟨RX3, "<init>", "()V"⟩
abbrev cX3_copyFrom : ByteArray := prog_5_method_2_code
def yX3_copyFrom : MethodName := ⟨RX3, "copyFrom", "(LFlameGuards$Plan;)V"⟩
abbrev cX3_clear : ByteArray := prog_5_method_3_code
def yX3_clear : MethodName := ⟨RX3, "clear", "()V"⟩
abbrev cX3_hasRoomFor : ByteArray := prog_5_method_4_code
def yX3_hasRoomFor : MethodName := ⟨RX3, "hasRoomFor", "(I)Z"⟩
abbrev cX3_holds : ByteArray := prog_5_method_5_code
def yX3_holds : MethodName := ⟨RX3, "holds", "(II)Z"⟩
abbrev cX3_put : ByteArray := prog_5_method_6_code
def yX3_put : MethodName := ⟨RX3, "put", "(II)Z"⟩
abbrev cX3_draftIn : ByteArray := prog_5_method_7_code
def yX3_draftIn : MethodName := ⟨RX3, "draftIn", "(I)I"⟩
abbrev cX3_placeOf : ByteArray := prog_5_method_8_code
def yX3_placeOf : MethodName := ⟨RX3, "placeOf", "(I)I"⟩
abbrev cX3_makePlaceFor : ByteArray := prog_5_method_9_code
def yX3_makePlaceFor : MethodName := ⟨RX3, "makePlaceFor", "(I)I"⟩
def RX4 : String := "FlameGuards$Settings"
def TX4 : u_T := fun k => match k with
  | _ => ("FlameGuards$Settings", "values", "[I", true)
def tyX4 : Nat → FieldType := fun k => match k with
  | _ => .array .int
abbrev wsX40 : List Cond := u_ws RX4 TX4 1
theorem nmX4 : ∀ a, a < 1 → ∀ b, b < 1 → a ≠ b → (TX4 a).2.1 ≠ (TX4 b).2.1 := by decide +kernel
theorem tyX4_ok : ∀ k, k < 1 → parseFieldDescriptor (TX4 k).2.2.1 = some (tyX4 k) := by decide +kernel
abbrev cX4_init : ByteArray := prog_6_method_1_code
def yX4_init : MethodName := ⟨RX4, "<init>", "()V"⟩
abbrev cX4_isOne : ByteArray := prog_6_method_2_code
def yX4_isOne : MethodName := ⟨RX4, "isOne", "(I)Z"⟩
abbrev cX4_allows : ByteArray := prog_6_method_3_code
def yX4_allows : MethodName := ⟨RX4, "allows", "(II)Z"⟩
abbrev cX4_valueOf : ByteArray := prog_6_method_4_code
def yX4_valueOf : MethodName := ⟨RX4, "valueOf", "(I)I"⟩
abbrev cX4_change : ByteArray := prog_6_method_5_code
def yX4_change : MethodName := ⟨RX4, "change", "(II)V"⟩
abbrev cX4_copyFrom : ByteArray := prog_6_method_6_code
def yX4_copyFrom : MethodName := ⟨RX4, "copyFrom", "(LFlameGuards$Settings;)V"⟩
def RX5 : String := "FlameGuards$State"
def TX5 : u_T := fun k => match k with
  | 0 => ("FlameGuards$State", "settings", "LFlameGuards$Settings;", true)
  | 1 => ("FlameGuards$State", "burners", "[LFlameGuards$Burner;", true)
  | 2 => ("FlameGuards$State", "drafts", "LFlameGuards$Plan;", true)
  | 3 => ("FlameGuards$State", "log", "LFlameGuards$Log;", true)
  | 4 => ("FlameGuards$State", "tick", "I", false)
  | 5 => ("FlameGuards$State", "gas", "I", false)
  | 6 => ("FlameGuards$State", "mostGas", "I", false)
  | _ => ("FlameGuards$State", "mostDark", "I", false)
def tyX5 : Nat → FieldType := fun k => match k with
  | 0 => .object "FlameGuards$Settings"
  | 1 => .array (.object "FlameGuards$Burner")
  | 2 => .object "FlameGuards$Plan"
  | 3 => .object "FlameGuards$Log"
  | 4 => .int
  | 5 => .int
  | 6 => .int
  | _ => .int
abbrev wsX50 : List Cond := u_ws RX5 TX5 8
theorem nmX5 : ∀ a, a < 8 → ∀ b, b < 8 → a ≠ b → (TX5 a).2.1 ≠ (TX5 b).2.1 := by decide +kernel
theorem tyX5_ok : ∀ k, k < 8 → parseFieldDescriptor (TX5 k).2.2.1 = some (tyX5 k) := by decide +kernel
abbrev cX5_init : ByteArray := prog_7_method_1_code
def yX5_init : MethodName := ⟨RX5, "<init>", "()V"⟩
abbrev cX5_copyFrom : ByteArray := prog_7_method_2_code
def yX5_copyFrom : MethodName := ⟨RX5, "copyFrom", "(LFlameGuards$State;)V"⟩
abbrev cX5_find : ByteArray := prog_7_method_3_code
def yX5_find : MethodName := ⟨RX5, "find", "(I)LFlameGuards$Burner;"⟩
abbrev cX5_isOpen : ByteArray := prog_7_method_4_code
def yX5_isOpen : MethodName := ⟨RX5, "isOpen", "(LFlameGuards$Burner;)Z"⟩
abbrev cX5_allowsFire : ByteArray := prog_7_method_5_code
def yX5_allowsFire : MethodName := ⟨RX5, "allowsFire", "()Z"⟩
abbrev cX5_draft : ByteArray := prog_7_method_6_code
def yX5_draft : MethodName := ⟨RX5, "draft", "()I"⟩
abbrev cX5_kindle : ByteArray := prog_7_method_7_code
def yX5_kindle : MethodName := ⟨RX5, "kindle", "(ILFlameGuards$Burner;)V"⟩
abbrev cX5_passTick : ByteArray := prog_7_method_8_code
def yX5_passTick : MethodName := ⟨RX5, "passTick", "()V"⟩
abbrev cX5_isClear : ByteArray := prog_7_method_9_code
def yX5_isClear : MethodName := ⟨RX5, "isClear", "()Z"⟩
abbrev cX5_ignitersOn : ByteArray := prog_7_method_10_code
def yX5_ignitersOn : MethodName := ⟨RX5, "ignitersOn", "()I"⟩
abbrev cX5_flames : ByteArray := prog_7_method_11_code
def yX5_flames : MethodName := ⟨RX5, "flames", "()I"⟩
abbrev cX5_openValves : ByteArray := prog_7_method_12_code
def yX5_openValves : MethodName := ⟨RX5, "openValves", "()I"⟩
abbrev cX5_lockedBurners : ByteArray := prog_7_method_13_code
def yX5_lockedBurners : MethodName := ⟨RX5, "lockedBurners", "()I"⟩
abbrev cX5_blow : ByteArray := prog_7_method_14_code
def yX5_blow : MethodName := ⟨RX5, "blow", "(ILFlameGuards$Burner;I)V"⟩
abbrev cX5_spark : ByteArray := prog_7_method_15_code
def yX5_spark : MethodName := ⟨RX5, "spark", "(ILFlameGuards$Burner;I)V"⟩
abbrev cX5_warmOrDrop : ByteArray := prog_7_method_16_code
def yX5_warmOrDrop : MethodName := ⟨RX5, "warmOrDrop", "(ILFlameGuards$Burner;)V"⟩
abbrev cX5_flow : ByteArray := prog_7_method_17_code
def yX5_flow : MethodName := ⟨RX5, "flow", "(LFlameGuards$Burner;)V"⟩
abbrev cX5_flowsUnburnt : ByteArray := prog_7_method_18_code
def yX5_flowsUnburnt : MethodName := ⟨RX5, "flowsUnburnt", "(LFlameGuards$Burner;)Z"⟩
def RX6 : String := "FlameGuards$Text"
def TX6 : u_T := fun k => match k with
  | 0 => ("FlameGuards$Text", "characters", "[C", true)
  | _ => ("FlameGuards$Text", "length", "I", false)
def tyX6 : Nat → FieldType := fun k => match k with
  | 0 => .array .char
  | _ => .int
abbrev wsX60 : List Cond := u_ws RX6 TX6 2
theorem nmX6 : ∀ a, a < 2 → ∀ b, b < 2 → a ≠ b → (TX6 a).2.1 ≠ (TX6 b).2.1 := by decide +kernel
theorem tyX6_ok : ∀ k, k < 2 → parseFieldDescriptor (TX6 k).2.2.1 = some (tyX6 k) := by decide +kernel
abbrev cX6_init : ByteArray := prog_8_method_1_code
def yX6_init : MethodName := ⟨RX6, "<init>", "()V"⟩
abbrev cX6_append : ByteArray := prog_8_method_2_code
def yX6_append : MethodName := ⟨RX6, "append", "(C)Z"⟩
abbrev cX6_empty : ByteArray := prog_8_method_3_code
def yX6_empty : MethodName := ⟨RX6, "empty", "()V"⟩
abbrev cX6_fault : ByteArray := prog_8_method_4_code
def yX6_fault : MethodName := ⟨RX6, "fault", "()I"⟩
abbrev cX6_readInto : ByteArray := prog_8_method_5_code
def yX6_readInto : MethodName := ⟨RX6, "readInto", "(LFlameGuards$Plan;)Z"⟩
abbrev cX6_placeAfter : ByteArray := prog_8_method_6_code
def yX6_placeAfter : MethodName := ⟨RX6, "placeAfter", "(IC)I"⟩
abbrev cX6_isDigit : ByteArray := prog_8_method_7_code
def yX6_isDigit : MethodName := ⟨RX6, "isDigit", "(C)Z"⟩
def RX7 : String := "FlameGuards"
def TX7 : u_T := fun k => match k with
  | 0 => ("FlameGuards", "state", "LFlameGuards$State;", true)
  | 1 => ("FlameGuards", "snapshot", "LFlameGuards$State;", true)
  | 2 => ("FlameGuards", "trial", "LFlameGuards$State;", true)
  | 3 => ("FlameGuards", "planRead", "LFlameGuards$Plan;", true)
  | 4 => ("FlameGuards", "history", "LFlameGuards$History;", true)
  | 5 => ("FlameGuards", "text", "LFlameGuards$Text;", true)
  | _ => ("FlameGuards", "hasSnapshot", "Z", false)
def tyX7 : Nat → FieldType := fun k => match k with
  | 0 => .object "FlameGuards$State"
  | 1 => .object "FlameGuards$State"
  | 2 => .object "FlameGuards$State"
  | 3 => .object "FlameGuards$Plan"
  | 4 => .object "FlameGuards$History"
  | 5 => .object "FlameGuards$Text"
  | _ => .boolean
abbrev wsX70 : List Cond := u_ws RX7 TX7 7
theorem nmX7 : ∀ a, a < 7 → ∀ b, b < 7 → a ≠ b → (TX7 a).2.1 ≠ (TX7 b).2.1 := by decide +kernel
theorem tyX7_ok : ∀ k, k < 7 → parseFieldDescriptor (TX7 k).2.2.1 = some (tyX7 k) := by decide +kernel
abbrev cX7_init : ByteArray := prog_1_method_1_code
def yX7_init : MethodName := ⟨RX7, "<init>", "()V"⟩
abbrev cX7_set : ByteArray := prog_1_method_2_code
def yX7_set : MethodName := ⟨RX7, "set", "(II)I"⟩
abbrev cX7_setKind : ByteArray := prog_1_method_3_code
def yX7_setKind : MethodName := ⟨RX7, "setKind", "(II)I"⟩
abbrev cX7_plan : ByteArray := prog_1_method_4_code
def yX7_plan : MethodName := ⟨RX7, "plan", "(II)I"⟩
abbrev cX7_readPlan : ByteArray := prog_1_method_5_code
def yX7_readPlan : MethodName := ⟨RX7, "readPlan", "()I"⟩
abbrev cX7_turn : ByteArray := prog_1_method_6_code
def yX7_turn : MethodName := ⟨RX7, "turn", "(II)I"⟩
abbrev cX7_press : ByteArray := prog_1_method_7_code
def yX7_press : MethodName := ⟨RX7, "press", "(IZ)I"⟩
abbrev cX7_igniter : ByteArray := prog_1_method_8_code
def yX7_igniter : MethodName := ⟨RX7, "igniter", "(IZ)I"⟩
abbrev cX7_light : ByteArray := prog_1_method_9_code
def yX7_light : MethodName := ⟨RX7, "light", "(I)I"⟩
abbrev cX7_unlock : ByteArray := prog_1_method_10_code
def yX7_unlock : MethodName := ⟨RX7, "unlock", "(I)I"⟩
abbrev cX7_pass : ByteArray := prog_1_method_11_code
def yX7_pass : MethodName := ⟨RX7, "pass", "(I)I"⟩
abbrev cX7_type : ByteArray := prog_1_method_12_code
def yX7_type : MethodName := ⟨RX7, "type", "(C)I"⟩
abbrev cX7_clearText : ByteArray := prog_1_method_13_code
def yX7_clearText : MethodName := ⟨RX7, "clearText", "()I"⟩
abbrev cX7_undo : ByteArray := prog_1_method_14_code
def yX7_undo : MethodName := ⟨RX7, "undo", "()I"⟩
abbrev cX7_keep : ByteArray := prog_1_method_15_code
def yX7_keep : MethodName := ⟨RX7, "keep", "()I"⟩
abbrev cX7_restore : ByteArray := prog_1_method_16_code
def yX7_restore : MethodName := ⟨RX7, "restore", "()I"⟩
abbrev cX7_burner : ByteArray := prog_1_method_17_code
def yX7_burner : MethodName := ⟨RX7, "burner", "(II)I"⟩
abbrev cX7_staysOpen : ByteArray := prog_1_method_18_code
def yX7_staysOpen : MethodName := ⟨RX7, "staysOpen", "(I)I"⟩
abbrev cX7_toPress : ByteArray := prog_1_method_19_code
def yX7_toPress : MethodName := ⟨RX7, "toPress", "(II)I"⟩
abbrev cX7_clearIn : ByteArray := prog_1_method_20_code
def yX7_clearIn : MethodName := ⟨RX7, "clearIn", "()I"⟩
abbrev cX7_blownIn : ByteArray := prog_1_method_21_code
def yX7_blownIn : MethodName := ⟨RX7, "blownIn", "(I)I"⟩
abbrev cX7_entry : ByteArray := prog_1_method_22_code
def yX7_entry : MethodName := ⟨RX7, "entry", "(II)I"⟩
abbrev cX7_event : ByteArray := prog_1_method_23_code
def yX7_event : MethodName := ⟨RX7, "event", "(II)I"⟩
abbrev cX7_count : ByteArray := prog_1_method_24_code
def yX7_count : MethodName := ⟨RX7, "count", "(I)I"⟩
abbrev cX7_setting : ByteArray := prog_1_method_25_code
def yX7_setting : MethodName := ⟨RX7, "setting", "(I)I"⟩
abbrev cX7_isWithin : ByteArray := prog_1_method_26_code
def yX7_isWithin : MethodName := ⟨RX7, "isWithin", "(III)Z"⟩
abbrev cX7_oneIf : ByteArray := prog_1_method_27_code
def yX7_oneIf : MethodName := ⟨RX7, "oneIf", "(Z)I"⟩
abbrev cX7_elementAt : ByteArray := prog_1_method_28_code
def yX7_elementAt : MethodName := ⟨RX7, "elementAt", "([II)I"⟩
abbrev cX7_copyRow : ByteArray := prog_1_method_29_code
def yX7_copyRow : MethodName := ⟨RX7, "copyRow", "([I[I)V"⟩
def RX8 : String := "FlameGuardsModel"
def TX8 : u_T := fun k => match k with
  | 0 => ("FlameGuardsModel", "thrown", "I", false)
  | 1 => ("FlameGuardsModel", "s", "[I", true)
  | 2 => ("FlameGuardsModel", "aside", "[I", true)
  | 3 => ("FlameGuardsModel", "saved", "[I", true)
  | 4 => ("FlameGuardsModel", "savedMany", "I", false)
  | 5 => ("FlameGuardsModel", "snapshot", "[I", true)
  | 6 => ("FlameGuardsModel", "hasSnapshot", "Z", false)
  | 7 => ("FlameGuardsModel", "text", "[I", true)
  | 8 => ("FlameGuardsModel", "length", "I", false)
  | 9 => ("FlameGuardsModel", "readTick", "[I", true)
  | 10 => ("FlameGuardsModel", "readDraft", "[I", true)
  | 11 => ("FlameGuardsModel", "readMany", "I", false)
  | 12 => ("FlameGuardsModel", "at", "I", false)
  | _ => ("FlameGuardsModel", "isWell", "Z", false)
def tyX8 : Nat → FieldType := fun k => match k with
  | 0 => .int
  | 1 => .array .int
  | 2 => .array .int
  | 3 => .array .int
  | 4 => .int
  | 5 => .array .int
  | 6 => .boolean
  | 7 => .array .int
  | 8 => .int
  | 9 => .array .int
  | 10 => .array .int
  | 11 => .int
  | 12 => .int
  | _ => .boolean
abbrev wsX80 : List Cond := u_ws RX8 TX8 14
theorem nmX8 : ∀ a, a < 14 → ∀ b, b < 14 → a ≠ b → (TX8 a).2.1 ≠ (TX8 b).2.1 := by decide +kernel
theorem tyX8_ok : ∀ k, k < 14 → parseFieldDescriptor (TX8 k).2.2.1 = some (tyX8 k) := by decide +kernel
abbrev cX8_init : ByteArray := prog_10_method_1_code
def yX8_init : MethodName := ⟨RX8, "<init>", "()V"⟩
abbrev cX8_in : ByteArray := prog_10_method_3_code
def yX8_in : MethodName := ⟨RX8, "in", "(III)Z"⟩
abbrev cX8_isBurner : ByteArray := prog_10_method_4_code
def yX8_isBurner : MethodName := ⟨RX8, "isBurner", "(I)Z"⟩
abbrev cX8_get : ByteArray := prog_10_method_5_code
def yX8_get : MethodName := ⟨RX8, "get", "(II)I"⟩
abbrev cX8_lay : ByteArray := prog_10_method_6_code
def yX8_lay : MethodName := ⟨RX8, "lay", "(III)V"⟩
abbrev cX8_records : ByteArray := prog_10_method_7_code
def yX8_records : MethodName := ⟨RX8, "records", "()V"⟩
abbrev cX8_putAside : ByteArray := prog_10_method_8_code
def yX8_putAside : MethodName := ⟨RX8, "putAside", "()V"⟩
abbrev cX8_takeBack : ByteArray := prog_10_method_9_code
def yX8_takeBack : MethodName := ⟨RX8, "takeBack", "()V"⟩
abbrev cX8_choose : ByteArray := prog_10_method_10_code
def yX8_choose : MethodName := ⟨RX8, "choose", "(IIII)I"⟩
abbrev cX8_flow : ByteArray := prog_10_method_11_code
def yX8_flow : MethodName := ⟨RX8, "flow", "(II)I"⟩
abbrev cX8_heat : ByteArray := prog_10_method_12_code
def yX8_heat : MethodName := ⟨RX8, "heat", "(II)I"⟩
abbrev cX8_strengthOf : ByteArray := prog_10_method_13_code
def yX8_strengthOf : MethodName := ⟨RX8, "strengthOf", "(II)I"⟩
abbrev cX8_cooled : ByteArray := prog_10_method_14_code
def yX8_cooled : MethodName := ⟨RX8, "cooled", "(III)I"⟩
abbrev cX8_warmed : ByteArray := prog_10_method_15_code
def yX8_warmed : MethodName := ⟨RX8, "warmed", "(III)I"⟩
abbrev cX8_byFlame : ByteArray := prog_10_method_16_code
def yX8_byFlame : MethodName := ⟨RX8, "byFlame", "(III)I"⟩
abbrev cX8_strength : ByteArray := prog_10_method_17_code
def yX8_strength : MethodName := ⟨RX8, "strength", "(I)I"⟩
abbrev cX8_isOpen : ByteArray := prog_10_method_18_code
def yX8_isOpen : MethodName := ⟨RX8, "isOpen", "(I)Z"⟩
abbrev cX8_draftAt : ByteArray := prog_10_method_19_code
def yX8_draftAt : MethodName := ⟨RX8, "draftAt", "(I)I"⟩
abbrev cX8_tells : ByteArray := prog_10_method_20_code
def yX8_tells : MethodName := ⟨RX8, "tells", "(II)V"⟩
abbrev cX8_burns : ByteArray := prog_10_method_21_code
def yX8_burns : MethodName := ⟨RX8, "burns", "(III)V"⟩
abbrev cX8_sparks : ByteArray := prog_10_method_22_code
def yX8_sparks : MethodName := ⟨RX8, "sparks", "(II)V"⟩
abbrev cX8_ticks : ByteArray := prog_10_method_23_code
def yX8_ticks : MethodName := ⟨RX8, "ticks", "()V"⟩
abbrev cX8_totals : ByteArray := prog_10_method_24_code
def yX8_totals : MethodName := ⟨RX8, "totals", "()I"⟩
abbrev cX8_isSetting : ByteArray := prog_10_method_25_code
def yX8_isSetting : MethodName := ⟨RX8, "isSetting", "(II)Z"⟩
abbrev cX8_set : ByteArray := prog_10_method_26_code
def yX8_set : MethodName := ⟨RX8, "set", "(II)I"⟩
abbrev cX8_setKind : ByteArray := prog_10_method_27_code
def yX8_setKind : MethodName := ⟨RX8, "setKind", "(II)I"⟩
abbrev cX8_entryAt : ByteArray := prog_10_method_28_code
def yX8_entryAt : MethodName := ⟨RX8, "entryAt", "(I)I"⟩
abbrev cX8_plans : ByteArray := prog_10_method_29_code
def yX8_plans : MethodName := ⟨RX8, "plans", "(II)V"⟩
abbrev cX8_plan : ByteArray := prog_10_method_30_code
def yX8_plan : MethodName := ⟨RX8, "plan", "(II)I"⟩
abbrev cX8_sign : ByteArray := prog_10_method_31_code
def yX8_sign : MethodName := ⟨RX8, "sign", "()I"⟩
abbrev cX8_takes : ByteArray := prog_10_method_32_code
def yX8_takes : MethodName := ⟨RX8, "takes", "(II)I"⟩
abbrev cX8_readsEntry : ByteArray := prog_10_method_33_code
def yX8_readsEntry : MethodName := ⟨RX8, "readsEntry", "()V"⟩
abbrev cX8_reads : ByteArray := prog_10_method_34_code
def yX8_reads : MethodName := ⟨RX8, "reads", "()I"⟩
abbrev cX8_unlikeTicks : ByteArray := prog_10_method_35_code
def yX8_unlikeTicks : MethodName := ⟨RX8, "unlikeTicks", "()I"⟩
abbrev cX8_readPlan : ByteArray := prog_10_method_36_code
def yX8_readPlan : MethodName := ⟨RX8, "readPlan", "()I"⟩
abbrev cX8_turn : ByteArray := prog_10_method_37_code
def yX8_turn : MethodName := ⟨RX8, "turn", "(II)I"⟩
abbrev cX8_press : ByteArray := prog_10_method_38_code
def yX8_press : MethodName := ⟨RX8, "press", "(IZ)I"⟩
abbrev cX8_sumOver : ByteArray := prog_10_method_39_code
def yX8_sumOver : MethodName := ⟨RX8, "sumOver", "(I)I"⟩
abbrev cX8_igniter : ByteArray := prog_10_method_40_code
def yX8_igniter : MethodName := ⟨RX8, "igniter", "(IZ)I"⟩
abbrev cX8_light : ByteArray := prog_10_method_41_code
def yX8_light : MethodName := ⟨RX8, "light", "(I)I"⟩
abbrev cX8_unlock : ByteArray := prog_10_method_42_code
def yX8_unlock : MethodName := ⟨RX8, "unlock", "(I)I"⟩
abbrev cX8_pass : ByteArray := prog_10_method_43_code
def yX8_pass : MethodName := ⟨RX8, "pass", "(I)I"⟩
abbrev cX8_type : ByteArray := prog_10_method_44_code
def yX8_type : MethodName := ⟨RX8, "type", "(C)I"⟩
abbrev cX8_clearText : ByteArray := prog_10_method_45_code
def yX8_clearText : MethodName := ⟨RX8, "clearText", "()I"⟩
abbrev cX8_undo : ByteArray := prog_10_method_46_code
def yX8_undo : MethodName := ⟨RX8, "undo", "()I"⟩
abbrev cX8_keep : ByteArray := prog_10_method_47_code
def yX8_keep : MethodName := ⟨RX8, "keep", "()I"⟩
abbrev cX8_restore : ByteArray := prog_10_method_48_code
def yX8_restore : MethodName := ⟨RX8, "restore", "()I"⟩
abbrev cX8_burner : ByteArray := prog_10_method_49_code
def yX8_burner : MethodName := ⟨RX8, "burner", "(II)I"⟩
abbrev cX8_staysOpen : ByteArray := prog_10_method_50_code
def yX8_staysOpen : MethodName := ⟨RX8, "staysOpen", "(I)I"⟩
abbrev cX8_toPress : ByteArray := prog_10_method_51_code
def yX8_toPress : MethodName := ⟨RX8, "toPress", "(II)I"⟩
abbrev cX8_isClear : ByteArray := prog_10_method_52_code
def yX8_isClear : MethodName := ⟨RX8, "isClear", "()Z"⟩
abbrev cX8_clearIn : ByteArray := prog_10_method_53_code
def yX8_clearIn : MethodName := ⟨RX8, "clearIn", "()I"⟩
abbrev cX8_blownIn : ByteArray := prog_10_method_54_code
def yX8_blownIn : MethodName := ⟨RX8, "blownIn", "(I)I"⟩
abbrev cX8_entry : ByteArray := prog_10_method_55_code
def yX8_entry : MethodName := ⟨RX8, "entry", "(II)I"⟩
abbrev cX8_event : ByteArray := prog_10_method_56_code
def yX8_event : MethodName := ⟨RX8, "event", "(II)I"⟩
abbrev cX8_openValves : ByteArray := prog_10_method_57_code
def yX8_openValves : MethodName := ⟨RX8, "openValves", "()I"⟩
abbrev cX8_count : ByteArray := prog_10_method_58_code
def yX8_count : MethodName := ⟨RX8, "count", "(I)I"⟩
abbrev cX8_setting : ByteArray := prog_10_method_59_code
def yX8_setting : MethodName := ⟨RX8, "setting", "(I)I"⟩
def RJ9 : String := "java/lang/Math"
def TJ9 : u_T := fun k => match k with
  | _ => ("", "", "", false)
def tyJ9 : Nat → FieldType := fun k => match k with
  | _ => .int
abbrev wsJ90 : List Cond := u_ws RJ9 TJ9 0
theorem nmJ9 : ∀ a, a < 0 → ∀ b, b < 0 → a ≠ b → (TJ9 a).2.1 ≠ (TJ9 b).2.1 := by decide +kernel
theorem tyJ9_ok : ∀ k, k < 0 → parseFieldDescriptor (TJ9 k).2.2.1 = some (tyJ9 k) := by decide +kernel
abbrev cJ9_max_7cf53 : ByteArray := prog_11_method_65_code
def yJ9_max_7cf53 : MethodName := ⟨RJ9, "max", "(II)I"⟩
abbrev cJ9_min_7cf53 : ByteArray := prog_11_method_69_code
def yJ9_min_7cf53 : MethodName := ⟨RJ9, "min", "(II)I"⟩
def RJ10 : String := "java/lang/System"
def TJ10 : u_T := fun k => match k with
  | _ => ("", "", "", false)
def tyJ10 : Nat → FieldType := fun k => match k with
  | _ => .int
abbrev wsJ100 : List Cond := u_ws RJ10 TJ10 0
theorem nmJ10 : ∀ a, a < 0 → ∀ b, b < 0 → a ≠ b → (TJ10 a).2.1 ≠ (TJ10 b).2.1 := by decide +kernel
theorem tyJ10_ok : ∀ k, k < 0 → parseFieldDescriptor (TJ10 k).2.2.1 = some (tyJ10 k) := by decide +kernel
def RL : String := "FlameGuardsLaw"
abbrev cL_law : ByteArray := code
def yL_law : MethodName := ⟨RL, "law", "([I)Z"⟩
def wsX0_init : List Cond := .code yX0_init cX0_init 2 none :: ([.methodLink RX0 1 objectInit, .instanceMethod objectInit, .code objectInit ⟨#[0xb1]⟩ 1 none, .fieldLink RX0 7 "FlameGuards$Burner" "kind" "I"] ++ wsX00)
def wsX0_copyFrom : List Cond := .code yX0_copyFrom cX0_copyFrom 2 none :: ([.fieldLink RX0 7 "FlameGuards$Burner" "kind" "I", .fieldLink RX0 13 "FlameGuards$Burner" "tap" "I", .fieldLink RX0 16 "FlameGuards$Burner" "pressed" "Z", .fieldLink RX0 20 "FlameGuards$Burner" "igniter" "Z", .fieldLink RX0 23 "FlameGuards$Burner" "flame" "Z", .fieldLink RX0 26 "FlameGuards$Burner" "temperature" "I", .fieldLink RX0 29 "FlameGuards$Burner" "locked" "Z", .fieldLink RX0 32 "FlameGuards$Burner" "tries" "I", .fieldLink RX0 35 "FlameGuards$Burner" "dark" "I", .fieldLink RX0 38 "FlameGuards$Burner" "unburnt" "I"] ++ wsX00)
def wsX7_elementAt : List Cond := .code yX7_elementAt cX7_elementAt 2 (some .int) :: ([])
def wsX0_told : List Cond := .code yX0_told cX0_told 3 (some .int) :: ([.fieldLink RX0 7 "FlameGuards$Burner" "kind" "I", .static yX7_elementAt, .initialized RX7, .code yX7_elementAt cX7_elementAt 2 (some .int)] ++ wsX00)
def wsX0_flow : List Cond := .code yX0_flow cX0_flow 1 (some .int) :: ([.fieldLink RX0 41 "FlameGuards$Burner" "FLOW" "[I", .fieldLink RX0 13 "FlameGuards$Burner" "tap" "I", .methodLink RX0 45 yX0_told, .instanceMethod yX0_told, .selects RX0 yX0_told yX0_told, .initialized RX0, .code yX0_told cX0_told 3 (some .int), .fieldLink RX0 7 "FlameGuards$Burner" "kind" "I", .static yX7_elementAt, .initialized RX7, .code yX7_elementAt cX7_elementAt 2 (some .int)] ++ wsX00)
def wsX0_strength : List Cond := .code yX0_strength cX0_strength 1 (some .int) :: ([.fieldLink RX0 49 "FlameGuards$Burner" "STRENGTH" "[I", .fieldLink RX0 13 "FlameGuards$Burner" "tap" "I", .methodLink RX0 45 yX0_told, .instanceMethod yX0_told, .selects RX0 yX0_told yX0_told, .initialized RX0, .code yX0_told cX0_told 3 (some .int), .fieldLink RX0 7 "FlameGuards$Burner" "kind" "I", .static yX7_elementAt, .initialized RX7, .code yX7_elementAt cX7_elementAt 2 (some .int)] ++ wsX00)
def wsX0_heatAt : List Cond := .code yX0_heatAt cX0_heatAt 2 (some .int) :: ([.fieldLink RX0 52 "FlameGuards$Burner" "HEAT" "[I", .methodLink RX0 45 yX0_told, .instanceMethod yX0_told, .selects RX0 yX0_told yX0_told, .initialized RX0, .code yX0_told cX0_told 3 (some .int), .fieldLink RX0 7 "FlameGuards$Burner" "kind" "I", .static yX7_elementAt, .initialized RX7, .code yX7_elementAt cX7_elementAt 2 (some .int)] ++ wsX00)
def wsX0_isOpen : List Cond := .code yX0_isOpen cX0_isOpen 2 (some .boolean) :: ([.fieldLink RX0 29 "FlameGuards$Burner" "locked" "Z", .fieldLink RX0 13 "FlameGuards$Burner" "tap" "I", .fieldLink RX0 16 "FlameGuards$Burner" "pressed" "Z", .fieldLink RX0 26 "FlameGuards$Burner" "temperature" "I"] ++ wsX00)
def wsX0_quotient : List Cond := .code yX0_quotient cX0_quotient 2 (some .int) :: ([])
def wsX0_temperatureAfter : List Cond := .code yX0_temperatureAfter cX0_temperatureAfter 3 (some .int) :: ([.fieldLink RX0 63 "FlameGuards$Burner" "WARMING" "[I", .fieldLink RX0 7 "FlameGuards$Burner" "kind" "I", .methodLink RX0 74 Lib.Math.min.name, .static Lib.Math.min.name, .initialized "java/lang/Math", .code Lib.Math.min.name Lib.Math.min.code 2 (some .int), .fieldLink RX0 79 "FlameGuards$Burner" "COOLING" "[I", .methodLink RX0 82 Lib.Math.max.name, .static Lib.Math.max.name, .code Lib.Math.max.name Lib.Math.max.code 2 (some .int), .static yX7_elementAt, .initialized RX7, .code yX7_elementAt cX7_elementAt 2 (some .int), .methodLink RX0 71 yX0_quotient, .static yX0_quotient, .initialized RX0, .code yX0_quotient cX0_quotient 2 (some .int)] ++ wsX00)
def wsX0_warmOrCool_r1 : List Cond := [Cond.fieldLink RX0 26 "FlameGuards$Burner" "temperature" "I", Cond.fieldLink RX0 23 "FlameGuards$Burner" "flame" "Z", Cond.fieldLink RX0 13 "FlameGuards$Burner" "tap" "I", Cond.methodLink RX0 55 yX0_heatAt, Cond.instanceMethod yX0_heatAt, Cond.selects RX0 yX0_heatAt yX0_heatAt, Cond.initialized RX0, Cond.code yX0_heatAt cX0_heatAt 2 (some .int), Cond.fieldLink RX0 52 "FlameGuards$Burner" "HEAT" "[I", Cond.methodLink RX0 45 yX0_told, Cond.instanceMethod yX0_told, Cond.selects RX0 yX0_told yX0_told, Cond.code yX0_told cX0_told 3 (some .int), Cond.fieldLink RX0 7 "FlameGuards$Burner" "kind" "I", Cond.static yX7_elementAt, Cond.initialized RX7, Cond.code yX7_elementAt cX7_elementAt 2 (some .int), Cond.methodLink RX0 59 yX0_temperatureAfter, Cond.instanceMethod yX0_temperatureAfter, Cond.selects RX0 yX0_temperatureAfter yX0_temperatureAfter, Cond.code yX0_temperatureAfter cX0_temperatureAfter 3 (some .int), Cond.fieldLink RX0 63 "FlameGuards$Burner" "WARMING" "[I", Cond.methodLink RX0 74 Lib.Math.min.name, Cond.static Lib.Math.min.name]
def wsX0_warmOrCool_r2 : List Cond := [Cond.initialized "java/lang/Math", Cond.code Lib.Math.min.name Lib.Math.min.code 2 (some .int), Cond.fieldLink RX0 79 "FlameGuards$Burner" "COOLING" "[I", Cond.methodLink RX0 82 Lib.Math.max.name, Cond.static Lib.Math.max.name, Cond.code Lib.Math.max.name Lib.Math.max.code 2 (some .int), Cond.methodLink RX0 71 yX0_quotient, Cond.static yX0_quotient, Cond.code yX0_quotient cX0_quotient 2 (some .int)]
def wsX0_warmOrCool : List Cond := .code yX0_warmOrCool cX0_warmOrCool 1 none :: ((wsX0_warmOrCool_r1 ++ wsX0_warmOrCool_r2) ++ wsX00)
def wsX7_copyRow : List Cond := .code yX7_copyRow cX7_copyRow 2 none :: ([.methodLink RX7 254 Lib.Math.min.name, .static Lib.Math.min.name, .initialized "java/lang/Math", .code Lib.Math.min.name Lib.Math.min.code 2 (some .int), .methodLink RX7 259 arraycopyName, .native arraycopyName, .static arraycopyName, .initialized "java/lang/System"])
def wsX4_init : List Cond := .code yX4_init cX4_init 1 none :: ([.methodLink RX4 1 objectInit, .instanceMethod objectInit, .code objectInit ⟨#[0xb1]⟩ 1 none, .fieldLink RX4 7 "FlameGuards$Settings" "FIRST" "[I", .arrayClass .int, .fieldLink RX4 13 "FlameGuards$Settings" "values" "[I", .static yX7_copyRow, .initialized RX7, .code yX7_copyRow cX7_copyRow 2 none, .methodLink RX7 254 Lib.Math.min.name, .static Lib.Math.min.name, .initialized "java/lang/Math", .code Lib.Math.min.name Lib.Math.min.code 2 (some .int), .methodLink RX7 259 arraycopyName, .native arraycopyName, .static arraycopyName, .initialized "java/lang/System"] ++ wsX40)
def wsX3_init : List Cond := .code yX3_init cX3_init 1 none :: ([.methodLink RX3 1 objectInit, .instanceMethod objectInit, .code objectInit ⟨#[0xb1]⟩ 1 none, .arrayClass .int, .fieldLink RX3 9 "FlameGuards$Plan" "ticks" "[I", .fieldLink RX3 13 "FlameGuards$Plan" "values" "[I", .fieldLink RX3 16 "FlameGuards$Plan" "size" "I"] ++ wsX30)
def wsX2_init : List Cond := .code yX2_init cX2_init 1 none :: ([.methodLink RX2 1 objectInit, .instanceMethod objectInit, .code objectInit ⟨#[0xb1]⟩ 1 none, .arrayClass .int, .fieldLink RX2 9 "FlameGuards$Log" "events" "[I", .fieldLink RX2 13 "FlameGuards$Log" "burners" "[I", .fieldLink RX2 16 "FlameGuards$Log" "ticks" "[I", .fieldLink RX2 19 "FlameGuards$Log" "counts" "[I", .fieldLink RX2 22 "FlameGuards$Log" "known" "I"] ++ wsX20)
def wsX5_init_r1 : List Cond := [Cond.methodLink RX5 1 objectInit, Cond.instanceMethod objectInit, Cond.code objectInit ⟨#[0xb1]⟩ 1 none, Cond.classLink RX5 7 RX4, Cond.instantiable RX4 1, Cond.initialized RX4, Cond.fieldLink RX5 10 "FlameGuards$State" "settings" "LFlameGuards$Settings;", Cond.fieldLink RX5 16 "FlameGuards$State" "FIRST_KINDS" "[I", Cond.classLink RX5 20 RX0, Cond.fieldLink RX5 22 "FlameGuards$State" "burners" "[LFlameGuards$Burner;", Cond.instantiable RX0 10, Cond.initialized RX0, Cond.classLink RX5 29 RX3, Cond.instantiable RX3 3, Cond.initialized RX3, Cond.fieldLink RX5 32 "FlameGuards$State" "drafts" "LFlameGuards$Plan;", Cond.classLink RX5 36 RX2, Cond.instantiable RX2 5, Cond.initialized RX2, Cond.fieldLink RX5 39 "FlameGuards$State" "log" "LFlameGuards$Log;", Cond.methodLink RX5 9 yX4_init, Cond.instanceMethod yX4_init, Cond.code yX4_init cX4_init 1 none, Cond.methodLink RX4 1 objectInit]
def wsX5_init_r2 : List Cond := [Cond.fieldLink RX4 7 "FlameGuards$Settings" "FIRST" "[I", Cond.arrayClass .int, Cond.fieldLink RX4 13 "FlameGuards$Settings" "values" "[I", Cond.static yX7_copyRow, Cond.initialized RX7, Cond.code yX7_copyRow cX7_copyRow 2 none, Cond.methodLink RX7 254 Lib.Math.min.name, Cond.static Lib.Math.min.name, Cond.initialized "java/lang/Math", Cond.code Lib.Math.min.name Lib.Math.min.code 2 (some .int), Cond.methodLink RX7 259 arraycopyName, Cond.native arraycopyName, Cond.static arraycopyName, Cond.initialized "java/lang/System", Cond.methodLink RX5 26 yX0_init, Cond.instanceMethod yX0_init, Cond.code yX0_init cX0_init 2 none, Cond.methodLink RX0 1 objectInit, Cond.fieldLink RX0 7 "FlameGuards$Burner" "kind" "I", Cond.methodLink RX5 31 yX3_init, Cond.instanceMethod yX3_init, Cond.code yX3_init cX3_init 1 none, Cond.methodLink RX3 1 objectInit, Cond.fieldLink RX3 9 "FlameGuards$Plan" "ticks" "[I"]
def wsX5_init_r3 : List Cond := [Cond.fieldLink RX3 13 "FlameGuards$Plan" "values" "[I", Cond.fieldLink RX3 16 "FlameGuards$Plan" "size" "I", Cond.methodLink RX5 38 yX2_init, Cond.instanceMethod yX2_init, Cond.code yX2_init cX2_init 1 none, Cond.methodLink RX2 1 objectInit, Cond.fieldLink RX2 9 "FlameGuards$Log" "events" "[I", Cond.fieldLink RX2 13 "FlameGuards$Log" "burners" "[I", Cond.fieldLink RX2 16 "FlameGuards$Log" "ticks" "[I", Cond.fieldLink RX2 19 "FlameGuards$Log" "counts" "[I", Cond.fieldLink RX2 22 "FlameGuards$Log" "known" "I"]
def wsX5_init : List Cond := .code yX5_init cX5_init 2 none :: ((wsX5_init_r1 ++ (wsX5_init_r2 ++ wsX5_init_r3)) ++ wsX40 ++ wsX50 ++ wsX00 ++ wsX30 ++ wsX20)
def wsX1_init_r1 : List Cond := [Cond.methodLink RX1 1 objectInit, Cond.instanceMethod objectInit, Cond.code objectInit ⟨#[0xb1]⟩ 1 none, Cond.classLink RX1 9 RX5, Cond.fieldLink RX1 11 "FlameGuards$History" "states" "[LFlameGuards$State;", Cond.instantiable RX5 8, Cond.initialized RX5, Cond.fieldLink RX1 16 "FlameGuards$History" "size" "I", Cond.methodLink RX1 15 yX5_init, Cond.instanceMethod yX5_init, Cond.code yX5_init cX5_init 2 none, Cond.methodLink RX5 1 objectInit, Cond.classLink RX5 7 RX4, Cond.instantiable RX4 1, Cond.initialized RX4, Cond.fieldLink RX5 10 "FlameGuards$State" "settings" "LFlameGuards$Settings;", Cond.fieldLink RX5 16 "FlameGuards$State" "FIRST_KINDS" "[I", Cond.classLink RX5 20 RX0, Cond.fieldLink RX5 22 "FlameGuards$State" "burners" "[LFlameGuards$Burner;", Cond.instantiable RX0 10, Cond.initialized RX0, Cond.classLink RX5 29 RX3, Cond.instantiable RX3 3, Cond.initialized RX3]
def wsX1_init_r2 : List Cond := [Cond.fieldLink RX5 32 "FlameGuards$State" "drafts" "LFlameGuards$Plan;", Cond.classLink RX5 36 RX2, Cond.instantiable RX2 5, Cond.initialized RX2, Cond.fieldLink RX5 39 "FlameGuards$State" "log" "LFlameGuards$Log;", Cond.methodLink RX5 9 yX4_init, Cond.instanceMethod yX4_init, Cond.code yX4_init cX4_init 1 none, Cond.methodLink RX4 1 objectInit, Cond.fieldLink RX4 7 "FlameGuards$Settings" "FIRST" "[I", Cond.arrayClass .int, Cond.fieldLink RX4 13 "FlameGuards$Settings" "values" "[I", Cond.static yX7_copyRow, Cond.initialized RX7, Cond.code yX7_copyRow cX7_copyRow 2 none, Cond.methodLink RX7 254 Lib.Math.min.name, Cond.static Lib.Math.min.name, Cond.initialized "java/lang/Math", Cond.code Lib.Math.min.name Lib.Math.min.code 2 (some .int), Cond.methodLink RX7 259 arraycopyName, Cond.native arraycopyName, Cond.static arraycopyName, Cond.initialized "java/lang/System", Cond.methodLink RX5 26 yX0_init]
def wsX1_init_r3 : List Cond := [Cond.instanceMethod yX0_init, Cond.code yX0_init cX0_init 2 none, Cond.methodLink RX0 1 objectInit, Cond.fieldLink RX0 7 "FlameGuards$Burner" "kind" "I", Cond.methodLink RX5 31 yX3_init, Cond.instanceMethod yX3_init, Cond.code yX3_init cX3_init 1 none, Cond.methodLink RX3 1 objectInit, Cond.fieldLink RX3 9 "FlameGuards$Plan" "ticks" "[I", Cond.fieldLink RX3 13 "FlameGuards$Plan" "values" "[I", Cond.fieldLink RX3 16 "FlameGuards$Plan" "size" "I", Cond.methodLink RX5 38 yX2_init, Cond.instanceMethod yX2_init, Cond.code yX2_init cX2_init 1 none, Cond.methodLink RX2 1 objectInit, Cond.fieldLink RX2 9 "FlameGuards$Log" "events" "[I", Cond.fieldLink RX2 13 "FlameGuards$Log" "burners" "[I", Cond.fieldLink RX2 16 "FlameGuards$Log" "ticks" "[I", Cond.fieldLink RX2 19 "FlameGuards$Log" "counts" "[I", Cond.fieldLink RX2 22 "FlameGuards$Log" "known" "I"]
def wsX1_init : List Cond := .code yX1_init cX1_init 2 none :: ((wsX1_init_r1 ++ (wsX1_init_r2 ++ wsX1_init_r3)) ++ wsX10 ++ wsX50 ++ wsX40 ++ wsX00 ++ wsX30 ++ wsX20)
def wsX1_dropOldest : List Cond := .code yX1_dropOldest cX1_dropOldest 3 none :: ([.fieldLink RX1 11 "FlameGuards$History" "states" "[LFlameGuards$State;", .fieldLink RX1 16 "FlameGuards$History" "size" "I"] ++ wsX10)
def wsX4_copyFrom : List Cond := .code yX4_copyFrom cX4_copyFrom 2 none :: ([.fieldLink RX4 13 "FlameGuards$Settings" "values" "[I", .static yX7_copyRow, .initialized RX7, .code yX7_copyRow cX7_copyRow 2 none, .methodLink RX7 254 Lib.Math.min.name, .static Lib.Math.min.name, .initialized "java/lang/Math", .code Lib.Math.min.name Lib.Math.min.code 2 (some .int), .methodLink RX7 259 arraycopyName, .native arraycopyName, .static arraycopyName, .initialized "java/lang/System"] ++ wsX40)
def wsX3_copyFrom : List Cond := .code yX3_copyFrom cX3_copyFrom 2 none :: ([.fieldLink RX3 9 "FlameGuards$Plan" "ticks" "[I", .fieldLink RX3 13 "FlameGuards$Plan" "values" "[I", .fieldLink RX3 16 "FlameGuards$Plan" "size" "I", .static yX7_copyRow, .initialized RX7, .code yX7_copyRow cX7_copyRow 2 none, .methodLink RX7 254 Lib.Math.min.name, .static Lib.Math.min.name, .initialized "java/lang/Math", .code Lib.Math.min.name Lib.Math.min.code 2 (some .int), .methodLink RX7 259 arraycopyName, .native arraycopyName, .static arraycopyName, .initialized "java/lang/System"] ++ wsX30)
def wsX2_copyFrom : List Cond := .code yX2_copyFrom cX2_copyFrom 2 none :: ([.fieldLink RX2 9 "FlameGuards$Log" "events" "[I", .fieldLink RX2 13 "FlameGuards$Log" "burners" "[I", .fieldLink RX2 16 "FlameGuards$Log" "ticks" "[I", .fieldLink RX2 19 "FlameGuards$Log" "counts" "[I", .fieldLink RX2 22 "FlameGuards$Log" "known" "I", .static yX7_copyRow, .initialized RX7, .code yX7_copyRow cX7_copyRow 2 none, .methodLink RX7 254 Lib.Math.min.name, .static Lib.Math.min.name, .initialized "java/lang/Math", .code Lib.Math.min.name Lib.Math.min.code 2 (some .int), .methodLink RX7 259 arraycopyName, .native arraycopyName, .static arraycopyName, .initialized "java/lang/System"] ++ wsX20)
def wsX5_copyFrom_r1 : List Cond := [Cond.fieldLink RX5 10 "FlameGuards$State" "settings" "LFlameGuards$Settings;", Cond.fieldLink RX5 22 "FlameGuards$State" "burners" "[LFlameGuards$Burner;", Cond.fieldLink RX5 32 "FlameGuards$State" "drafts" "LFlameGuards$Plan;", Cond.fieldLink RX5 39 "FlameGuards$State" "log" "LFlameGuards$Log;", Cond.fieldLink RX5 56 "FlameGuards$State" "tick" "I", Cond.fieldLink RX5 60 "FlameGuards$State" "gas" "I", Cond.fieldLink RX5 63 "FlameGuards$State" "mostGas" "I", Cond.fieldLink RX5 66 "FlameGuards$State" "mostDark" "I", Cond.methodLink RX5 43 yX4_copyFrom, Cond.instanceMethod yX4_copyFrom, Cond.selects RX4 yX4_copyFrom yX4_copyFrom, Cond.initialized RX4, Cond.code yX4_copyFrom cX4_copyFrom 2 none, Cond.fieldLink RX4 13 "FlameGuards$Settings" "values" "[I", Cond.static yX7_copyRow, Cond.initialized RX7, Cond.code yX7_copyRow cX7_copyRow 2 none, Cond.methodLink RX7 254 Lib.Math.min.name, Cond.static Lib.Math.min.name, Cond.initialized "java/lang/Math", Cond.code Lib.Math.min.name Lib.Math.min.code 2 (some .int), Cond.methodLink RX7 259 arraycopyName, Cond.native arraycopyName, Cond.static arraycopyName]
def wsX5_copyFrom_r2 : List Cond := [Cond.initialized "java/lang/System", Cond.methodLink RX5 47 yX0_copyFrom, Cond.instanceMethod yX0_copyFrom, Cond.selects RX0 yX0_copyFrom yX0_copyFrom, Cond.initialized RX0, Cond.code yX0_copyFrom cX0_copyFrom 2 none, Cond.fieldLink RX0 7 "FlameGuards$Burner" "kind" "I", Cond.fieldLink RX0 13 "FlameGuards$Burner" "tap" "I", Cond.fieldLink RX0 16 "FlameGuards$Burner" "pressed" "Z", Cond.fieldLink RX0 20 "FlameGuards$Burner" "igniter" "Z", Cond.fieldLink RX0 23 "FlameGuards$Burner" "flame" "Z", Cond.fieldLink RX0 26 "FlameGuards$Burner" "temperature" "I", Cond.fieldLink RX0 29 "FlameGuards$Burner" "locked" "Z", Cond.fieldLink RX0 32 "FlameGuards$Burner" "tries" "I", Cond.fieldLink RX0 35 "FlameGuards$Burner" "dark" "I", Cond.fieldLink RX0 38 "FlameGuards$Burner" "unburnt" "I", Cond.methodLink RX5 50 yX3_copyFrom, Cond.instanceMethod yX3_copyFrom, Cond.selects RX3 yX3_copyFrom yX3_copyFrom, Cond.initialized RX3, Cond.code yX3_copyFrom cX3_copyFrom 2 none, Cond.fieldLink RX3 9 "FlameGuards$Plan" "ticks" "[I", Cond.fieldLink RX3 13 "FlameGuards$Plan" "values" "[I", Cond.fieldLink RX3 16 "FlameGuards$Plan" "size" "I"]
def wsX5_copyFrom_r3 : List Cond := [Cond.methodLink RX5 53 yX2_copyFrom, Cond.instanceMethod yX2_copyFrom, Cond.selects RX2 yX2_copyFrom yX2_copyFrom, Cond.initialized RX2, Cond.code yX2_copyFrom cX2_copyFrom 2 none, Cond.fieldLink RX2 9 "FlameGuards$Log" "events" "[I", Cond.fieldLink RX2 13 "FlameGuards$Log" "burners" "[I", Cond.fieldLink RX2 16 "FlameGuards$Log" "ticks" "[I", Cond.fieldLink RX2 19 "FlameGuards$Log" "counts" "[I", Cond.fieldLink RX2 22 "FlameGuards$Log" "known" "I"]
def wsX5_copyFrom : List Cond := .code yX5_copyFrom cX5_copyFrom 3 none :: ((wsX5_copyFrom_r1 ++ (wsX5_copyFrom_r2 ++ wsX5_copyFrom_r3)) ++ wsX50 ++ wsX40 ++ wsX00 ++ wsX30 ++ wsX20)
def wsX1_record_r1 : List Cond := [Cond.fieldLink RX1 16 "FlameGuards$History" "size" "I", Cond.fieldLink RX1 11 "FlameGuards$History" "states" "[LFlameGuards$State;", Cond.methodLink RX1 20 yX1_dropOldest, Cond.instanceMethod yX1_dropOldest, Cond.selects RX1 yX1_dropOldest yX1_dropOldest, Cond.initialized RX1, Cond.code yX1_dropOldest cX1_dropOldest 3 none, Cond.methodLink RX1 23 yX5_copyFrom, Cond.instanceMethod yX5_copyFrom, Cond.selects RX5 yX5_copyFrom yX5_copyFrom, Cond.initialized RX5, Cond.code yX5_copyFrom cX5_copyFrom 3 none, Cond.fieldLink RX5 10 "FlameGuards$State" "settings" "LFlameGuards$Settings;", Cond.fieldLink RX5 22 "FlameGuards$State" "burners" "[LFlameGuards$Burner;", Cond.fieldLink RX5 32 "FlameGuards$State" "drafts" "LFlameGuards$Plan;", Cond.fieldLink RX5 39 "FlameGuards$State" "log" "LFlameGuards$Log;", Cond.fieldLink RX5 56 "FlameGuards$State" "tick" "I", Cond.fieldLink RX5 60 "FlameGuards$State" "gas" "I", Cond.fieldLink RX5 63 "FlameGuards$State" "mostGas" "I", Cond.fieldLink RX5 66 "FlameGuards$State" "mostDark" "I", Cond.methodLink RX5 43 yX4_copyFrom, Cond.instanceMethod yX4_copyFrom, Cond.selects RX4 yX4_copyFrom yX4_copyFrom, Cond.initialized RX4]
def wsX1_record_r2 : List Cond := [Cond.code yX4_copyFrom cX4_copyFrom 2 none, Cond.fieldLink RX4 13 "FlameGuards$Settings" "values" "[I", Cond.static yX7_copyRow, Cond.initialized RX7, Cond.code yX7_copyRow cX7_copyRow 2 none, Cond.methodLink RX7 254 Lib.Math.min.name, Cond.static Lib.Math.min.name, Cond.initialized "java/lang/Math", Cond.code Lib.Math.min.name Lib.Math.min.code 2 (some .int), Cond.methodLink RX7 259 arraycopyName, Cond.native arraycopyName, Cond.static arraycopyName, Cond.initialized "java/lang/System", Cond.methodLink RX5 47 yX0_copyFrom, Cond.instanceMethod yX0_copyFrom, Cond.selects RX0 yX0_copyFrom yX0_copyFrom, Cond.initialized RX0, Cond.code yX0_copyFrom cX0_copyFrom 2 none, Cond.fieldLink RX0 7 "FlameGuards$Burner" "kind" "I", Cond.fieldLink RX0 13 "FlameGuards$Burner" "tap" "I", Cond.fieldLink RX0 16 "FlameGuards$Burner" "pressed" "Z", Cond.fieldLink RX0 20 "FlameGuards$Burner" "igniter" "Z", Cond.fieldLink RX0 23 "FlameGuards$Burner" "flame" "Z", Cond.fieldLink RX0 26 "FlameGuards$Burner" "temperature" "I"]
def wsX1_record_r3 : List Cond := [Cond.fieldLink RX0 29 "FlameGuards$Burner" "locked" "Z", Cond.fieldLink RX0 32 "FlameGuards$Burner" "tries" "I", Cond.fieldLink RX0 35 "FlameGuards$Burner" "dark" "I", Cond.fieldLink RX0 38 "FlameGuards$Burner" "unburnt" "I", Cond.methodLink RX5 50 yX3_copyFrom, Cond.instanceMethod yX3_copyFrom, Cond.selects RX3 yX3_copyFrom yX3_copyFrom, Cond.initialized RX3, Cond.code yX3_copyFrom cX3_copyFrom 2 none, Cond.fieldLink RX3 9 "FlameGuards$Plan" "ticks" "[I", Cond.fieldLink RX3 13 "FlameGuards$Plan" "values" "[I", Cond.fieldLink RX3 16 "FlameGuards$Plan" "size" "I", Cond.methodLink RX5 53 yX2_copyFrom, Cond.instanceMethod yX2_copyFrom, Cond.selects RX2 yX2_copyFrom yX2_copyFrom, Cond.initialized RX2, Cond.code yX2_copyFrom cX2_copyFrom 2 none, Cond.fieldLink RX2 9 "FlameGuards$Log" "events" "[I", Cond.fieldLink RX2 13 "FlameGuards$Log" "burners" "[I", Cond.fieldLink RX2 16 "FlameGuards$Log" "ticks" "[I", Cond.fieldLink RX2 19 "FlameGuards$Log" "counts" "[I", Cond.fieldLink RX2 22 "FlameGuards$Log" "known" "I"]
def wsX1_record : List Cond := .code yX1_record cX1_record 2 none :: ((wsX1_record_r1 ++ (wsX1_record_r2 ++ wsX1_record_r3)) ++ wsX10 ++ wsX50 ++ wsX40 ++ wsX00 ++ wsX30 ++ wsX20)
def wsX1_takeBack_r1 : List Cond := [Cond.fieldLink RX1 16 "FlameGuards$History" "size" "I", Cond.fieldLink RX1 11 "FlameGuards$History" "states" "[LFlameGuards$State;", Cond.methodLink RX1 23 yX5_copyFrom, Cond.instanceMethod yX5_copyFrom, Cond.selects RX5 yX5_copyFrom yX5_copyFrom, Cond.initialized RX5, Cond.code yX5_copyFrom cX5_copyFrom 3 none, Cond.fieldLink RX5 10 "FlameGuards$State" "settings" "LFlameGuards$Settings;", Cond.fieldLink RX5 22 "FlameGuards$State" "burners" "[LFlameGuards$Burner;", Cond.fieldLink RX5 32 "FlameGuards$State" "drafts" "LFlameGuards$Plan;", Cond.fieldLink RX5 39 "FlameGuards$State" "log" "LFlameGuards$Log;", Cond.fieldLink RX5 56 "FlameGuards$State" "tick" "I", Cond.fieldLink RX5 60 "FlameGuards$State" "gas" "I", Cond.fieldLink RX5 63 "FlameGuards$State" "mostGas" "I", Cond.fieldLink RX5 66 "FlameGuards$State" "mostDark" "I", Cond.methodLink RX5 43 yX4_copyFrom, Cond.instanceMethod yX4_copyFrom, Cond.selects RX4 yX4_copyFrom yX4_copyFrom, Cond.initialized RX4, Cond.code yX4_copyFrom cX4_copyFrom 2 none, Cond.fieldLink RX4 13 "FlameGuards$Settings" "values" "[I", Cond.static yX7_copyRow, Cond.initialized RX7, Cond.code yX7_copyRow cX7_copyRow 2 none]
def wsX1_takeBack_r2 : List Cond := [Cond.methodLink RX7 254 Lib.Math.min.name, Cond.static Lib.Math.min.name, Cond.initialized "java/lang/Math", Cond.code Lib.Math.min.name Lib.Math.min.code 2 (some .int), Cond.methodLink RX7 259 arraycopyName, Cond.native arraycopyName, Cond.static arraycopyName, Cond.initialized "java/lang/System", Cond.methodLink RX5 47 yX0_copyFrom, Cond.instanceMethod yX0_copyFrom, Cond.selects RX0 yX0_copyFrom yX0_copyFrom, Cond.initialized RX0, Cond.code yX0_copyFrom cX0_copyFrom 2 none, Cond.fieldLink RX0 7 "FlameGuards$Burner" "kind" "I", Cond.fieldLink RX0 13 "FlameGuards$Burner" "tap" "I", Cond.fieldLink RX0 16 "FlameGuards$Burner" "pressed" "Z", Cond.fieldLink RX0 20 "FlameGuards$Burner" "igniter" "Z", Cond.fieldLink RX0 23 "FlameGuards$Burner" "flame" "Z", Cond.fieldLink RX0 26 "FlameGuards$Burner" "temperature" "I", Cond.fieldLink RX0 29 "FlameGuards$Burner" "locked" "Z", Cond.fieldLink RX0 32 "FlameGuards$Burner" "tries" "I", Cond.fieldLink RX0 35 "FlameGuards$Burner" "dark" "I", Cond.fieldLink RX0 38 "FlameGuards$Burner" "unburnt" "I", Cond.methodLink RX5 50 yX3_copyFrom]
def wsX1_takeBack_r3 : List Cond := [Cond.instanceMethod yX3_copyFrom, Cond.selects RX3 yX3_copyFrom yX3_copyFrom, Cond.initialized RX3, Cond.code yX3_copyFrom cX3_copyFrom 2 none, Cond.fieldLink RX3 9 "FlameGuards$Plan" "ticks" "[I", Cond.fieldLink RX3 13 "FlameGuards$Plan" "values" "[I", Cond.fieldLink RX3 16 "FlameGuards$Plan" "size" "I", Cond.methodLink RX5 53 yX2_copyFrom, Cond.instanceMethod yX2_copyFrom, Cond.selects RX2 yX2_copyFrom yX2_copyFrom, Cond.initialized RX2, Cond.code yX2_copyFrom cX2_copyFrom 2 none, Cond.fieldLink RX2 9 "FlameGuards$Log" "events" "[I", Cond.fieldLink RX2 13 "FlameGuards$Log" "burners" "[I", Cond.fieldLink RX2 16 "FlameGuards$Log" "ticks" "[I", Cond.fieldLink RX2 19 "FlameGuards$Log" "counts" "[I", Cond.fieldLink RX2 22 "FlameGuards$Log" "known" "I"]
def wsX1_takeBack : List Cond := .code yX1_takeBack cX1_takeBack 2 (some .boolean) :: ((wsX1_takeBack_r1 ++ (wsX1_takeBack_r2 ++ wsX1_takeBack_r3)) ++ wsX10 ++ wsX50 ++ wsX40 ++ wsX00 ++ wsX30 ++ wsX20)
def wsX2_putFirst : List Cond := .code yX2_putFirst cX2_putFirst 2 none :: ([.methodLink RX2 46 arraycopyName, .native arraycopyName, .static arraycopyName, .initialized "java/lang/System"])
def wsX7_isWithin : List Cond := .code yX7_isWithin cX7_isWithin 3 (some .boolean) :: ([])
def wsX2_note : List Cond := .code yX2_note cX2_note 4 none :: ([.fieldLink RX2 9 "FlameGuards$Log" "events" "[I", .fieldLink RX2 13 "FlameGuards$Log" "burners" "[I", .fieldLink RX2 16 "FlameGuards$Log" "ticks" "[I", .fieldLink RX2 22 "FlameGuards$Log" "known" "I", .methodLink RX2 36 Lib.Math.min.name, .static Lib.Math.min.name, .initialized "java/lang/Math", .code Lib.Math.min.name Lib.Math.min.code 2 (some .int), .fieldLink RX2 19 "FlameGuards$Log" "counts" "[I", .methodLink RX2 32 yX2_putFirst, .static yX2_putFirst, .initialized RX2, .code yX2_putFirst cX2_putFirst 2 none, .methodLink RX2 46 arraycopyName, .native arraycopyName, .static arraycopyName, .initialized "java/lang/System", .static yX7_isWithin, .initialized RX7, .code yX7_isWithin cX7_isWithin 3 (some .boolean)] ++ wsX20)
def wsX2_total : List Cond := .code yX2_total cX2_total 6 (some .int) :: ([.fieldLink RX2 19 "FlameGuards$Log" "counts" "[I"] ++ wsX20)
def wsX3_clear : List Cond := .code yX3_clear cX3_clear 1 none :: ([.fieldLink RX3 16 "FlameGuards$Plan" "size" "I"] ++ wsX30)
def wsX3_placeOf : List Cond := .code yX3_placeOf cX3_placeOf 3 (some .int) :: ([.fieldLink RX3 16 "FlameGuards$Plan" "size" "I", .fieldLink RX3 9 "FlameGuards$Plan" "ticks" "[I"] ++ wsX30)
def wsX3_hasRoomFor : List Cond := .code yX3_hasRoomFor cX3_hasRoomFor 2 (some .boolean) :: ([.fieldLink RX3 16 "FlameGuards$Plan" "size" "I", .methodLink RX3 26 yX3_placeOf, .instanceMethod yX3_placeOf, .selects RX3 yX3_placeOf yX3_placeOf, .initialized RX3, .code yX3_placeOf cX3_placeOf 3 (some .int), .fieldLink RX3 9 "FlameGuards$Plan" "ticks" "[I"] ++ wsX30)
def wsX3_holds : List Cond := .code yX3_holds cX3_holds 4 (some .boolean) :: ([.fieldLink RX3 16 "FlameGuards$Plan" "size" "I", .fieldLink RX3 13 "FlameGuards$Plan" "values" "[I", .methodLink RX3 26 yX3_placeOf, .instanceMethod yX3_placeOf, .selects RX3 yX3_placeOf yX3_placeOf, .initialized RX3, .code yX3_placeOf cX3_placeOf 3 (some .int), .fieldLink RX3 9 "FlameGuards$Plan" "ticks" "[I", .static yX7_elementAt, .initialized RX7, .code yX7_elementAt cX7_elementAt 2 (some .int)] ++ wsX30)
def wsX3_makePlaceFor : List Cond := .code yX3_makePlaceFor cX3_makePlaceFor 3 (some .int) :: ([.fieldLink RX3 16 "FlameGuards$Plan" "size" "I", .fieldLink RX3 9 "FlameGuards$Plan" "ticks" "[I", .fieldLink RX3 13 "FlameGuards$Plan" "values" "[I"] ++ wsX30)
def wsX3_put : List Cond := .code yX3_put cX3_put 4 (some .boolean) :: ([.fieldLink RX3 16 "FlameGuards$Plan" "size" "I", .fieldLink RX3 9 "FlameGuards$Plan" "ticks" "[I", .fieldLink RX3 13 "FlameGuards$Plan" "values" "[I", .methodLink RX3 34 yX3_hasRoomFor, .instanceMethod yX3_hasRoomFor, .selects RX3 yX3_hasRoomFor yX3_hasRoomFor, .initialized RX3, .code yX3_hasRoomFor cX3_hasRoomFor 2 (some .boolean), .methodLink RX3 26 yX3_placeOf, .instanceMethod yX3_placeOf, .selects RX3 yX3_placeOf yX3_placeOf, .code yX3_placeOf cX3_placeOf 3 (some .int), .methodLink RX3 38 yX3_makePlaceFor, .instanceMethod yX3_makePlaceFor, .selects RX3 yX3_makePlaceFor yX3_makePlaceFor, .code yX3_makePlaceFor cX3_makePlaceFor 3 (some .int)] ++ wsX30)
def wsX3_draftIn : List Cond := .code yX3_draftIn cX3_draftIn 4 (some .int) :: ([.fieldLink RX3 16 "FlameGuards$Plan" "size" "I", .fieldLink RX3 9 "FlameGuards$Plan" "ticks" "[I", .fieldLink RX3 13 "FlameGuards$Plan" "values" "[I"] ++ wsX30)
def wsX4_isOne : List Cond := .code yX4_isOne cX4_isOne 1 (some .boolean) :: ([.fieldLink RX4 7 "FlameGuards$Settings" "FIRST" "[I", .static yX7_isWithin, .initialized RX7, .code yX7_isWithin cX7_isWithin 3 (some .boolean)])
def wsX4_allows : List Cond := .code yX4_allows cX4_allows 2 (some .boolean) :: ([.fieldLink RX4 26 "FlameGuards$Settings" "LEAST" "[I", .fieldLink RX4 33 "FlameGuards$Settings" "MOST" "[I", .static yX7_elementAt, .initialized RX7, .code yX7_elementAt cX7_elementAt 2 (some .int), .static yX7_isWithin, .code yX7_isWithin cX7_isWithin 3 (some .boolean)])
def wsX4_valueOf : List Cond := .code yX4_valueOf cX4_valueOf 2 (some .int) :: ([.fieldLink RX4 13 "FlameGuards$Settings" "values" "[I", .static yX7_elementAt, .initialized RX7, .code yX7_elementAt cX7_elementAt 2 (some .int)] ++ wsX40)
def wsX4_change : List Cond := .code yX4_change cX4_change 3 none :: ([.fieldLink RX4 13 "FlameGuards$Settings" "values" "[I", .methodLink RX4 36 yX4_isOne, .static yX4_isOne, .initialized RX4, .code yX4_isOne cX4_isOne 1 (some .boolean), .fieldLink RX4 7 "FlameGuards$Settings" "FIRST" "[I", .static yX7_isWithin, .initialized RX7, .code yX7_isWithin cX7_isWithin 3 (some .boolean)] ++ wsX40)
def wsX5_find : List Cond := .code yX5_find cX5_find 2 (some (.object "FlameGuards$Burner")) :: ([.fieldLink RX5 22 "FlameGuards$State" "burners" "[LFlameGuards$Burner;"] ++ wsX50)
def wsX5_isOpen : List Cond := .code yX5_isOpen cX5_isOpen 2 (some .boolean) :: ([.fieldLink RX5 10 "FlameGuards$State" "settings" "LFlameGuards$Settings;", .methodLink RX5 69 yX4_valueOf, .instanceMethod yX4_valueOf, .selects RX4 yX4_valueOf yX4_valueOf, .initialized RX4, .code yX4_valueOf cX4_valueOf 2 (some .int), .fieldLink RX4 13 "FlameGuards$Settings" "values" "[I", .static yX7_elementAt, .initialized RX7, .code yX7_elementAt cX7_elementAt 2 (some .int), .methodLink RX5 73 yX0_isOpen, .instanceMethod yX0_isOpen, .selects RX0 yX0_isOpen yX0_isOpen, .initialized RX0, .code yX0_isOpen cX0_isOpen 2 (some .boolean), .fieldLink RX0 29 "FlameGuards$Burner" "locked" "Z", .fieldLink RX0 13 "FlameGuards$Burner" "tap" "I", .fieldLink RX0 16 "FlameGuards$Burner" "pressed" "Z", .fieldLink RX0 26 "FlameGuards$Burner" "temperature" "I"] ++ wsX50 ++ wsX40 ++ wsX00)
def wsX5_allowsFire : List Cond := .code yX5_allowsFire cX5_allowsFire 1 (some .boolean) :: ([.fieldLink RX5 60 "FlameGuards$State" "gas" "I", .fieldLink RX5 10 "FlameGuards$State" "settings" "LFlameGuards$Settings;", .methodLink RX5 69 yX4_valueOf, .instanceMethod yX4_valueOf, .selects RX4 yX4_valueOf yX4_valueOf, .initialized RX4, .code yX4_valueOf cX4_valueOf 2 (some .int), .fieldLink RX4 13 "FlameGuards$Settings" "values" "[I", .static yX7_elementAt, .initialized RX7, .code yX7_elementAt cX7_elementAt 2 (some .int)] ++ wsX50 ++ wsX40)
def wsX5_draft : List Cond := .code yX5_draft cX5_draft 1 (some .int) :: ([.fieldLink RX5 32 "FlameGuards$State" "drafts" "LFlameGuards$Plan;", .fieldLink RX5 56 "FlameGuards$State" "tick" "I", .methodLink RX5 77 yX3_draftIn, .instanceMethod yX3_draftIn, .selects RX3 yX3_draftIn yX3_draftIn, .initialized RX3, .code yX3_draftIn cX3_draftIn 4 (some .int), .fieldLink RX3 16 "FlameGuards$Plan" "size" "I", .fieldLink RX3 9 "FlameGuards$Plan" "ticks" "[I", .fieldLink RX3 13 "FlameGuards$Plan" "values" "[I"] ++ wsX50 ++ wsX30)
def wsX5_kindle_r1 : List Cond := [Cond.fieldLink RX5 80 "FlameGuards$Burner" "flame" "Z", Cond.fieldLink RX5 84 "FlameGuards$Burner" "tries" "I", Cond.fieldLink RX5 39 "FlameGuards$State" "log" "LFlameGuards$Log;", Cond.fieldLink RX5 56 "FlameGuards$State" "tick" "I", Cond.methodLink RX5 87 yX2_note, Cond.instanceMethod yX2_note, Cond.selects RX2 yX2_note yX2_note, Cond.initialized RX2, Cond.code yX2_note cX2_note 4 none, Cond.fieldLink RX2 9 "FlameGuards$Log" "events" "[I", Cond.fieldLink RX2 13 "FlameGuards$Log" "burners" "[I", Cond.fieldLink RX2 16 "FlameGuards$Log" "ticks" "[I", Cond.fieldLink RX2 22 "FlameGuards$Log" "known" "I", Cond.methodLink RX2 36 Lib.Math.min.name, Cond.static Lib.Math.min.name, Cond.initialized "java/lang/Math", Cond.code Lib.Math.min.name Lib.Math.min.code 2 (some .int), Cond.fieldLink RX2 19 "FlameGuards$Log" "counts" "[I", Cond.methodLink RX2 32 yX2_putFirst, Cond.static yX2_putFirst, Cond.code yX2_putFirst cX2_putFirst 2 none, Cond.methodLink RX2 46 arraycopyName, Cond.native arraycopyName, Cond.static arraycopyName]
def wsX5_kindle_r2 : List Cond := [Cond.initialized "java/lang/System", Cond.static yX7_isWithin, Cond.initialized RX7, Cond.code yX7_isWithin cX7_isWithin 3 (some .boolean)]
def wsX5_kindle : List Cond := .code yX5_kindle cX5_kindle 3 none :: ((wsX5_kindle_r1 ++ wsX5_kindle_r2) ++ wsX00 ++ wsX50 ++ wsX20)
def wsX5_blow_r1 : List Cond := [Cond.fieldLink RX5 80 "FlameGuards$Burner" "flame" "Z", Cond.fieldLink RX5 39 "FlameGuards$State" "log" "LFlameGuards$Log;", Cond.fieldLink RX5 56 "FlameGuards$State" "tick" "I", Cond.methodLink RX5 132 yX5_isOpen, Cond.instanceMethod yX5_isOpen, Cond.selects RX5 yX5_isOpen yX5_isOpen, Cond.initialized RX5, Cond.code yX5_isOpen cX5_isOpen 2 (some .boolean), Cond.fieldLink RX5 10 "FlameGuards$State" "settings" "LFlameGuards$Settings;", Cond.methodLink RX5 69 yX4_valueOf, Cond.instanceMethod yX4_valueOf, Cond.selects RX4 yX4_valueOf yX4_valueOf, Cond.initialized RX4, Cond.code yX4_valueOf cX4_valueOf 2 (some .int), Cond.fieldLink RX4 13 "FlameGuards$Settings" "values" "[I", Cond.static yX7_elementAt, Cond.initialized RX7, Cond.code yX7_elementAt cX7_elementAt 2 (some .int), Cond.methodLink RX5 73 yX0_isOpen, Cond.instanceMethod yX0_isOpen, Cond.selects RX0 yX0_isOpen yX0_isOpen, Cond.initialized RX0, Cond.code yX0_isOpen cX0_isOpen 2 (some .boolean), Cond.fieldLink RX0 29 "FlameGuards$Burner" "locked" "Z"]
def wsX5_blow_r2 : List Cond := [Cond.fieldLink RX0 13 "FlameGuards$Burner" "tap" "I", Cond.fieldLink RX0 16 "FlameGuards$Burner" "pressed" "Z", Cond.fieldLink RX0 26 "FlameGuards$Burner" "temperature" "I", Cond.methodLink RX5 137 yX0_strength, Cond.instanceMethod yX0_strength, Cond.selects RX0 yX0_strength yX0_strength, Cond.code yX0_strength cX0_strength 1 (some .int), Cond.fieldLink RX0 49 "FlameGuards$Burner" "STRENGTH" "[I", Cond.methodLink RX0 45 yX0_told, Cond.instanceMethod yX0_told, Cond.selects RX0 yX0_told yX0_told, Cond.code yX0_told cX0_told 3 (some .int), Cond.fieldLink RX0 7 "FlameGuards$Burner" "kind" "I", Cond.methodLink RX5 87 yX2_note, Cond.instanceMethod yX2_note, Cond.selects RX2 yX2_note yX2_note, Cond.initialized RX2, Cond.code yX2_note cX2_note 4 none, Cond.fieldLink RX2 9 "FlameGuards$Log" "events" "[I", Cond.fieldLink RX2 13 "FlameGuards$Log" "burners" "[I", Cond.fieldLink RX2 16 "FlameGuards$Log" "ticks" "[I", Cond.fieldLink RX2 22 "FlameGuards$Log" "known" "I", Cond.methodLink RX2 36 Lib.Math.min.name, Cond.static Lib.Math.min.name]
def wsX5_blow_r3 : List Cond := [Cond.initialized "java/lang/Math", Cond.code Lib.Math.min.name Lib.Math.min.code 2 (some .int), Cond.fieldLink RX2 19 "FlameGuards$Log" "counts" "[I", Cond.methodLink RX2 32 yX2_putFirst, Cond.static yX2_putFirst, Cond.code yX2_putFirst cX2_putFirst 2 none, Cond.methodLink RX2 46 arraycopyName, Cond.native arraycopyName, Cond.static arraycopyName, Cond.initialized "java/lang/System", Cond.static yX7_isWithin, Cond.code yX7_isWithin cX7_isWithin 3 (some .boolean)]
def wsX5_blow : List Cond := .code yX5_blow cX5_blow 4 none :: ((wsX5_blow_r1 ++ (wsX5_blow_r2 ++ wsX5_blow_r3)) ++ wsX00 ++ wsX50 ++ wsX40 ++ wsX20)
def wsX5_spark_r1 : List Cond := [Cond.fieldLink RX5 80 "FlameGuards$Burner" "flame" "Z", Cond.fieldLink RX5 123 "FlameGuards$Burner" "igniter" "Z", Cond.fieldLink RX5 84 "FlameGuards$Burner" "tries" "I", Cond.fieldLink RX5 10 "FlameGuards$State" "settings" "LFlameGuards$Settings;", Cond.fieldLink RX5 134 "FlameGuards$Burner" "locked" "Z", Cond.fieldLink RX5 39 "FlameGuards$State" "log" "LFlameGuards$Log;", Cond.fieldLink RX5 56 "FlameGuards$State" "tick" "I", Cond.methodLink RX5 132 yX5_isOpen, Cond.instanceMethod yX5_isOpen, Cond.selects RX5 yX5_isOpen yX5_isOpen, Cond.initialized RX5, Cond.code yX5_isOpen cX5_isOpen 2 (some .boolean), Cond.methodLink RX5 69 yX4_valueOf, Cond.instanceMethod yX4_valueOf, Cond.selects RX4 yX4_valueOf yX4_valueOf, Cond.initialized RX4, Cond.code yX4_valueOf cX4_valueOf 2 (some .int), Cond.fieldLink RX4 13 "FlameGuards$Settings" "values" "[I", Cond.static yX7_elementAt, Cond.initialized RX7, Cond.code yX7_elementAt cX7_elementAt 2 (some .int), Cond.methodLink RX5 73 yX0_isOpen, Cond.instanceMethod yX0_isOpen, Cond.selects RX0 yX0_isOpen yX0_isOpen]
def wsX5_spark_r2 : List Cond := [Cond.initialized RX0, Cond.code yX0_isOpen cX0_isOpen 2 (some .boolean), Cond.fieldLink RX0 29 "FlameGuards$Burner" "locked" "Z", Cond.fieldLink RX0 13 "FlameGuards$Burner" "tap" "I", Cond.fieldLink RX0 16 "FlameGuards$Burner" "pressed" "Z", Cond.fieldLink RX0 26 "FlameGuards$Burner" "temperature" "I", Cond.methodLink RX5 137 yX0_strength, Cond.instanceMethod yX0_strength, Cond.selects RX0 yX0_strength yX0_strength, Cond.code yX0_strength cX0_strength 1 (some .int), Cond.fieldLink RX0 49 "FlameGuards$Burner" "STRENGTH" "[I", Cond.methodLink RX0 45 yX0_told, Cond.instanceMethod yX0_told, Cond.selects RX0 yX0_told yX0_told, Cond.code yX0_told cX0_told 3 (some .int), Cond.fieldLink RX0 7 "FlameGuards$Burner" "kind" "I", Cond.methodLink RX5 140 yX5_kindle, Cond.instanceMethod yX5_kindle, Cond.selects RX5 yX5_kindle yX5_kindle, Cond.code yX5_kindle cX5_kindle 3 none, Cond.methodLink RX5 87 yX2_note, Cond.instanceMethod yX2_note, Cond.selects RX2 yX2_note yX2_note, Cond.initialized RX2]
def wsX5_spark_r3 : List Cond := [Cond.code yX2_note cX2_note 4 none, Cond.fieldLink RX2 9 "FlameGuards$Log" "events" "[I", Cond.fieldLink RX2 13 "FlameGuards$Log" "burners" "[I", Cond.fieldLink RX2 16 "FlameGuards$Log" "ticks" "[I", Cond.fieldLink RX2 22 "FlameGuards$Log" "known" "I", Cond.methodLink RX2 36 Lib.Math.min.name, Cond.static Lib.Math.min.name, Cond.initialized "java/lang/Math", Cond.code Lib.Math.min.name Lib.Math.min.code 2 (some .int), Cond.fieldLink RX2 19 "FlameGuards$Log" "counts" "[I", Cond.methodLink RX2 32 yX2_putFirst, Cond.static yX2_putFirst, Cond.code yX2_putFirst cX2_putFirst 2 none, Cond.methodLink RX2 46 arraycopyName, Cond.native arraycopyName, Cond.static arraycopyName, Cond.initialized "java/lang/System", Cond.static yX7_isWithin, Cond.code yX7_isWithin cX7_isWithin 3 (some .boolean)]
def wsX5_spark : List Cond := .code yX5_spark cX5_spark 4 none :: ((wsX5_spark_r1 ++ (wsX5_spark_r2 ++ wsX5_spark_r3)) ++ wsX00 ++ wsX50 ++ wsX40 ++ wsX20)
def wsX5_warmOrDrop_r1 : List Cond := [Cond.fieldLink RX5 80 "FlameGuards$Burner" "flame" "Z", Cond.fieldLink RX5 39 "FlameGuards$State" "log" "LFlameGuards$Log;", Cond.fieldLink RX5 56 "FlameGuards$State" "tick" "I", Cond.methodLink RX5 132 yX5_isOpen, Cond.instanceMethod yX5_isOpen, Cond.selects RX5 yX5_isOpen yX5_isOpen, Cond.initialized RX5, Cond.code yX5_isOpen cX5_isOpen 2 (some .boolean), Cond.fieldLink RX5 10 "FlameGuards$State" "settings" "LFlameGuards$Settings;", Cond.methodLink RX5 69 yX4_valueOf, Cond.instanceMethod yX4_valueOf, Cond.selects RX4 yX4_valueOf yX4_valueOf, Cond.initialized RX4, Cond.code yX4_valueOf cX4_valueOf 2 (some .int), Cond.fieldLink RX4 13 "FlameGuards$Settings" "values" "[I", Cond.static yX7_elementAt, Cond.initialized RX7, Cond.code yX7_elementAt cX7_elementAt 2 (some .int), Cond.methodLink RX5 73 yX0_isOpen, Cond.instanceMethod yX0_isOpen, Cond.selects RX0 yX0_isOpen yX0_isOpen, Cond.initialized RX0, Cond.code yX0_isOpen cX0_isOpen 2 (some .boolean), Cond.fieldLink RX0 29 "FlameGuards$Burner" "locked" "Z"]
def wsX5_warmOrDrop_r2 : List Cond := [Cond.fieldLink RX0 13 "FlameGuards$Burner" "tap" "I", Cond.fieldLink RX0 16 "FlameGuards$Burner" "pressed" "Z", Cond.fieldLink RX0 26 "FlameGuards$Burner" "temperature" "I", Cond.methodLink RX5 143 yX0_warmOrCool, Cond.instanceMethod yX0_warmOrCool, Cond.selects RX0 yX0_warmOrCool yX0_warmOrCool, Cond.code yX0_warmOrCool cX0_warmOrCool 1 none, Cond.fieldLink RX0 23 "FlameGuards$Burner" "flame" "Z", Cond.methodLink RX0 55 yX0_heatAt, Cond.instanceMethod yX0_heatAt, Cond.selects RX0 yX0_heatAt yX0_heatAt, Cond.code yX0_heatAt cX0_heatAt 2 (some .int), Cond.fieldLink RX0 52 "FlameGuards$Burner" "HEAT" "[I", Cond.methodLink RX0 45 yX0_told, Cond.instanceMethod yX0_told, Cond.selects RX0 yX0_told yX0_told, Cond.code yX0_told cX0_told 3 (some .int), Cond.fieldLink RX0 7 "FlameGuards$Burner" "kind" "I", Cond.methodLink RX0 59 yX0_temperatureAfter, Cond.instanceMethod yX0_temperatureAfter, Cond.selects RX0 yX0_temperatureAfter yX0_temperatureAfter, Cond.code yX0_temperatureAfter cX0_temperatureAfter 3 (some .int), Cond.fieldLink RX0 63 "FlameGuards$Burner" "WARMING" "[I", Cond.methodLink RX0 74 Lib.Math.min.name]
def wsX5_warmOrDrop_r3 : List Cond := [Cond.static Lib.Math.min.name, Cond.initialized "java/lang/Math", Cond.code Lib.Math.min.name Lib.Math.min.code 2 (some .int), Cond.fieldLink RX0 79 "FlameGuards$Burner" "COOLING" "[I", Cond.methodLink RX0 82 Lib.Math.max.name, Cond.static Lib.Math.max.name, Cond.code Lib.Math.max.name Lib.Math.max.code 2 (some .int), Cond.methodLink RX0 71 yX0_quotient, Cond.static yX0_quotient, Cond.code yX0_quotient cX0_quotient 2 (some .int), Cond.methodLink RX5 87 yX2_note, Cond.instanceMethod yX2_note, Cond.selects RX2 yX2_note yX2_note, Cond.initialized RX2, Cond.code yX2_note cX2_note 4 none, Cond.fieldLink RX2 9 "FlameGuards$Log" "events" "[I", Cond.fieldLink RX2 13 "FlameGuards$Log" "burners" "[I", Cond.fieldLink RX2 16 "FlameGuards$Log" "ticks" "[I", Cond.fieldLink RX2 22 "FlameGuards$Log" "known" "I", Cond.methodLink RX2 36 Lib.Math.min.name, Cond.fieldLink RX2 19 "FlameGuards$Log" "counts" "[I", Cond.methodLink RX2 32 yX2_putFirst, Cond.static yX2_putFirst, Cond.code yX2_putFirst cX2_putFirst 2 none]
def wsX5_warmOrDrop_r4 : List Cond := [Cond.methodLink RX2 46 arraycopyName, Cond.native arraycopyName, Cond.static arraycopyName, Cond.initialized "java/lang/System", Cond.static yX7_isWithin, Cond.code yX7_isWithin cX7_isWithin 3 (some .boolean)]
def wsX5_warmOrDrop : List Cond := .code yX5_warmOrDrop cX5_warmOrDrop 4 none :: ((wsX5_warmOrDrop_r1 ++ (wsX5_warmOrDrop_r2 ++ (wsX5_warmOrDrop_r3 ++ wsX5_warmOrDrop_r4))) ++ wsX00 ++ wsX50 ++ wsX40 ++ wsX20)
def wsX5_flowsUnburnt_r1 : List Cond := [Cond.fieldLink RX5 80 "FlameGuards$Burner" "flame" "Z", Cond.methodLink RX5 132 yX5_isOpen, Cond.instanceMethod yX5_isOpen, Cond.selects RX5 yX5_isOpen yX5_isOpen, Cond.initialized RX5, Cond.code yX5_isOpen cX5_isOpen 2 (some .boolean), Cond.fieldLink RX5 10 "FlameGuards$State" "settings" "LFlameGuards$Settings;", Cond.methodLink RX5 69 yX4_valueOf, Cond.instanceMethod yX4_valueOf, Cond.selects RX4 yX4_valueOf yX4_valueOf, Cond.initialized RX4, Cond.code yX4_valueOf cX4_valueOf 2 (some .int), Cond.fieldLink RX4 13 "FlameGuards$Settings" "values" "[I", Cond.static yX7_elementAt, Cond.initialized RX7, Cond.code yX7_elementAt cX7_elementAt 2 (some .int), Cond.methodLink RX5 73 yX0_isOpen, Cond.instanceMethod yX0_isOpen, Cond.selects RX0 yX0_isOpen yX0_isOpen, Cond.initialized RX0, Cond.code yX0_isOpen cX0_isOpen 2 (some .boolean), Cond.fieldLink RX0 29 "FlameGuards$Burner" "locked" "Z", Cond.fieldLink RX0 13 "FlameGuards$Burner" "tap" "I", Cond.fieldLink RX0 16 "FlameGuards$Burner" "pressed" "Z"]
def wsX5_flowsUnburnt_r2 : List Cond := [Cond.fieldLink RX0 26 "FlameGuards$Burner" "temperature" "I"]
def wsX5_flowsUnburnt : List Cond := .code yX5_flowsUnburnt cX5_flowsUnburnt 2 (some .boolean) :: ((wsX5_flowsUnburnt_r1 ++ wsX5_flowsUnburnt_r2) ++ wsX00 ++ wsX50 ++ wsX40)
def wsX5_flow_r1 : List Cond := [Cond.fieldLink RX5 146 "FlameGuards$Burner" "dark" "I", Cond.fieldLink RX5 60 "FlameGuards$State" "gas" "I", Cond.fieldLink RX5 151 "FlameGuards$Burner" "unburnt" "I", Cond.fieldLink RX5 66 "FlameGuards$State" "mostDark" "I", Cond.methodLink RX5 113 Lib.Math.max.name, Cond.static Lib.Math.max.name, Cond.initialized "java/lang/Math", Cond.code Lib.Math.max.name Lib.Math.max.code 2 (some .int), Cond.methodLink RX5 119 yX5_flowsUnburnt, Cond.instanceMethod yX5_flowsUnburnt, Cond.selects RX5 yX5_flowsUnburnt yX5_flowsUnburnt, Cond.initialized RX5, Cond.code yX5_flowsUnburnt cX5_flowsUnburnt 2 (some .boolean), Cond.fieldLink RX5 80 "FlameGuards$Burner" "flame" "Z", Cond.methodLink RX5 132 yX5_isOpen, Cond.instanceMethod yX5_isOpen, Cond.selects RX5 yX5_isOpen yX5_isOpen, Cond.code yX5_isOpen cX5_isOpen 2 (some .boolean), Cond.fieldLink RX5 10 "FlameGuards$State" "settings" "LFlameGuards$Settings;", Cond.methodLink RX5 69 yX4_valueOf, Cond.instanceMethod yX4_valueOf, Cond.selects RX4 yX4_valueOf yX4_valueOf, Cond.initialized RX4, Cond.code yX4_valueOf cX4_valueOf 2 (some .int)]
def wsX5_flow_r2 : List Cond := [Cond.fieldLink RX4 13 "FlameGuards$Settings" "values" "[I", Cond.static yX7_elementAt, Cond.initialized RX7, Cond.code yX7_elementAt cX7_elementAt 2 (some .int), Cond.methodLink RX5 73 yX0_isOpen, Cond.instanceMethod yX0_isOpen, Cond.selects RX0 yX0_isOpen yX0_isOpen, Cond.initialized RX0, Cond.code yX0_isOpen cX0_isOpen 2 (some .boolean), Cond.fieldLink RX0 29 "FlameGuards$Burner" "locked" "Z", Cond.fieldLink RX0 13 "FlameGuards$Burner" "tap" "I", Cond.fieldLink RX0 16 "FlameGuards$Burner" "pressed" "Z", Cond.fieldLink RX0 26 "FlameGuards$Burner" "temperature" "I", Cond.methodLink RX5 149 yX0_flow, Cond.instanceMethod yX0_flow, Cond.selects RX0 yX0_flow yX0_flow, Cond.code yX0_flow cX0_flow 1 (some .int), Cond.fieldLink RX0 41 "FlameGuards$Burner" "FLOW" "[I", Cond.methodLink RX0 45 yX0_told, Cond.instanceMethod yX0_told, Cond.selects RX0 yX0_told yX0_told, Cond.code yX0_told cX0_told 3 (some .int), Cond.fieldLink RX0 7 "FlameGuards$Burner" "kind" "I"]
def wsX5_flow : List Cond := .code yX5_flow cX5_flow 2 none :: ((wsX5_flow_r1 ++ wsX5_flow_r2) ++ wsX00 ++ wsX50 ++ wsX40)
def wsX5_passTick_r1 : List Cond := [Cond.fieldLink RX5 22 "FlameGuards$State" "burners" "[LFlameGuards$Burner;", Cond.fieldLink RX5 63 "FlameGuards$State" "mostGas" "I", Cond.fieldLink RX5 60 "FlameGuards$State" "gas" "I", Cond.methodLink RX5 113 Lib.Math.max.name, Cond.static Lib.Math.max.name, Cond.initialized "java/lang/Math", Cond.code Lib.Math.max.name Lib.Math.max.code 2 (some .int), Cond.fieldLink RX5 10 "FlameGuards$State" "settings" "LFlameGuards$Settings;", Cond.fieldLink RX5 56 "FlameGuards$State" "tick" "I", Cond.methodLink RX5 91 yX5_draft, Cond.instanceMethod yX5_draft, Cond.selects RX5 yX5_draft yX5_draft, Cond.initialized RX5, Cond.code yX5_draft cX5_draft 1 (some .int), Cond.fieldLink RX5 32 "FlameGuards$State" "drafts" "LFlameGuards$Plan;", Cond.methodLink RX5 77 yX3_draftIn, Cond.instanceMethod yX3_draftIn, Cond.selects RX3 yX3_draftIn yX3_draftIn, Cond.initialized RX3, Cond.code yX3_draftIn cX3_draftIn 4 (some .int), Cond.fieldLink RX3 16 "FlameGuards$Plan" "size" "I", Cond.fieldLink RX3 9 "FlameGuards$Plan" "ticks" "[I", Cond.fieldLink RX3 13 "FlameGuards$Plan" "values" "[I", Cond.methodLink RX5 95 yX5_allowsFire]
def wsX5_passTick_r2 : List Cond := [Cond.instanceMethod yX5_allowsFire, Cond.selects RX5 yX5_allowsFire yX5_allowsFire, Cond.code yX5_allowsFire cX5_allowsFire 1 (some .boolean), Cond.methodLink RX5 69 yX4_valueOf, Cond.instanceMethod yX4_valueOf, Cond.selects RX4 yX4_valueOf yX4_valueOf, Cond.initialized RX4, Cond.code yX4_valueOf cX4_valueOf 2 (some .int), Cond.fieldLink RX4 13 "FlameGuards$Settings" "values" "[I", Cond.static yX7_elementAt, Cond.initialized RX7, Cond.code yX7_elementAt cX7_elementAt 2 (some .int), Cond.methodLink RX5 99 yX5_blow, Cond.instanceMethod yX5_blow, Cond.selects RX5 yX5_blow yX5_blow, Cond.code yX5_blow cX5_blow 4 none, Cond.fieldLink RX5 80 "FlameGuards$Burner" "flame" "Z", Cond.fieldLink RX5 39 "FlameGuards$State" "log" "LFlameGuards$Log;", Cond.methodLink RX5 132 yX5_isOpen, Cond.instanceMethod yX5_isOpen, Cond.selects RX5 yX5_isOpen yX5_isOpen, Cond.code yX5_isOpen cX5_isOpen 2 (some .boolean), Cond.methodLink RX5 73 yX0_isOpen, Cond.instanceMethod yX0_isOpen]
def wsX5_passTick_r3 : List Cond := [Cond.selects RX0 yX0_isOpen yX0_isOpen, Cond.initialized RX0, Cond.code yX0_isOpen cX0_isOpen 2 (some .boolean), Cond.fieldLink RX0 29 "FlameGuards$Burner" "locked" "Z", Cond.fieldLink RX0 13 "FlameGuards$Burner" "tap" "I", Cond.fieldLink RX0 16 "FlameGuards$Burner" "pressed" "Z", Cond.fieldLink RX0 26 "FlameGuards$Burner" "temperature" "I", Cond.methodLink RX5 137 yX0_strength, Cond.instanceMethod yX0_strength, Cond.selects RX0 yX0_strength yX0_strength, Cond.code yX0_strength cX0_strength 1 (some .int), Cond.fieldLink RX0 49 "FlameGuards$Burner" "STRENGTH" "[I", Cond.methodLink RX0 45 yX0_told, Cond.instanceMethod yX0_told, Cond.selects RX0 yX0_told yX0_told, Cond.code yX0_told cX0_told 3 (some .int), Cond.fieldLink RX0 7 "FlameGuards$Burner" "kind" "I", Cond.methodLink RX5 87 yX2_note, Cond.instanceMethod yX2_note, Cond.selects RX2 yX2_note yX2_note, Cond.initialized RX2, Cond.code yX2_note cX2_note 4 none, Cond.fieldLink RX2 9 "FlameGuards$Log" "events" "[I", Cond.fieldLink RX2 13 "FlameGuards$Log" "burners" "[I"]
def wsX5_passTick_r4 : List Cond := [Cond.fieldLink RX2 16 "FlameGuards$Log" "ticks" "[I", Cond.fieldLink RX2 22 "FlameGuards$Log" "known" "I", Cond.methodLink RX2 36 Lib.Math.min.name, Cond.static Lib.Math.min.name, Cond.code Lib.Math.min.name Lib.Math.min.code 2 (some .int), Cond.fieldLink RX2 19 "FlameGuards$Log" "counts" "[I", Cond.methodLink RX2 32 yX2_putFirst, Cond.static yX2_putFirst, Cond.code yX2_putFirst cX2_putFirst 2 none, Cond.methodLink RX2 46 arraycopyName, Cond.native arraycopyName, Cond.static arraycopyName, Cond.initialized "java/lang/System", Cond.static yX7_isWithin, Cond.code yX7_isWithin cX7_isWithin 3 (some .boolean), Cond.methodLink RX5 103 yX5_spark, Cond.instanceMethod yX5_spark, Cond.selects RX5 yX5_spark yX5_spark, Cond.code yX5_spark cX5_spark 4 none, Cond.fieldLink RX5 123 "FlameGuards$Burner" "igniter" "Z", Cond.fieldLink RX5 84 "FlameGuards$Burner" "tries" "I", Cond.fieldLink RX5 134 "FlameGuards$Burner" "locked" "Z", Cond.methodLink RX5 140 yX5_kindle, Cond.instanceMethod yX5_kindle]
def wsX5_passTick_r5 : List Cond := [Cond.selects RX5 yX5_kindle yX5_kindle, Cond.code yX5_kindle cX5_kindle 3 none, Cond.methodLink RX5 106 yX5_warmOrDrop, Cond.instanceMethod yX5_warmOrDrop, Cond.selects RX5 yX5_warmOrDrop yX5_warmOrDrop, Cond.code yX5_warmOrDrop cX5_warmOrDrop 4 none, Cond.methodLink RX5 143 yX0_warmOrCool, Cond.instanceMethod yX0_warmOrCool, Cond.selects RX0 yX0_warmOrCool yX0_warmOrCool, Cond.code yX0_warmOrCool cX0_warmOrCool 1 none, Cond.fieldLink RX0 23 "FlameGuards$Burner" "flame" "Z", Cond.methodLink RX0 55 yX0_heatAt, Cond.instanceMethod yX0_heatAt, Cond.selects RX0 yX0_heatAt yX0_heatAt, Cond.code yX0_heatAt cX0_heatAt 2 (some .int), Cond.fieldLink RX0 52 "FlameGuards$Burner" "HEAT" "[I", Cond.methodLink RX0 59 yX0_temperatureAfter, Cond.instanceMethod yX0_temperatureAfter, Cond.selects RX0 yX0_temperatureAfter yX0_temperatureAfter, Cond.code yX0_temperatureAfter cX0_temperatureAfter 3 (some .int), Cond.fieldLink RX0 63 "FlameGuards$Burner" "WARMING" "[I", Cond.methodLink RX0 74 Lib.Math.min.name, Cond.fieldLink RX0 79 "FlameGuards$Burner" "COOLING" "[I", Cond.methodLink RX0 82 Lib.Math.max.name]
def wsX5_passTick_r6 : List Cond := [Cond.methodLink RX0 71 yX0_quotient, Cond.static yX0_quotient, Cond.code yX0_quotient cX0_quotient 2 (some .int), Cond.methodLink RX5 110 yX5_flow, Cond.instanceMethod yX5_flow, Cond.selects RX5 yX5_flow yX5_flow, Cond.code yX5_flow cX5_flow 2 none, Cond.fieldLink RX5 146 "FlameGuards$Burner" "dark" "I", Cond.fieldLink RX5 151 "FlameGuards$Burner" "unburnt" "I", Cond.fieldLink RX5 66 "FlameGuards$State" "mostDark" "I", Cond.methodLink RX5 119 yX5_flowsUnburnt, Cond.instanceMethod yX5_flowsUnburnt, Cond.selects RX5 yX5_flowsUnburnt yX5_flowsUnburnt, Cond.code yX5_flowsUnburnt cX5_flowsUnburnt 2 (some .boolean), Cond.methodLink RX5 149 yX0_flow, Cond.instanceMethod yX0_flow, Cond.selects RX0 yX0_flow yX0_flow, Cond.code yX0_flow cX0_flow 1 (some .int), Cond.fieldLink RX0 41 "FlameGuards$Burner" "FLOW" "[I"]
def wsX5_passTick : List Cond := .code yX5_passTick cX5_passTick 5 none :: ((wsX5_passTick_r1 ++ (wsX5_passTick_r2 ++ (wsX5_passTick_r3 ++ (wsX5_passTick_r4 ++ (wsX5_passTick_r5 ++ wsX5_passTick_r6))))) ++ wsX50 ++ wsX30 ++ wsX40 ++ wsX00 ++ wsX20)
def wsX5_isClear_r1 : List Cond := [Cond.fieldLink RX5 60 "FlameGuards$State" "gas" "I", Cond.fieldLink RX5 22 "FlameGuards$State" "burners" "[LFlameGuards$Burner;", Cond.methodLink RX5 119 yX5_flowsUnburnt, Cond.instanceMethod yX5_flowsUnburnt, Cond.selects RX5 yX5_flowsUnburnt yX5_flowsUnburnt, Cond.initialized RX5, Cond.code yX5_flowsUnburnt cX5_flowsUnburnt 2 (some .boolean), Cond.fieldLink RX5 80 "FlameGuards$Burner" "flame" "Z", Cond.methodLink RX5 132 yX5_isOpen, Cond.instanceMethod yX5_isOpen, Cond.selects RX5 yX5_isOpen yX5_isOpen, Cond.code yX5_isOpen cX5_isOpen 2 (some .boolean), Cond.fieldLink RX5 10 "FlameGuards$State" "settings" "LFlameGuards$Settings;", Cond.methodLink RX5 69 yX4_valueOf, Cond.instanceMethod yX4_valueOf, Cond.selects RX4 yX4_valueOf yX4_valueOf, Cond.initialized RX4, Cond.code yX4_valueOf cX4_valueOf 2 (some .int), Cond.fieldLink RX4 13 "FlameGuards$Settings" "values" "[I", Cond.static yX7_elementAt, Cond.initialized RX7, Cond.code yX7_elementAt cX7_elementAt 2 (some .int), Cond.methodLink RX5 73 yX0_isOpen, Cond.instanceMethod yX0_isOpen]
def wsX5_isClear_r2 : List Cond := [Cond.selects RX0 yX0_isOpen yX0_isOpen, Cond.initialized RX0, Cond.code yX0_isOpen cX0_isOpen 2 (some .boolean), Cond.fieldLink RX0 29 "FlameGuards$Burner" "locked" "Z", Cond.fieldLink RX0 13 "FlameGuards$Burner" "tap" "I", Cond.fieldLink RX0 16 "FlameGuards$Burner" "pressed" "Z", Cond.fieldLink RX0 26 "FlameGuards$Burner" "temperature" "I"]
def wsX5_isClear : List Cond := .code yX5_isClear cX5_isClear 5 (some .boolean) :: ((wsX5_isClear_r1 ++ wsX5_isClear_r2) ++ wsX50 ++ wsX00 ++ wsX40)
def wsX7_oneIf : List Cond := .code yX7_oneIf cX7_oneIf 1 (some .int) :: ([])
def wsX5_ignitersOn : List Cond := .code yX5_ignitersOn cX5_ignitersOn 6 (some .int) :: ([.fieldLink RX5 22 "FlameGuards$State" "burners" "[LFlameGuards$Burner;", .fieldLink RX5 123 "FlameGuards$Burner" "igniter" "Z", .static yX7_oneIf, .initialized RX7, .code yX7_oneIf cX7_oneIf 1 (some .int)] ++ wsX50 ++ wsX00)
def wsX5_flames : List Cond := .code yX5_flames cX5_flames 6 (some .int) :: ([.fieldLink RX5 22 "FlameGuards$State" "burners" "[LFlameGuards$Burner;", .fieldLink RX5 80 "FlameGuards$Burner" "flame" "Z", .static yX7_oneIf, .initialized RX7, .code yX7_oneIf cX7_oneIf 1 (some .int)] ++ wsX50 ++ wsX00)
def wsX5_openValves_r1 : List Cond := [Cond.fieldLink RX5 22 "FlameGuards$State" "burners" "[LFlameGuards$Burner;", Cond.methodLink RX5 132 yX5_isOpen, Cond.instanceMethod yX5_isOpen, Cond.selects RX5 yX5_isOpen yX5_isOpen, Cond.initialized RX5, Cond.code yX5_isOpen cX5_isOpen 2 (some .boolean), Cond.fieldLink RX5 10 "FlameGuards$State" "settings" "LFlameGuards$Settings;", Cond.methodLink RX5 69 yX4_valueOf, Cond.instanceMethod yX4_valueOf, Cond.selects RX4 yX4_valueOf yX4_valueOf, Cond.initialized RX4, Cond.code yX4_valueOf cX4_valueOf 2 (some .int), Cond.fieldLink RX4 13 "FlameGuards$Settings" "values" "[I", Cond.static yX7_elementAt, Cond.initialized RX7, Cond.code yX7_elementAt cX7_elementAt 2 (some .int), Cond.methodLink RX5 73 yX0_isOpen, Cond.instanceMethod yX0_isOpen, Cond.selects RX0 yX0_isOpen yX0_isOpen, Cond.initialized RX0, Cond.code yX0_isOpen cX0_isOpen 2 (some .boolean), Cond.fieldLink RX0 29 "FlameGuards$Burner" "locked" "Z", Cond.fieldLink RX0 13 "FlameGuards$Burner" "tap" "I", Cond.fieldLink RX0 16 "FlameGuards$Burner" "pressed" "Z"]
def wsX5_openValves_r2 : List Cond := [Cond.fieldLink RX0 26 "FlameGuards$Burner" "temperature" "I", Cond.static yX7_oneIf, Cond.code yX7_oneIf cX7_oneIf 1 (some .int)]
def wsX5_openValves : List Cond := .code yX5_openValves cX5_openValves 6 (some .int) :: ((wsX5_openValves_r1 ++ wsX5_openValves_r2) ++ wsX50 ++ wsX40 ++ wsX00)
def wsX5_lockedBurners : List Cond := .code yX5_lockedBurners cX5_lockedBurners 6 (some .int) :: ([.fieldLink RX5 22 "FlameGuards$State" "burners" "[LFlameGuards$Burner;", .fieldLink RX5 134 "FlameGuards$Burner" "locked" "Z", .static yX7_oneIf, .initialized RX7, .code yX7_oneIf cX7_oneIf 1 (some .int)] ++ wsX50 ++ wsX00)
def wsX6_init : List Cond := .code yX6_init cX6_init 1 none :: ([.methodLink RX6 1 objectInit, .instanceMethod objectInit, .code objectInit ⟨#[0xb1]⟩ 1 none, .arrayClass .char, .fieldLink RX6 9 "FlameGuards$Text" "characters" "[C", .fieldLink RX6 13 "FlameGuards$Text" "length" "I"] ++ wsX60)
def wsX6_append : List Cond := .code yX6_append cX6_append 2 (some .boolean) :: ([.fieldLink RX6 13 "FlameGuards$Text" "length" "I", .fieldLink RX6 9 "FlameGuards$Text" "characters" "[C"] ++ wsX60)
def wsX6_empty : List Cond := .code yX6_empty cX6_empty 1 none :: ([.fieldLink RX6 13 "FlameGuards$Text" "length" "I"] ++ wsX60)
def wsX6_isDigit : List Cond := .code yX6_isDigit cX6_isDigit 1 (some .boolean) :: ([])
def wsX6_placeAfter : List Cond := .code yX6_placeAfter cX6_placeAfter 2 (some .int) :: ([.methodLink RX6 30 yX6_isDigit, .static yX6_isDigit, .initialized RX6, .code yX6_isDigit cX6_isDigit 1 (some .boolean)])
def wsX6_fault : List Cond := .code yX6_fault cX6_fault 3 (some .int) :: ([.fieldLink RX6 13 "FlameGuards$Text" "length" "I", .fieldLink RX6 9 "FlameGuards$Text" "characters" "[C", .methodLink RX6 17 yX6_placeAfter, .static yX6_placeAfter, .initialized RX6, .code yX6_placeAfter cX6_placeAfter 2 (some .int), .methodLink RX6 30 yX6_isDigit, .static yX6_isDigit, .code yX6_isDigit cX6_isDigit 1 (some .boolean)] ++ wsX60)
def wsX6_readInto_r1 : List Cond := [Cond.fieldLink RX6 13 "FlameGuards$Text" "length" "I", Cond.fieldLink RX6 9 "FlameGuards$Text" "characters" "[C", Cond.methodLink RX6 21 yX3_clear, Cond.instanceMethod yX3_clear, Cond.selects RX3 yX3_clear yX3_clear, Cond.initialized RX3, Cond.code yX3_clear cX3_clear 1 none, Cond.fieldLink RX3 16 "FlameGuards$Plan" "size" "I", Cond.methodLink RX6 26 yX3_put, Cond.instanceMethod yX3_put, Cond.selects RX3 yX3_put yX3_put, Cond.code yX3_put cX3_put 4 (some .boolean), Cond.fieldLink RX3 9 "FlameGuards$Plan" "ticks" "[I", Cond.fieldLink RX3 13 "FlameGuards$Plan" "values" "[I", Cond.methodLink RX3 34 yX3_hasRoomFor, Cond.instanceMethod yX3_hasRoomFor, Cond.selects RX3 yX3_hasRoomFor yX3_hasRoomFor, Cond.code yX3_hasRoomFor cX3_hasRoomFor 2 (some .boolean), Cond.methodLink RX3 26 yX3_placeOf, Cond.instanceMethod yX3_placeOf, Cond.selects RX3 yX3_placeOf yX3_placeOf, Cond.code yX3_placeOf cX3_placeOf 3 (some .int), Cond.methodLink RX3 38 yX3_makePlaceFor, Cond.instanceMethod yX3_makePlaceFor]
def wsX6_readInto_r2 : List Cond := [Cond.selects RX3 yX3_makePlaceFor yX3_makePlaceFor, Cond.code yX3_makePlaceFor cX3_makePlaceFor 3 (some .int)]
def wsX6_readInto : List Cond := .code yX6_readInto cX6_readInto 6 (some .boolean) :: ((wsX6_readInto_r1 ++ wsX6_readInto_r2) ++ wsX60 ++ wsX30)
def wsX7_init_r1 : List Cond := [Cond.methodLink RX7 1 objectInit, Cond.instanceMethod objectInit, Cond.code objectInit ⟨#[0xb1]⟩ 1 none, Cond.classLink RX7 7 RX5, Cond.instantiable RX5 8, Cond.initialized RX5, Cond.fieldLink RX7 10 "FlameGuards" "state" "LFlameGuards$State;", Cond.fieldLink RX7 16 "FlameGuards" "snapshot" "LFlameGuards$State;", Cond.fieldLink RX7 19 "FlameGuards" "trial" "LFlameGuards$State;", Cond.classLink RX7 22 RX3, Cond.instantiable RX3 3, Cond.initialized RX3, Cond.fieldLink RX7 25 "FlameGuards" "planRead" "LFlameGuards$Plan;", Cond.classLink RX7 29 RX1, Cond.instantiable RX1 2, Cond.initialized RX1, Cond.fieldLink RX7 32 "FlameGuards" "history" "LFlameGuards$History;", Cond.classLink RX7 36 RX6, Cond.instantiable RX6 2, Cond.initialized RX6, Cond.fieldLink RX7 39 "FlameGuards" "text" "LFlameGuards$Text;", Cond.fieldLink RX7 43 "FlameGuards" "hasSnapshot" "Z", Cond.methodLink RX7 9 yX5_init, Cond.instanceMethod yX5_init]
def wsX7_init_r2 : List Cond := [Cond.code yX5_init cX5_init 2 none, Cond.methodLink RX5 1 objectInit, Cond.classLink RX5 7 RX4, Cond.instantiable RX4 1, Cond.initialized RX4, Cond.fieldLink RX5 10 "FlameGuards$State" "settings" "LFlameGuards$Settings;", Cond.fieldLink RX5 16 "FlameGuards$State" "FIRST_KINDS" "[I", Cond.classLink RX5 20 RX0, Cond.fieldLink RX5 22 "FlameGuards$State" "burners" "[LFlameGuards$Burner;", Cond.instantiable RX0 10, Cond.initialized RX0, Cond.classLink RX5 29 RX3, Cond.fieldLink RX5 32 "FlameGuards$State" "drafts" "LFlameGuards$Plan;", Cond.classLink RX5 36 RX2, Cond.instantiable RX2 5, Cond.initialized RX2, Cond.fieldLink RX5 39 "FlameGuards$State" "log" "LFlameGuards$Log;", Cond.methodLink RX5 9 yX4_init, Cond.instanceMethod yX4_init, Cond.code yX4_init cX4_init 1 none, Cond.methodLink RX4 1 objectInit, Cond.fieldLink RX4 7 "FlameGuards$Settings" "FIRST" "[I", Cond.arrayClass .int, Cond.fieldLink RX4 13 "FlameGuards$Settings" "values" "[I"]
def wsX7_init_r3 : List Cond := [Cond.static yX7_copyRow, Cond.initialized RX7, Cond.code yX7_copyRow cX7_copyRow 2 none, Cond.methodLink RX7 254 Lib.Math.min.name, Cond.static Lib.Math.min.name, Cond.initialized "java/lang/Math", Cond.code Lib.Math.min.name Lib.Math.min.code 2 (some .int), Cond.methodLink RX7 259 arraycopyName, Cond.native arraycopyName, Cond.static arraycopyName, Cond.initialized "java/lang/System", Cond.methodLink RX5 26 yX0_init, Cond.instanceMethod yX0_init, Cond.code yX0_init cX0_init 2 none, Cond.methodLink RX0 1 objectInit, Cond.fieldLink RX0 7 "FlameGuards$Burner" "kind" "I", Cond.methodLink RX5 31 yX3_init, Cond.instanceMethod yX3_init, Cond.code yX3_init cX3_init 1 none, Cond.methodLink RX3 1 objectInit, Cond.fieldLink RX3 9 "FlameGuards$Plan" "ticks" "[I", Cond.fieldLink RX3 13 "FlameGuards$Plan" "values" "[I", Cond.fieldLink RX3 16 "FlameGuards$Plan" "size" "I", Cond.methodLink RX5 38 yX2_init]
def wsX7_init_r4 : List Cond := [Cond.instanceMethod yX2_init, Cond.code yX2_init cX2_init 1 none, Cond.methodLink RX2 1 objectInit, Cond.fieldLink RX2 9 "FlameGuards$Log" "events" "[I", Cond.fieldLink RX2 13 "FlameGuards$Log" "burners" "[I", Cond.fieldLink RX2 16 "FlameGuards$Log" "ticks" "[I", Cond.fieldLink RX2 19 "FlameGuards$Log" "counts" "[I", Cond.fieldLink RX2 22 "FlameGuards$Log" "known" "I", Cond.methodLink RX7 24 yX3_init, Cond.methodLink RX7 31 yX1_init, Cond.instanceMethod yX1_init, Cond.code yX1_init cX1_init 2 none, Cond.methodLink RX1 1 objectInit, Cond.classLink RX1 9 RX5, Cond.fieldLink RX1 11 "FlameGuards$History" "states" "[LFlameGuards$State;", Cond.fieldLink RX1 16 "FlameGuards$History" "size" "I", Cond.methodLink RX1 15 yX5_init, Cond.methodLink RX7 38 yX6_init, Cond.instanceMethod yX6_init, Cond.code yX6_init cX6_init 1 none, Cond.methodLink RX6 1 objectInit, Cond.arrayClass .char, Cond.fieldLink RX6 9 "FlameGuards$Text" "characters" "[C", Cond.fieldLink RX6 13 "FlameGuards$Text" "length" "I"]
def wsX7_init : List Cond := .code yX7_init cX7_init 1 none :: ((wsX7_init_r1 ++ (wsX7_init_r2 ++ (wsX7_init_r3 ++ wsX7_init_r4))) ++ wsX50 ++ wsX70 ++ wsX30 ++ wsX10 ++ wsX60 ++ wsX40 ++ wsX00 ++ wsX20)
def wsX7_set_r1 : List Cond := [Cond.fieldLink RX7 10 "FlameGuards" "state" "LFlameGuards$State;", Cond.fieldLink RX7 57 "FlameGuards$State" "settings" "LFlameGuards$Settings;", Cond.fieldLink RX7 32 "FlameGuards" "history" "LFlameGuards$History;", Cond.methodLink RX7 47 yX4_isOne, Cond.static yX4_isOne, Cond.initialized RX4, Cond.code yX4_isOne cX4_isOne 1 (some .boolean), Cond.fieldLink RX4 7 "FlameGuards$Settings" "FIRST" "[I", Cond.static yX7_isWithin, Cond.initialized RX7, Cond.code yX7_isWithin cX7_isWithin 3 (some .boolean), Cond.methodLink RX7 53 yX4_allows, Cond.static yX4_allows, Cond.code yX4_allows cX4_allows 2 (some .boolean), Cond.fieldLink RX4 26 "FlameGuards$Settings" "LEAST" "[I", Cond.fieldLink RX4 33 "FlameGuards$Settings" "MOST" "[I", Cond.static yX7_elementAt, Cond.code yX7_elementAt cX7_elementAt 2 (some .int), Cond.methodLink RX7 61 yX4_valueOf, Cond.instanceMethod yX4_valueOf, Cond.selects RX4 yX4_valueOf yX4_valueOf, Cond.code yX4_valueOf cX4_valueOf 2 (some .int), Cond.fieldLink RX4 13 "FlameGuards$Settings" "values" "[I", Cond.methodLink RX7 65 yX1_record]
def wsX7_set_r2 : List Cond := [Cond.instanceMethod yX1_record, Cond.selects RX1 yX1_record yX1_record, Cond.initialized RX1, Cond.code yX1_record cX1_record 2 none, Cond.fieldLink RX1 16 "FlameGuards$History" "size" "I", Cond.fieldLink RX1 11 "FlameGuards$History" "states" "[LFlameGuards$State;", Cond.methodLink RX1 20 yX1_dropOldest, Cond.instanceMethod yX1_dropOldest, Cond.selects RX1 yX1_dropOldest yX1_dropOldest, Cond.code yX1_dropOldest cX1_dropOldest 3 none, Cond.methodLink RX1 23 yX5_copyFrom, Cond.instanceMethod yX5_copyFrom, Cond.selects RX5 yX5_copyFrom yX5_copyFrom, Cond.initialized RX5, Cond.code yX5_copyFrom cX5_copyFrom 3 none, Cond.fieldLink RX5 10 "FlameGuards$State" "settings" "LFlameGuards$Settings;", Cond.fieldLink RX5 22 "FlameGuards$State" "burners" "[LFlameGuards$Burner;", Cond.fieldLink RX5 32 "FlameGuards$State" "drafts" "LFlameGuards$Plan;", Cond.fieldLink RX5 39 "FlameGuards$State" "log" "LFlameGuards$Log;", Cond.fieldLink RX5 56 "FlameGuards$State" "tick" "I", Cond.fieldLink RX5 60 "FlameGuards$State" "gas" "I", Cond.fieldLink RX5 63 "FlameGuards$State" "mostGas" "I", Cond.fieldLink RX5 66 "FlameGuards$State" "mostDark" "I", Cond.methodLink RX5 43 yX4_copyFrom]
def wsX7_set_r3 : List Cond := [Cond.instanceMethod yX4_copyFrom, Cond.selects RX4 yX4_copyFrom yX4_copyFrom, Cond.code yX4_copyFrom cX4_copyFrom 2 none, Cond.static yX7_copyRow, Cond.code yX7_copyRow cX7_copyRow 2 none, Cond.methodLink RX7 254 Lib.Math.min.name, Cond.static Lib.Math.min.name, Cond.initialized "java/lang/Math", Cond.code Lib.Math.min.name Lib.Math.min.code 2 (some .int), Cond.methodLink RX7 259 arraycopyName, Cond.native arraycopyName, Cond.static arraycopyName, Cond.initialized "java/lang/System", Cond.methodLink RX5 47 yX0_copyFrom, Cond.instanceMethod yX0_copyFrom, Cond.selects RX0 yX0_copyFrom yX0_copyFrom, Cond.initialized RX0, Cond.code yX0_copyFrom cX0_copyFrom 2 none, Cond.fieldLink RX0 7 "FlameGuards$Burner" "kind" "I", Cond.fieldLink RX0 13 "FlameGuards$Burner" "tap" "I", Cond.fieldLink RX0 16 "FlameGuards$Burner" "pressed" "Z", Cond.fieldLink RX0 20 "FlameGuards$Burner" "igniter" "Z", Cond.fieldLink RX0 23 "FlameGuards$Burner" "flame" "Z", Cond.fieldLink RX0 26 "FlameGuards$Burner" "temperature" "I"]
def wsX7_set_r4 : List Cond := [Cond.fieldLink RX0 29 "FlameGuards$Burner" "locked" "Z", Cond.fieldLink RX0 32 "FlameGuards$Burner" "tries" "I", Cond.fieldLink RX0 35 "FlameGuards$Burner" "dark" "I", Cond.fieldLink RX0 38 "FlameGuards$Burner" "unburnt" "I", Cond.methodLink RX5 50 yX3_copyFrom, Cond.instanceMethod yX3_copyFrom, Cond.selects RX3 yX3_copyFrom yX3_copyFrom, Cond.initialized RX3, Cond.code yX3_copyFrom cX3_copyFrom 2 none, Cond.fieldLink RX3 9 "FlameGuards$Plan" "ticks" "[I", Cond.fieldLink RX3 13 "FlameGuards$Plan" "values" "[I", Cond.fieldLink RX3 16 "FlameGuards$Plan" "size" "I", Cond.methodLink RX5 53 yX2_copyFrom, Cond.instanceMethod yX2_copyFrom, Cond.selects RX2 yX2_copyFrom yX2_copyFrom, Cond.initialized RX2, Cond.code yX2_copyFrom cX2_copyFrom 2 none, Cond.fieldLink RX2 9 "FlameGuards$Log" "events" "[I", Cond.fieldLink RX2 13 "FlameGuards$Log" "burners" "[I", Cond.fieldLink RX2 16 "FlameGuards$Log" "ticks" "[I", Cond.fieldLink RX2 19 "FlameGuards$Log" "counts" "[I", Cond.fieldLink RX2 22 "FlameGuards$Log" "known" "I", Cond.methodLink RX7 69 yX4_change, Cond.instanceMethod yX4_change]
def wsX7_set_r5 : List Cond := [Cond.selects RX4 yX4_change yX4_change, Cond.code yX4_change cX4_change 3 none, Cond.methodLink RX4 36 yX4_isOne]
def wsX7_set : List Cond := .code yX7_set cX7_set 4 (some .int) :: ((wsX7_set_r1 ++ (wsX7_set_r2 ++ (wsX7_set_r3 ++ (wsX7_set_r4 ++ wsX7_set_r5)))) ++ wsX70 ++ wsX50 ++ wsX40 ++ wsX10 ++ wsX00 ++ wsX30 ++ wsX20)
def wsX7_setKind_r1 : List Cond := [Cond.fieldLink RX7 10 "FlameGuards" "state" "LFlameGuards$State;", Cond.fieldLink RX7 83 "FlameGuards$Burner" "tap" "I", Cond.fieldLink RX7 87 "FlameGuards$Burner" "kind" "I", Cond.fieldLink RX7 32 "FlameGuards" "history" "LFlameGuards$History;", Cond.methodLink RX7 73 yX5_find, Cond.instanceMethod yX5_find, Cond.selects RX5 yX5_find yX5_find, Cond.initialized RX5, Cond.code yX5_find cX5_find 2 (some (.object "FlameGuards$Burner")), Cond.fieldLink RX5 22 "FlameGuards$State" "burners" "[LFlameGuards$Burner;", Cond.methodLink RX7 79 yX7_isWithin, Cond.static yX7_isWithin, Cond.initialized RX7, Cond.code yX7_isWithin cX7_isWithin 3 (some .boolean), Cond.methodLink RX7 65 yX1_record, Cond.instanceMethod yX1_record, Cond.selects RX1 yX1_record yX1_record, Cond.initialized RX1, Cond.code yX1_record cX1_record 2 none, Cond.fieldLink RX1 16 "FlameGuards$History" "size" "I", Cond.fieldLink RX1 11 "FlameGuards$History" "states" "[LFlameGuards$State;", Cond.methodLink RX1 20 yX1_dropOldest, Cond.instanceMethod yX1_dropOldest, Cond.selects RX1 yX1_dropOldest yX1_dropOldest]
def wsX7_setKind_r2 : List Cond := [Cond.code yX1_dropOldest cX1_dropOldest 3 none, Cond.methodLink RX1 23 yX5_copyFrom, Cond.instanceMethod yX5_copyFrom, Cond.selects RX5 yX5_copyFrom yX5_copyFrom, Cond.code yX5_copyFrom cX5_copyFrom 3 none, Cond.fieldLink RX5 10 "FlameGuards$State" "settings" "LFlameGuards$Settings;", Cond.fieldLink RX5 32 "FlameGuards$State" "drafts" "LFlameGuards$Plan;", Cond.fieldLink RX5 39 "FlameGuards$State" "log" "LFlameGuards$Log;", Cond.fieldLink RX5 56 "FlameGuards$State" "tick" "I", Cond.fieldLink RX5 60 "FlameGuards$State" "gas" "I", Cond.fieldLink RX5 63 "FlameGuards$State" "mostGas" "I", Cond.fieldLink RX5 66 "FlameGuards$State" "mostDark" "I", Cond.methodLink RX5 43 yX4_copyFrom, Cond.instanceMethod yX4_copyFrom, Cond.selects RX4 yX4_copyFrom yX4_copyFrom, Cond.initialized RX4, Cond.code yX4_copyFrom cX4_copyFrom 2 none, Cond.fieldLink RX4 13 "FlameGuards$Settings" "values" "[I", Cond.static yX7_copyRow, Cond.code yX7_copyRow cX7_copyRow 2 none, Cond.methodLink RX7 254 Lib.Math.min.name, Cond.static Lib.Math.min.name, Cond.initialized "java/lang/Math", Cond.code Lib.Math.min.name Lib.Math.min.code 2 (some .int)]
def wsX7_setKind_r3 : List Cond := [Cond.methodLink RX7 259 arraycopyName, Cond.native arraycopyName, Cond.static arraycopyName, Cond.initialized "java/lang/System", Cond.methodLink RX5 47 yX0_copyFrom, Cond.instanceMethod yX0_copyFrom, Cond.selects RX0 yX0_copyFrom yX0_copyFrom, Cond.initialized RX0, Cond.code yX0_copyFrom cX0_copyFrom 2 none, Cond.fieldLink RX0 7 "FlameGuards$Burner" "kind" "I", Cond.fieldLink RX0 13 "FlameGuards$Burner" "tap" "I", Cond.fieldLink RX0 16 "FlameGuards$Burner" "pressed" "Z", Cond.fieldLink RX0 20 "FlameGuards$Burner" "igniter" "Z", Cond.fieldLink RX0 23 "FlameGuards$Burner" "flame" "Z", Cond.fieldLink RX0 26 "FlameGuards$Burner" "temperature" "I", Cond.fieldLink RX0 29 "FlameGuards$Burner" "locked" "Z", Cond.fieldLink RX0 32 "FlameGuards$Burner" "tries" "I", Cond.fieldLink RX0 35 "FlameGuards$Burner" "dark" "I", Cond.fieldLink RX0 38 "FlameGuards$Burner" "unburnt" "I", Cond.methodLink RX5 50 yX3_copyFrom, Cond.instanceMethod yX3_copyFrom, Cond.selects RX3 yX3_copyFrom yX3_copyFrom, Cond.initialized RX3, Cond.code yX3_copyFrom cX3_copyFrom 2 none]
def wsX7_setKind_r4 : List Cond := [Cond.fieldLink RX3 9 "FlameGuards$Plan" "ticks" "[I", Cond.fieldLink RX3 13 "FlameGuards$Plan" "values" "[I", Cond.fieldLink RX3 16 "FlameGuards$Plan" "size" "I", Cond.methodLink RX5 53 yX2_copyFrom, Cond.instanceMethod yX2_copyFrom, Cond.selects RX2 yX2_copyFrom yX2_copyFrom, Cond.initialized RX2, Cond.code yX2_copyFrom cX2_copyFrom 2 none, Cond.fieldLink RX2 9 "FlameGuards$Log" "events" "[I", Cond.fieldLink RX2 13 "FlameGuards$Log" "burners" "[I", Cond.fieldLink RX2 16 "FlameGuards$Log" "ticks" "[I", Cond.fieldLink RX2 19 "FlameGuards$Log" "counts" "[I", Cond.fieldLink RX2 22 "FlameGuards$Log" "known" "I"]
def wsX7_setKind : List Cond := .code yX7_setKind cX7_setKind 5 (some .int) :: ((wsX7_setKind_r1 ++ (wsX7_setKind_r2 ++ (wsX7_setKind_r3 ++ wsX7_setKind_r4))) ++ wsX70 ++ wsX00 ++ wsX50 ++ wsX10 ++ wsX40 ++ wsX30 ++ wsX20)
def wsX7_plan_r1 : List Cond := [Cond.fieldLink RX7 10 "FlameGuards" "state" "LFlameGuards$State;", Cond.fieldLink RX7 90 "FlameGuards$State" "drafts" "LFlameGuards$Plan;", Cond.fieldLink RX7 32 "FlameGuards" "history" "LFlameGuards$History;", Cond.fieldLink RX7 102 "FlameGuards$Plan" "size" "I", Cond.methodLink RX7 79 yX7_isWithin, Cond.static yX7_isWithin, Cond.initialized RX7, Cond.code yX7_isWithin cX7_isWithin 3 (some .boolean), Cond.methodLink RX7 93 yX3_hasRoomFor, Cond.instanceMethod yX3_hasRoomFor, Cond.selects RX3 yX3_hasRoomFor yX3_hasRoomFor, Cond.initialized RX3, Cond.code yX3_hasRoomFor cX3_hasRoomFor 2 (some .boolean), Cond.fieldLink RX3 16 "FlameGuards$Plan" "size" "I", Cond.methodLink RX3 26 yX3_placeOf, Cond.instanceMethod yX3_placeOf, Cond.selects RX3 yX3_placeOf yX3_placeOf, Cond.code yX3_placeOf cX3_placeOf 3 (some .int), Cond.fieldLink RX3 9 "FlameGuards$Plan" "ticks" "[I", Cond.methodLink RX7 96 yX3_holds, Cond.instanceMethod yX3_holds, Cond.selects RX3 yX3_holds yX3_holds, Cond.code yX3_holds cX3_holds 4 (some .boolean), Cond.fieldLink RX3 13 "FlameGuards$Plan" "values" "[I"]
def wsX7_plan_r2 : List Cond := [Cond.static yX7_elementAt, Cond.code yX7_elementAt cX7_elementAt 2 (some .int), Cond.methodLink RX7 65 yX1_record, Cond.instanceMethod yX1_record, Cond.selects RX1 yX1_record yX1_record, Cond.initialized RX1, Cond.code yX1_record cX1_record 2 none, Cond.fieldLink RX1 16 "FlameGuards$History" "size" "I", Cond.fieldLink RX1 11 "FlameGuards$History" "states" "[LFlameGuards$State;", Cond.methodLink RX1 20 yX1_dropOldest, Cond.instanceMethod yX1_dropOldest, Cond.selects RX1 yX1_dropOldest yX1_dropOldest, Cond.code yX1_dropOldest cX1_dropOldest 3 none, Cond.methodLink RX1 23 yX5_copyFrom, Cond.instanceMethod yX5_copyFrom, Cond.selects RX5 yX5_copyFrom yX5_copyFrom, Cond.initialized RX5, Cond.code yX5_copyFrom cX5_copyFrom 3 none, Cond.fieldLink RX5 10 "FlameGuards$State" "settings" "LFlameGuards$Settings;", Cond.fieldLink RX5 22 "FlameGuards$State" "burners" "[LFlameGuards$Burner;", Cond.fieldLink RX5 32 "FlameGuards$State" "drafts" "LFlameGuards$Plan;", Cond.fieldLink RX5 39 "FlameGuards$State" "log" "LFlameGuards$Log;", Cond.fieldLink RX5 56 "FlameGuards$State" "tick" "I", Cond.fieldLink RX5 60 "FlameGuards$State" "gas" "I"]
def wsX7_plan_r3 : List Cond := [Cond.fieldLink RX5 63 "FlameGuards$State" "mostGas" "I", Cond.fieldLink RX5 66 "FlameGuards$State" "mostDark" "I", Cond.methodLink RX5 43 yX4_copyFrom, Cond.instanceMethod yX4_copyFrom, Cond.selects RX4 yX4_copyFrom yX4_copyFrom, Cond.initialized RX4, Cond.code yX4_copyFrom cX4_copyFrom 2 none, Cond.fieldLink RX4 13 "FlameGuards$Settings" "values" "[I", Cond.static yX7_copyRow, Cond.code yX7_copyRow cX7_copyRow 2 none, Cond.methodLink RX7 254 Lib.Math.min.name, Cond.static Lib.Math.min.name, Cond.initialized "java/lang/Math", Cond.code Lib.Math.min.name Lib.Math.min.code 2 (some .int), Cond.methodLink RX7 259 arraycopyName, Cond.native arraycopyName, Cond.static arraycopyName, Cond.initialized "java/lang/System", Cond.methodLink RX5 47 yX0_copyFrom, Cond.instanceMethod yX0_copyFrom, Cond.selects RX0 yX0_copyFrom yX0_copyFrom, Cond.initialized RX0, Cond.code yX0_copyFrom cX0_copyFrom 2 none, Cond.fieldLink RX0 7 "FlameGuards$Burner" "kind" "I"]
def wsX7_plan_r4 : List Cond := [Cond.fieldLink RX0 13 "FlameGuards$Burner" "tap" "I", Cond.fieldLink RX0 16 "FlameGuards$Burner" "pressed" "Z", Cond.fieldLink RX0 20 "FlameGuards$Burner" "igniter" "Z", Cond.fieldLink RX0 23 "FlameGuards$Burner" "flame" "Z", Cond.fieldLink RX0 26 "FlameGuards$Burner" "temperature" "I", Cond.fieldLink RX0 29 "FlameGuards$Burner" "locked" "Z", Cond.fieldLink RX0 32 "FlameGuards$Burner" "tries" "I", Cond.fieldLink RX0 35 "FlameGuards$Burner" "dark" "I", Cond.fieldLink RX0 38 "FlameGuards$Burner" "unburnt" "I", Cond.methodLink RX5 50 yX3_copyFrom, Cond.instanceMethod yX3_copyFrom, Cond.selects RX3 yX3_copyFrom yX3_copyFrom, Cond.code yX3_copyFrom cX3_copyFrom 2 none, Cond.methodLink RX5 53 yX2_copyFrom, Cond.instanceMethod yX2_copyFrom, Cond.selects RX2 yX2_copyFrom yX2_copyFrom, Cond.initialized RX2, Cond.code yX2_copyFrom cX2_copyFrom 2 none, Cond.fieldLink RX2 9 "FlameGuards$Log" "events" "[I", Cond.fieldLink RX2 13 "FlameGuards$Log" "burners" "[I", Cond.fieldLink RX2 16 "FlameGuards$Log" "ticks" "[I", Cond.fieldLink RX2 19 "FlameGuards$Log" "counts" "[I", Cond.fieldLink RX2 22 "FlameGuards$Log" "known" "I", Cond.methodLink RX7 99 yX3_put]
def wsX7_plan_r5 : List Cond := [Cond.instanceMethod yX3_put, Cond.selects RX3 yX3_put yX3_put, Cond.code yX3_put cX3_put 4 (some .boolean), Cond.methodLink RX3 34 yX3_hasRoomFor, Cond.methodLink RX3 38 yX3_makePlaceFor, Cond.instanceMethod yX3_makePlaceFor, Cond.selects RX3 yX3_makePlaceFor yX3_makePlaceFor, Cond.code yX3_makePlaceFor cX3_makePlaceFor 3 (some .int)]
def wsX7_plan : List Cond := .code yX7_plan cX7_plan 3 (some .int) :: ((wsX7_plan_r1 ++ (wsX7_plan_r2 ++ (wsX7_plan_r3 ++ (wsX7_plan_r4 ++ wsX7_plan_r5)))) ++ wsX70 ++ wsX50 ++ wsX30 ++ wsX10 ++ wsX40 ++ wsX00 ++ wsX20)
def wsX7_readPlan_r1 : List Cond := [Cond.fieldLink RX7 39 "FlameGuards" "text" "LFlameGuards$Text;", Cond.fieldLink RX7 25 "FlameGuards" "planRead" "LFlameGuards$Plan;", Cond.fieldLink RX7 32 "FlameGuards" "history" "LFlameGuards$History;", Cond.fieldLink RX7 10 "FlameGuards" "state" "LFlameGuards$State;", Cond.fieldLink RX7 90 "FlameGuards$State" "drafts" "LFlameGuards$Plan;", Cond.fieldLink RX7 102 "FlameGuards$Plan" "size" "I", Cond.methodLink RX7 105 yX6_fault, Cond.instanceMethod yX6_fault, Cond.selects RX6 yX6_fault yX6_fault, Cond.initialized RX6, Cond.code yX6_fault cX6_fault 3 (some .int), Cond.fieldLink RX6 13 "FlameGuards$Text" "length" "I", Cond.fieldLink RX6 9 "FlameGuards$Text" "characters" "[C", Cond.methodLink RX6 17 yX6_placeAfter, Cond.static yX6_placeAfter, Cond.code yX6_placeAfter cX6_placeAfter 2 (some .int), Cond.methodLink RX6 30 yX6_isDigit, Cond.static yX6_isDigit, Cond.code yX6_isDigit cX6_isDigit 1 (some .boolean), Cond.methodLink RX7 109 yX6_readInto, Cond.instanceMethod yX6_readInto, Cond.selects RX6 yX6_readInto yX6_readInto, Cond.code yX6_readInto cX6_readInto 6 (some .boolean), Cond.methodLink RX6 21 yX3_clear]
def wsX7_readPlan_r2 : List Cond := [Cond.instanceMethod yX3_clear, Cond.selects RX3 yX3_clear yX3_clear, Cond.initialized RX3, Cond.code yX3_clear cX3_clear 1 none, Cond.fieldLink RX3 16 "FlameGuards$Plan" "size" "I", Cond.methodLink RX6 26 yX3_put, Cond.instanceMethod yX3_put, Cond.selects RX3 yX3_put yX3_put, Cond.code yX3_put cX3_put 4 (some .boolean), Cond.fieldLink RX3 9 "FlameGuards$Plan" "ticks" "[I", Cond.fieldLink RX3 13 "FlameGuards$Plan" "values" "[I", Cond.methodLink RX3 34 yX3_hasRoomFor, Cond.instanceMethod yX3_hasRoomFor, Cond.selects RX3 yX3_hasRoomFor yX3_hasRoomFor, Cond.code yX3_hasRoomFor cX3_hasRoomFor 2 (some .boolean), Cond.methodLink RX3 26 yX3_placeOf, Cond.instanceMethod yX3_placeOf, Cond.selects RX3 yX3_placeOf yX3_placeOf, Cond.code yX3_placeOf cX3_placeOf 3 (some .int), Cond.methodLink RX3 38 yX3_makePlaceFor, Cond.instanceMethod yX3_makePlaceFor, Cond.selects RX3 yX3_makePlaceFor yX3_makePlaceFor, Cond.code yX3_makePlaceFor cX3_makePlaceFor 3 (some .int), Cond.methodLink RX7 65 yX1_record]
def wsX7_readPlan_r3 : List Cond := [Cond.instanceMethod yX1_record, Cond.selects RX1 yX1_record yX1_record, Cond.initialized RX1, Cond.code yX1_record cX1_record 2 none, Cond.fieldLink RX1 16 "FlameGuards$History" "size" "I", Cond.fieldLink RX1 11 "FlameGuards$History" "states" "[LFlameGuards$State;", Cond.methodLink RX1 20 yX1_dropOldest, Cond.instanceMethod yX1_dropOldest, Cond.selects RX1 yX1_dropOldest yX1_dropOldest, Cond.code yX1_dropOldest cX1_dropOldest 3 none, Cond.methodLink RX1 23 yX5_copyFrom, Cond.instanceMethod yX5_copyFrom, Cond.selects RX5 yX5_copyFrom yX5_copyFrom, Cond.initialized RX5, Cond.code yX5_copyFrom cX5_copyFrom 3 none, Cond.fieldLink RX5 10 "FlameGuards$State" "settings" "LFlameGuards$Settings;", Cond.fieldLink RX5 22 "FlameGuards$State" "burners" "[LFlameGuards$Burner;", Cond.fieldLink RX5 32 "FlameGuards$State" "drafts" "LFlameGuards$Plan;", Cond.fieldLink RX5 39 "FlameGuards$State" "log" "LFlameGuards$Log;", Cond.fieldLink RX5 56 "FlameGuards$State" "tick" "I", Cond.fieldLink RX5 60 "FlameGuards$State" "gas" "I", Cond.fieldLink RX5 63 "FlameGuards$State" "mostGas" "I", Cond.fieldLink RX5 66 "FlameGuards$State" "mostDark" "I", Cond.methodLink RX5 43 yX4_copyFrom]
def wsX7_readPlan_r4 : List Cond := [Cond.instanceMethod yX4_copyFrom, Cond.selects RX4 yX4_copyFrom yX4_copyFrom, Cond.initialized RX4, Cond.code yX4_copyFrom cX4_copyFrom 2 none, Cond.fieldLink RX4 13 "FlameGuards$Settings" "values" "[I", Cond.static yX7_copyRow, Cond.initialized RX7, Cond.code yX7_copyRow cX7_copyRow 2 none, Cond.methodLink RX7 254 Lib.Math.min.name, Cond.static Lib.Math.min.name, Cond.initialized "java/lang/Math", Cond.code Lib.Math.min.name Lib.Math.min.code 2 (some .int), Cond.methodLink RX7 259 arraycopyName, Cond.native arraycopyName, Cond.static arraycopyName, Cond.initialized "java/lang/System", Cond.methodLink RX5 47 yX0_copyFrom, Cond.instanceMethod yX0_copyFrom, Cond.selects RX0 yX0_copyFrom yX0_copyFrom, Cond.initialized RX0, Cond.code yX0_copyFrom cX0_copyFrom 2 none, Cond.fieldLink RX0 7 "FlameGuards$Burner" "kind" "I", Cond.fieldLink RX0 13 "FlameGuards$Burner" "tap" "I", Cond.fieldLink RX0 16 "FlameGuards$Burner" "pressed" "Z"]
def wsX7_readPlan_r5 : List Cond := [Cond.fieldLink RX0 20 "FlameGuards$Burner" "igniter" "Z", Cond.fieldLink RX0 23 "FlameGuards$Burner" "flame" "Z", Cond.fieldLink RX0 26 "FlameGuards$Burner" "temperature" "I", Cond.fieldLink RX0 29 "FlameGuards$Burner" "locked" "Z", Cond.fieldLink RX0 32 "FlameGuards$Burner" "tries" "I", Cond.fieldLink RX0 35 "FlameGuards$Burner" "dark" "I", Cond.fieldLink RX0 38 "FlameGuards$Burner" "unburnt" "I", Cond.methodLink RX5 50 yX3_copyFrom, Cond.instanceMethod yX3_copyFrom, Cond.selects RX3 yX3_copyFrom yX3_copyFrom, Cond.code yX3_copyFrom cX3_copyFrom 2 none, Cond.methodLink RX5 53 yX2_copyFrom, Cond.instanceMethod yX2_copyFrom, Cond.selects RX2 yX2_copyFrom yX2_copyFrom, Cond.initialized RX2, Cond.code yX2_copyFrom cX2_copyFrom 2 none, Cond.fieldLink RX2 9 "FlameGuards$Log" "events" "[I", Cond.fieldLink RX2 13 "FlameGuards$Log" "burners" "[I", Cond.fieldLink RX2 16 "FlameGuards$Log" "ticks" "[I", Cond.fieldLink RX2 19 "FlameGuards$Log" "counts" "[I", Cond.fieldLink RX2 22 "FlameGuards$Log" "known" "I", Cond.methodLink RX7 113 yX3_copyFrom]
def wsX7_readPlan : List Cond := .code yX7_readPlan cX7_readPlan 2 (some .int) :: ((wsX7_readPlan_r1 ++ (wsX7_readPlan_r2 ++ (wsX7_readPlan_r3 ++ (wsX7_readPlan_r4 ++ wsX7_readPlan_r5)))) ++ wsX70 ++ wsX50 ++ wsX30 ++ wsX60 ++ wsX10 ++ wsX40 ++ wsX00 ++ wsX20)
def wsX7_turn_r1 : List Cond := [Cond.fieldLink RX7 10 "FlameGuards" "state" "LFlameGuards$State;", Cond.fieldLink RX7 83 "FlameGuards$Burner" "tap" "I", Cond.fieldLink RX7 32 "FlameGuards" "history" "LFlameGuards$History;", Cond.fieldLink RX7 117 "FlameGuards$Burner" "flame" "Z", Cond.methodLink RX7 73 yX5_find, Cond.instanceMethod yX5_find, Cond.selects RX5 yX5_find yX5_find, Cond.initialized RX5, Cond.code yX5_find cX5_find 2 (some (.object "FlameGuards$Burner")), Cond.fieldLink RX5 22 "FlameGuards$State" "burners" "[LFlameGuards$Burner;", Cond.methodLink RX7 79 yX7_isWithin, Cond.static yX7_isWithin, Cond.initialized RX7, Cond.code yX7_isWithin cX7_isWithin 3 (some .boolean), Cond.methodLink RX7 65 yX1_record, Cond.instanceMethod yX1_record, Cond.selects RX1 yX1_record yX1_record, Cond.initialized RX1, Cond.code yX1_record cX1_record 2 none, Cond.fieldLink RX1 16 "FlameGuards$History" "size" "I", Cond.fieldLink RX1 11 "FlameGuards$History" "states" "[LFlameGuards$State;", Cond.methodLink RX1 20 yX1_dropOldest, Cond.instanceMethod yX1_dropOldest, Cond.selects RX1 yX1_dropOldest yX1_dropOldest]
def wsX7_turn_r2 : List Cond := [Cond.code yX1_dropOldest cX1_dropOldest 3 none, Cond.methodLink RX1 23 yX5_copyFrom, Cond.instanceMethod yX5_copyFrom, Cond.selects RX5 yX5_copyFrom yX5_copyFrom, Cond.code yX5_copyFrom cX5_copyFrom 3 none, Cond.fieldLink RX5 10 "FlameGuards$State" "settings" "LFlameGuards$Settings;", Cond.fieldLink RX5 32 "FlameGuards$State" "drafts" "LFlameGuards$Plan;", Cond.fieldLink RX5 39 "FlameGuards$State" "log" "LFlameGuards$Log;", Cond.fieldLink RX5 56 "FlameGuards$State" "tick" "I", Cond.fieldLink RX5 60 "FlameGuards$State" "gas" "I", Cond.fieldLink RX5 63 "FlameGuards$State" "mostGas" "I", Cond.fieldLink RX5 66 "FlameGuards$State" "mostDark" "I", Cond.methodLink RX5 43 yX4_copyFrom, Cond.instanceMethod yX4_copyFrom, Cond.selects RX4 yX4_copyFrom yX4_copyFrom, Cond.initialized RX4, Cond.code yX4_copyFrom cX4_copyFrom 2 none, Cond.fieldLink RX4 13 "FlameGuards$Settings" "values" "[I", Cond.static yX7_copyRow, Cond.code yX7_copyRow cX7_copyRow 2 none, Cond.methodLink RX7 254 Lib.Math.min.name, Cond.static Lib.Math.min.name, Cond.initialized "java/lang/Math", Cond.code Lib.Math.min.name Lib.Math.min.code 2 (some .int)]
def wsX7_turn_r3 : List Cond := [Cond.methodLink RX7 259 arraycopyName, Cond.native arraycopyName, Cond.static arraycopyName, Cond.initialized "java/lang/System", Cond.methodLink RX5 47 yX0_copyFrom, Cond.instanceMethod yX0_copyFrom, Cond.selects RX0 yX0_copyFrom yX0_copyFrom, Cond.initialized RX0, Cond.code yX0_copyFrom cX0_copyFrom 2 none, Cond.fieldLink RX0 7 "FlameGuards$Burner" "kind" "I", Cond.fieldLink RX0 13 "FlameGuards$Burner" "tap" "I", Cond.fieldLink RX0 16 "FlameGuards$Burner" "pressed" "Z", Cond.fieldLink RX0 20 "FlameGuards$Burner" "igniter" "Z", Cond.fieldLink RX0 23 "FlameGuards$Burner" "flame" "Z", Cond.fieldLink RX0 26 "FlameGuards$Burner" "temperature" "I", Cond.fieldLink RX0 29 "FlameGuards$Burner" "locked" "Z", Cond.fieldLink RX0 32 "FlameGuards$Burner" "tries" "I", Cond.fieldLink RX0 35 "FlameGuards$Burner" "dark" "I", Cond.fieldLink RX0 38 "FlameGuards$Burner" "unburnt" "I", Cond.methodLink RX5 50 yX3_copyFrom, Cond.instanceMethod yX3_copyFrom, Cond.selects RX3 yX3_copyFrom yX3_copyFrom, Cond.initialized RX3, Cond.code yX3_copyFrom cX3_copyFrom 2 none]
def wsX7_turn_r4 : List Cond := [Cond.fieldLink RX3 9 "FlameGuards$Plan" "ticks" "[I", Cond.fieldLink RX3 13 "FlameGuards$Plan" "values" "[I", Cond.fieldLink RX3 16 "FlameGuards$Plan" "size" "I", Cond.methodLink RX5 53 yX2_copyFrom, Cond.instanceMethod yX2_copyFrom, Cond.selects RX2 yX2_copyFrom yX2_copyFrom, Cond.initialized RX2, Cond.code yX2_copyFrom cX2_copyFrom 2 none, Cond.fieldLink RX2 9 "FlameGuards$Log" "events" "[I", Cond.fieldLink RX2 13 "FlameGuards$Log" "burners" "[I", Cond.fieldLink RX2 16 "FlameGuards$Log" "ticks" "[I", Cond.fieldLink RX2 19 "FlameGuards$Log" "counts" "[I", Cond.fieldLink RX2 22 "FlameGuards$Log" "known" "I"]
def wsX7_turn : List Cond := .code yX7_turn cX7_turn 5 (some .int) :: ((wsX7_turn_r1 ++ (wsX7_turn_r2 ++ (wsX7_turn_r3 ++ wsX7_turn_r4))) ++ wsX70 ++ wsX00 ++ wsX50 ++ wsX10 ++ wsX40 ++ wsX30 ++ wsX20)
def wsX7_press_r1 : List Cond := [Cond.fieldLink RX7 10 "FlameGuards" "state" "LFlameGuards$State;", Cond.fieldLink RX7 120 "FlameGuards$Burner" "pressed" "Z", Cond.fieldLink RX7 32 "FlameGuards" "history" "LFlameGuards$History;", Cond.methodLink RX7 73 yX5_find, Cond.instanceMethod yX5_find, Cond.selects RX5 yX5_find yX5_find, Cond.initialized RX5, Cond.code yX5_find cX5_find 2 (some (.object "FlameGuards$Burner")), Cond.fieldLink RX5 22 "FlameGuards$State" "burners" "[LFlameGuards$Burner;", Cond.methodLink RX7 65 yX1_record, Cond.instanceMethod yX1_record, Cond.selects RX1 yX1_record yX1_record, Cond.initialized RX1, Cond.code yX1_record cX1_record 2 none, Cond.fieldLink RX1 16 "FlameGuards$History" "size" "I", Cond.fieldLink RX1 11 "FlameGuards$History" "states" "[LFlameGuards$State;", Cond.methodLink RX1 20 yX1_dropOldest, Cond.instanceMethod yX1_dropOldest, Cond.selects RX1 yX1_dropOldest yX1_dropOldest, Cond.code yX1_dropOldest cX1_dropOldest 3 none, Cond.methodLink RX1 23 yX5_copyFrom, Cond.instanceMethod yX5_copyFrom, Cond.selects RX5 yX5_copyFrom yX5_copyFrom, Cond.code yX5_copyFrom cX5_copyFrom 3 none]
def wsX7_press_r2 : List Cond := [Cond.fieldLink RX5 10 "FlameGuards$State" "settings" "LFlameGuards$Settings;", Cond.fieldLink RX5 32 "FlameGuards$State" "drafts" "LFlameGuards$Plan;", Cond.fieldLink RX5 39 "FlameGuards$State" "log" "LFlameGuards$Log;", Cond.fieldLink RX5 56 "FlameGuards$State" "tick" "I", Cond.fieldLink RX5 60 "FlameGuards$State" "gas" "I", Cond.fieldLink RX5 63 "FlameGuards$State" "mostGas" "I", Cond.fieldLink RX5 66 "FlameGuards$State" "mostDark" "I", Cond.methodLink RX5 43 yX4_copyFrom, Cond.instanceMethod yX4_copyFrom, Cond.selects RX4 yX4_copyFrom yX4_copyFrom, Cond.initialized RX4, Cond.code yX4_copyFrom cX4_copyFrom 2 none, Cond.fieldLink RX4 13 "FlameGuards$Settings" "values" "[I", Cond.static yX7_copyRow, Cond.initialized RX7, Cond.code yX7_copyRow cX7_copyRow 2 none, Cond.methodLink RX7 254 Lib.Math.min.name, Cond.static Lib.Math.min.name, Cond.initialized "java/lang/Math", Cond.code Lib.Math.min.name Lib.Math.min.code 2 (some .int), Cond.methodLink RX7 259 arraycopyName, Cond.native arraycopyName, Cond.static arraycopyName, Cond.initialized "java/lang/System"]
def wsX7_press_r3 : List Cond := [Cond.methodLink RX5 47 yX0_copyFrom, Cond.instanceMethod yX0_copyFrom, Cond.selects RX0 yX0_copyFrom yX0_copyFrom, Cond.initialized RX0, Cond.code yX0_copyFrom cX0_copyFrom 2 none, Cond.fieldLink RX0 7 "FlameGuards$Burner" "kind" "I", Cond.fieldLink RX0 13 "FlameGuards$Burner" "tap" "I", Cond.fieldLink RX0 16 "FlameGuards$Burner" "pressed" "Z", Cond.fieldLink RX0 20 "FlameGuards$Burner" "igniter" "Z", Cond.fieldLink RX0 23 "FlameGuards$Burner" "flame" "Z", Cond.fieldLink RX0 26 "FlameGuards$Burner" "temperature" "I", Cond.fieldLink RX0 29 "FlameGuards$Burner" "locked" "Z", Cond.fieldLink RX0 32 "FlameGuards$Burner" "tries" "I", Cond.fieldLink RX0 35 "FlameGuards$Burner" "dark" "I", Cond.fieldLink RX0 38 "FlameGuards$Burner" "unburnt" "I", Cond.methodLink RX5 50 yX3_copyFrom, Cond.instanceMethod yX3_copyFrom, Cond.selects RX3 yX3_copyFrom yX3_copyFrom, Cond.initialized RX3, Cond.code yX3_copyFrom cX3_copyFrom 2 none, Cond.fieldLink RX3 9 "FlameGuards$Plan" "ticks" "[I", Cond.fieldLink RX3 13 "FlameGuards$Plan" "values" "[I", Cond.fieldLink RX3 16 "FlameGuards$Plan" "size" "I", Cond.methodLink RX5 53 yX2_copyFrom]
def wsX7_press_r4 : List Cond := [Cond.instanceMethod yX2_copyFrom, Cond.selects RX2 yX2_copyFrom yX2_copyFrom, Cond.initialized RX2, Cond.code yX2_copyFrom cX2_copyFrom 2 none, Cond.fieldLink RX2 9 "FlameGuards$Log" "events" "[I", Cond.fieldLink RX2 13 "FlameGuards$Log" "burners" "[I", Cond.fieldLink RX2 16 "FlameGuards$Log" "ticks" "[I", Cond.fieldLink RX2 19 "FlameGuards$Log" "counts" "[I", Cond.fieldLink RX2 22 "FlameGuards$Log" "known" "I", Cond.methodLink RX7 123 yX5_isOpen, Cond.instanceMethod yX5_isOpen, Cond.selects RX5 yX5_isOpen yX5_isOpen, Cond.code yX5_isOpen cX5_isOpen 2 (some .boolean), Cond.methodLink RX5 69 yX4_valueOf, Cond.instanceMethod yX4_valueOf, Cond.selects RX4 yX4_valueOf yX4_valueOf, Cond.code yX4_valueOf cX4_valueOf 2 (some .int), Cond.static yX7_elementAt, Cond.code yX7_elementAt cX7_elementAt 2 (some .int), Cond.methodLink RX5 73 yX0_isOpen, Cond.instanceMethod yX0_isOpen, Cond.selects RX0 yX0_isOpen yX0_isOpen, Cond.code yX0_isOpen cX0_isOpen 2 (some .boolean), Cond.methodLink RX7 127 yX7_oneIf]
def wsX7_press_r5 : List Cond := [Cond.static yX7_oneIf, Cond.code yX7_oneIf cX7_oneIf 1 (some .int)]
def wsX7_press : List Cond := .code yX7_press cX7_press 4 (some .int) :: ((wsX7_press_r1 ++ (wsX7_press_r2 ++ (wsX7_press_r3 ++ (wsX7_press_r4 ++ wsX7_press_r5)))) ++ wsX70 ++ wsX00 ++ wsX50 ++ wsX10 ++ wsX40 ++ wsX30 ++ wsX20)
def wsX7_igniter_r1 : List Cond := [Cond.fieldLink RX7 10 "FlameGuards" "state" "LFlameGuards$State;", Cond.fieldLink RX7 131 "FlameGuards$Burner" "igniter" "Z", Cond.fieldLink RX7 32 "FlameGuards" "history" "LFlameGuards$History;", Cond.methodLink RX7 73 yX5_find, Cond.instanceMethod yX5_find, Cond.selects RX5 yX5_find yX5_find, Cond.initialized RX5, Cond.code yX5_find cX5_find 2 (some (.object "FlameGuards$Burner")), Cond.fieldLink RX5 22 "FlameGuards$State" "burners" "[LFlameGuards$Burner;", Cond.methodLink RX7 65 yX1_record, Cond.instanceMethod yX1_record, Cond.selects RX1 yX1_record yX1_record, Cond.initialized RX1, Cond.code yX1_record cX1_record 2 none, Cond.fieldLink RX1 16 "FlameGuards$History" "size" "I", Cond.fieldLink RX1 11 "FlameGuards$History" "states" "[LFlameGuards$State;", Cond.methodLink RX1 20 yX1_dropOldest, Cond.instanceMethod yX1_dropOldest, Cond.selects RX1 yX1_dropOldest yX1_dropOldest, Cond.code yX1_dropOldest cX1_dropOldest 3 none, Cond.methodLink RX1 23 yX5_copyFrom, Cond.instanceMethod yX5_copyFrom, Cond.selects RX5 yX5_copyFrom yX5_copyFrom, Cond.code yX5_copyFrom cX5_copyFrom 3 none]
def wsX7_igniter_r2 : List Cond := [Cond.fieldLink RX5 10 "FlameGuards$State" "settings" "LFlameGuards$Settings;", Cond.fieldLink RX5 32 "FlameGuards$State" "drafts" "LFlameGuards$Plan;", Cond.fieldLink RX5 39 "FlameGuards$State" "log" "LFlameGuards$Log;", Cond.fieldLink RX5 56 "FlameGuards$State" "tick" "I", Cond.fieldLink RX5 60 "FlameGuards$State" "gas" "I", Cond.fieldLink RX5 63 "FlameGuards$State" "mostGas" "I", Cond.fieldLink RX5 66 "FlameGuards$State" "mostDark" "I", Cond.methodLink RX5 43 yX4_copyFrom, Cond.instanceMethod yX4_copyFrom, Cond.selects RX4 yX4_copyFrom yX4_copyFrom, Cond.initialized RX4, Cond.code yX4_copyFrom cX4_copyFrom 2 none, Cond.fieldLink RX4 13 "FlameGuards$Settings" "values" "[I", Cond.static yX7_copyRow, Cond.initialized RX7, Cond.code yX7_copyRow cX7_copyRow 2 none, Cond.methodLink RX7 254 Lib.Math.min.name, Cond.static Lib.Math.min.name, Cond.initialized "java/lang/Math", Cond.code Lib.Math.min.name Lib.Math.min.code 2 (some .int), Cond.methodLink RX7 259 arraycopyName, Cond.native arraycopyName, Cond.static arraycopyName, Cond.initialized "java/lang/System"]
def wsX7_igniter_r3 : List Cond := [Cond.methodLink RX5 47 yX0_copyFrom, Cond.instanceMethod yX0_copyFrom, Cond.selects RX0 yX0_copyFrom yX0_copyFrom, Cond.initialized RX0, Cond.code yX0_copyFrom cX0_copyFrom 2 none, Cond.fieldLink RX0 7 "FlameGuards$Burner" "kind" "I", Cond.fieldLink RX0 13 "FlameGuards$Burner" "tap" "I", Cond.fieldLink RX0 16 "FlameGuards$Burner" "pressed" "Z", Cond.fieldLink RX0 20 "FlameGuards$Burner" "igniter" "Z", Cond.fieldLink RX0 23 "FlameGuards$Burner" "flame" "Z", Cond.fieldLink RX0 26 "FlameGuards$Burner" "temperature" "I", Cond.fieldLink RX0 29 "FlameGuards$Burner" "locked" "Z", Cond.fieldLink RX0 32 "FlameGuards$Burner" "tries" "I", Cond.fieldLink RX0 35 "FlameGuards$Burner" "dark" "I", Cond.fieldLink RX0 38 "FlameGuards$Burner" "unburnt" "I", Cond.methodLink RX5 50 yX3_copyFrom, Cond.instanceMethod yX3_copyFrom, Cond.selects RX3 yX3_copyFrom yX3_copyFrom, Cond.initialized RX3, Cond.code yX3_copyFrom cX3_copyFrom 2 none, Cond.fieldLink RX3 9 "FlameGuards$Plan" "ticks" "[I", Cond.fieldLink RX3 13 "FlameGuards$Plan" "values" "[I", Cond.fieldLink RX3 16 "FlameGuards$Plan" "size" "I", Cond.methodLink RX5 53 yX2_copyFrom]
def wsX7_igniter_r4 : List Cond := [Cond.instanceMethod yX2_copyFrom, Cond.selects RX2 yX2_copyFrom yX2_copyFrom, Cond.initialized RX2, Cond.code yX2_copyFrom cX2_copyFrom 2 none, Cond.fieldLink RX2 9 "FlameGuards$Log" "events" "[I", Cond.fieldLink RX2 13 "FlameGuards$Log" "burners" "[I", Cond.fieldLink RX2 16 "FlameGuards$Log" "ticks" "[I", Cond.fieldLink RX2 19 "FlameGuards$Log" "counts" "[I", Cond.fieldLink RX2 22 "FlameGuards$Log" "known" "I", Cond.methodLink RX7 134 yX5_ignitersOn, Cond.instanceMethod yX5_ignitersOn, Cond.selects RX5 yX5_ignitersOn yX5_ignitersOn, Cond.code yX5_ignitersOn cX5_ignitersOn 6 (some .int), Cond.fieldLink RX5 123 "FlameGuards$Burner" "igniter" "Z", Cond.static yX7_oneIf, Cond.code yX7_oneIf cX7_oneIf 1 (some .int)]
def wsX7_igniter : List Cond := .code yX7_igniter cX7_igniter 4 (some .int) :: ((wsX7_igniter_r1 ++ (wsX7_igniter_r2 ++ (wsX7_igniter_r3 ++ wsX7_igniter_r4))) ++ wsX70 ++ wsX00 ++ wsX50 ++ wsX10 ++ wsX40 ++ wsX30 ++ wsX20)
def wsX7_light_r1 : List Cond := [Cond.fieldLink RX7 10 "FlameGuards" "state" "LFlameGuards$State;", Cond.fieldLink RX7 117 "FlameGuards$Burner" "flame" "Z", Cond.fieldLink RX7 32 "FlameGuards" "history" "LFlameGuards$History;", Cond.methodLink RX7 73 yX5_find, Cond.instanceMethod yX5_find, Cond.selects RX5 yX5_find yX5_find, Cond.initialized RX5, Cond.code yX5_find cX5_find 2 (some (.object "FlameGuards$Burner")), Cond.fieldLink RX5 22 "FlameGuards$State" "burners" "[LFlameGuards$Burner;", Cond.methodLink RX7 123 yX5_isOpen, Cond.instanceMethod yX5_isOpen, Cond.selects RX5 yX5_isOpen yX5_isOpen, Cond.code yX5_isOpen cX5_isOpen 2 (some .boolean), Cond.fieldLink RX5 10 "FlameGuards$State" "settings" "LFlameGuards$Settings;", Cond.methodLink RX5 69 yX4_valueOf, Cond.instanceMethod yX4_valueOf, Cond.selects RX4 yX4_valueOf yX4_valueOf, Cond.initialized RX4, Cond.code yX4_valueOf cX4_valueOf 2 (some .int), Cond.fieldLink RX4 13 "FlameGuards$Settings" "values" "[I", Cond.static yX7_elementAt, Cond.initialized RX7, Cond.code yX7_elementAt cX7_elementAt 2 (some .int), Cond.methodLink RX5 73 yX0_isOpen]
def wsX7_light_r2 : List Cond := [Cond.instanceMethod yX0_isOpen, Cond.selects RX0 yX0_isOpen yX0_isOpen, Cond.initialized RX0, Cond.code yX0_isOpen cX0_isOpen 2 (some .boolean), Cond.fieldLink RX0 29 "FlameGuards$Burner" "locked" "Z", Cond.fieldLink RX0 13 "FlameGuards$Burner" "tap" "I", Cond.fieldLink RX0 16 "FlameGuards$Burner" "pressed" "Z", Cond.fieldLink RX0 26 "FlameGuards$Burner" "temperature" "I", Cond.methodLink RX7 137 yX5_allowsFire, Cond.instanceMethod yX5_allowsFire, Cond.selects RX5 yX5_allowsFire yX5_allowsFire, Cond.code yX5_allowsFire cX5_allowsFire 1 (some .boolean), Cond.fieldLink RX5 60 "FlameGuards$State" "gas" "I", Cond.methodLink RX7 65 yX1_record, Cond.instanceMethod yX1_record, Cond.selects RX1 yX1_record yX1_record, Cond.initialized RX1, Cond.code yX1_record cX1_record 2 none, Cond.fieldLink RX1 16 "FlameGuards$History" "size" "I", Cond.fieldLink RX1 11 "FlameGuards$History" "states" "[LFlameGuards$State;", Cond.methodLink RX1 20 yX1_dropOldest, Cond.instanceMethod yX1_dropOldest, Cond.selects RX1 yX1_dropOldest yX1_dropOldest, Cond.code yX1_dropOldest cX1_dropOldest 3 none]
def wsX7_light_r3 : List Cond := [Cond.methodLink RX1 23 yX5_copyFrom, Cond.instanceMethod yX5_copyFrom, Cond.selects RX5 yX5_copyFrom yX5_copyFrom, Cond.code yX5_copyFrom cX5_copyFrom 3 none, Cond.fieldLink RX5 32 "FlameGuards$State" "drafts" "LFlameGuards$Plan;", Cond.fieldLink RX5 39 "FlameGuards$State" "log" "LFlameGuards$Log;", Cond.fieldLink RX5 56 "FlameGuards$State" "tick" "I", Cond.fieldLink RX5 63 "FlameGuards$State" "mostGas" "I", Cond.fieldLink RX5 66 "FlameGuards$State" "mostDark" "I", Cond.methodLink RX5 43 yX4_copyFrom, Cond.instanceMethod yX4_copyFrom, Cond.selects RX4 yX4_copyFrom yX4_copyFrom, Cond.code yX4_copyFrom cX4_copyFrom 2 none, Cond.static yX7_copyRow, Cond.code yX7_copyRow cX7_copyRow 2 none, Cond.methodLink RX7 254 Lib.Math.min.name, Cond.static Lib.Math.min.name, Cond.initialized "java/lang/Math", Cond.code Lib.Math.min.name Lib.Math.min.code 2 (some .int), Cond.methodLink RX7 259 arraycopyName, Cond.native arraycopyName, Cond.static arraycopyName, Cond.initialized "java/lang/System", Cond.methodLink RX5 47 yX0_copyFrom]
def wsX7_light_r4 : List Cond := [Cond.instanceMethod yX0_copyFrom, Cond.selects RX0 yX0_copyFrom yX0_copyFrom, Cond.code yX0_copyFrom cX0_copyFrom 2 none, Cond.fieldLink RX0 7 "FlameGuards$Burner" "kind" "I", Cond.fieldLink RX0 20 "FlameGuards$Burner" "igniter" "Z", Cond.fieldLink RX0 23 "FlameGuards$Burner" "flame" "Z", Cond.fieldLink RX0 32 "FlameGuards$Burner" "tries" "I", Cond.fieldLink RX0 35 "FlameGuards$Burner" "dark" "I", Cond.fieldLink RX0 38 "FlameGuards$Burner" "unburnt" "I", Cond.methodLink RX5 50 yX3_copyFrom, Cond.instanceMethod yX3_copyFrom, Cond.selects RX3 yX3_copyFrom yX3_copyFrom, Cond.initialized RX3, Cond.code yX3_copyFrom cX3_copyFrom 2 none, Cond.fieldLink RX3 9 "FlameGuards$Plan" "ticks" "[I", Cond.fieldLink RX3 13 "FlameGuards$Plan" "values" "[I", Cond.fieldLink RX3 16 "FlameGuards$Plan" "size" "I", Cond.methodLink RX5 53 yX2_copyFrom, Cond.instanceMethod yX2_copyFrom, Cond.selects RX2 yX2_copyFrom yX2_copyFrom, Cond.initialized RX2, Cond.code yX2_copyFrom cX2_copyFrom 2 none, Cond.fieldLink RX2 9 "FlameGuards$Log" "events" "[I", Cond.fieldLink RX2 13 "FlameGuards$Log" "burners" "[I"]
def wsX7_light_r5 : List Cond := [Cond.fieldLink RX2 16 "FlameGuards$Log" "ticks" "[I", Cond.fieldLink RX2 19 "FlameGuards$Log" "counts" "[I", Cond.fieldLink RX2 22 "FlameGuards$Log" "known" "I", Cond.methodLink RX7 141 yX5_draft, Cond.instanceMethod yX5_draft, Cond.selects RX5 yX5_draft yX5_draft, Cond.code yX5_draft cX5_draft 1 (some .int), Cond.methodLink RX5 77 yX3_draftIn, Cond.instanceMethod yX3_draftIn, Cond.selects RX3 yX3_draftIn yX3_draftIn, Cond.code yX3_draftIn cX3_draftIn 4 (some .int), Cond.methodLink RX7 144 yX0_strength, Cond.instanceMethod yX0_strength, Cond.selects RX0 yX0_strength yX0_strength, Cond.code yX0_strength cX0_strength 1 (some .int), Cond.fieldLink RX0 49 "FlameGuards$Burner" "STRENGTH" "[I", Cond.methodLink RX0 45 yX0_told, Cond.instanceMethod yX0_told, Cond.selects RX0 yX0_told yX0_told, Cond.code yX0_told cX0_told 3 (some .int), Cond.methodLink RX7 147 yX5_kindle, Cond.instanceMethod yX5_kindle, Cond.selects RX5 yX5_kindle yX5_kindle, Cond.code yX5_kindle cX5_kindle 3 none]
def wsX7_light_r6 : List Cond := [Cond.fieldLink RX5 80 "FlameGuards$Burner" "flame" "Z", Cond.fieldLink RX5 84 "FlameGuards$Burner" "tries" "I", Cond.methodLink RX5 87 yX2_note, Cond.instanceMethod yX2_note, Cond.selects RX2 yX2_note yX2_note, Cond.code yX2_note cX2_note 4 none, Cond.methodLink RX2 36 Lib.Math.min.name, Cond.methodLink RX2 32 yX2_putFirst, Cond.static yX2_putFirst, Cond.code yX2_putFirst cX2_putFirst 2 none, Cond.methodLink RX2 46 arraycopyName, Cond.static yX7_isWithin, Cond.code yX7_isWithin cX7_isWithin 3 (some .boolean)]
def wsX7_light : List Cond := .code yX7_light cX7_light 3 (some .int) :: ((wsX7_light_r1 ++ (wsX7_light_r2 ++ (wsX7_light_r3 ++ (wsX7_light_r4 ++ (wsX7_light_r5 ++ wsX7_light_r6))))) ++ wsX70 ++ wsX00 ++ wsX50 ++ wsX40 ++ wsX10 ++ wsX30 ++ wsX20)
def wsX7_unlock_r1 : List Cond := [Cond.fieldLink RX7 10 "FlameGuards" "state" "LFlameGuards$State;", Cond.fieldLink RX7 151 "FlameGuards$Burner" "locked" "Z", Cond.fieldLink RX7 83 "FlameGuards$Burner" "tap" "I", Cond.fieldLink RX7 32 "FlameGuards" "history" "LFlameGuards$History;", Cond.fieldLink RX7 154 "FlameGuards$Burner" "tries" "I", Cond.methodLink RX7 73 yX5_find, Cond.instanceMethod yX5_find, Cond.selects RX5 yX5_find yX5_find, Cond.initialized RX5, Cond.code yX5_find cX5_find 2 (some (.object "FlameGuards$Burner")), Cond.fieldLink RX5 22 "FlameGuards$State" "burners" "[LFlameGuards$Burner;", Cond.methodLink RX7 65 yX1_record, Cond.instanceMethod yX1_record, Cond.selects RX1 yX1_record yX1_record, Cond.initialized RX1, Cond.code yX1_record cX1_record 2 none, Cond.fieldLink RX1 16 "FlameGuards$History" "size" "I", Cond.fieldLink RX1 11 "FlameGuards$History" "states" "[LFlameGuards$State;", Cond.methodLink RX1 20 yX1_dropOldest, Cond.instanceMethod yX1_dropOldest, Cond.selects RX1 yX1_dropOldest yX1_dropOldest, Cond.code yX1_dropOldest cX1_dropOldest 3 none, Cond.methodLink RX1 23 yX5_copyFrom, Cond.instanceMethod yX5_copyFrom]
def wsX7_unlock_r2 : List Cond := [Cond.selects RX5 yX5_copyFrom yX5_copyFrom, Cond.code yX5_copyFrom cX5_copyFrom 3 none, Cond.fieldLink RX5 10 "FlameGuards$State" "settings" "LFlameGuards$Settings;", Cond.fieldLink RX5 32 "FlameGuards$State" "drafts" "LFlameGuards$Plan;", Cond.fieldLink RX5 39 "FlameGuards$State" "log" "LFlameGuards$Log;", Cond.fieldLink RX5 56 "FlameGuards$State" "tick" "I", Cond.fieldLink RX5 60 "FlameGuards$State" "gas" "I", Cond.fieldLink RX5 63 "FlameGuards$State" "mostGas" "I", Cond.fieldLink RX5 66 "FlameGuards$State" "mostDark" "I", Cond.methodLink RX5 43 yX4_copyFrom, Cond.instanceMethod yX4_copyFrom, Cond.selects RX4 yX4_copyFrom yX4_copyFrom, Cond.initialized RX4, Cond.code yX4_copyFrom cX4_copyFrom 2 none, Cond.fieldLink RX4 13 "FlameGuards$Settings" "values" "[I", Cond.static yX7_copyRow, Cond.initialized RX7, Cond.code yX7_copyRow cX7_copyRow 2 none, Cond.methodLink RX7 254 Lib.Math.min.name, Cond.static Lib.Math.min.name, Cond.initialized "java/lang/Math", Cond.code Lib.Math.min.name Lib.Math.min.code 2 (some .int), Cond.methodLink RX7 259 arraycopyName, Cond.native arraycopyName]
def wsX7_unlock_r3 : List Cond := [Cond.static arraycopyName, Cond.initialized "java/lang/System", Cond.methodLink RX5 47 yX0_copyFrom, Cond.instanceMethod yX0_copyFrom, Cond.selects RX0 yX0_copyFrom yX0_copyFrom, Cond.initialized RX0, Cond.code yX0_copyFrom cX0_copyFrom 2 none, Cond.fieldLink RX0 7 "FlameGuards$Burner" "kind" "I", Cond.fieldLink RX0 13 "FlameGuards$Burner" "tap" "I", Cond.fieldLink RX0 16 "FlameGuards$Burner" "pressed" "Z", Cond.fieldLink RX0 20 "FlameGuards$Burner" "igniter" "Z", Cond.fieldLink RX0 23 "FlameGuards$Burner" "flame" "Z", Cond.fieldLink RX0 26 "FlameGuards$Burner" "temperature" "I", Cond.fieldLink RX0 29 "FlameGuards$Burner" "locked" "Z", Cond.fieldLink RX0 32 "FlameGuards$Burner" "tries" "I", Cond.fieldLink RX0 35 "FlameGuards$Burner" "dark" "I", Cond.fieldLink RX0 38 "FlameGuards$Burner" "unburnt" "I", Cond.methodLink RX5 50 yX3_copyFrom, Cond.instanceMethod yX3_copyFrom, Cond.selects RX3 yX3_copyFrom yX3_copyFrom, Cond.initialized RX3, Cond.code yX3_copyFrom cX3_copyFrom 2 none, Cond.fieldLink RX3 9 "FlameGuards$Plan" "ticks" "[I", Cond.fieldLink RX3 13 "FlameGuards$Plan" "values" "[I"]
def wsX7_unlock_r4 : List Cond := [Cond.fieldLink RX3 16 "FlameGuards$Plan" "size" "I", Cond.methodLink RX5 53 yX2_copyFrom, Cond.instanceMethod yX2_copyFrom, Cond.selects RX2 yX2_copyFrom yX2_copyFrom, Cond.initialized RX2, Cond.code yX2_copyFrom cX2_copyFrom 2 none, Cond.fieldLink RX2 9 "FlameGuards$Log" "events" "[I", Cond.fieldLink RX2 13 "FlameGuards$Log" "burners" "[I", Cond.fieldLink RX2 16 "FlameGuards$Log" "ticks" "[I", Cond.fieldLink RX2 19 "FlameGuards$Log" "counts" "[I", Cond.fieldLink RX2 22 "FlameGuards$Log" "known" "I", Cond.methodLink RX7 157 yX5_lockedBurners, Cond.instanceMethod yX5_lockedBurners, Cond.selects RX5 yX5_lockedBurners yX5_lockedBurners, Cond.code yX5_lockedBurners cX5_lockedBurners 6 (some .int), Cond.fieldLink RX5 134 "FlameGuards$Burner" "locked" "Z", Cond.static yX7_oneIf, Cond.code yX7_oneIf cX7_oneIf 1 (some .int)]
def wsX7_unlock : List Cond := .code yX7_unlock cX7_unlock 3 (some .int) :: ((wsX7_unlock_r1 ++ (wsX7_unlock_r2 ++ (wsX7_unlock_r3 ++ wsX7_unlock_r4))) ++ wsX70 ++ wsX00 ++ wsX50 ++ wsX10 ++ wsX40 ++ wsX30 ++ wsX20)
def wsX7_pass_r1 : List Cond := [Cond.fieldLink RX7 10 "FlameGuards" "state" "LFlameGuards$State;", Cond.fieldLink RX7 160 "FlameGuards$State" "tick" "I", Cond.constant RX7 163 (99999), Cond.fieldLink RX7 32 "FlameGuards" "history" "LFlameGuards$History;", Cond.fieldLink RX7 164 "FlameGuards$State" "log" "LFlameGuards$Log;", Cond.methodLink RX7 79 yX7_isWithin, Cond.static yX7_isWithin, Cond.initialized RX7, Cond.code yX7_isWithin cX7_isWithin 3 (some .boolean), Cond.methodLink RX7 65 yX1_record, Cond.instanceMethod yX1_record, Cond.selects RX1 yX1_record yX1_record, Cond.initialized RX1, Cond.code yX1_record cX1_record 2 none, Cond.fieldLink RX1 16 "FlameGuards$History" "size" "I", Cond.fieldLink RX1 11 "FlameGuards$History" "states" "[LFlameGuards$State;", Cond.methodLink RX1 20 yX1_dropOldest, Cond.instanceMethod yX1_dropOldest, Cond.selects RX1 yX1_dropOldest yX1_dropOldest, Cond.code yX1_dropOldest cX1_dropOldest 3 none, Cond.methodLink RX1 23 yX5_copyFrom, Cond.instanceMethod yX5_copyFrom, Cond.selects RX5 yX5_copyFrom yX5_copyFrom, Cond.initialized RX5]
def wsX7_pass_r2 : List Cond := [Cond.code yX5_copyFrom cX5_copyFrom 3 none, Cond.fieldLink RX5 10 "FlameGuards$State" "settings" "LFlameGuards$Settings;", Cond.fieldLink RX5 22 "FlameGuards$State" "burners" "[LFlameGuards$Burner;", Cond.fieldLink RX5 32 "FlameGuards$State" "drafts" "LFlameGuards$Plan;", Cond.fieldLink RX5 39 "FlameGuards$State" "log" "LFlameGuards$Log;", Cond.fieldLink RX5 56 "FlameGuards$State" "tick" "I", Cond.fieldLink RX5 60 "FlameGuards$State" "gas" "I", Cond.fieldLink RX5 63 "FlameGuards$State" "mostGas" "I", Cond.fieldLink RX5 66 "FlameGuards$State" "mostDark" "I", Cond.methodLink RX5 43 yX4_copyFrom, Cond.instanceMethod yX4_copyFrom, Cond.selects RX4 yX4_copyFrom yX4_copyFrom, Cond.initialized RX4, Cond.code yX4_copyFrom cX4_copyFrom 2 none, Cond.fieldLink RX4 13 "FlameGuards$Settings" "values" "[I", Cond.static yX7_copyRow, Cond.code yX7_copyRow cX7_copyRow 2 none, Cond.methodLink RX7 254 Lib.Math.min.name, Cond.static Lib.Math.min.name, Cond.initialized "java/lang/Math", Cond.code Lib.Math.min.name Lib.Math.min.code 2 (some .int), Cond.methodLink RX7 259 arraycopyName, Cond.native arraycopyName, Cond.static arraycopyName]
def wsX7_pass_r3 : List Cond := [Cond.initialized "java/lang/System", Cond.methodLink RX5 47 yX0_copyFrom, Cond.instanceMethod yX0_copyFrom, Cond.selects RX0 yX0_copyFrom yX0_copyFrom, Cond.initialized RX0, Cond.code yX0_copyFrom cX0_copyFrom 2 none, Cond.fieldLink RX0 7 "FlameGuards$Burner" "kind" "I", Cond.fieldLink RX0 13 "FlameGuards$Burner" "tap" "I", Cond.fieldLink RX0 16 "FlameGuards$Burner" "pressed" "Z", Cond.fieldLink RX0 20 "FlameGuards$Burner" "igniter" "Z", Cond.fieldLink RX0 23 "FlameGuards$Burner" "flame" "Z", Cond.fieldLink RX0 26 "FlameGuards$Burner" "temperature" "I", Cond.fieldLink RX0 29 "FlameGuards$Burner" "locked" "Z", Cond.fieldLink RX0 32 "FlameGuards$Burner" "tries" "I", Cond.fieldLink RX0 35 "FlameGuards$Burner" "dark" "I", Cond.fieldLink RX0 38 "FlameGuards$Burner" "unburnt" "I", Cond.methodLink RX5 50 yX3_copyFrom, Cond.instanceMethod yX3_copyFrom, Cond.selects RX3 yX3_copyFrom yX3_copyFrom, Cond.initialized RX3, Cond.code yX3_copyFrom cX3_copyFrom 2 none, Cond.fieldLink RX3 9 "FlameGuards$Plan" "ticks" "[I", Cond.fieldLink RX3 13 "FlameGuards$Plan" "values" "[I", Cond.fieldLink RX3 16 "FlameGuards$Plan" "size" "I"]
def wsX7_pass_r4 : List Cond := [Cond.methodLink RX5 53 yX2_copyFrom, Cond.instanceMethod yX2_copyFrom, Cond.selects RX2 yX2_copyFrom yX2_copyFrom, Cond.initialized RX2, Cond.code yX2_copyFrom cX2_copyFrom 2 none, Cond.fieldLink RX2 9 "FlameGuards$Log" "events" "[I", Cond.fieldLink RX2 13 "FlameGuards$Log" "burners" "[I", Cond.fieldLink RX2 16 "FlameGuards$Log" "ticks" "[I", Cond.fieldLink RX2 19 "FlameGuards$Log" "counts" "[I", Cond.fieldLink RX2 22 "FlameGuards$Log" "known" "I", Cond.methodLink RX7 168 yX2_total, Cond.instanceMethod yX2_total, Cond.selects RX2 yX2_total yX2_total, Cond.code yX2_total cX2_total 6 (some .int), Cond.methodLink RX7 173 yX5_passTick, Cond.instanceMethod yX5_passTick, Cond.selects RX5 yX5_passTick yX5_passTick, Cond.code yX5_passTick cX5_passTick 5 none, Cond.methodLink RX5 113 Lib.Math.max.name, Cond.static Lib.Math.max.name, Cond.code Lib.Math.max.name Lib.Math.max.code 2 (some .int), Cond.methodLink RX5 91 yX5_draft, Cond.instanceMethod yX5_draft, Cond.selects RX5 yX5_draft yX5_draft]
def wsX7_pass_r5 : List Cond := [Cond.code yX5_draft cX5_draft 1 (some .int), Cond.methodLink RX5 77 yX3_draftIn, Cond.instanceMethod yX3_draftIn, Cond.selects RX3 yX3_draftIn yX3_draftIn, Cond.code yX3_draftIn cX3_draftIn 4 (some .int), Cond.methodLink RX5 95 yX5_allowsFire, Cond.instanceMethod yX5_allowsFire, Cond.selects RX5 yX5_allowsFire yX5_allowsFire, Cond.code yX5_allowsFire cX5_allowsFire 1 (some .boolean), Cond.methodLink RX5 69 yX4_valueOf, Cond.instanceMethod yX4_valueOf, Cond.selects RX4 yX4_valueOf yX4_valueOf, Cond.code yX4_valueOf cX4_valueOf 2 (some .int), Cond.static yX7_elementAt, Cond.code yX7_elementAt cX7_elementAt 2 (some .int), Cond.methodLink RX5 99 yX5_blow, Cond.instanceMethod yX5_blow, Cond.selects RX5 yX5_blow yX5_blow, Cond.code yX5_blow cX5_blow 4 none, Cond.fieldLink RX5 80 "FlameGuards$Burner" "flame" "Z", Cond.methodLink RX5 132 yX5_isOpen, Cond.instanceMethod yX5_isOpen, Cond.selects RX5 yX5_isOpen yX5_isOpen, Cond.code yX5_isOpen cX5_isOpen 2 (some .boolean)]
def wsX7_pass_r6 : List Cond := [Cond.methodLink RX5 73 yX0_isOpen, Cond.instanceMethod yX0_isOpen, Cond.selects RX0 yX0_isOpen yX0_isOpen, Cond.code yX0_isOpen cX0_isOpen 2 (some .boolean), Cond.methodLink RX5 137 yX0_strength, Cond.instanceMethod yX0_strength, Cond.selects RX0 yX0_strength yX0_strength, Cond.code yX0_strength cX0_strength 1 (some .int), Cond.fieldLink RX0 49 "FlameGuards$Burner" "STRENGTH" "[I", Cond.methodLink RX0 45 yX0_told, Cond.instanceMethod yX0_told, Cond.selects RX0 yX0_told yX0_told, Cond.code yX0_told cX0_told 3 (some .int), Cond.methodLink RX5 87 yX2_note, Cond.instanceMethod yX2_note, Cond.selects RX2 yX2_note yX2_note, Cond.code yX2_note cX2_note 4 none, Cond.methodLink RX2 36 Lib.Math.min.name, Cond.methodLink RX2 32 yX2_putFirst, Cond.static yX2_putFirst, Cond.code yX2_putFirst cX2_putFirst 2 none, Cond.methodLink RX2 46 arraycopyName, Cond.methodLink RX5 103 yX5_spark, Cond.instanceMethod yX5_spark]
def wsX7_pass_r7 : List Cond := [Cond.selects RX5 yX5_spark yX5_spark, Cond.code yX5_spark cX5_spark 4 none, Cond.fieldLink RX5 123 "FlameGuards$Burner" "igniter" "Z", Cond.fieldLink RX5 84 "FlameGuards$Burner" "tries" "I", Cond.fieldLink RX5 134 "FlameGuards$Burner" "locked" "Z", Cond.methodLink RX5 140 yX5_kindle, Cond.instanceMethod yX5_kindle, Cond.selects RX5 yX5_kindle yX5_kindle, Cond.code yX5_kindle cX5_kindle 3 none, Cond.methodLink RX5 106 yX5_warmOrDrop, Cond.instanceMethod yX5_warmOrDrop, Cond.selects RX5 yX5_warmOrDrop yX5_warmOrDrop, Cond.code yX5_warmOrDrop cX5_warmOrDrop 4 none, Cond.methodLink RX5 143 yX0_warmOrCool, Cond.instanceMethod yX0_warmOrCool, Cond.selects RX0 yX0_warmOrCool yX0_warmOrCool, Cond.code yX0_warmOrCool cX0_warmOrCool 1 none, Cond.methodLink RX0 55 yX0_heatAt, Cond.instanceMethod yX0_heatAt, Cond.selects RX0 yX0_heatAt yX0_heatAt, Cond.code yX0_heatAt cX0_heatAt 2 (some .int), Cond.fieldLink RX0 52 "FlameGuards$Burner" "HEAT" "[I", Cond.methodLink RX0 59 yX0_temperatureAfter, Cond.instanceMethod yX0_temperatureAfter]
def wsX7_pass_r8 : List Cond := [Cond.selects RX0 yX0_temperatureAfter yX0_temperatureAfter, Cond.code yX0_temperatureAfter cX0_temperatureAfter 3 (some .int), Cond.fieldLink RX0 63 "FlameGuards$Burner" "WARMING" "[I", Cond.methodLink RX0 74 Lib.Math.min.name, Cond.fieldLink RX0 79 "FlameGuards$Burner" "COOLING" "[I", Cond.methodLink RX0 82 Lib.Math.max.name, Cond.methodLink RX0 71 yX0_quotient, Cond.static yX0_quotient, Cond.code yX0_quotient cX0_quotient 2 (some .int), Cond.methodLink RX5 110 yX5_flow, Cond.instanceMethod yX5_flow, Cond.selects RX5 yX5_flow yX5_flow, Cond.code yX5_flow cX5_flow 2 none, Cond.fieldLink RX5 146 "FlameGuards$Burner" "dark" "I", Cond.fieldLink RX5 151 "FlameGuards$Burner" "unburnt" "I", Cond.methodLink RX5 119 yX5_flowsUnburnt, Cond.instanceMethod yX5_flowsUnburnt, Cond.selects RX5 yX5_flowsUnburnt yX5_flowsUnburnt, Cond.code yX5_flowsUnburnt cX5_flowsUnburnt 2 (some .boolean), Cond.methodLink RX5 149 yX0_flow, Cond.instanceMethod yX0_flow, Cond.selects RX0 yX0_flow yX0_flow, Cond.code yX0_flow cX0_flow 1 (some .int), Cond.fieldLink RX0 41 "FlameGuards$Burner" "FLOW" "[I"]
def wsX7_pass : List Cond := .code yX7_pass cX7_pass 4 (some .int) :: ((wsX7_pass_r1 ++ (wsX7_pass_r2 ++ (wsX7_pass_r3 ++ (wsX7_pass_r4 ++ (wsX7_pass_r5 ++ (wsX7_pass_r6 ++ (wsX7_pass_r7 ++ wsX7_pass_r8))))))) ++ wsX70 ++ wsX50 ++ wsX10 ++ wsX40 ++ wsX00 ++ wsX30 ++ wsX20)
def wsX7_type : List Cond := .code yX7_type cX7_type 2 (some .int) :: ([.fieldLink RX7 39 "FlameGuards" "text" "LFlameGuards$Text;", .fieldLink RX7 180 "FlameGuards$Text" "length" "I", .methodLink RX7 176 yX6_append, .instanceMethod yX6_append, .selects RX6 yX6_append yX6_append, .initialized RX6, .code yX6_append cX6_append 2 (some .boolean), .fieldLink RX6 13 "FlameGuards$Text" "length" "I", .fieldLink RX6 9 "FlameGuards$Text" "characters" "[C"] ++ wsX70 ++ wsX60)
def wsX7_clearText : List Cond := .code yX7_clearText cX7_clearText 2 (some .int) :: ([.fieldLink RX7 39 "FlameGuards" "text" "LFlameGuards$Text;", .fieldLink RX7 180 "FlameGuards$Text" "length" "I", .methodLink RX7 183 yX6_empty, .instanceMethod yX6_empty, .selects RX6 yX6_empty yX6_empty, .initialized RX6, .code yX6_empty cX6_empty 1 none, .fieldLink RX6 13 "FlameGuards$Text" "length" "I"] ++ wsX70 ++ wsX60)
def wsX7_undo_r1 : List Cond := [Cond.fieldLink RX7 32 "FlameGuards" "history" "LFlameGuards$History;", Cond.fieldLink RX7 10 "FlameGuards" "state" "LFlameGuards$State;", Cond.fieldLink RX7 190 "FlameGuards$History" "size" "I", Cond.methodLink RX7 186 yX1_takeBack, Cond.instanceMethod yX1_takeBack, Cond.selects RX1 yX1_takeBack yX1_takeBack, Cond.initialized RX1, Cond.code yX1_takeBack cX1_takeBack 2 (some .boolean), Cond.fieldLink RX1 16 "FlameGuards$History" "size" "I", Cond.fieldLink RX1 11 "FlameGuards$History" "states" "[LFlameGuards$State;", Cond.methodLink RX1 23 yX5_copyFrom, Cond.instanceMethod yX5_copyFrom, Cond.selects RX5 yX5_copyFrom yX5_copyFrom, Cond.initialized RX5, Cond.code yX5_copyFrom cX5_copyFrom 3 none, Cond.fieldLink RX5 10 "FlameGuards$State" "settings" "LFlameGuards$Settings;", Cond.fieldLink RX5 22 "FlameGuards$State" "burners" "[LFlameGuards$Burner;", Cond.fieldLink RX5 32 "FlameGuards$State" "drafts" "LFlameGuards$Plan;", Cond.fieldLink RX5 39 "FlameGuards$State" "log" "LFlameGuards$Log;", Cond.fieldLink RX5 56 "FlameGuards$State" "tick" "I", Cond.fieldLink RX5 60 "FlameGuards$State" "gas" "I", Cond.fieldLink RX5 63 "FlameGuards$State" "mostGas" "I", Cond.fieldLink RX5 66 "FlameGuards$State" "mostDark" "I", Cond.methodLink RX5 43 yX4_copyFrom]
def wsX7_undo_r2 : List Cond := [Cond.instanceMethod yX4_copyFrom, Cond.selects RX4 yX4_copyFrom yX4_copyFrom, Cond.initialized RX4, Cond.code yX4_copyFrom cX4_copyFrom 2 none, Cond.fieldLink RX4 13 "FlameGuards$Settings" "values" "[I", Cond.static yX7_copyRow, Cond.initialized RX7, Cond.code yX7_copyRow cX7_copyRow 2 none, Cond.methodLink RX7 254 Lib.Math.min.name, Cond.static Lib.Math.min.name, Cond.initialized "java/lang/Math", Cond.code Lib.Math.min.name Lib.Math.min.code 2 (some .int), Cond.methodLink RX7 259 arraycopyName, Cond.native arraycopyName, Cond.static arraycopyName, Cond.initialized "java/lang/System", Cond.methodLink RX5 47 yX0_copyFrom, Cond.instanceMethod yX0_copyFrom, Cond.selects RX0 yX0_copyFrom yX0_copyFrom, Cond.initialized RX0, Cond.code yX0_copyFrom cX0_copyFrom 2 none, Cond.fieldLink RX0 7 "FlameGuards$Burner" "kind" "I", Cond.fieldLink RX0 13 "FlameGuards$Burner" "tap" "I", Cond.fieldLink RX0 16 "FlameGuards$Burner" "pressed" "Z"]
def wsX7_undo_r3 : List Cond := [Cond.fieldLink RX0 20 "FlameGuards$Burner" "igniter" "Z", Cond.fieldLink RX0 23 "FlameGuards$Burner" "flame" "Z", Cond.fieldLink RX0 26 "FlameGuards$Burner" "temperature" "I", Cond.fieldLink RX0 29 "FlameGuards$Burner" "locked" "Z", Cond.fieldLink RX0 32 "FlameGuards$Burner" "tries" "I", Cond.fieldLink RX0 35 "FlameGuards$Burner" "dark" "I", Cond.fieldLink RX0 38 "FlameGuards$Burner" "unburnt" "I", Cond.methodLink RX5 50 yX3_copyFrom, Cond.instanceMethod yX3_copyFrom, Cond.selects RX3 yX3_copyFrom yX3_copyFrom, Cond.initialized RX3, Cond.code yX3_copyFrom cX3_copyFrom 2 none, Cond.fieldLink RX3 9 "FlameGuards$Plan" "ticks" "[I", Cond.fieldLink RX3 13 "FlameGuards$Plan" "values" "[I", Cond.fieldLink RX3 16 "FlameGuards$Plan" "size" "I", Cond.methodLink RX5 53 yX2_copyFrom, Cond.instanceMethod yX2_copyFrom, Cond.selects RX2 yX2_copyFrom yX2_copyFrom, Cond.initialized RX2, Cond.code yX2_copyFrom cX2_copyFrom 2 none, Cond.fieldLink RX2 9 "FlameGuards$Log" "events" "[I", Cond.fieldLink RX2 13 "FlameGuards$Log" "burners" "[I", Cond.fieldLink RX2 16 "FlameGuards$Log" "ticks" "[I", Cond.fieldLink RX2 19 "FlameGuards$Log" "counts" "[I"]
def wsX7_undo_r4 : List Cond := [Cond.fieldLink RX2 22 "FlameGuards$Log" "known" "I"]
def wsX7_undo : List Cond := .code yX7_undo cX7_undo 1 (some .int) :: ((wsX7_undo_r1 ++ (wsX7_undo_r2 ++ (wsX7_undo_r3 ++ wsX7_undo_r4))) ++ wsX70 ++ wsX10 ++ wsX50 ++ wsX40 ++ wsX00 ++ wsX30 ++ wsX20)
def wsX7_keep_r1 : List Cond := [Cond.fieldLink RX7 16 "FlameGuards" "snapshot" "LFlameGuards$State;", Cond.fieldLink RX7 10 "FlameGuards" "state" "LFlameGuards$State;", Cond.fieldLink RX7 43 "FlameGuards" "hasSnapshot" "Z", Cond.fieldLink RX7 160 "FlameGuards$State" "tick" "I", Cond.methodLink RX7 191 yX5_copyFrom, Cond.instanceMethod yX5_copyFrom, Cond.selects RX5 yX5_copyFrom yX5_copyFrom, Cond.initialized RX5, Cond.code yX5_copyFrom cX5_copyFrom 3 none, Cond.fieldLink RX5 10 "FlameGuards$State" "settings" "LFlameGuards$Settings;", Cond.fieldLink RX5 22 "FlameGuards$State" "burners" "[LFlameGuards$Burner;", Cond.fieldLink RX5 32 "FlameGuards$State" "drafts" "LFlameGuards$Plan;", Cond.fieldLink RX5 39 "FlameGuards$State" "log" "LFlameGuards$Log;", Cond.fieldLink RX5 56 "FlameGuards$State" "tick" "I", Cond.fieldLink RX5 60 "FlameGuards$State" "gas" "I", Cond.fieldLink RX5 63 "FlameGuards$State" "mostGas" "I", Cond.fieldLink RX5 66 "FlameGuards$State" "mostDark" "I", Cond.methodLink RX5 43 yX4_copyFrom, Cond.instanceMethod yX4_copyFrom, Cond.selects RX4 yX4_copyFrom yX4_copyFrom, Cond.initialized RX4, Cond.code yX4_copyFrom cX4_copyFrom 2 none, Cond.fieldLink RX4 13 "FlameGuards$Settings" "values" "[I", Cond.static yX7_copyRow]
def wsX7_keep_r2 : List Cond := [Cond.initialized RX7, Cond.code yX7_copyRow cX7_copyRow 2 none, Cond.methodLink RX7 254 Lib.Math.min.name, Cond.static Lib.Math.min.name, Cond.initialized "java/lang/Math", Cond.code Lib.Math.min.name Lib.Math.min.code 2 (some .int), Cond.methodLink RX7 259 arraycopyName, Cond.native arraycopyName, Cond.static arraycopyName, Cond.initialized "java/lang/System", Cond.methodLink RX5 47 yX0_copyFrom, Cond.instanceMethod yX0_copyFrom, Cond.selects RX0 yX0_copyFrom yX0_copyFrom, Cond.initialized RX0, Cond.code yX0_copyFrom cX0_copyFrom 2 none, Cond.fieldLink RX0 7 "FlameGuards$Burner" "kind" "I", Cond.fieldLink RX0 13 "FlameGuards$Burner" "tap" "I", Cond.fieldLink RX0 16 "FlameGuards$Burner" "pressed" "Z", Cond.fieldLink RX0 20 "FlameGuards$Burner" "igniter" "Z", Cond.fieldLink RX0 23 "FlameGuards$Burner" "flame" "Z", Cond.fieldLink RX0 26 "FlameGuards$Burner" "temperature" "I", Cond.fieldLink RX0 29 "FlameGuards$Burner" "locked" "Z", Cond.fieldLink RX0 32 "FlameGuards$Burner" "tries" "I", Cond.fieldLink RX0 35 "FlameGuards$Burner" "dark" "I"]
def wsX7_keep_r3 : List Cond := [Cond.fieldLink RX0 38 "FlameGuards$Burner" "unburnt" "I", Cond.methodLink RX5 50 yX3_copyFrom, Cond.instanceMethod yX3_copyFrom, Cond.selects RX3 yX3_copyFrom yX3_copyFrom, Cond.initialized RX3, Cond.code yX3_copyFrom cX3_copyFrom 2 none, Cond.fieldLink RX3 9 "FlameGuards$Plan" "ticks" "[I", Cond.fieldLink RX3 13 "FlameGuards$Plan" "values" "[I", Cond.fieldLink RX3 16 "FlameGuards$Plan" "size" "I", Cond.methodLink RX5 53 yX2_copyFrom, Cond.instanceMethod yX2_copyFrom, Cond.selects RX2 yX2_copyFrom yX2_copyFrom, Cond.initialized RX2, Cond.code yX2_copyFrom cX2_copyFrom 2 none, Cond.fieldLink RX2 9 "FlameGuards$Log" "events" "[I", Cond.fieldLink RX2 13 "FlameGuards$Log" "burners" "[I", Cond.fieldLink RX2 16 "FlameGuards$Log" "ticks" "[I", Cond.fieldLink RX2 19 "FlameGuards$Log" "counts" "[I", Cond.fieldLink RX2 22 "FlameGuards$Log" "known" "I"]
def wsX7_keep : List Cond := .code yX7_keep cX7_keep 1 (some .int) :: ((wsX7_keep_r1 ++ (wsX7_keep_r2 ++ wsX7_keep_r3)) ++ wsX70 ++ wsX50 ++ wsX40 ++ wsX00 ++ wsX30 ++ wsX20)
def wsX7_restore_r1 : List Cond := [Cond.fieldLink RX7 43 "FlameGuards" "hasSnapshot" "Z", Cond.fieldLink RX7 32 "FlameGuards" "history" "LFlameGuards$History;", Cond.fieldLink RX7 10 "FlameGuards" "state" "LFlameGuards$State;", Cond.fieldLink RX7 16 "FlameGuards" "snapshot" "LFlameGuards$State;", Cond.fieldLink RX7 160 "FlameGuards$State" "tick" "I", Cond.methodLink RX7 65 yX1_record, Cond.instanceMethod yX1_record, Cond.selects RX1 yX1_record yX1_record, Cond.initialized RX1, Cond.code yX1_record cX1_record 2 none, Cond.fieldLink RX1 16 "FlameGuards$History" "size" "I", Cond.fieldLink RX1 11 "FlameGuards$History" "states" "[LFlameGuards$State;", Cond.methodLink RX1 20 yX1_dropOldest, Cond.instanceMethod yX1_dropOldest, Cond.selects RX1 yX1_dropOldest yX1_dropOldest, Cond.code yX1_dropOldest cX1_dropOldest 3 none, Cond.methodLink RX1 23 yX5_copyFrom, Cond.instanceMethod yX5_copyFrom, Cond.selects RX5 yX5_copyFrom yX5_copyFrom, Cond.initialized RX5, Cond.code yX5_copyFrom cX5_copyFrom 3 none, Cond.fieldLink RX5 10 "FlameGuards$State" "settings" "LFlameGuards$Settings;", Cond.fieldLink RX5 22 "FlameGuards$State" "burners" "[LFlameGuards$Burner;", Cond.fieldLink RX5 32 "FlameGuards$State" "drafts" "LFlameGuards$Plan;"]
def wsX7_restore_r2 : List Cond := [Cond.fieldLink RX5 39 "FlameGuards$State" "log" "LFlameGuards$Log;", Cond.fieldLink RX5 56 "FlameGuards$State" "tick" "I", Cond.fieldLink RX5 60 "FlameGuards$State" "gas" "I", Cond.fieldLink RX5 63 "FlameGuards$State" "mostGas" "I", Cond.fieldLink RX5 66 "FlameGuards$State" "mostDark" "I", Cond.methodLink RX5 43 yX4_copyFrom, Cond.instanceMethod yX4_copyFrom, Cond.selects RX4 yX4_copyFrom yX4_copyFrom, Cond.initialized RX4, Cond.code yX4_copyFrom cX4_copyFrom 2 none, Cond.fieldLink RX4 13 "FlameGuards$Settings" "values" "[I", Cond.static yX7_copyRow, Cond.initialized RX7, Cond.code yX7_copyRow cX7_copyRow 2 none, Cond.methodLink RX7 254 Lib.Math.min.name, Cond.static Lib.Math.min.name, Cond.initialized "java/lang/Math", Cond.code Lib.Math.min.name Lib.Math.min.code 2 (some .int), Cond.methodLink RX7 259 arraycopyName, Cond.native arraycopyName, Cond.static arraycopyName, Cond.initialized "java/lang/System", Cond.methodLink RX5 47 yX0_copyFrom, Cond.instanceMethod yX0_copyFrom]
def wsX7_restore_r3 : List Cond := [Cond.selects RX0 yX0_copyFrom yX0_copyFrom, Cond.initialized RX0, Cond.code yX0_copyFrom cX0_copyFrom 2 none, Cond.fieldLink RX0 7 "FlameGuards$Burner" "kind" "I", Cond.fieldLink RX0 13 "FlameGuards$Burner" "tap" "I", Cond.fieldLink RX0 16 "FlameGuards$Burner" "pressed" "Z", Cond.fieldLink RX0 20 "FlameGuards$Burner" "igniter" "Z", Cond.fieldLink RX0 23 "FlameGuards$Burner" "flame" "Z", Cond.fieldLink RX0 26 "FlameGuards$Burner" "temperature" "I", Cond.fieldLink RX0 29 "FlameGuards$Burner" "locked" "Z", Cond.fieldLink RX0 32 "FlameGuards$Burner" "tries" "I", Cond.fieldLink RX0 35 "FlameGuards$Burner" "dark" "I", Cond.fieldLink RX0 38 "FlameGuards$Burner" "unburnt" "I", Cond.methodLink RX5 50 yX3_copyFrom, Cond.instanceMethod yX3_copyFrom, Cond.selects RX3 yX3_copyFrom yX3_copyFrom, Cond.initialized RX3, Cond.code yX3_copyFrom cX3_copyFrom 2 none, Cond.fieldLink RX3 9 "FlameGuards$Plan" "ticks" "[I", Cond.fieldLink RX3 13 "FlameGuards$Plan" "values" "[I", Cond.fieldLink RX3 16 "FlameGuards$Plan" "size" "I", Cond.methodLink RX5 53 yX2_copyFrom, Cond.instanceMethod yX2_copyFrom, Cond.selects RX2 yX2_copyFrom yX2_copyFrom]
def wsX7_restore_r4 : List Cond := [Cond.initialized RX2, Cond.code yX2_copyFrom cX2_copyFrom 2 none, Cond.fieldLink RX2 9 "FlameGuards$Log" "events" "[I", Cond.fieldLink RX2 13 "FlameGuards$Log" "burners" "[I", Cond.fieldLink RX2 16 "FlameGuards$Log" "ticks" "[I", Cond.fieldLink RX2 19 "FlameGuards$Log" "counts" "[I", Cond.fieldLink RX2 22 "FlameGuards$Log" "known" "I", Cond.methodLink RX7 191 yX5_copyFrom]
def wsX7_restore : List Cond := .code yX7_restore cX7_restore 1 (some .int) :: ((wsX7_restore_r1 ++ (wsX7_restore_r2 ++ (wsX7_restore_r3 ++ wsX7_restore_r4))) ++ wsX70 ++ wsX50 ++ wsX10 ++ wsX40 ++ wsX00 ++ wsX30 ++ wsX20)
def wsX7_burner_r1 : List Cond := [Cond.fieldLink RX7 10 "FlameGuards" "state" "LFlameGuards$State;", Cond.fieldLink RX7 87 "FlameGuards$Burner" "kind" "I", Cond.fieldLink RX7 83 "FlameGuards$Burner" "tap" "I", Cond.fieldLink RX7 120 "FlameGuards$Burner" "pressed" "Z", Cond.fieldLink RX7 131 "FlameGuards$Burner" "igniter" "Z", Cond.fieldLink RX7 117 "FlameGuards$Burner" "flame" "Z", Cond.fieldLink RX7 193 "FlameGuards$Burner" "temperature" "I", Cond.fieldLink RX7 151 "FlameGuards$Burner" "locked" "Z", Cond.fieldLink RX7 154 "FlameGuards$Burner" "tries" "I", Cond.fieldLink RX7 196 "FlameGuards$Burner" "dark" "I", Cond.fieldLink RX7 199 "FlameGuards$Burner" "unburnt" "I", Cond.methodLink RX7 73 yX5_find, Cond.instanceMethod yX5_find, Cond.selects RX5 yX5_find yX5_find, Cond.initialized RX5, Cond.code yX5_find cX5_find 2 (some (.object "FlameGuards$Burner")), Cond.fieldLink RX5 22 "FlameGuards$State" "burners" "[LFlameGuards$Burner;", Cond.methodLink RX7 127 yX7_oneIf, Cond.static yX7_oneIf, Cond.initialized RX7, Cond.code yX7_oneIf cX7_oneIf 1 (some .int), Cond.methodLink RX7 123 yX5_isOpen, Cond.instanceMethod yX5_isOpen, Cond.selects RX5 yX5_isOpen yX5_isOpen]
def wsX7_burner_r2 : List Cond := [Cond.code yX5_isOpen cX5_isOpen 2 (some .boolean), Cond.fieldLink RX5 10 "FlameGuards$State" "settings" "LFlameGuards$Settings;", Cond.methodLink RX5 69 yX4_valueOf, Cond.instanceMethod yX4_valueOf, Cond.selects RX4 yX4_valueOf yX4_valueOf, Cond.initialized RX4, Cond.code yX4_valueOf cX4_valueOf 2 (some .int), Cond.fieldLink RX4 13 "FlameGuards$Settings" "values" "[I", Cond.static yX7_elementAt, Cond.code yX7_elementAt cX7_elementAt 2 (some .int), Cond.methodLink RX5 73 yX0_isOpen, Cond.instanceMethod yX0_isOpen, Cond.selects RX0 yX0_isOpen yX0_isOpen, Cond.initialized RX0, Cond.code yX0_isOpen cX0_isOpen 2 (some .boolean), Cond.fieldLink RX0 29 "FlameGuards$Burner" "locked" "Z", Cond.fieldLink RX0 13 "FlameGuards$Burner" "tap" "I", Cond.fieldLink RX0 16 "FlameGuards$Burner" "pressed" "Z", Cond.fieldLink RX0 26 "FlameGuards$Burner" "temperature" "I", Cond.methodLink RX7 144 yX0_strength, Cond.instanceMethod yX0_strength, Cond.selects RX0 yX0_strength yX0_strength, Cond.code yX0_strength cX0_strength 1 (some .int), Cond.fieldLink RX0 49 "FlameGuards$Burner" "STRENGTH" "[I"]
def wsX7_burner_r3 : List Cond := [Cond.methodLink RX0 45 yX0_told, Cond.instanceMethod yX0_told, Cond.selects RX0 yX0_told yX0_told, Cond.code yX0_told cX0_told 3 (some .int), Cond.fieldLink RX0 7 "FlameGuards$Burner" "kind" "I"]
def wsX7_burner : List Cond := .code yX7_burner cX7_burner 4 (some .int) :: ((wsX7_burner_r1 ++ (wsX7_burner_r2 ++ wsX7_burner_r3)) ++ wsX70 ++ wsX00 ++ wsX50 ++ wsX40)
def wsX7_staysOpen_r1 : List Cond := [Cond.fieldLink RX7 10 "FlameGuards" "state" "LFlameGuards$State;", Cond.fieldLink RX7 83 "FlameGuards$Burner" "tap" "I", Cond.fieldLink RX7 151 "FlameGuards$Burner" "locked" "Z", Cond.fieldLink RX7 57 "FlameGuards$State" "settings" "LFlameGuards$Settings;", Cond.fieldLink RX7 193 "FlameGuards$Burner" "temperature" "I", Cond.methodLink RX7 73 yX5_find, Cond.instanceMethod yX5_find, Cond.selects RX5 yX5_find yX5_find, Cond.initialized RX5, Cond.code yX5_find cX5_find 2 (some (.object "FlameGuards$Burner")), Cond.fieldLink RX5 22 "FlameGuards$State" "burners" "[LFlameGuards$Burner;", Cond.methodLink RX7 61 yX4_valueOf, Cond.instanceMethod yX4_valueOf, Cond.selects RX4 yX4_valueOf yX4_valueOf, Cond.initialized RX4, Cond.code yX4_valueOf cX4_valueOf 2 (some .int), Cond.fieldLink RX4 13 "FlameGuards$Settings" "values" "[I", Cond.static yX7_elementAt, Cond.initialized RX7, Cond.code yX7_elementAt cX7_elementAt 2 (some .int), Cond.methodLink RX7 202 yX0_temperatureAfter, Cond.instanceMethod yX0_temperatureAfter, Cond.selects RX0 yX0_temperatureAfter yX0_temperatureAfter, Cond.initialized RX0]
def wsX7_staysOpen_r2 : List Cond := [Cond.code yX0_temperatureAfter cX0_temperatureAfter 3 (some .int), Cond.fieldLink RX0 63 "FlameGuards$Burner" "WARMING" "[I", Cond.fieldLink RX0 7 "FlameGuards$Burner" "kind" "I", Cond.methodLink RX0 74 Lib.Math.min.name, Cond.static Lib.Math.min.name, Cond.initialized "java/lang/Math", Cond.code Lib.Math.min.name Lib.Math.min.code 2 (some .int), Cond.fieldLink RX0 79 "FlameGuards$Burner" "COOLING" "[I", Cond.methodLink RX0 82 Lib.Math.max.name, Cond.static Lib.Math.max.name, Cond.code Lib.Math.max.name Lib.Math.max.code 2 (some .int), Cond.methodLink RX0 71 yX0_quotient, Cond.static yX0_quotient, Cond.code yX0_quotient cX0_quotient 2 (some .int)]
def wsX7_staysOpen : List Cond := .code yX7_staysOpen cX7_staysOpen 6 (some .int) :: ((wsX7_staysOpen_r1 ++ wsX7_staysOpen_r2) ++ wsX70 ++ wsX00 ++ wsX50 ++ wsX40)
def wsX7_toPress_r1 : List Cond := [Cond.fieldLink RX7 10 "FlameGuards" "state" "LFlameGuards$State;", Cond.fieldLink RX7 57 "FlameGuards$State" "settings" "LFlameGuards$Settings;", Cond.fieldLink RX7 193 "FlameGuards$Burner" "temperature" "I", Cond.methodLink RX7 73 yX5_find, Cond.instanceMethod yX5_find, Cond.selects RX5 yX5_find yX5_find, Cond.initialized RX5, Cond.code yX5_find cX5_find 2 (some (.object "FlameGuards$Burner")), Cond.fieldLink RX5 22 "FlameGuards$State" "burners" "[LFlameGuards$Burner;", Cond.methodLink RX7 79 yX7_isWithin, Cond.static yX7_isWithin, Cond.initialized RX7, Cond.code yX7_isWithin cX7_isWithin 3 (some .boolean), Cond.methodLink RX7 61 yX4_valueOf, Cond.instanceMethod yX4_valueOf, Cond.selects RX4 yX4_valueOf yX4_valueOf, Cond.initialized RX4, Cond.code yX4_valueOf cX4_valueOf 2 (some .int), Cond.fieldLink RX4 13 "FlameGuards$Settings" "values" "[I", Cond.static yX7_elementAt, Cond.code yX7_elementAt cX7_elementAt 2 (some .int), Cond.methodLink RX7 206 yX0_heatAt, Cond.instanceMethod yX0_heatAt, Cond.selects RX0 yX0_heatAt yX0_heatAt]
def wsX7_toPress_r2 : List Cond := [Cond.initialized RX0, Cond.code yX0_heatAt cX0_heatAt 2 (some .int), Cond.fieldLink RX0 52 "FlameGuards$Burner" "HEAT" "[I", Cond.methodLink RX0 45 yX0_told, Cond.instanceMethod yX0_told, Cond.selects RX0 yX0_told yX0_told, Cond.code yX0_told cX0_told 3 (some .int), Cond.fieldLink RX0 7 "FlameGuards$Burner" "kind" "I", Cond.methodLink RX7 202 yX0_temperatureAfter, Cond.instanceMethod yX0_temperatureAfter, Cond.selects RX0 yX0_temperatureAfter yX0_temperatureAfter, Cond.code yX0_temperatureAfter cX0_temperatureAfter 3 (some .int), Cond.fieldLink RX0 63 "FlameGuards$Burner" "WARMING" "[I", Cond.methodLink RX0 74 Lib.Math.min.name, Cond.static Lib.Math.min.name, Cond.initialized "java/lang/Math", Cond.code Lib.Math.min.name Lib.Math.min.code 2 (some .int), Cond.fieldLink RX0 79 "FlameGuards$Burner" "COOLING" "[I", Cond.methodLink RX0 82 Lib.Math.max.name, Cond.static Lib.Math.max.name, Cond.code Lib.Math.max.name Lib.Math.max.code 2 (some .int), Cond.methodLink RX0 71 yX0_quotient, Cond.static yX0_quotient, Cond.code yX0_quotient cX0_quotient 2 (some .int)]
def wsX7_toPress : List Cond := .code yX7_toPress cX7_toPress 8 (some .int) :: ((wsX7_toPress_r1 ++ wsX7_toPress_r2) ++ wsX70 ++ wsX50 ++ wsX00 ++ wsX40)
def wsX7_clearIn_r1 : List Cond := [Cond.fieldLink RX7 19 "FlameGuards" "trial" "LFlameGuards$State;", Cond.fieldLink RX7 10 "FlameGuards" "state" "LFlameGuards$State;", Cond.methodLink RX7 191 yX5_copyFrom, Cond.instanceMethod yX5_copyFrom, Cond.selects RX5 yX5_copyFrom yX5_copyFrom, Cond.initialized RX5, Cond.code yX5_copyFrom cX5_copyFrom 3 none, Cond.fieldLink RX5 10 "FlameGuards$State" "settings" "LFlameGuards$Settings;", Cond.fieldLink RX5 22 "FlameGuards$State" "burners" "[LFlameGuards$Burner;", Cond.fieldLink RX5 32 "FlameGuards$State" "drafts" "LFlameGuards$Plan;", Cond.fieldLink RX5 39 "FlameGuards$State" "log" "LFlameGuards$Log;", Cond.fieldLink RX5 56 "FlameGuards$State" "tick" "I", Cond.fieldLink RX5 60 "FlameGuards$State" "gas" "I", Cond.fieldLink RX5 63 "FlameGuards$State" "mostGas" "I", Cond.fieldLink RX5 66 "FlameGuards$State" "mostDark" "I", Cond.methodLink RX5 43 yX4_copyFrom, Cond.instanceMethod yX4_copyFrom, Cond.selects RX4 yX4_copyFrom yX4_copyFrom, Cond.initialized RX4, Cond.code yX4_copyFrom cX4_copyFrom 2 none, Cond.fieldLink RX4 13 "FlameGuards$Settings" "values" "[I", Cond.static yX7_copyRow, Cond.initialized RX7, Cond.code yX7_copyRow cX7_copyRow 2 none]
def wsX7_clearIn_r2 : List Cond := [Cond.methodLink RX7 254 Lib.Math.min.name, Cond.static Lib.Math.min.name, Cond.initialized "java/lang/Math", Cond.code Lib.Math.min.name Lib.Math.min.code 2 (some .int), Cond.methodLink RX7 259 arraycopyName, Cond.native arraycopyName, Cond.static arraycopyName, Cond.initialized "java/lang/System", Cond.methodLink RX5 47 yX0_copyFrom, Cond.instanceMethod yX0_copyFrom, Cond.selects RX0 yX0_copyFrom yX0_copyFrom, Cond.initialized RX0, Cond.code yX0_copyFrom cX0_copyFrom 2 none, Cond.fieldLink RX0 7 "FlameGuards$Burner" "kind" "I", Cond.fieldLink RX0 13 "FlameGuards$Burner" "tap" "I", Cond.fieldLink RX0 16 "FlameGuards$Burner" "pressed" "Z", Cond.fieldLink RX0 20 "FlameGuards$Burner" "igniter" "Z", Cond.fieldLink RX0 23 "FlameGuards$Burner" "flame" "Z", Cond.fieldLink RX0 26 "FlameGuards$Burner" "temperature" "I", Cond.fieldLink RX0 29 "FlameGuards$Burner" "locked" "Z", Cond.fieldLink RX0 32 "FlameGuards$Burner" "tries" "I", Cond.fieldLink RX0 35 "FlameGuards$Burner" "dark" "I", Cond.fieldLink RX0 38 "FlameGuards$Burner" "unburnt" "I", Cond.methodLink RX5 50 yX3_copyFrom]
def wsX7_clearIn_r3 : List Cond := [Cond.instanceMethod yX3_copyFrom, Cond.selects RX3 yX3_copyFrom yX3_copyFrom, Cond.initialized RX3, Cond.code yX3_copyFrom cX3_copyFrom 2 none, Cond.fieldLink RX3 9 "FlameGuards$Plan" "ticks" "[I", Cond.fieldLink RX3 13 "FlameGuards$Plan" "values" "[I", Cond.fieldLink RX3 16 "FlameGuards$Plan" "size" "I", Cond.methodLink RX5 53 yX2_copyFrom, Cond.instanceMethod yX2_copyFrom, Cond.selects RX2 yX2_copyFrom yX2_copyFrom, Cond.initialized RX2, Cond.code yX2_copyFrom cX2_copyFrom 2 none, Cond.fieldLink RX2 9 "FlameGuards$Log" "events" "[I", Cond.fieldLink RX2 13 "FlameGuards$Log" "burners" "[I", Cond.fieldLink RX2 16 "FlameGuards$Log" "ticks" "[I", Cond.fieldLink RX2 19 "FlameGuards$Log" "counts" "[I", Cond.fieldLink RX2 22 "FlameGuards$Log" "known" "I", Cond.methodLink RX7 209 yX5_isClear, Cond.instanceMethod yX5_isClear, Cond.selects RX5 yX5_isClear yX5_isClear, Cond.code yX5_isClear cX5_isClear 5 (some .boolean), Cond.methodLink RX5 119 yX5_flowsUnburnt, Cond.instanceMethod yX5_flowsUnburnt, Cond.selects RX5 yX5_flowsUnburnt yX5_flowsUnburnt]
def wsX7_clearIn_r4 : List Cond := [Cond.code yX5_flowsUnburnt cX5_flowsUnburnt 2 (some .boolean), Cond.fieldLink RX5 80 "FlameGuards$Burner" "flame" "Z", Cond.methodLink RX5 132 yX5_isOpen, Cond.instanceMethod yX5_isOpen, Cond.selects RX5 yX5_isOpen yX5_isOpen, Cond.code yX5_isOpen cX5_isOpen 2 (some .boolean), Cond.methodLink RX5 69 yX4_valueOf, Cond.instanceMethod yX4_valueOf, Cond.selects RX4 yX4_valueOf yX4_valueOf, Cond.code yX4_valueOf cX4_valueOf 2 (some .int), Cond.static yX7_elementAt, Cond.code yX7_elementAt cX7_elementAt 2 (some .int), Cond.methodLink RX5 73 yX0_isOpen, Cond.instanceMethod yX0_isOpen, Cond.selects RX0 yX0_isOpen yX0_isOpen, Cond.code yX0_isOpen cX0_isOpen 2 (some .boolean), Cond.methodLink RX7 173 yX5_passTick, Cond.instanceMethod yX5_passTick, Cond.selects RX5 yX5_passTick yX5_passTick, Cond.code yX5_passTick cX5_passTick 5 none, Cond.methodLink RX5 113 Lib.Math.max.name, Cond.static Lib.Math.max.name, Cond.code Lib.Math.max.name Lib.Math.max.code 2 (some .int), Cond.methodLink RX5 91 yX5_draft]
def wsX7_clearIn_r5 : List Cond := [Cond.instanceMethod yX5_draft, Cond.selects RX5 yX5_draft yX5_draft, Cond.code yX5_draft cX5_draft 1 (some .int), Cond.methodLink RX5 77 yX3_draftIn, Cond.instanceMethod yX3_draftIn, Cond.selects RX3 yX3_draftIn yX3_draftIn, Cond.code yX3_draftIn cX3_draftIn 4 (some .int), Cond.methodLink RX5 95 yX5_allowsFire, Cond.instanceMethod yX5_allowsFire, Cond.selects RX5 yX5_allowsFire yX5_allowsFire, Cond.code yX5_allowsFire cX5_allowsFire 1 (some .boolean), Cond.methodLink RX5 99 yX5_blow, Cond.instanceMethod yX5_blow, Cond.selects RX5 yX5_blow yX5_blow, Cond.code yX5_blow cX5_blow 4 none, Cond.methodLink RX5 137 yX0_strength, Cond.instanceMethod yX0_strength, Cond.selects RX0 yX0_strength yX0_strength, Cond.code yX0_strength cX0_strength 1 (some .int), Cond.fieldLink RX0 49 "FlameGuards$Burner" "STRENGTH" "[I", Cond.methodLink RX0 45 yX0_told, Cond.instanceMethod yX0_told, Cond.selects RX0 yX0_told yX0_told, Cond.code yX0_told cX0_told 3 (some .int)]
def wsX7_clearIn_r6 : List Cond := [Cond.methodLink RX5 87 yX2_note, Cond.instanceMethod yX2_note, Cond.selects RX2 yX2_note yX2_note, Cond.code yX2_note cX2_note 4 none, Cond.methodLink RX2 36 Lib.Math.min.name, Cond.methodLink RX2 32 yX2_putFirst, Cond.static yX2_putFirst, Cond.code yX2_putFirst cX2_putFirst 2 none, Cond.methodLink RX2 46 arraycopyName, Cond.static yX7_isWithin, Cond.code yX7_isWithin cX7_isWithin 3 (some .boolean), Cond.methodLink RX5 103 yX5_spark, Cond.instanceMethod yX5_spark, Cond.selects RX5 yX5_spark yX5_spark, Cond.code yX5_spark cX5_spark 4 none, Cond.fieldLink RX5 123 "FlameGuards$Burner" "igniter" "Z", Cond.fieldLink RX5 84 "FlameGuards$Burner" "tries" "I", Cond.fieldLink RX5 134 "FlameGuards$Burner" "locked" "Z", Cond.methodLink RX5 140 yX5_kindle, Cond.instanceMethod yX5_kindle, Cond.selects RX5 yX5_kindle yX5_kindle, Cond.code yX5_kindle cX5_kindle 3 none, Cond.methodLink RX5 106 yX5_warmOrDrop, Cond.instanceMethod yX5_warmOrDrop]
def wsX7_clearIn_r7 : List Cond := [Cond.selects RX5 yX5_warmOrDrop yX5_warmOrDrop, Cond.code yX5_warmOrDrop cX5_warmOrDrop 4 none, Cond.methodLink RX5 143 yX0_warmOrCool, Cond.instanceMethod yX0_warmOrCool, Cond.selects RX0 yX0_warmOrCool yX0_warmOrCool, Cond.code yX0_warmOrCool cX0_warmOrCool 1 none, Cond.methodLink RX0 55 yX0_heatAt, Cond.instanceMethod yX0_heatAt, Cond.selects RX0 yX0_heatAt yX0_heatAt, Cond.code yX0_heatAt cX0_heatAt 2 (some .int), Cond.fieldLink RX0 52 "FlameGuards$Burner" "HEAT" "[I", Cond.methodLink RX0 59 yX0_temperatureAfter, Cond.instanceMethod yX0_temperatureAfter, Cond.selects RX0 yX0_temperatureAfter yX0_temperatureAfter, Cond.code yX0_temperatureAfter cX0_temperatureAfter 3 (some .int), Cond.fieldLink RX0 63 "FlameGuards$Burner" "WARMING" "[I", Cond.methodLink RX0 74 Lib.Math.min.name, Cond.fieldLink RX0 79 "FlameGuards$Burner" "COOLING" "[I", Cond.methodLink RX0 82 Lib.Math.max.name, Cond.methodLink RX0 71 yX0_quotient, Cond.static yX0_quotient, Cond.code yX0_quotient cX0_quotient 2 (some .int), Cond.methodLink RX5 110 yX5_flow, Cond.instanceMethod yX5_flow]
def wsX7_clearIn_r8 : List Cond := [Cond.selects RX5 yX5_flow yX5_flow, Cond.code yX5_flow cX5_flow 2 none, Cond.fieldLink RX5 146 "FlameGuards$Burner" "dark" "I", Cond.fieldLink RX5 151 "FlameGuards$Burner" "unburnt" "I", Cond.methodLink RX5 149 yX0_flow, Cond.instanceMethod yX0_flow, Cond.selects RX0 yX0_flow yX0_flow, Cond.code yX0_flow cX0_flow 1 (some .int), Cond.fieldLink RX0 41 "FlameGuards$Burner" "FLOW" "[I"]
def wsX7_clearIn : List Cond := .code yX7_clearIn cX7_clearIn 2 (some .int) :: ((wsX7_clearIn_r1 ++ (wsX7_clearIn_r2 ++ (wsX7_clearIn_r3 ++ (wsX7_clearIn_r4 ++ (wsX7_clearIn_r5 ++ (wsX7_clearIn_r6 ++ (wsX7_clearIn_r7 ++ wsX7_clearIn_r8))))))) ++ wsX70 ++ wsX50 ++ wsX40 ++ wsX00 ++ wsX30 ++ wsX20)
def wsX7_blownIn_r1 : List Cond := [Cond.fieldLink RX7 10 "FlameGuards" "state" "LFlameGuards$State;", Cond.fieldLink RX7 83 "FlameGuards$Burner" "tap" "I", Cond.fieldLink RX7 90 "FlameGuards$State" "drafts" "LFlameGuards$Plan;", Cond.fieldLink RX7 160 "FlameGuards$State" "tick" "I", Cond.methodLink RX7 73 yX5_find, Cond.instanceMethod yX5_find, Cond.selects RX5 yX5_find yX5_find, Cond.initialized RX5, Cond.code yX5_find cX5_find 2 (some (.object "FlameGuards$Burner")), Cond.fieldLink RX5 22 "FlameGuards$State" "burners" "[LFlameGuards$Burner;", Cond.methodLink RX7 144 yX0_strength, Cond.instanceMethod yX0_strength, Cond.selects RX0 yX0_strength yX0_strength, Cond.initialized RX0, Cond.code yX0_strength cX0_strength 1 (some .int), Cond.fieldLink RX0 49 "FlameGuards$Burner" "STRENGTH" "[I", Cond.fieldLink RX0 13 "FlameGuards$Burner" "tap" "I", Cond.methodLink RX0 45 yX0_told, Cond.instanceMethod yX0_told, Cond.selects RX0 yX0_told yX0_told, Cond.code yX0_told cX0_told 3 (some .int), Cond.fieldLink RX0 7 "FlameGuards$Burner" "kind" "I", Cond.static yX7_elementAt, Cond.initialized RX7]
def wsX7_blownIn_r2 : List Cond := [Cond.code yX7_elementAt cX7_elementAt 2 (some .int), Cond.methodLink RX7 212 yX3_draftIn, Cond.instanceMethod yX3_draftIn, Cond.selects RX3 yX3_draftIn yX3_draftIn, Cond.initialized RX3, Cond.code yX3_draftIn cX3_draftIn 4 (some .int), Cond.fieldLink RX3 16 "FlameGuards$Plan" "size" "I", Cond.fieldLink RX3 9 "FlameGuards$Plan" "ticks" "[I", Cond.fieldLink RX3 13 "FlameGuards$Plan" "values" "[I"]
def wsX7_blownIn : List Cond := .code yX7_blownIn cX7_blownIn 5 (some .int) :: ((wsX7_blownIn_r1 ++ wsX7_blownIn_r2) ++ wsX70 ++ wsX00 ++ wsX50 ++ wsX30)
def wsX7_entry : List Cond := .code yX7_entry cX7_entry 3 (some .int) :: ([.fieldLink RX7 10 "FlameGuards" "state" "LFlameGuards$State;", .fieldLink RX7 90 "FlameGuards$State" "drafts" "LFlameGuards$Plan;", .fieldLink RX7 102 "FlameGuards$Plan" "size" "I", .fieldLink RX7 215 "FlameGuards$Plan" "ticks" "[I", .fieldLink RX7 219 "FlameGuards$Plan" "values" "[I", .methodLink RX7 79 yX7_isWithin, .static yX7_isWithin, .initialized RX7, .code yX7_isWithin cX7_isWithin 3 (some .boolean), .methodLink RX7 222 yX7_elementAt, .static yX7_elementAt, .code yX7_elementAt cX7_elementAt 2 (some .int)] ++ wsX70 ++ wsX50 ++ wsX30)
def wsX7_event : List Cond := .code yX7_event cX7_event 3 (some .int) :: ([.fieldLink RX7 10 "FlameGuards" "state" "LFlameGuards$State;", .fieldLink RX7 164 "FlameGuards$State" "log" "LFlameGuards$Log;", .fieldLink RX7 226 "FlameGuards$Log" "known" "I", .fieldLink RX7 229 "FlameGuards$Log" "events" "[I", .fieldLink RX7 232 "FlameGuards$Log" "burners" "[I", .fieldLink RX7 235 "FlameGuards$Log" "ticks" "[I", .methodLink RX7 79 yX7_isWithin, .static yX7_isWithin, .initialized RX7, .code yX7_isWithin cX7_isWithin 3 (some .boolean), .methodLink RX7 222 yX7_elementAt, .static yX7_elementAt, .code yX7_elementAt cX7_elementAt 2 (some .int)] ++ wsX70 ++ wsX50 ++ wsX20)
def wsX7_count_r1 : List Cond := [Cond.fieldLink RX7 10 "FlameGuards" "state" "LFlameGuards$State;", Cond.fieldLink RX7 160 "FlameGuards$State" "tick" "I", Cond.fieldLink RX7 236 "FlameGuards$State" "gas" "I", Cond.fieldLink RX7 90 "FlameGuards$State" "drafts" "LFlameGuards$Plan;", Cond.fieldLink RX7 102 "FlameGuards$Plan" "size" "I", Cond.fieldLink RX7 164 "FlameGuards$State" "log" "LFlameGuards$Log;", Cond.fieldLink RX7 239 "FlameGuards$Log" "counts" "[I", Cond.fieldLink RX7 248 "FlameGuards$State" "mostGas" "I", Cond.fieldLink RX7 251 "FlameGuards$State" "mostDark" "I", Cond.fieldLink RX7 32 "FlameGuards" "history" "LFlameGuards$History;", Cond.fieldLink RX7 190 "FlameGuards$History" "size" "I", Cond.fieldLink RX7 39 "FlameGuards" "text" "LFlameGuards$Text;", Cond.fieldLink RX7 180 "FlameGuards$Text" "length" "I", Cond.methodLink RX7 141 yX5_draft, Cond.instanceMethod yX5_draft, Cond.selects RX5 yX5_draft yX5_draft, Cond.initialized RX5, Cond.code yX5_draft cX5_draft 1 (some .int), Cond.fieldLink RX5 32 "FlameGuards$State" "drafts" "LFlameGuards$Plan;", Cond.fieldLink RX5 56 "FlameGuards$State" "tick" "I", Cond.methodLink RX5 77 yX3_draftIn, Cond.instanceMethod yX3_draftIn, Cond.selects RX3 yX3_draftIn yX3_draftIn, Cond.initialized RX3]
def wsX7_count_r2 : List Cond := [Cond.code yX3_draftIn cX3_draftIn 4 (some .int), Cond.fieldLink RX3 16 "FlameGuards$Plan" "size" "I", Cond.fieldLink RX3 9 "FlameGuards$Plan" "ticks" "[I", Cond.fieldLink RX3 13 "FlameGuards$Plan" "values" "[I", Cond.methodLink RX7 222 yX7_elementAt, Cond.static yX7_elementAt, Cond.initialized RX7, Cond.code yX7_elementAt cX7_elementAt 2 (some .int), Cond.methodLink RX7 242 yX5_flames, Cond.instanceMethod yX5_flames, Cond.selects RX5 yX5_flames yX5_flames, Cond.code yX5_flames cX5_flames 6 (some .int), Cond.fieldLink RX5 22 "FlameGuards$State" "burners" "[LFlameGuards$Burner;", Cond.fieldLink RX5 80 "FlameGuards$Burner" "flame" "Z", Cond.static yX7_oneIf, Cond.code yX7_oneIf cX7_oneIf 1 (some .int), Cond.methodLink RX7 245 yX5_openValves, Cond.instanceMethod yX5_openValves, Cond.selects RX5 yX5_openValves yX5_openValves, Cond.code yX5_openValves cX5_openValves 6 (some .int), Cond.methodLink RX5 132 yX5_isOpen, Cond.instanceMethod yX5_isOpen, Cond.selects RX5 yX5_isOpen yX5_isOpen, Cond.code yX5_isOpen cX5_isOpen 2 (some .boolean)]
def wsX7_count_r3 : List Cond := [Cond.fieldLink RX5 10 "FlameGuards$State" "settings" "LFlameGuards$Settings;", Cond.methodLink RX5 69 yX4_valueOf, Cond.instanceMethod yX4_valueOf, Cond.selects RX4 yX4_valueOf yX4_valueOf, Cond.initialized RX4, Cond.code yX4_valueOf cX4_valueOf 2 (some .int), Cond.fieldLink RX4 13 "FlameGuards$Settings" "values" "[I", Cond.methodLink RX5 73 yX0_isOpen, Cond.instanceMethod yX0_isOpen, Cond.selects RX0 yX0_isOpen yX0_isOpen, Cond.initialized RX0, Cond.code yX0_isOpen cX0_isOpen 2 (some .boolean), Cond.fieldLink RX0 29 "FlameGuards$Burner" "locked" "Z", Cond.fieldLink RX0 13 "FlameGuards$Burner" "tap" "I", Cond.fieldLink RX0 16 "FlameGuards$Burner" "pressed" "Z", Cond.fieldLink RX0 26 "FlameGuards$Burner" "temperature" "I", Cond.methodLink RX7 157 yX5_lockedBurners, Cond.instanceMethod yX5_lockedBurners, Cond.selects RX5 yX5_lockedBurners yX5_lockedBurners, Cond.code yX5_lockedBurners cX5_lockedBurners 6 (some .int), Cond.fieldLink RX5 134 "FlameGuards$Burner" "locked" "Z"]
def wsX7_count : List Cond := .code yX7_count cX7_count 2 (some .int) :: ((wsX7_count_r1 ++ (wsX7_count_r2 ++ wsX7_count_r3)) ++ wsX70 ++ wsX50 ++ wsX30 ++ wsX20 ++ wsX10 ++ wsX60 ++ wsX00 ++ wsX40)
def wsX7_setting : List Cond := .code yX7_setting cX7_setting 2 (some .int) :: ([.fieldLink RX7 10 "FlameGuards" "state" "LFlameGuards$State;", .fieldLink RX7 57 "FlameGuards$State" "settings" "LFlameGuards$Settings;", .methodLink RX7 47 yX4_isOne, .static yX4_isOne, .initialized RX4, .code yX4_isOne cX4_isOne 1 (some .boolean), .fieldLink RX4 7 "FlameGuards$Settings" "FIRST" "[I", .static yX7_isWithin, .initialized RX7, .code yX7_isWithin cX7_isWithin 3 (some .boolean), .methodLink RX7 61 yX4_valueOf, .instanceMethod yX4_valueOf, .selects RX4 yX4_valueOf yX4_valueOf, .code yX4_valueOf cX4_valueOf 2 (some .int), .fieldLink RX4 13 "FlameGuards$Settings" "values" "[I", .static yX7_elementAt, .code yX7_elementAt cX7_elementAt 2 (some .int)] ++ wsX70 ++ wsX50 ++ wsX40)
def wsX8_init : List Cond := .code yX8_init cX8_init 1 none :: ([.methodLink RX8 1 objectInit, .instanceMethod objectInit, .code objectInit ⟨#[0xb1]⟩ 1 none, .arrayClass .int, .fieldLink RX8 7 "FlameGuardsModel" "s" "[I", .fieldLink RX8 13 "FlameGuardsModel" "aside" "[I", .fieldLink RX8 16 "FlameGuardsModel" "saved" "[I", .fieldLink RX8 19 "FlameGuardsModel" "snapshot" "[I", .fieldLink RX8 22 "FlameGuardsModel" "text" "[I", .fieldLink RX8 25 "FlameGuardsModel" "readTick" "[I", .fieldLink RX8 28 "FlameGuardsModel" "readDraft" "[I", .fieldLink RX8 31 "FlameGuardsModel" "thrown" "I"] ++ wsX80)
def wsX8_in : List Cond := .code yX8_in cX8_in 3 (some .boolean) :: ([])
def wsX8_isBurner : List Cond := .code yX8_isBurner cX8_isBurner 1 (some .boolean) :: ([.methodLink RX8 35 yX8_in, .static yX8_in, .initialized RX8, .code yX8_in cX8_in 3 (some .boolean)])
def wsX8_get : List Cond := .code yX8_get cX8_get 3 (some .int) :: ([.fieldLink RX8 7 "FlameGuardsModel" "s" "[I"] ++ wsX80)
def wsX8_lay : List Cond := .code yX8_lay cX8_lay 4 none :: ([.fieldLink RX8 7 "FlameGuardsModel" "s" "[I"] ++ wsX80)
def wsX8_records : List Cond := .code yX8_records cX8_records 2 none :: ([.fieldLink RX8 39 "FlameGuardsModel" "savedMany" "I", .fieldLink RX8 16 "FlameGuardsModel" "saved" "[I", .fieldLink RX8 7 "FlameGuardsModel" "s" "[I"] ++ wsX80)
def wsX8_putAside : List Cond := .code yX8_putAside cX8_putAside 2 none :: ([.fieldLink RX8 13 "FlameGuardsModel" "aside" "[I", .fieldLink RX8 7 "FlameGuardsModel" "s" "[I"] ++ wsX80)
def wsX8_takeBack : List Cond := .code yX8_takeBack cX8_takeBack 2 none :: ([.fieldLink RX8 7 "FlameGuardsModel" "s" "[I", .fieldLink RX8 13 "FlameGuardsModel" "aside" "[I"] ++ wsX80)
def wsX8_choose : List Cond := .code yX8_choose cX8_choose 4 (some .int) :: ([])
def wsX8_flow : List Cond := .code yX8_flow cX8_flow 2 (some .int) :: ([.methodLink RX8 42 yX8_choose, .static yX8_choose, .initialized RX8, .code yX8_choose cX8_choose 4 (some .int)])
def wsX8_heat : List Cond := .code yX8_heat cX8_heat 2 (some .int) :: ([.methodLink RX8 42 yX8_choose, .static yX8_choose, .initialized RX8, .code yX8_choose cX8_choose 4 (some .int)])
def wsX8_strengthOf : List Cond := .code yX8_strengthOf cX8_strengthOf 2 (some .int) :: ([.methodLink RX8 42 yX8_choose, .static yX8_choose, .initialized RX8, .code yX8_choose cX8_choose 4 (some .int)])
def wsX8_cooled : List Cond := .code yX8_cooled cX8_cooled 4 (some .int) :: ([.methodLink RX8 42 yX8_choose, .static yX8_choose, .initialized RX8, .code yX8_choose cX8_choose 4 (some .int)])
def wsX8_warmed : List Cond := .code yX8_warmed cX8_warmed 4 (some .int) :: ([.methodLink RX8 42 yX8_choose, .static yX8_choose, .initialized RX8, .code yX8_choose cX8_choose 4 (some .int)])
def wsX8_byFlame : List Cond := .code yX8_byFlame cX8_byFlame 3 (some .int) :: ([.methodLink RX8 46 yX8_warmed, .static yX8_warmed, .initialized RX8, .code yX8_warmed cX8_warmed 4 (some .int), .methodLink RX8 42 yX8_choose, .static yX8_choose, .code yX8_choose cX8_choose 4 (some .int), .methodLink RX8 50 yX8_cooled, .static yX8_cooled, .code yX8_cooled cX8_cooled 4 (some .int)])
def wsX8_strength : List Cond := .code yX8_strength cX8_strength 2 (some .int) :: ([.methodLink RX8 53 yX8_get, .instanceMethod yX8_get, .selects RX8 yX8_get yX8_get, .initialized RX8, .code yX8_get cX8_get 3 (some .int), .fieldLink RX8 7 "FlameGuardsModel" "s" "[I", .methodLink RX8 57 yX8_strengthOf, .static yX8_strengthOf, .code yX8_strengthOf cX8_strengthOf 2 (some .int), .methodLink RX8 42 yX8_choose, .static yX8_choose, .code yX8_choose cX8_choose 4 (some .int)] ++ wsX80)
def wsX8_isOpen : List Cond := .code yX8_isOpen cX8_isOpen 2 (some .boolean) :: ([.fieldLink RX8 7 "FlameGuardsModel" "s" "[I", .methodLink RX8 53 yX8_get, .instanceMethod yX8_get, .selects RX8 yX8_get yX8_get, .initialized RX8, .code yX8_get cX8_get 3 (some .int)] ++ wsX80)
def wsX8_draftAt : List Cond := .code yX8_draftAt cX8_draftAt 4 (some .int) :: ([.fieldLink RX8 7 "FlameGuardsModel" "s" "[I"] ++ wsX80)
def wsX8_tells : List Cond := .code yX8_tells cX8_tells 4 none :: ([.fieldLink RX8 7 "FlameGuardsModel" "s" "[I"] ++ wsX80)
def wsX8_sparks : List Cond := .code yX8_sparks cX8_sparks 3 none :: ([.fieldLink RX8 7 "FlameGuardsModel" "s" "[I", .methodLink RX8 53 yX8_get, .instanceMethod yX8_get, .selects RX8 yX8_get yX8_get, .initialized RX8, .code yX8_get cX8_get 3 (some .int), .methodLink RX8 64 yX8_lay, .instanceMethod yX8_lay, .selects RX8 yX8_lay yX8_lay, .code yX8_lay cX8_lay 4 none, .methodLink RX8 68 yX8_strength, .instanceMethod yX8_strength, .selects RX8 yX8_strength yX8_strength, .code yX8_strength cX8_strength 2 (some .int), .methodLink RX8 57 yX8_strengthOf, .static yX8_strengthOf, .code yX8_strengthOf cX8_strengthOf 2 (some .int), .methodLink RX8 42 yX8_choose, .static yX8_choose, .code yX8_choose cX8_choose 4 (some .int), .methodLink RX8 72 yX8_tells, .instanceMethod yX8_tells, .selects RX8 yX8_tells yX8_tells, .code yX8_tells cX8_tells 4 none] ++ wsX80)
def wsX8_burns_r1 : List Cond := [Cond.fieldLink RX8 7 "FlameGuardsModel" "s" "[I", Cond.methodLink RX8 53 yX8_get, Cond.instanceMethod yX8_get, Cond.selects RX8 yX8_get yX8_get, Cond.initialized RX8, Cond.code yX8_get cX8_get 3 (some .int), Cond.methodLink RX8 60 yX8_isOpen, Cond.instanceMethod yX8_isOpen, Cond.selects RX8 yX8_isOpen yX8_isOpen, Cond.code yX8_isOpen cX8_isOpen 2 (some .boolean), Cond.methodLink RX8 64 yX8_lay, Cond.instanceMethod yX8_lay, Cond.selects RX8 yX8_lay yX8_lay, Cond.code yX8_lay cX8_lay 4 none, Cond.methodLink RX8 68 yX8_strength, Cond.instanceMethod yX8_strength, Cond.selects RX8 yX8_strength yX8_strength, Cond.code yX8_strength cX8_strength 2 (some .int), Cond.methodLink RX8 57 yX8_strengthOf, Cond.static yX8_strengthOf, Cond.code yX8_strengthOf cX8_strengthOf 2 (some .int), Cond.methodLink RX8 42 yX8_choose, Cond.static yX8_choose, Cond.code yX8_choose cX8_choose 4 (some .int)]
def wsX8_burns_r2 : List Cond := [Cond.methodLink RX8 72 yX8_tells, Cond.instanceMethod yX8_tells, Cond.selects RX8 yX8_tells yX8_tells, Cond.code yX8_tells cX8_tells 4 none, Cond.methodLink RX8 76 yX8_sparks, Cond.instanceMethod yX8_sparks, Cond.selects RX8 yX8_sparks yX8_sparks, Cond.code yX8_sparks cX8_sparks 3 none, Cond.methodLink RX8 79 yX8_heat, Cond.static yX8_heat, Cond.code yX8_heat cX8_heat 2 (some .int), Cond.methodLink RX8 82 yX8_byFlame, Cond.static yX8_byFlame, Cond.code yX8_byFlame cX8_byFlame 3 (some .int), Cond.methodLink RX8 46 yX8_warmed, Cond.static yX8_warmed, Cond.code yX8_warmed cX8_warmed 4 (some .int), Cond.methodLink RX8 50 yX8_cooled, Cond.static yX8_cooled, Cond.code yX8_cooled cX8_cooled 4 (some .int), Cond.methodLink RX8 85 yX8_flow, Cond.static yX8_flow, Cond.code yX8_flow cX8_flow 2 (some .int)]
def wsX8_burns : List Cond := .code yX8_burns cX8_burns 9 none :: ((wsX8_burns_r1 ++ wsX8_burns_r2) ++ wsX80)
def wsX8_ticks_r1 : List Cond := [Cond.fieldLink RX8 7 "FlameGuardsModel" "s" "[I", Cond.methodLink RX8 88 yX8_draftAt, Cond.instanceMethod yX8_draftAt, Cond.selects RX8 yX8_draftAt yX8_draftAt, Cond.initialized RX8, Cond.code yX8_draftAt cX8_draftAt 4 (some .int), Cond.methodLink RX8 91 yX8_burns, Cond.instanceMethod yX8_burns, Cond.selects RX8 yX8_burns yX8_burns, Cond.code yX8_burns cX8_burns 9 none, Cond.methodLink RX8 53 yX8_get, Cond.instanceMethod yX8_get, Cond.selects RX8 yX8_get yX8_get, Cond.code yX8_get cX8_get 3 (some .int), Cond.methodLink RX8 60 yX8_isOpen, Cond.instanceMethod yX8_isOpen, Cond.selects RX8 yX8_isOpen yX8_isOpen, Cond.code yX8_isOpen cX8_isOpen 2 (some .boolean), Cond.methodLink RX8 64 yX8_lay, Cond.instanceMethod yX8_lay, Cond.selects RX8 yX8_lay yX8_lay, Cond.code yX8_lay cX8_lay 4 none, Cond.methodLink RX8 68 yX8_strength, Cond.instanceMethod yX8_strength]
def wsX8_ticks_r2 : List Cond := [Cond.selects RX8 yX8_strength yX8_strength, Cond.code yX8_strength cX8_strength 2 (some .int), Cond.methodLink RX8 57 yX8_strengthOf, Cond.static yX8_strengthOf, Cond.code yX8_strengthOf cX8_strengthOf 2 (some .int), Cond.methodLink RX8 42 yX8_choose, Cond.static yX8_choose, Cond.code yX8_choose cX8_choose 4 (some .int), Cond.methodLink RX8 72 yX8_tells, Cond.instanceMethod yX8_tells, Cond.selects RX8 yX8_tells yX8_tells, Cond.code yX8_tells cX8_tells 4 none, Cond.methodLink RX8 76 yX8_sparks, Cond.instanceMethod yX8_sparks, Cond.selects RX8 yX8_sparks yX8_sparks, Cond.code yX8_sparks cX8_sparks 3 none, Cond.methodLink RX8 79 yX8_heat, Cond.static yX8_heat, Cond.code yX8_heat cX8_heat 2 (some .int), Cond.methodLink RX8 82 yX8_byFlame, Cond.static yX8_byFlame, Cond.code yX8_byFlame cX8_byFlame 3 (some .int), Cond.methodLink RX8 46 yX8_warmed, Cond.static yX8_warmed]
def wsX8_ticks_r3 : List Cond := [Cond.code yX8_warmed cX8_warmed 4 (some .int), Cond.methodLink RX8 50 yX8_cooled, Cond.static yX8_cooled, Cond.code yX8_cooled cX8_cooled 4 (some .int), Cond.methodLink RX8 85 yX8_flow, Cond.static yX8_flow, Cond.code yX8_flow cX8_flow 2 (some .int)]
def wsX8_ticks : List Cond := .code yX8_ticks cX8_ticks 4 none :: ((wsX8_ticks_r1 ++ (wsX8_ticks_r2 ++ wsX8_ticks_r3)) ++ wsX80)
def wsX8_totals : List Cond := .code yX8_totals cX8_totals 1 (some .int) :: ([.fieldLink RX8 7 "FlameGuardsModel" "s" "[I"] ++ wsX80)
def wsX8_isSetting : List Cond := .code yX8_isSetting cX8_isSetting 2 (some .boolean) :: ([.methodLink RX8 35 yX8_in, .static yX8_in, .initialized RX8, .code yX8_in cX8_in 3 (some .boolean)])
def wsX8_set : List Cond := .code yX8_set cX8_set 4 (some .int) :: ([.fieldLink RX8 31 "FlameGuardsModel" "thrown" "I", .fieldLink RX8 7 "FlameGuardsModel" "s" "[I", .methodLink RX8 35 yX8_in, .static yX8_in, .initialized RX8, .code yX8_in cX8_in 3 (some .boolean), .methodLink RX8 94 yX8_isSetting, .static yX8_isSetting, .code yX8_isSetting cX8_isSetting 2 (some .boolean), .methodLink RX8 98 yX8_records, .instanceMethod yX8_records, .selects RX8 yX8_records yX8_records, .code yX8_records cX8_records 2 none, .fieldLink RX8 39 "FlameGuardsModel" "savedMany" "I", .fieldLink RX8 16 "FlameGuardsModel" "saved" "[I"] ++ wsX80)
def wsX8_setKind : List Cond := .code yX8_setKind cX8_setKind 4 (some .int) :: ([.fieldLink RX8 31 "FlameGuardsModel" "thrown" "I", .methodLink RX8 101 yX8_isBurner, .static yX8_isBurner, .initialized RX8, .code yX8_isBurner cX8_isBurner 1 (some .boolean), .methodLink RX8 35 yX8_in, .static yX8_in, .code yX8_in cX8_in 3 (some .boolean), .methodLink RX8 53 yX8_get, .instanceMethod yX8_get, .selects RX8 yX8_get yX8_get, .code yX8_get cX8_get 3 (some .int), .fieldLink RX8 7 "FlameGuardsModel" "s" "[I", .methodLink RX8 98 yX8_records, .instanceMethod yX8_records, .selects RX8 yX8_records yX8_records, .code yX8_records cX8_records 2 none, .fieldLink RX8 39 "FlameGuardsModel" "savedMany" "I", .fieldLink RX8 16 "FlameGuardsModel" "saved" "[I", .methodLink RX8 64 yX8_lay, .instanceMethod yX8_lay, .selects RX8 yX8_lay yX8_lay, .code yX8_lay cX8_lay 4 none] ++ wsX80)
def wsX8_entryAt : List Cond := .code yX8_entryAt cX8_entryAt 3 (some .int) :: ([.fieldLink RX8 7 "FlameGuardsModel" "s" "[I"] ++ wsX80)
def wsX8_plans : List Cond := .code yX8_plans cX8_plans 4 none :: ([.fieldLink RX8 7 "FlameGuardsModel" "s" "[I", .methodLink RX8 104 yX8_entryAt, .instanceMethod yX8_entryAt, .selects RX8 yX8_entryAt yX8_entryAt, .initialized RX8, .code yX8_entryAt cX8_entryAt 3 (some .int)] ++ wsX80)
def wsX8_plan : List Cond := .code yX8_plan cX8_plan 4 (some .int) :: ([.fieldLink RX8 31 "FlameGuardsModel" "thrown" "I", .fieldLink RX8 7 "FlameGuardsModel" "s" "[I", .methodLink RX8 35 yX8_in, .static yX8_in, .initialized RX8, .code yX8_in cX8_in 3 (some .boolean), .methodLink RX8 104 yX8_entryAt, .instanceMethod yX8_entryAt, .selects RX8 yX8_entryAt yX8_entryAt, .code yX8_entryAt cX8_entryAt 3 (some .int), .methodLink RX8 98 yX8_records, .instanceMethod yX8_records, .selects RX8 yX8_records yX8_records, .code yX8_records cX8_records 2 none, .fieldLink RX8 39 "FlameGuardsModel" "savedMany" "I", .fieldLink RX8 16 "FlameGuardsModel" "saved" "[I", .methodLink RX8 107 yX8_plans, .instanceMethod yX8_plans, .selects RX8 yX8_plans yX8_plans, .code yX8_plans cX8_plans 4 none] ++ wsX80)
def wsX8_sign : List Cond := .code yX8_sign cX8_sign 1 (some .int) :: ([.fieldLink RX8 110 "FlameGuardsModel" "at" "I", .fieldLink RX8 113 "FlameGuardsModel" "length" "I", .fieldLink RX8 22 "FlameGuardsModel" "text" "[I"] ++ wsX80)
def wsX8_takes : List Cond := .code yX8_takes cX8_takes 4 (some .int) :: ([.fieldLink RX8 116 "FlameGuardsModel" "isWell" "Z", .fieldLink RX8 110 "FlameGuardsModel" "at" "I", .methodLink RX8 120 yX8_sign, .instanceMethod yX8_sign, .selects RX8 yX8_sign yX8_sign, .initialized RX8, .code yX8_sign cX8_sign 1 (some .int), .fieldLink RX8 113 "FlameGuardsModel" "length" "I", .fieldLink RX8 22 "FlameGuardsModel" "text" "[I", .methodLink RX8 35 yX8_in, .static yX8_in, .code yX8_in cX8_in 3 (some .boolean)] ++ wsX80)
def wsX8_readsEntry : List Cond := .code yX8_readsEntry cX8_readsEntry 3 none :: ([.fieldLink RX8 116 "FlameGuardsModel" "isWell" "Z", .fieldLink RX8 25 "FlameGuardsModel" "readTick" "[I", .fieldLink RX8 127 "FlameGuardsModel" "readMany" "I", .fieldLink RX8 28 "FlameGuardsModel" "readDraft" "[I", .methodLink RX8 124 yX8_takes, .instanceMethod yX8_takes, .selects RX8 yX8_takes yX8_takes, .initialized RX8, .code yX8_takes cX8_takes 4 (some .int), .fieldLink RX8 110 "FlameGuardsModel" "at" "I", .methodLink RX8 120 yX8_sign, .instanceMethod yX8_sign, .selects RX8 yX8_sign yX8_sign, .code yX8_sign cX8_sign 1 (some .int), .fieldLink RX8 113 "FlameGuardsModel" "length" "I", .fieldLink RX8 22 "FlameGuardsModel" "text" "[I", .methodLink RX8 35 yX8_in, .static yX8_in, .code yX8_in cX8_in 3 (some .boolean)] ++ wsX80)
def wsX8_reads : List Cond := .code yX8_reads cX8_reads 1 (some .int) :: ([.fieldLink RX8 110 "FlameGuardsModel" "at" "I", .fieldLink RX8 116 "FlameGuardsModel" "isWell" "Z", .fieldLink RX8 127 "FlameGuardsModel" "readMany" "I", .fieldLink RX8 113 "FlameGuardsModel" "length" "I", .methodLink RX8 130 yX8_readsEntry, .instanceMethod yX8_readsEntry, .selects RX8 yX8_readsEntry yX8_readsEntry, .initialized RX8, .code yX8_readsEntry cX8_readsEntry 3 none, .fieldLink RX8 25 "FlameGuardsModel" "readTick" "[I", .fieldLink RX8 28 "FlameGuardsModel" "readDraft" "[I", .methodLink RX8 124 yX8_takes, .instanceMethod yX8_takes, .selects RX8 yX8_takes yX8_takes, .code yX8_takes cX8_takes 4 (some .int), .methodLink RX8 120 yX8_sign, .instanceMethod yX8_sign, .selects RX8 yX8_sign yX8_sign, .code yX8_sign cX8_sign 1 (some .int), .fieldLink RX8 22 "FlameGuardsModel" "text" "[I", .methodLink RX8 35 yX8_in, .static yX8_in, .code yX8_in cX8_in 3 (some .boolean)] ++ wsX80)
def wsX8_unlikeTicks : List Cond := .code yX8_unlikeTicks cX8_unlikeTicks 5 (some .int) :: ([.fieldLink RX8 127 "FlameGuardsModel" "readMany" "I", .fieldLink RX8 25 "FlameGuardsModel" "readTick" "[I"] ++ wsX80)
def wsX8_readPlan_r1 : List Cond := [Cond.fieldLink RX8 31 "FlameGuardsModel" "thrown" "I", Cond.fieldLink RX8 7 "FlameGuardsModel" "s" "[I", Cond.fieldLink RX8 127 "FlameGuardsModel" "readMany" "I", Cond.fieldLink RX8 25 "FlameGuardsModel" "readTick" "[I", Cond.fieldLink RX8 28 "FlameGuardsModel" "readDraft" "[I", Cond.methodLink RX8 133 yX8_reads, Cond.instanceMethod yX8_reads, Cond.selects RX8 yX8_reads yX8_reads, Cond.initialized RX8, Cond.code yX8_reads cX8_reads 1 (some .int), Cond.fieldLink RX8 110 "FlameGuardsModel" "at" "I", Cond.fieldLink RX8 116 "FlameGuardsModel" "isWell" "Z", Cond.fieldLink RX8 113 "FlameGuardsModel" "length" "I", Cond.methodLink RX8 130 yX8_readsEntry, Cond.instanceMethod yX8_readsEntry, Cond.selects RX8 yX8_readsEntry yX8_readsEntry, Cond.code yX8_readsEntry cX8_readsEntry 3 none, Cond.methodLink RX8 124 yX8_takes, Cond.instanceMethod yX8_takes, Cond.selects RX8 yX8_takes yX8_takes, Cond.code yX8_takes cX8_takes 4 (some .int), Cond.methodLink RX8 120 yX8_sign, Cond.instanceMethod yX8_sign, Cond.selects RX8 yX8_sign yX8_sign]
def wsX8_readPlan_r2 : List Cond := [Cond.code yX8_sign cX8_sign 1 (some .int), Cond.fieldLink RX8 22 "FlameGuardsModel" "text" "[I", Cond.methodLink RX8 35 yX8_in, Cond.static yX8_in, Cond.code yX8_in cX8_in 3 (some .boolean), Cond.methodLink RX8 136 yX8_unlikeTicks, Cond.instanceMethod yX8_unlikeTicks, Cond.selects RX8 yX8_unlikeTicks yX8_unlikeTicks, Cond.code yX8_unlikeTicks cX8_unlikeTicks 5 (some .int), Cond.methodLink RX8 98 yX8_records, Cond.instanceMethod yX8_records, Cond.selects RX8 yX8_records yX8_records, Cond.code yX8_records cX8_records 2 none, Cond.fieldLink RX8 39 "FlameGuardsModel" "savedMany" "I", Cond.fieldLink RX8 16 "FlameGuardsModel" "saved" "[I", Cond.methodLink RX8 107 yX8_plans, Cond.instanceMethod yX8_plans, Cond.selects RX8 yX8_plans yX8_plans, Cond.code yX8_plans cX8_plans 4 none, Cond.methodLink RX8 104 yX8_entryAt, Cond.instanceMethod yX8_entryAt, Cond.selects RX8 yX8_entryAt yX8_entryAt, Cond.code yX8_entryAt cX8_entryAt 3 (some .int)]
def wsX8_readPlan : List Cond := .code yX8_readPlan cX8_readPlan 3 (some .int) :: ((wsX8_readPlan_r1 ++ wsX8_readPlan_r2) ++ wsX80)
def wsX8_turn : List Cond := .code yX8_turn cX8_turn 4 (some .int) :: ([.fieldLink RX8 31 "FlameGuardsModel" "thrown" "I", .methodLink RX8 101 yX8_isBurner, .static yX8_isBurner, .initialized RX8, .code yX8_isBurner cX8_isBurner 1 (some .boolean), .methodLink RX8 35 yX8_in, .static yX8_in, .code yX8_in cX8_in 3 (some .boolean), .methodLink RX8 53 yX8_get, .instanceMethod yX8_get, .selects RX8 yX8_get yX8_get, .code yX8_get cX8_get 3 (some .int), .fieldLink RX8 7 "FlameGuardsModel" "s" "[I", .methodLink RX8 98 yX8_records, .instanceMethod yX8_records, .selects RX8 yX8_records yX8_records, .code yX8_records cX8_records 2 none, .fieldLink RX8 39 "FlameGuardsModel" "savedMany" "I", .fieldLink RX8 16 "FlameGuardsModel" "saved" "[I", .methodLink RX8 64 yX8_lay, .instanceMethod yX8_lay, .selects RX8 yX8_lay yX8_lay, .code yX8_lay cX8_lay 4 none] ++ wsX80)
def wsX8_press_r1 : List Cond := [Cond.fieldLink RX8 31 "FlameGuardsModel" "thrown" "I", Cond.methodLink RX8 101 yX8_isBurner, Cond.static yX8_isBurner, Cond.initialized RX8, Cond.code yX8_isBurner cX8_isBurner 1 (some .boolean), Cond.methodLink RX8 35 yX8_in, Cond.static yX8_in, Cond.code yX8_in cX8_in 3 (some .boolean), Cond.methodLink RX8 53 yX8_get, Cond.instanceMethod yX8_get, Cond.selects RX8 yX8_get yX8_get, Cond.code yX8_get cX8_get 3 (some .int), Cond.fieldLink RX8 7 "FlameGuardsModel" "s" "[I", Cond.methodLink RX8 98 yX8_records, Cond.instanceMethod yX8_records, Cond.selects RX8 yX8_records yX8_records, Cond.code yX8_records cX8_records 2 none, Cond.fieldLink RX8 39 "FlameGuardsModel" "savedMany" "I", Cond.fieldLink RX8 16 "FlameGuardsModel" "saved" "[I", Cond.methodLink RX8 64 yX8_lay, Cond.instanceMethod yX8_lay, Cond.selects RX8 yX8_lay yX8_lay, Cond.code yX8_lay cX8_lay 4 none, Cond.methodLink RX8 60 yX8_isOpen]
def wsX8_press_r2 : List Cond := [Cond.instanceMethod yX8_isOpen, Cond.selects RX8 yX8_isOpen yX8_isOpen, Cond.code yX8_isOpen cX8_isOpen 2 (some .boolean)]
def wsX8_press : List Cond := .code yX8_press cX8_press 3 (some .int) :: ((wsX8_press_r1 ++ wsX8_press_r2) ++ wsX80)
def wsX8_sumOver : List Cond := .code yX8_sumOver cX8_sumOver 4 (some .int) :: ([.methodLink RX8 53 yX8_get, .instanceMethod yX8_get, .selects RX8 yX8_get yX8_get, .initialized RX8, .code yX8_get cX8_get 3 (some .int), .fieldLink RX8 7 "FlameGuardsModel" "s" "[I"] ++ wsX80)
def wsX8_igniter_r1 : List Cond := [Cond.fieldLink RX8 31 "FlameGuardsModel" "thrown" "I", Cond.methodLink RX8 101 yX8_isBurner, Cond.static yX8_isBurner, Cond.initialized RX8, Cond.code yX8_isBurner cX8_isBurner 1 (some .boolean), Cond.methodLink RX8 35 yX8_in, Cond.static yX8_in, Cond.code yX8_in cX8_in 3 (some .boolean), Cond.methodLink RX8 53 yX8_get, Cond.instanceMethod yX8_get, Cond.selects RX8 yX8_get yX8_get, Cond.code yX8_get cX8_get 3 (some .int), Cond.fieldLink RX8 7 "FlameGuardsModel" "s" "[I", Cond.methodLink RX8 98 yX8_records, Cond.instanceMethod yX8_records, Cond.selects RX8 yX8_records yX8_records, Cond.code yX8_records cX8_records 2 none, Cond.fieldLink RX8 39 "FlameGuardsModel" "savedMany" "I", Cond.fieldLink RX8 16 "FlameGuardsModel" "saved" "[I", Cond.methodLink RX8 64 yX8_lay, Cond.instanceMethod yX8_lay, Cond.selects RX8 yX8_lay yX8_lay, Cond.code yX8_lay cX8_lay 4 none, Cond.methodLink RX8 139 yX8_sumOver]
def wsX8_igniter_r2 : List Cond := [Cond.instanceMethod yX8_sumOver, Cond.selects RX8 yX8_sumOver yX8_sumOver, Cond.code yX8_sumOver cX8_sumOver 4 (some .int)]
def wsX8_igniter : List Cond := .code yX8_igniter cX8_igniter 3 (some .int) :: ((wsX8_igniter_r1 ++ wsX8_igniter_r2) ++ wsX80)
def wsX8_light_r1 : List Cond := [Cond.fieldLink RX8 31 "FlameGuardsModel" "thrown" "I", Cond.fieldLink RX8 7 "FlameGuardsModel" "s" "[I", Cond.methodLink RX8 101 yX8_isBurner, Cond.static yX8_isBurner, Cond.initialized RX8, Cond.code yX8_isBurner cX8_isBurner 1 (some .boolean), Cond.methodLink RX8 35 yX8_in, Cond.static yX8_in, Cond.code yX8_in cX8_in 3 (some .boolean), Cond.methodLink RX8 60 yX8_isOpen, Cond.instanceMethod yX8_isOpen, Cond.selects RX8 yX8_isOpen yX8_isOpen, Cond.code yX8_isOpen cX8_isOpen 2 (some .boolean), Cond.methodLink RX8 53 yX8_get, Cond.instanceMethod yX8_get, Cond.selects RX8 yX8_get yX8_get, Cond.code yX8_get cX8_get 3 (some .int), Cond.methodLink RX8 98 yX8_records, Cond.instanceMethod yX8_records, Cond.selects RX8 yX8_records yX8_records, Cond.code yX8_records cX8_records 2 none, Cond.fieldLink RX8 39 "FlameGuardsModel" "savedMany" "I", Cond.fieldLink RX8 16 "FlameGuardsModel" "saved" "[I", Cond.methodLink RX8 88 yX8_draftAt]
def wsX8_light_r2 : List Cond := [Cond.instanceMethod yX8_draftAt, Cond.selects RX8 yX8_draftAt yX8_draftAt, Cond.code yX8_draftAt cX8_draftAt 4 (some .int), Cond.methodLink RX8 68 yX8_strength, Cond.instanceMethod yX8_strength, Cond.selects RX8 yX8_strength yX8_strength, Cond.code yX8_strength cX8_strength 2 (some .int), Cond.methodLink RX8 57 yX8_strengthOf, Cond.static yX8_strengthOf, Cond.code yX8_strengthOf cX8_strengthOf 2 (some .int), Cond.methodLink RX8 42 yX8_choose, Cond.static yX8_choose, Cond.code yX8_choose cX8_choose 4 (some .int), Cond.methodLink RX8 64 yX8_lay, Cond.instanceMethod yX8_lay, Cond.selects RX8 yX8_lay yX8_lay, Cond.code yX8_lay cX8_lay 4 none, Cond.methodLink RX8 72 yX8_tells, Cond.instanceMethod yX8_tells, Cond.selects RX8 yX8_tells yX8_tells, Cond.code yX8_tells cX8_tells 4 none]
def wsX8_light : List Cond := .code yX8_light cX8_light 2 (some .int) :: ((wsX8_light_r1 ++ wsX8_light_r2) ++ wsX80)
def wsX8_unlock_r1 : List Cond := [Cond.fieldLink RX8 31 "FlameGuardsModel" "thrown" "I", Cond.methodLink RX8 101 yX8_isBurner, Cond.static yX8_isBurner, Cond.initialized RX8, Cond.code yX8_isBurner cX8_isBurner 1 (some .boolean), Cond.methodLink RX8 35 yX8_in, Cond.static yX8_in, Cond.code yX8_in cX8_in 3 (some .boolean), Cond.methodLink RX8 53 yX8_get, Cond.instanceMethod yX8_get, Cond.selects RX8 yX8_get yX8_get, Cond.code yX8_get cX8_get 3 (some .int), Cond.fieldLink RX8 7 "FlameGuardsModel" "s" "[I", Cond.methodLink RX8 98 yX8_records, Cond.instanceMethod yX8_records, Cond.selects RX8 yX8_records yX8_records, Cond.code yX8_records cX8_records 2 none, Cond.fieldLink RX8 39 "FlameGuardsModel" "savedMany" "I", Cond.fieldLink RX8 16 "FlameGuardsModel" "saved" "[I", Cond.methodLink RX8 64 yX8_lay, Cond.instanceMethod yX8_lay, Cond.selects RX8 yX8_lay yX8_lay, Cond.code yX8_lay cX8_lay 4 none, Cond.methodLink RX8 139 yX8_sumOver]
def wsX8_unlock_r2 : List Cond := [Cond.instanceMethod yX8_sumOver, Cond.selects RX8 yX8_sumOver yX8_sumOver, Cond.code yX8_sumOver cX8_sumOver 4 (some .int)]
def wsX8_unlock : List Cond := .code yX8_unlock cX8_unlock 2 (some .int) :: ((wsX8_unlock_r1 ++ wsX8_unlock_r2) ++ wsX80)
def wsX8_pass_r1 : List Cond := [Cond.fieldLink RX8 31 "FlameGuardsModel" "thrown" "I", Cond.fieldLink RX8 7 "FlameGuardsModel" "s" "[I", Cond.constant RX8 142 (99999), Cond.methodLink RX8 35 yX8_in, Cond.static yX8_in, Cond.initialized RX8, Cond.code yX8_in cX8_in 3 (some .boolean), Cond.methodLink RX8 98 yX8_records, Cond.instanceMethod yX8_records, Cond.selects RX8 yX8_records yX8_records, Cond.code yX8_records cX8_records 2 none, Cond.fieldLink RX8 39 "FlameGuardsModel" "savedMany" "I", Cond.fieldLink RX8 16 "FlameGuardsModel" "saved" "[I", Cond.methodLink RX8 143 yX8_totals, Cond.instanceMethod yX8_totals, Cond.selects RX8 yX8_totals yX8_totals, Cond.code yX8_totals cX8_totals 1 (some .int), Cond.methodLink RX8 146 yX8_ticks, Cond.instanceMethod yX8_ticks, Cond.selects RX8 yX8_ticks yX8_ticks, Cond.code yX8_ticks cX8_ticks 4 none, Cond.methodLink RX8 88 yX8_draftAt, Cond.instanceMethod yX8_draftAt, Cond.selects RX8 yX8_draftAt yX8_draftAt]
def wsX8_pass_r2 : List Cond := [Cond.code yX8_draftAt cX8_draftAt 4 (some .int), Cond.methodLink RX8 91 yX8_burns, Cond.instanceMethod yX8_burns, Cond.selects RX8 yX8_burns yX8_burns, Cond.code yX8_burns cX8_burns 9 none, Cond.methodLink RX8 53 yX8_get, Cond.instanceMethod yX8_get, Cond.selects RX8 yX8_get yX8_get, Cond.code yX8_get cX8_get 3 (some .int), Cond.methodLink RX8 60 yX8_isOpen, Cond.instanceMethod yX8_isOpen, Cond.selects RX8 yX8_isOpen yX8_isOpen, Cond.code yX8_isOpen cX8_isOpen 2 (some .boolean), Cond.methodLink RX8 64 yX8_lay, Cond.instanceMethod yX8_lay, Cond.selects RX8 yX8_lay yX8_lay, Cond.code yX8_lay cX8_lay 4 none, Cond.methodLink RX8 68 yX8_strength, Cond.instanceMethod yX8_strength, Cond.selects RX8 yX8_strength yX8_strength, Cond.code yX8_strength cX8_strength 2 (some .int), Cond.methodLink RX8 57 yX8_strengthOf, Cond.static yX8_strengthOf, Cond.code yX8_strengthOf cX8_strengthOf 2 (some .int)]
def wsX8_pass_r3 : List Cond := [Cond.methodLink RX8 42 yX8_choose, Cond.static yX8_choose, Cond.code yX8_choose cX8_choose 4 (some .int), Cond.methodLink RX8 72 yX8_tells, Cond.instanceMethod yX8_tells, Cond.selects RX8 yX8_tells yX8_tells, Cond.code yX8_tells cX8_tells 4 none, Cond.methodLink RX8 76 yX8_sparks, Cond.instanceMethod yX8_sparks, Cond.selects RX8 yX8_sparks yX8_sparks, Cond.code yX8_sparks cX8_sparks 3 none, Cond.methodLink RX8 79 yX8_heat, Cond.static yX8_heat, Cond.code yX8_heat cX8_heat 2 (some .int), Cond.methodLink RX8 82 yX8_byFlame, Cond.static yX8_byFlame, Cond.code yX8_byFlame cX8_byFlame 3 (some .int), Cond.methodLink RX8 46 yX8_warmed, Cond.static yX8_warmed, Cond.code yX8_warmed cX8_warmed 4 (some .int), Cond.methodLink RX8 50 yX8_cooled, Cond.static yX8_cooled, Cond.code yX8_cooled cX8_cooled 4 (some .int), Cond.methodLink RX8 85 yX8_flow]
def wsX8_pass_r4 : List Cond := [Cond.static yX8_flow, Cond.code yX8_flow cX8_flow 2 (some .int)]
def wsX8_pass : List Cond := .code yX8_pass cX8_pass 4 (some .int) :: ((wsX8_pass_r1 ++ (wsX8_pass_r2 ++ (wsX8_pass_r3 ++ wsX8_pass_r4))) ++ wsX80)
def wsX8_type : List Cond := .code yX8_type cX8_type 2 (some .int) :: ([.fieldLink RX8 31 "FlameGuardsModel" "thrown" "I", .fieldLink RX8 113 "FlameGuardsModel" "length" "I", .fieldLink RX8 22 "FlameGuardsModel" "text" "[I"] ++ wsX80)
def wsX8_clearText : List Cond := .code yX8_clearText cX8_clearText 2 (some .int) :: ([.fieldLink RX8 31 "FlameGuardsModel" "thrown" "I", .fieldLink RX8 113 "FlameGuardsModel" "length" "I"] ++ wsX80)
def wsX8_undo : List Cond := .code yX8_undo cX8_undo 2 (some .int) :: ([.fieldLink RX8 31 "FlameGuardsModel" "thrown" "I", .fieldLink RX8 39 "FlameGuardsModel" "savedMany" "I", .fieldLink RX8 7 "FlameGuardsModel" "s" "[I", .fieldLink RX8 16 "FlameGuardsModel" "saved" "[I"] ++ wsX80)
def wsX8_keep : List Cond := .code yX8_keep cX8_keep 2 (some .int) :: ([.fieldLink RX8 31 "FlameGuardsModel" "thrown" "I", .fieldLink RX8 19 "FlameGuardsModel" "snapshot" "[I", .fieldLink RX8 7 "FlameGuardsModel" "s" "[I", .fieldLink RX8 149 "FlameGuardsModel" "hasSnapshot" "Z"] ++ wsX80)
def wsX8_restore : List Cond := .code yX8_restore cX8_restore 2 (some .int) :: ([.fieldLink RX8 31 "FlameGuardsModel" "thrown" "I", .fieldLink RX8 149 "FlameGuardsModel" "hasSnapshot" "Z", .fieldLink RX8 7 "FlameGuardsModel" "s" "[I", .fieldLink RX8 19 "FlameGuardsModel" "snapshot" "[I", .methodLink RX8 98 yX8_records, .instanceMethod yX8_records, .selects RX8 yX8_records yX8_records, .initialized RX8, .code yX8_records cX8_records 2 none, .fieldLink RX8 39 "FlameGuardsModel" "savedMany" "I", .fieldLink RX8 16 "FlameGuardsModel" "saved" "[I"] ++ wsX80)
def wsX8_burner_r1 : List Cond := [Cond.fieldLink RX8 31 "FlameGuardsModel" "thrown" "I", Cond.methodLink RX8 101 yX8_isBurner, Cond.static yX8_isBurner, Cond.initialized RX8, Cond.code yX8_isBurner cX8_isBurner 1 (some .boolean), Cond.methodLink RX8 35 yX8_in, Cond.static yX8_in, Cond.code yX8_in cX8_in 3 (some .boolean), Cond.methodLink RX8 60 yX8_isOpen, Cond.instanceMethod yX8_isOpen, Cond.selects RX8 yX8_isOpen yX8_isOpen, Cond.code yX8_isOpen cX8_isOpen 2 (some .boolean), Cond.fieldLink RX8 7 "FlameGuardsModel" "s" "[I", Cond.methodLink RX8 53 yX8_get, Cond.instanceMethod yX8_get, Cond.selects RX8 yX8_get yX8_get, Cond.code yX8_get cX8_get 3 (some .int), Cond.methodLink RX8 68 yX8_strength, Cond.instanceMethod yX8_strength, Cond.selects RX8 yX8_strength yX8_strength, Cond.code yX8_strength cX8_strength 2 (some .int), Cond.methodLink RX8 57 yX8_strengthOf, Cond.static yX8_strengthOf, Cond.code yX8_strengthOf cX8_strengthOf 2 (some .int)]
def wsX8_burner_r2 : List Cond := [Cond.methodLink RX8 42 yX8_choose, Cond.static yX8_choose, Cond.code yX8_choose cX8_choose 4 (some .int)]
def wsX8_burner : List Cond := .code yX8_burner cX8_burner 3 (some .int) :: ((wsX8_burner_r1 ++ wsX8_burner_r2) ++ wsX80)
def wsX8_staysOpen : List Cond := .code yX8_staysOpen cX8_staysOpen 4 (some .int) :: ([.fieldLink RX8 31 "FlameGuardsModel" "thrown" "I", .fieldLink RX8 7 "FlameGuardsModel" "s" "[I", .methodLink RX8 101 yX8_isBurner, .static yX8_isBurner, .initialized RX8, .code yX8_isBurner cX8_isBurner 1 (some .boolean), .methodLink RX8 35 yX8_in, .static yX8_in, .code yX8_in cX8_in 3 (some .boolean), .methodLink RX8 53 yX8_get, .instanceMethod yX8_get, .selects RX8 yX8_get yX8_get, .code yX8_get cX8_get 3 (some .int), .methodLink RX8 50 yX8_cooled, .static yX8_cooled, .code yX8_cooled cX8_cooled 4 (some .int), .methodLink RX8 42 yX8_choose, .static yX8_choose, .code yX8_choose cX8_choose 4 (some .int)] ++ wsX80)
def wsX8_toPress_r1 : List Cond := [Cond.fieldLink RX8 31 "FlameGuardsModel" "thrown" "I", Cond.fieldLink RX8 7 "FlameGuardsModel" "s" "[I", Cond.methodLink RX8 101 yX8_isBurner, Cond.static yX8_isBurner, Cond.initialized RX8, Cond.code yX8_isBurner cX8_isBurner 1 (some .boolean), Cond.methodLink RX8 35 yX8_in, Cond.static yX8_in, Cond.code yX8_in cX8_in 3 (some .boolean), Cond.methodLink RX8 53 yX8_get, Cond.instanceMethod yX8_get, Cond.selects RX8 yX8_get yX8_get, Cond.code yX8_get cX8_get 3 (some .int), Cond.methodLink RX8 79 yX8_heat, Cond.static yX8_heat, Cond.code yX8_heat cX8_heat 2 (some .int), Cond.methodLink RX8 42 yX8_choose, Cond.static yX8_choose, Cond.code yX8_choose cX8_choose 4 (some .int), Cond.methodLink RX8 82 yX8_byFlame, Cond.static yX8_byFlame, Cond.code yX8_byFlame cX8_byFlame 3 (some .int), Cond.methodLink RX8 46 yX8_warmed, Cond.static yX8_warmed]
def wsX8_toPress_r2 : List Cond := [Cond.code yX8_warmed cX8_warmed 4 (some .int), Cond.methodLink RX8 50 yX8_cooled, Cond.static yX8_cooled, Cond.code yX8_cooled cX8_cooled 4 (some .int)]
def wsX8_toPress : List Cond := .code yX8_toPress cX8_toPress 6 (some .int) :: ((wsX8_toPress_r1 ++ wsX8_toPress_r2) ++ wsX80)
def wsX8_isClear : List Cond := .code yX8_isClear cX8_isClear 3 (some .boolean) :: ([.fieldLink RX8 7 "FlameGuardsModel" "s" "[I", .methodLink RX8 60 yX8_isOpen, .instanceMethod yX8_isOpen, .selects RX8 yX8_isOpen yX8_isOpen, .initialized RX8, .code yX8_isOpen cX8_isOpen 2 (some .boolean), .methodLink RX8 53 yX8_get, .instanceMethod yX8_get, .selects RX8 yX8_get yX8_get, .code yX8_get cX8_get 3 (some .int)] ++ wsX80)
def wsX8_clearIn_r1 : List Cond := [Cond.fieldLink RX8 31 "FlameGuardsModel" "thrown" "I", Cond.methodLink RX8 152 yX8_putAside, Cond.instanceMethod yX8_putAside, Cond.selects RX8 yX8_putAside yX8_putAside, Cond.initialized RX8, Cond.code yX8_putAside cX8_putAside 2 none, Cond.fieldLink RX8 13 "FlameGuardsModel" "aside" "[I", Cond.fieldLink RX8 7 "FlameGuardsModel" "s" "[I", Cond.methodLink RX8 155 yX8_isClear, Cond.instanceMethod yX8_isClear, Cond.selects RX8 yX8_isClear yX8_isClear, Cond.code yX8_isClear cX8_isClear 3 (some .boolean), Cond.methodLink RX8 60 yX8_isOpen, Cond.instanceMethod yX8_isOpen, Cond.selects RX8 yX8_isOpen yX8_isOpen, Cond.code yX8_isOpen cX8_isOpen 2 (some .boolean), Cond.methodLink RX8 53 yX8_get, Cond.instanceMethod yX8_get, Cond.selects RX8 yX8_get yX8_get, Cond.code yX8_get cX8_get 3 (some .int), Cond.methodLink RX8 146 yX8_ticks, Cond.instanceMethod yX8_ticks, Cond.selects RX8 yX8_ticks yX8_ticks, Cond.code yX8_ticks cX8_ticks 4 none]
def wsX8_clearIn_r2 : List Cond := [Cond.methodLink RX8 88 yX8_draftAt, Cond.instanceMethod yX8_draftAt, Cond.selects RX8 yX8_draftAt yX8_draftAt, Cond.code yX8_draftAt cX8_draftAt 4 (some .int), Cond.methodLink RX8 91 yX8_burns, Cond.instanceMethod yX8_burns, Cond.selects RX8 yX8_burns yX8_burns, Cond.code yX8_burns cX8_burns 9 none, Cond.methodLink RX8 64 yX8_lay, Cond.instanceMethod yX8_lay, Cond.selects RX8 yX8_lay yX8_lay, Cond.code yX8_lay cX8_lay 4 none, Cond.methodLink RX8 68 yX8_strength, Cond.instanceMethod yX8_strength, Cond.selects RX8 yX8_strength yX8_strength, Cond.code yX8_strength cX8_strength 2 (some .int), Cond.methodLink RX8 57 yX8_strengthOf, Cond.static yX8_strengthOf, Cond.code yX8_strengthOf cX8_strengthOf 2 (some .int), Cond.methodLink RX8 42 yX8_choose, Cond.static yX8_choose, Cond.code yX8_choose cX8_choose 4 (some .int), Cond.methodLink RX8 72 yX8_tells, Cond.instanceMethod yX8_tells]
def wsX8_clearIn_r3 : List Cond := [Cond.selects RX8 yX8_tells yX8_tells, Cond.code yX8_tells cX8_tells 4 none, Cond.methodLink RX8 76 yX8_sparks, Cond.instanceMethod yX8_sparks, Cond.selects RX8 yX8_sparks yX8_sparks, Cond.code yX8_sparks cX8_sparks 3 none, Cond.methodLink RX8 79 yX8_heat, Cond.static yX8_heat, Cond.code yX8_heat cX8_heat 2 (some .int), Cond.methodLink RX8 82 yX8_byFlame, Cond.static yX8_byFlame, Cond.code yX8_byFlame cX8_byFlame 3 (some .int), Cond.methodLink RX8 46 yX8_warmed, Cond.static yX8_warmed, Cond.code yX8_warmed cX8_warmed 4 (some .int), Cond.methodLink RX8 50 yX8_cooled, Cond.static yX8_cooled, Cond.code yX8_cooled cX8_cooled 4 (some .int), Cond.methodLink RX8 85 yX8_flow, Cond.static yX8_flow, Cond.code yX8_flow cX8_flow 2 (some .int), Cond.methodLink RX8 159 yX8_takeBack, Cond.instanceMethod yX8_takeBack, Cond.selects RX8 yX8_takeBack yX8_takeBack]
def wsX8_clearIn_r4 : List Cond := [Cond.code yX8_takeBack cX8_takeBack 2 none]
def wsX8_clearIn : List Cond := .code yX8_clearIn cX8_clearIn 2 (some .int) :: ((wsX8_clearIn_r1 ++ (wsX8_clearIn_r2 ++ (wsX8_clearIn_r3 ++ wsX8_clearIn_r4))) ++ wsX80)
def wsX8_blownIn_r1 : List Cond := [Cond.fieldLink RX8 31 "FlameGuardsModel" "thrown" "I", Cond.fieldLink RX8 7 "FlameGuardsModel" "s" "[I", Cond.methodLink RX8 101 yX8_isBurner, Cond.static yX8_isBurner, Cond.initialized RX8, Cond.code yX8_isBurner cX8_isBurner 1 (some .boolean), Cond.methodLink RX8 35 yX8_in, Cond.static yX8_in, Cond.code yX8_in cX8_in 3 (some .boolean), Cond.methodLink RX8 53 yX8_get, Cond.instanceMethod yX8_get, Cond.selects RX8 yX8_get yX8_get, Cond.code yX8_get cX8_get 3 (some .int), Cond.methodLink RX8 88 yX8_draftAt, Cond.instanceMethod yX8_draftAt, Cond.selects RX8 yX8_draftAt yX8_draftAt, Cond.code yX8_draftAt cX8_draftAt 4 (some .int), Cond.methodLink RX8 68 yX8_strength, Cond.instanceMethod yX8_strength, Cond.selects RX8 yX8_strength yX8_strength, Cond.code yX8_strength cX8_strength 2 (some .int), Cond.methodLink RX8 57 yX8_strengthOf, Cond.static yX8_strengthOf, Cond.code yX8_strengthOf cX8_strengthOf 2 (some .int)]
def wsX8_blownIn_r2 : List Cond := [Cond.methodLink RX8 42 yX8_choose, Cond.static yX8_choose, Cond.code yX8_choose cX8_choose 4 (some .int)]
def wsX8_blownIn : List Cond := .code yX8_blownIn cX8_blownIn 3 (some .int) :: ((wsX8_blownIn_r1 ++ wsX8_blownIn_r2) ++ wsX80)
def wsX8_entry : List Cond := .code yX8_entry cX8_entry 3 (some .int) :: ([.fieldLink RX8 31 "FlameGuardsModel" "thrown" "I", .fieldLink RX8 7 "FlameGuardsModel" "s" "[I", .methodLink RX8 35 yX8_in, .static yX8_in, .initialized RX8, .code yX8_in cX8_in 3 (some .boolean)] ++ wsX80)
def wsX8_event : List Cond := .code yX8_event cX8_event 3 (some .int) :: ([.fieldLink RX8 31 "FlameGuardsModel" "thrown" "I", .fieldLink RX8 7 "FlameGuardsModel" "s" "[I", .methodLink RX8 35 yX8_in, .static yX8_in, .initialized RX8, .code yX8_in cX8_in 3 (some .boolean)] ++ wsX80)
def wsX8_openValves : List Cond := .code yX8_openValves cX8_openValves 3 (some .int) :: ([.methodLink RX8 60 yX8_isOpen, .instanceMethod yX8_isOpen, .selects RX8 yX8_isOpen yX8_isOpen, .initialized RX8, .code yX8_isOpen cX8_isOpen 2 (some .boolean), .fieldLink RX8 7 "FlameGuardsModel" "s" "[I", .methodLink RX8 53 yX8_get, .instanceMethod yX8_get, .selects RX8 yX8_get yX8_get, .code yX8_get cX8_get 3 (some .int)] ++ wsX80)
def wsX8_count_r1 : List Cond := [Cond.fieldLink RX8 31 "FlameGuardsModel" "thrown" "I", Cond.fieldLink RX8 7 "FlameGuardsModel" "s" "[I", Cond.fieldLink RX8 39 "FlameGuardsModel" "savedMany" "I", Cond.fieldLink RX8 113 "FlameGuardsModel" "length" "I", Cond.methodLink RX8 88 yX8_draftAt, Cond.instanceMethod yX8_draftAt, Cond.selects RX8 yX8_draftAt yX8_draftAt, Cond.initialized RX8, Cond.code yX8_draftAt cX8_draftAt 4 (some .int), Cond.methodLink RX8 139 yX8_sumOver, Cond.instanceMethod yX8_sumOver, Cond.selects RX8 yX8_sumOver yX8_sumOver, Cond.code yX8_sumOver cX8_sumOver 4 (some .int), Cond.methodLink RX8 53 yX8_get, Cond.instanceMethod yX8_get, Cond.selects RX8 yX8_get yX8_get, Cond.code yX8_get cX8_get 3 (some .int), Cond.methodLink RX8 162 yX8_openValves, Cond.instanceMethod yX8_openValves, Cond.selects RX8 yX8_openValves yX8_openValves, Cond.code yX8_openValves cX8_openValves 3 (some .int), Cond.methodLink RX8 60 yX8_isOpen, Cond.instanceMethod yX8_isOpen, Cond.selects RX8 yX8_isOpen yX8_isOpen]
def wsX8_count_r2 : List Cond := [Cond.code yX8_isOpen cX8_isOpen 2 (some .boolean), Cond.methodLink RX8 35 yX8_in, Cond.static yX8_in, Cond.code yX8_in cX8_in 3 (some .boolean)]
def wsX8_count : List Cond := .code yX8_count cX8_count 2 (some .int) :: ((wsX8_count_r1 ++ wsX8_count_r2) ++ wsX80)
def wsX8_setting : List Cond := .code yX8_setting cX8_setting 2 (some .int) :: ([.fieldLink RX8 31 "FlameGuardsModel" "thrown" "I", .fieldLink RX8 7 "FlameGuardsModel" "s" "[I", .methodLink RX8 35 yX8_in, .static yX8_in, .initialized RX8, .code yX8_in cX8_in 3 (some .boolean)] ++ wsX80)
def wsJ9_max_7cf53 : List Cond := .code yJ9_max_7cf53 cJ9_max_7cf53 2 (some .int) :: ([])
def wsJ9_min_7cf53 : List Cond := .code yJ9_min_7cf53 cJ9_min_7cf53 2 (some .int) :: ([])
def wsL_law_r1 : List Cond := [Cond.classLink RL 7 RX7, Cond.instantiable RX7 7, Cond.initialized RX7, Cond.classLink RL 10 RX8, Cond.instantiable RX8 14, Cond.initialized RX8, Cond.methodLink RL 9 yX7_init, Cond.instanceMethod yX7_init, Cond.code yX7_init cX7_init 1 none, Cond.methodLink RX7 1 objectInit, Cond.instanceMethod objectInit, Cond.code objectInit ⟨#[0xb1]⟩ 1 none, Cond.classLink RX7 7 RX5, Cond.instantiable RX5 8, Cond.initialized RX5, Cond.fieldLink RX7 10 "FlameGuards" "state" "LFlameGuards$State;", Cond.fieldLink RX7 16 "FlameGuards" "snapshot" "LFlameGuards$State;", Cond.fieldLink RX7 19 "FlameGuards" "trial" "LFlameGuards$State;", Cond.classLink RX7 22 RX3, Cond.instantiable RX3 3, Cond.initialized RX3, Cond.fieldLink RX7 25 "FlameGuards" "planRead" "LFlameGuards$Plan;", Cond.classLink RX7 29 RX1, Cond.instantiable RX1 2]
def wsL_law_r2 : List Cond := [Cond.initialized RX1, Cond.fieldLink RX7 32 "FlameGuards" "history" "LFlameGuards$History;", Cond.classLink RX7 36 RX6, Cond.instantiable RX6 2, Cond.initialized RX6, Cond.fieldLink RX7 39 "FlameGuards" "text" "LFlameGuards$Text;", Cond.fieldLink RX7 43 "FlameGuards" "hasSnapshot" "Z", Cond.methodLink RX7 9 yX5_init, Cond.instanceMethod yX5_init, Cond.code yX5_init cX5_init 2 none, Cond.methodLink RX5 1 objectInit, Cond.classLink RX5 7 RX4, Cond.instantiable RX4 1, Cond.initialized RX4, Cond.fieldLink RX5 10 "FlameGuards$State" "settings" "LFlameGuards$Settings;", Cond.fieldLink RX5 16 "FlameGuards$State" "FIRST_KINDS" "[I", Cond.classLink RX5 20 RX0, Cond.fieldLink RX5 22 "FlameGuards$State" "burners" "[LFlameGuards$Burner;", Cond.instantiable RX0 10, Cond.initialized RX0, Cond.classLink RX5 29 RX3, Cond.fieldLink RX5 32 "FlameGuards$State" "drafts" "LFlameGuards$Plan;", Cond.classLink RX5 36 RX2, Cond.instantiable RX2 5]
def wsL_law_r3 : List Cond := [Cond.initialized RX2, Cond.fieldLink RX5 39 "FlameGuards$State" "log" "LFlameGuards$Log;", Cond.methodLink RX5 9 yX4_init, Cond.instanceMethod yX4_init, Cond.code yX4_init cX4_init 1 none, Cond.methodLink RX4 1 objectInit, Cond.fieldLink RX4 7 "FlameGuards$Settings" "FIRST" "[I", Cond.arrayClass .int, Cond.fieldLink RX4 13 "FlameGuards$Settings" "values" "[I", Cond.static yX7_copyRow, Cond.code yX7_copyRow cX7_copyRow 2 none, Cond.methodLink RX7 254 Lib.Math.min.name, Cond.static Lib.Math.min.name, Cond.initialized "java/lang/Math", Cond.code Lib.Math.min.name Lib.Math.min.code 2 (some .int), Cond.methodLink RX7 259 arraycopyName, Cond.native arraycopyName, Cond.static arraycopyName, Cond.initialized "java/lang/System", Cond.methodLink RX5 26 yX0_init, Cond.instanceMethod yX0_init, Cond.code yX0_init cX0_init 2 none, Cond.methodLink RX0 1 objectInit, Cond.fieldLink RX0 7 "FlameGuards$Burner" "kind" "I"]
def wsL_law_r4 : List Cond := [Cond.methodLink RX5 31 yX3_init, Cond.instanceMethod yX3_init, Cond.code yX3_init cX3_init 1 none, Cond.methodLink RX3 1 objectInit, Cond.fieldLink RX3 9 "FlameGuards$Plan" "ticks" "[I", Cond.fieldLink RX3 13 "FlameGuards$Plan" "values" "[I", Cond.fieldLink RX3 16 "FlameGuards$Plan" "size" "I", Cond.methodLink RX5 38 yX2_init, Cond.instanceMethod yX2_init, Cond.code yX2_init cX2_init 1 none, Cond.methodLink RX2 1 objectInit, Cond.fieldLink RX2 9 "FlameGuards$Log" "events" "[I", Cond.fieldLink RX2 13 "FlameGuards$Log" "burners" "[I", Cond.fieldLink RX2 16 "FlameGuards$Log" "ticks" "[I", Cond.fieldLink RX2 19 "FlameGuards$Log" "counts" "[I", Cond.fieldLink RX2 22 "FlameGuards$Log" "known" "I", Cond.methodLink RX7 24 yX3_init, Cond.methodLink RX7 31 yX1_init, Cond.instanceMethod yX1_init, Cond.code yX1_init cX1_init 2 none, Cond.methodLink RX1 1 objectInit, Cond.classLink RX1 9 RX5, Cond.fieldLink RX1 11 "FlameGuards$History" "states" "[LFlameGuards$State;", Cond.fieldLink RX1 16 "FlameGuards$History" "size" "I"]
def wsL_law_r5 : List Cond := [Cond.methodLink RX1 15 yX5_init, Cond.methodLink RX7 38 yX6_init, Cond.instanceMethod yX6_init, Cond.code yX6_init cX6_init 1 none, Cond.methodLink RX6 1 objectInit, Cond.arrayClass .char, Cond.fieldLink RX6 9 "FlameGuards$Text" "characters" "[C", Cond.fieldLink RX6 13 "FlameGuards$Text" "length" "I", Cond.methodLink RL 12 yX8_init, Cond.instanceMethod yX8_init, Cond.code yX8_init cX8_init 1 none, Cond.methodLink RX8 1 objectInit, Cond.fieldLink RX8 7 "FlameGuardsModel" "s" "[I", Cond.fieldLink RX8 13 "FlameGuardsModel" "aside" "[I", Cond.fieldLink RX8 16 "FlameGuardsModel" "saved" "[I", Cond.fieldLink RX8 19 "FlameGuardsModel" "snapshot" "[I", Cond.fieldLink RX8 22 "FlameGuardsModel" "text" "[I", Cond.fieldLink RX8 25 "FlameGuardsModel" "readTick" "[I", Cond.fieldLink RX8 28 "FlameGuardsModel" "readDraft" "[I", Cond.fieldLink RX8 31 "FlameGuardsModel" "thrown" "I", Cond.methodLink RL 13 yX7_set, Cond.instanceMethod yX7_set, Cond.selects RX7 yX7_set yX7_set, Cond.code yX7_set cX7_set 4 (some .int)]
def wsL_law_r6 : List Cond := [Cond.fieldLink RX7 57 "FlameGuards$State" "settings" "LFlameGuards$Settings;", Cond.methodLink RX7 47 yX4_isOne, Cond.static yX4_isOne, Cond.code yX4_isOne cX4_isOne 1 (some .boolean), Cond.static yX7_isWithin, Cond.code yX7_isWithin cX7_isWithin 3 (some .boolean), Cond.methodLink RX7 53 yX4_allows, Cond.static yX4_allows, Cond.code yX4_allows cX4_allows 2 (some .boolean), Cond.fieldLink RX4 26 "FlameGuards$Settings" "LEAST" "[I", Cond.fieldLink RX4 33 "FlameGuards$Settings" "MOST" "[I", Cond.static yX7_elementAt, Cond.code yX7_elementAt cX7_elementAt 2 (some .int), Cond.methodLink RX7 61 yX4_valueOf, Cond.instanceMethod yX4_valueOf, Cond.selects RX4 yX4_valueOf yX4_valueOf, Cond.code yX4_valueOf cX4_valueOf 2 (some .int), Cond.methodLink RX7 65 yX1_record, Cond.instanceMethod yX1_record, Cond.selects RX1 yX1_record yX1_record, Cond.code yX1_record cX1_record 2 none, Cond.methodLink RX1 20 yX1_dropOldest, Cond.instanceMethod yX1_dropOldest, Cond.selects RX1 yX1_dropOldest yX1_dropOldest]
def wsL_law_r7 : List Cond := [Cond.code yX1_dropOldest cX1_dropOldest 3 none, Cond.methodLink RX1 23 yX5_copyFrom, Cond.instanceMethod yX5_copyFrom, Cond.selects RX5 yX5_copyFrom yX5_copyFrom, Cond.code yX5_copyFrom cX5_copyFrom 3 none, Cond.fieldLink RX5 56 "FlameGuards$State" "tick" "I", Cond.fieldLink RX5 60 "FlameGuards$State" "gas" "I", Cond.fieldLink RX5 63 "FlameGuards$State" "mostGas" "I", Cond.fieldLink RX5 66 "FlameGuards$State" "mostDark" "I", Cond.methodLink RX5 43 yX4_copyFrom, Cond.instanceMethod yX4_copyFrom, Cond.selects RX4 yX4_copyFrom yX4_copyFrom, Cond.code yX4_copyFrom cX4_copyFrom 2 none, Cond.methodLink RX5 47 yX0_copyFrom, Cond.instanceMethod yX0_copyFrom, Cond.selects RX0 yX0_copyFrom yX0_copyFrom, Cond.code yX0_copyFrom cX0_copyFrom 2 none, Cond.fieldLink RX0 13 "FlameGuards$Burner" "tap" "I", Cond.fieldLink RX0 16 "FlameGuards$Burner" "pressed" "Z", Cond.fieldLink RX0 20 "FlameGuards$Burner" "igniter" "Z", Cond.fieldLink RX0 23 "FlameGuards$Burner" "flame" "Z", Cond.fieldLink RX0 26 "FlameGuards$Burner" "temperature" "I", Cond.fieldLink RX0 29 "FlameGuards$Burner" "locked" "Z", Cond.fieldLink RX0 32 "FlameGuards$Burner" "tries" "I"]
def wsL_law_r8 : List Cond := [Cond.fieldLink RX0 35 "FlameGuards$Burner" "dark" "I", Cond.fieldLink RX0 38 "FlameGuards$Burner" "unburnt" "I", Cond.methodLink RX5 50 yX3_copyFrom, Cond.instanceMethod yX3_copyFrom, Cond.selects RX3 yX3_copyFrom yX3_copyFrom, Cond.code yX3_copyFrom cX3_copyFrom 2 none, Cond.methodLink RX5 53 yX2_copyFrom, Cond.instanceMethod yX2_copyFrom, Cond.selects RX2 yX2_copyFrom yX2_copyFrom, Cond.code yX2_copyFrom cX2_copyFrom 2 none, Cond.methodLink RX7 69 yX4_change, Cond.instanceMethod yX4_change, Cond.selects RX4 yX4_change yX4_change, Cond.code yX4_change cX4_change 3 none, Cond.methodLink RX4 36 yX4_isOne, Cond.methodLink RL 17 yX8_set, Cond.instanceMethod yX8_set, Cond.selects RX8 yX8_set yX8_set, Cond.code yX8_set cX8_set 4 (some .int), Cond.methodLink RX8 35 yX8_in, Cond.static yX8_in, Cond.code yX8_in cX8_in 3 (some .boolean), Cond.methodLink RX8 94 yX8_isSetting, Cond.static yX8_isSetting]
def wsL_law_r9 : List Cond := [Cond.code yX8_isSetting cX8_isSetting 2 (some .boolean), Cond.methodLink RX8 98 yX8_records, Cond.instanceMethod yX8_records, Cond.selects RX8 yX8_records yX8_records, Cond.code yX8_records cX8_records 2 none, Cond.fieldLink RX8 39 "FlameGuardsModel" "savedMany" "I", Cond.methodLink RL 18 yX7_setKind, Cond.instanceMethod yX7_setKind, Cond.selects RX7 yX7_setKind yX7_setKind, Cond.code yX7_setKind cX7_setKind 5 (some .int), Cond.fieldLink RX7 83 "FlameGuards$Burner" "tap" "I", Cond.fieldLink RX7 87 "FlameGuards$Burner" "kind" "I", Cond.methodLink RX7 73 yX5_find, Cond.instanceMethod yX5_find, Cond.selects RX5 yX5_find yX5_find, Cond.code yX5_find cX5_find 2 (some (.object "FlameGuards$Burner")), Cond.methodLink RX7 79 yX7_isWithin, Cond.methodLink RL 21 yX8_setKind, Cond.instanceMethod yX8_setKind, Cond.selects RX8 yX8_setKind yX8_setKind, Cond.code yX8_setKind cX8_setKind 4 (some .int), Cond.methodLink RX8 101 yX8_isBurner, Cond.static yX8_isBurner, Cond.code yX8_isBurner cX8_isBurner 1 (some .boolean)]
def wsL_law_r10 : List Cond := [Cond.methodLink RX8 53 yX8_get, Cond.instanceMethod yX8_get, Cond.selects RX8 yX8_get yX8_get, Cond.code yX8_get cX8_get 3 (some .int), Cond.methodLink RX8 64 yX8_lay, Cond.instanceMethod yX8_lay, Cond.selects RX8 yX8_lay yX8_lay, Cond.code yX8_lay cX8_lay 4 none, Cond.methodLink RL 22 yX7_plan, Cond.instanceMethod yX7_plan, Cond.selects RX7 yX7_plan yX7_plan, Cond.code yX7_plan cX7_plan 3 (some .int), Cond.fieldLink RX7 90 "FlameGuards$State" "drafts" "LFlameGuards$Plan;", Cond.fieldLink RX7 102 "FlameGuards$Plan" "size" "I", Cond.methodLink RX7 93 yX3_hasRoomFor, Cond.instanceMethod yX3_hasRoomFor, Cond.selects RX3 yX3_hasRoomFor yX3_hasRoomFor, Cond.code yX3_hasRoomFor cX3_hasRoomFor 2 (some .boolean), Cond.methodLink RX3 26 yX3_placeOf, Cond.instanceMethod yX3_placeOf, Cond.selects RX3 yX3_placeOf yX3_placeOf, Cond.code yX3_placeOf cX3_placeOf 3 (some .int), Cond.methodLink RX7 96 yX3_holds, Cond.instanceMethod yX3_holds]
def wsL_law_r11 : List Cond := [Cond.selects RX3 yX3_holds yX3_holds, Cond.code yX3_holds cX3_holds 4 (some .boolean), Cond.methodLink RX7 99 yX3_put, Cond.instanceMethod yX3_put, Cond.selects RX3 yX3_put yX3_put, Cond.code yX3_put cX3_put 4 (some .boolean), Cond.methodLink RX3 34 yX3_hasRoomFor, Cond.methodLink RX3 38 yX3_makePlaceFor, Cond.instanceMethod yX3_makePlaceFor, Cond.selects RX3 yX3_makePlaceFor yX3_makePlaceFor, Cond.code yX3_makePlaceFor cX3_makePlaceFor 3 (some .int), Cond.methodLink RL 25 yX8_plan, Cond.instanceMethod yX8_plan, Cond.selects RX8 yX8_plan yX8_plan, Cond.code yX8_plan cX8_plan 4 (some .int), Cond.methodLink RX8 104 yX8_entryAt, Cond.instanceMethod yX8_entryAt, Cond.selects RX8 yX8_entryAt yX8_entryAt, Cond.code yX8_entryAt cX8_entryAt 3 (some .int), Cond.methodLink RX8 107 yX8_plans, Cond.instanceMethod yX8_plans, Cond.selects RX8 yX8_plans yX8_plans, Cond.code yX8_plans cX8_plans 4 none, Cond.methodLink RL 26 yX7_readPlan]
def wsL_law_r12 : List Cond := [Cond.instanceMethod yX7_readPlan, Cond.selects RX7 yX7_readPlan yX7_readPlan, Cond.code yX7_readPlan cX7_readPlan 2 (some .int), Cond.methodLink RX7 105 yX6_fault, Cond.instanceMethod yX6_fault, Cond.selects RX6 yX6_fault yX6_fault, Cond.code yX6_fault cX6_fault 3 (some .int), Cond.methodLink RX6 17 yX6_placeAfter, Cond.static yX6_placeAfter, Cond.code yX6_placeAfter cX6_placeAfter 2 (some .int), Cond.methodLink RX6 30 yX6_isDigit, Cond.static yX6_isDigit, Cond.code yX6_isDigit cX6_isDigit 1 (some .boolean), Cond.methodLink RX7 109 yX6_readInto, Cond.instanceMethod yX6_readInto, Cond.selects RX6 yX6_readInto yX6_readInto, Cond.code yX6_readInto cX6_readInto 6 (some .boolean), Cond.methodLink RX6 21 yX3_clear, Cond.instanceMethod yX3_clear, Cond.selects RX3 yX3_clear yX3_clear, Cond.code yX3_clear cX3_clear 1 none, Cond.methodLink RX6 26 yX3_put, Cond.methodLink RX7 113 yX3_copyFrom, Cond.methodLink RL 30 yX8_readPlan]
def wsL_law_r13 : List Cond := [Cond.instanceMethod yX8_readPlan, Cond.selects RX8 yX8_readPlan yX8_readPlan, Cond.code yX8_readPlan cX8_readPlan 3 (some .int), Cond.fieldLink RX8 127 "FlameGuardsModel" "readMany" "I", Cond.methodLink RX8 133 yX8_reads, Cond.instanceMethod yX8_reads, Cond.selects RX8 yX8_reads yX8_reads, Cond.code yX8_reads cX8_reads 1 (some .int), Cond.fieldLink RX8 110 "FlameGuardsModel" "at" "I", Cond.fieldLink RX8 116 "FlameGuardsModel" "isWell" "Z", Cond.fieldLink RX8 113 "FlameGuardsModel" "length" "I", Cond.methodLink RX8 130 yX8_readsEntry, Cond.instanceMethod yX8_readsEntry, Cond.selects RX8 yX8_readsEntry yX8_readsEntry, Cond.code yX8_readsEntry cX8_readsEntry 3 none, Cond.methodLink RX8 124 yX8_takes, Cond.instanceMethod yX8_takes, Cond.selects RX8 yX8_takes yX8_takes, Cond.code yX8_takes cX8_takes 4 (some .int), Cond.methodLink RX8 120 yX8_sign, Cond.instanceMethod yX8_sign, Cond.selects RX8 yX8_sign yX8_sign, Cond.code yX8_sign cX8_sign 1 (some .int), Cond.methodLink RX8 136 yX8_unlikeTicks]
def wsL_law_r14 : List Cond := [Cond.instanceMethod yX8_unlikeTicks, Cond.selects RX8 yX8_unlikeTicks yX8_unlikeTicks, Cond.code yX8_unlikeTicks cX8_unlikeTicks 5 (some .int), Cond.methodLink RL 31 yX7_turn, Cond.instanceMethod yX7_turn, Cond.selects RX7 yX7_turn yX7_turn, Cond.code yX7_turn cX7_turn 5 (some .int), Cond.fieldLink RX7 117 "FlameGuards$Burner" "flame" "Z", Cond.methodLink RL 34 yX8_turn, Cond.instanceMethod yX8_turn, Cond.selects RX8 yX8_turn yX8_turn, Cond.code yX8_turn cX8_turn 4 (some .int), Cond.methodLink RL 35 yX7_press, Cond.instanceMethod yX7_press, Cond.selects RX7 yX7_press yX7_press, Cond.code yX7_press cX7_press 4 (some .int), Cond.fieldLink RX7 120 "FlameGuards$Burner" "pressed" "Z", Cond.methodLink RX7 123 yX5_isOpen, Cond.instanceMethod yX5_isOpen, Cond.selects RX5 yX5_isOpen yX5_isOpen, Cond.code yX5_isOpen cX5_isOpen 2 (some .boolean), Cond.methodLink RX5 69 yX4_valueOf, Cond.methodLink RX5 73 yX0_isOpen, Cond.instanceMethod yX0_isOpen]
def wsL_law_r15 : List Cond := [Cond.selects RX0 yX0_isOpen yX0_isOpen, Cond.code yX0_isOpen cX0_isOpen 2 (some .boolean), Cond.methodLink RX7 127 yX7_oneIf, Cond.static yX7_oneIf, Cond.code yX7_oneIf cX7_oneIf 1 (some .int), Cond.methodLink RL 39 yX8_press, Cond.instanceMethod yX8_press, Cond.selects RX8 yX8_press yX8_press, Cond.code yX8_press cX8_press 3 (some .int), Cond.methodLink RX8 60 yX8_isOpen, Cond.instanceMethod yX8_isOpen, Cond.selects RX8 yX8_isOpen yX8_isOpen, Cond.code yX8_isOpen cX8_isOpen 2 (some .boolean), Cond.methodLink RL 40 yX7_igniter, Cond.instanceMethod yX7_igniter, Cond.selects RX7 yX7_igniter yX7_igniter, Cond.code yX7_igniter cX7_igniter 4 (some .int), Cond.fieldLink RX7 131 "FlameGuards$Burner" "igniter" "Z", Cond.methodLink RX7 134 yX5_ignitersOn, Cond.instanceMethod yX5_ignitersOn, Cond.selects RX5 yX5_ignitersOn yX5_ignitersOn, Cond.code yX5_ignitersOn cX5_ignitersOn 6 (some .int), Cond.fieldLink RX5 123 "FlameGuards$Burner" "igniter" "Z", Cond.methodLink RL 43 yX8_igniter]
def wsL_law_r16 : List Cond := [Cond.instanceMethod yX8_igniter, Cond.selects RX8 yX8_igniter yX8_igniter, Cond.code yX8_igniter cX8_igniter 3 (some .int), Cond.methodLink RX8 139 yX8_sumOver, Cond.instanceMethod yX8_sumOver, Cond.selects RX8 yX8_sumOver yX8_sumOver, Cond.code yX8_sumOver cX8_sumOver 4 (some .int), Cond.methodLink RL 44 yX7_light, Cond.instanceMethod yX7_light, Cond.selects RX7 yX7_light yX7_light, Cond.code yX7_light cX7_light 3 (some .int), Cond.methodLink RX7 137 yX5_allowsFire, Cond.instanceMethod yX5_allowsFire, Cond.selects RX5 yX5_allowsFire yX5_allowsFire, Cond.code yX5_allowsFire cX5_allowsFire 1 (some .boolean), Cond.methodLink RX7 141 yX5_draft, Cond.instanceMethod yX5_draft, Cond.selects RX5 yX5_draft yX5_draft, Cond.code yX5_draft cX5_draft 1 (some .int), Cond.methodLink RX5 77 yX3_draftIn, Cond.instanceMethod yX3_draftIn, Cond.selects RX3 yX3_draftIn yX3_draftIn, Cond.code yX3_draftIn cX3_draftIn 4 (some .int), Cond.methodLink RX7 144 yX0_strength]
def wsL_law_r17 : List Cond := [Cond.instanceMethod yX0_strength, Cond.selects RX0 yX0_strength yX0_strength, Cond.code yX0_strength cX0_strength 1 (some .int), Cond.fieldLink RX0 49 "FlameGuards$Burner" "STRENGTH" "[I", Cond.methodLink RX0 45 yX0_told, Cond.instanceMethod yX0_told, Cond.selects RX0 yX0_told yX0_told, Cond.code yX0_told cX0_told 3 (some .int), Cond.methodLink RX7 147 yX5_kindle, Cond.instanceMethod yX5_kindle, Cond.selects RX5 yX5_kindle yX5_kindle, Cond.code yX5_kindle cX5_kindle 3 none, Cond.fieldLink RX5 80 "FlameGuards$Burner" "flame" "Z", Cond.fieldLink RX5 84 "FlameGuards$Burner" "tries" "I", Cond.methodLink RX5 87 yX2_note, Cond.instanceMethod yX2_note, Cond.selects RX2 yX2_note yX2_note, Cond.code yX2_note cX2_note 4 none, Cond.methodLink RX2 36 Lib.Math.min.name, Cond.methodLink RX2 32 yX2_putFirst, Cond.static yX2_putFirst, Cond.code yX2_putFirst cX2_putFirst 2 none, Cond.methodLink RX2 46 arraycopyName, Cond.methodLink RL 48 yX8_light]
def wsL_law_r18 : List Cond := [Cond.instanceMethod yX8_light, Cond.selects RX8 yX8_light yX8_light, Cond.code yX8_light cX8_light 2 (some .int), Cond.methodLink RX8 88 yX8_draftAt, Cond.instanceMethod yX8_draftAt, Cond.selects RX8 yX8_draftAt yX8_draftAt, Cond.code yX8_draftAt cX8_draftAt 4 (some .int), Cond.methodLink RX8 68 yX8_strength, Cond.instanceMethod yX8_strength, Cond.selects RX8 yX8_strength yX8_strength, Cond.code yX8_strength cX8_strength 2 (some .int), Cond.methodLink RX8 57 yX8_strengthOf, Cond.static yX8_strengthOf, Cond.code yX8_strengthOf cX8_strengthOf 2 (some .int), Cond.methodLink RX8 42 yX8_choose, Cond.static yX8_choose, Cond.code yX8_choose cX8_choose 4 (some .int), Cond.methodLink RX8 72 yX8_tells, Cond.instanceMethod yX8_tells, Cond.selects RX8 yX8_tells yX8_tells, Cond.code yX8_tells cX8_tells 4 none, Cond.methodLink RL 49 yX7_unlock, Cond.instanceMethod yX7_unlock, Cond.selects RX7 yX7_unlock yX7_unlock]
def wsL_law_r19 : List Cond := [Cond.code yX7_unlock cX7_unlock 3 (some .int), Cond.fieldLink RX7 151 "FlameGuards$Burner" "locked" "Z", Cond.fieldLink RX7 154 "FlameGuards$Burner" "tries" "I", Cond.methodLink RX7 157 yX5_lockedBurners, Cond.instanceMethod yX5_lockedBurners, Cond.selects RX5 yX5_lockedBurners yX5_lockedBurners, Cond.code yX5_lockedBurners cX5_lockedBurners 6 (some .int), Cond.fieldLink RX5 134 "FlameGuards$Burner" "locked" "Z", Cond.methodLink RL 52 yX8_unlock, Cond.instanceMethod yX8_unlock, Cond.selects RX8 yX8_unlock yX8_unlock, Cond.code yX8_unlock cX8_unlock 2 (some .int), Cond.methodLink RL 53 yX7_pass, Cond.instanceMethod yX7_pass, Cond.selects RX7 yX7_pass yX7_pass, Cond.code yX7_pass cX7_pass 4 (some .int), Cond.fieldLink RX7 160 "FlameGuards$State" "tick" "I", Cond.constant RX7 163 (99999), Cond.fieldLink RX7 164 "FlameGuards$State" "log" "LFlameGuards$Log;", Cond.methodLink RX7 168 yX2_total, Cond.instanceMethod yX2_total, Cond.selects RX2 yX2_total yX2_total, Cond.code yX2_total cX2_total 6 (some .int), Cond.methodLink RX7 173 yX5_passTick]
def wsL_law_r20 : List Cond := [Cond.instanceMethod yX5_passTick, Cond.selects RX5 yX5_passTick yX5_passTick, Cond.code yX5_passTick cX5_passTick 5 none, Cond.methodLink RX5 113 Lib.Math.max.name, Cond.static Lib.Math.max.name, Cond.code Lib.Math.max.name Lib.Math.max.code 2 (some .int), Cond.methodLink RX5 91 yX5_draft, Cond.methodLink RX5 95 yX5_allowsFire, Cond.methodLink RX5 99 yX5_blow, Cond.instanceMethod yX5_blow, Cond.selects RX5 yX5_blow yX5_blow, Cond.code yX5_blow cX5_blow 4 none, Cond.methodLink RX5 132 yX5_isOpen, Cond.methodLink RX5 137 yX0_strength, Cond.methodLink RX5 103 yX5_spark, Cond.instanceMethod yX5_spark, Cond.selects RX5 yX5_spark yX5_spark, Cond.code yX5_spark cX5_spark 4 none, Cond.methodLink RX5 140 yX5_kindle, Cond.methodLink RX5 106 yX5_warmOrDrop, Cond.instanceMethod yX5_warmOrDrop, Cond.selects RX5 yX5_warmOrDrop yX5_warmOrDrop, Cond.code yX5_warmOrDrop cX5_warmOrDrop 4 none, Cond.methodLink RX5 143 yX0_warmOrCool]
def wsL_law_r21 : List Cond := [Cond.instanceMethod yX0_warmOrCool, Cond.selects RX0 yX0_warmOrCool yX0_warmOrCool, Cond.code yX0_warmOrCool cX0_warmOrCool 1 none, Cond.methodLink RX0 55 yX0_heatAt, Cond.instanceMethod yX0_heatAt, Cond.selects RX0 yX0_heatAt yX0_heatAt, Cond.code yX0_heatAt cX0_heatAt 2 (some .int), Cond.fieldLink RX0 52 "FlameGuards$Burner" "HEAT" "[I", Cond.methodLink RX0 59 yX0_temperatureAfter, Cond.instanceMethod yX0_temperatureAfter, Cond.selects RX0 yX0_temperatureAfter yX0_temperatureAfter, Cond.code yX0_temperatureAfter cX0_temperatureAfter 3 (some .int), Cond.fieldLink RX0 63 "FlameGuards$Burner" "WARMING" "[I", Cond.methodLink RX0 74 Lib.Math.min.name, Cond.fieldLink RX0 79 "FlameGuards$Burner" "COOLING" "[I", Cond.methodLink RX0 82 Lib.Math.max.name, Cond.methodLink RX0 71 yX0_quotient, Cond.static yX0_quotient, Cond.code yX0_quotient cX0_quotient 2 (some .int), Cond.methodLink RX5 110 yX5_flow, Cond.instanceMethod yX5_flow, Cond.selects RX5 yX5_flow yX5_flow, Cond.code yX5_flow cX5_flow 2 none, Cond.fieldLink RX5 146 "FlameGuards$Burner" "dark" "I"]
def wsL_law_r22 : List Cond := [Cond.fieldLink RX5 151 "FlameGuards$Burner" "unburnt" "I", Cond.methodLink RX5 119 yX5_flowsUnburnt, Cond.instanceMethod yX5_flowsUnburnt, Cond.selects RX5 yX5_flowsUnburnt yX5_flowsUnburnt, Cond.code yX5_flowsUnburnt cX5_flowsUnburnt 2 (some .boolean), Cond.methodLink RX5 149 yX0_flow, Cond.instanceMethod yX0_flow, Cond.selects RX0 yX0_flow yX0_flow, Cond.code yX0_flow cX0_flow 1 (some .int), Cond.fieldLink RX0 41 "FlameGuards$Burner" "FLOW" "[I", Cond.methodLink RL 56 yX8_pass, Cond.instanceMethod yX8_pass, Cond.selects RX8 yX8_pass yX8_pass, Cond.code yX8_pass cX8_pass 4 (some .int), Cond.constant RX8 142 (99999), Cond.methodLink RX8 143 yX8_totals, Cond.instanceMethod yX8_totals, Cond.selects RX8 yX8_totals yX8_totals, Cond.code yX8_totals cX8_totals 1 (some .int), Cond.methodLink RX8 146 yX8_ticks, Cond.instanceMethod yX8_ticks, Cond.selects RX8 yX8_ticks yX8_ticks, Cond.code yX8_ticks cX8_ticks 4 none, Cond.methodLink RX8 91 yX8_burns]
def wsL_law_r23 : List Cond := [Cond.instanceMethod yX8_burns, Cond.selects RX8 yX8_burns yX8_burns, Cond.code yX8_burns cX8_burns 9 none, Cond.methodLink RX8 76 yX8_sparks, Cond.instanceMethod yX8_sparks, Cond.selects RX8 yX8_sparks yX8_sparks, Cond.code yX8_sparks cX8_sparks 3 none, Cond.methodLink RX8 79 yX8_heat, Cond.static yX8_heat, Cond.code yX8_heat cX8_heat 2 (some .int), Cond.methodLink RX8 82 yX8_byFlame, Cond.static yX8_byFlame, Cond.code yX8_byFlame cX8_byFlame 3 (some .int), Cond.methodLink RX8 46 yX8_warmed, Cond.static yX8_warmed, Cond.code yX8_warmed cX8_warmed 4 (some .int), Cond.methodLink RX8 50 yX8_cooled, Cond.static yX8_cooled, Cond.code yX8_cooled cX8_cooled 4 (some .int), Cond.methodLink RX8 85 yX8_flow, Cond.static yX8_flow, Cond.code yX8_flow cX8_flow 2 (some .int), Cond.methodLink RL 57 yX7_type, Cond.instanceMethod yX7_type]
def wsL_law_r24 : List Cond := [Cond.selects RX7 yX7_type yX7_type, Cond.code yX7_type cX7_type 2 (some .int), Cond.fieldLink RX7 180 "FlameGuards$Text" "length" "I", Cond.methodLink RX7 176 yX6_append, Cond.instanceMethod yX6_append, Cond.selects RX6 yX6_append yX6_append, Cond.code yX6_append cX6_append 2 (some .boolean), Cond.methodLink RL 61 yX8_type, Cond.instanceMethod yX8_type, Cond.selects RX8 yX8_type yX8_type, Cond.code yX8_type cX8_type 2 (some .int), Cond.methodLink RL 62 yX7_clearText, Cond.instanceMethod yX7_clearText, Cond.selects RX7 yX7_clearText yX7_clearText, Cond.code yX7_clearText cX7_clearText 2 (some .int), Cond.methodLink RX7 183 yX6_empty, Cond.instanceMethod yX6_empty, Cond.selects RX6 yX6_empty yX6_empty, Cond.code yX6_empty cX6_empty 1 none, Cond.methodLink RL 65 yX8_clearText, Cond.instanceMethod yX8_clearText, Cond.selects RX8 yX8_clearText yX8_clearText, Cond.code yX8_clearText cX8_clearText 2 (some .int), Cond.methodLink RL 66 yX7_undo]
def wsL_law_r25 : List Cond := [Cond.instanceMethod yX7_undo, Cond.selects RX7 yX7_undo yX7_undo, Cond.code yX7_undo cX7_undo 1 (some .int), Cond.fieldLink RX7 190 "FlameGuards$History" "size" "I", Cond.methodLink RX7 186 yX1_takeBack, Cond.instanceMethod yX1_takeBack, Cond.selects RX1 yX1_takeBack yX1_takeBack, Cond.code yX1_takeBack cX1_takeBack 2 (some .boolean), Cond.methodLink RL 69 yX8_undo, Cond.instanceMethod yX8_undo, Cond.selects RX8 yX8_undo yX8_undo, Cond.code yX8_undo cX8_undo 2 (some .int), Cond.methodLink RL 70 yX7_keep, Cond.instanceMethod yX7_keep, Cond.selects RX7 yX7_keep yX7_keep, Cond.code yX7_keep cX7_keep 1 (some .int), Cond.methodLink RX7 191 yX5_copyFrom, Cond.methodLink RL 73 yX8_keep, Cond.instanceMethod yX8_keep, Cond.selects RX8 yX8_keep yX8_keep, Cond.code yX8_keep cX8_keep 2 (some .int), Cond.fieldLink RX8 149 "FlameGuardsModel" "hasSnapshot" "Z", Cond.methodLink RL 74 yX7_restore, Cond.instanceMethod yX7_restore]
def wsL_law_r26 : List Cond := [Cond.selects RX7 yX7_restore yX7_restore, Cond.code yX7_restore cX7_restore 1 (some .int), Cond.methodLink RL 77 yX8_restore, Cond.instanceMethod yX8_restore, Cond.selects RX8 yX8_restore yX8_restore, Cond.code yX8_restore cX8_restore 2 (some .int), Cond.methodLink RL 78 yX7_burner, Cond.instanceMethod yX7_burner, Cond.selects RX7 yX7_burner yX7_burner, Cond.code yX7_burner cX7_burner 4 (some .int), Cond.fieldLink RX7 193 "FlameGuards$Burner" "temperature" "I", Cond.fieldLink RX7 196 "FlameGuards$Burner" "dark" "I", Cond.fieldLink RX7 199 "FlameGuards$Burner" "unburnt" "I", Cond.methodLink RL 81 yX8_burner, Cond.instanceMethod yX8_burner, Cond.selects RX8 yX8_burner yX8_burner, Cond.code yX8_burner cX8_burner 3 (some .int), Cond.methodLink RL 82 yX7_staysOpen, Cond.instanceMethod yX7_staysOpen, Cond.selects RX7 yX7_staysOpen yX7_staysOpen, Cond.code yX7_staysOpen cX7_staysOpen 6 (some .int), Cond.methodLink RX7 202 yX0_temperatureAfter, Cond.methodLink RL 85 yX8_staysOpen, Cond.instanceMethod yX8_staysOpen]
def wsL_law_r27 : List Cond := [Cond.selects RX8 yX8_staysOpen yX8_staysOpen, Cond.code yX8_staysOpen cX8_staysOpen 4 (some .int), Cond.methodLink RL 86 yX7_toPress, Cond.instanceMethod yX7_toPress, Cond.selects RX7 yX7_toPress yX7_toPress, Cond.code yX7_toPress cX7_toPress 8 (some .int), Cond.methodLink RX7 206 yX0_heatAt, Cond.methodLink RL 89 yX8_toPress, Cond.instanceMethod yX8_toPress, Cond.selects RX8 yX8_toPress yX8_toPress, Cond.code yX8_toPress cX8_toPress 6 (some .int), Cond.methodLink RL 90 yX7_clearIn, Cond.instanceMethod yX7_clearIn, Cond.selects RX7 yX7_clearIn yX7_clearIn, Cond.code yX7_clearIn cX7_clearIn 2 (some .int), Cond.methodLink RX7 209 yX5_isClear, Cond.instanceMethod yX5_isClear, Cond.selects RX5 yX5_isClear yX5_isClear, Cond.code yX5_isClear cX5_isClear 5 (some .boolean), Cond.methodLink RL 93 yX8_clearIn, Cond.instanceMethod yX8_clearIn, Cond.selects RX8 yX8_clearIn yX8_clearIn, Cond.code yX8_clearIn cX8_clearIn 2 (some .int), Cond.methodLink RX8 152 yX8_putAside]
def wsL_law_r28 : List Cond := [Cond.instanceMethod yX8_putAside, Cond.selects RX8 yX8_putAside yX8_putAside, Cond.code yX8_putAside cX8_putAside 2 none, Cond.methodLink RX8 155 yX8_isClear, Cond.instanceMethod yX8_isClear, Cond.selects RX8 yX8_isClear yX8_isClear, Cond.code yX8_isClear cX8_isClear 3 (some .boolean), Cond.methodLink RX8 159 yX8_takeBack, Cond.instanceMethod yX8_takeBack, Cond.selects RX8 yX8_takeBack yX8_takeBack, Cond.code yX8_takeBack cX8_takeBack 2 none, Cond.methodLink RL 94 yX7_blownIn, Cond.instanceMethod yX7_blownIn, Cond.selects RX7 yX7_blownIn yX7_blownIn, Cond.code yX7_blownIn cX7_blownIn 5 (some .int), Cond.methodLink RX7 212 yX3_draftIn, Cond.methodLink RL 97 yX8_blownIn, Cond.instanceMethod yX8_blownIn, Cond.selects RX8 yX8_blownIn yX8_blownIn, Cond.code yX8_blownIn cX8_blownIn 3 (some .int), Cond.methodLink RL 98 yX7_entry, Cond.instanceMethod yX7_entry, Cond.selects RX7 yX7_entry yX7_entry, Cond.code yX7_entry cX7_entry 3 (some .int)]
def wsL_law_r29 : List Cond := [Cond.fieldLink RX7 215 "FlameGuards$Plan" "ticks" "[I", Cond.fieldLink RX7 219 "FlameGuards$Plan" "values" "[I", Cond.methodLink RX7 222 yX7_elementAt, Cond.methodLink RL 101 yX8_entry, Cond.instanceMethod yX8_entry, Cond.selects RX8 yX8_entry yX8_entry, Cond.code yX8_entry cX8_entry 3 (some .int), Cond.methodLink RL 102 yX7_event, Cond.instanceMethod yX7_event, Cond.selects RX7 yX7_event yX7_event, Cond.code yX7_event cX7_event 3 (some .int), Cond.fieldLink RX7 226 "FlameGuards$Log" "known" "I", Cond.fieldLink RX7 229 "FlameGuards$Log" "events" "[I", Cond.fieldLink RX7 232 "FlameGuards$Log" "burners" "[I", Cond.fieldLink RX7 235 "FlameGuards$Log" "ticks" "[I", Cond.methodLink RL 105 yX8_event, Cond.instanceMethod yX8_event, Cond.selects RX8 yX8_event yX8_event, Cond.code yX8_event cX8_event 3 (some .int), Cond.methodLink RL 106 yX7_count, Cond.instanceMethod yX7_count, Cond.selects RX7 yX7_count yX7_count, Cond.code yX7_count cX7_count 2 (some .int), Cond.fieldLink RX7 236 "FlameGuards$State" "gas" "I"]
def wsL_law_r30 : List Cond := [Cond.fieldLink RX7 239 "FlameGuards$Log" "counts" "[I", Cond.fieldLink RX7 248 "FlameGuards$State" "mostGas" "I", Cond.fieldLink RX7 251 "FlameGuards$State" "mostDark" "I", Cond.methodLink RX7 242 yX5_flames, Cond.instanceMethod yX5_flames, Cond.selects RX5 yX5_flames yX5_flames, Cond.code yX5_flames cX5_flames 6 (some .int), Cond.methodLink RX7 245 yX5_openValves, Cond.instanceMethod yX5_openValves, Cond.selects RX5 yX5_openValves yX5_openValves, Cond.code yX5_openValves cX5_openValves 6 (some .int), Cond.methodLink RL 109 yX8_count, Cond.instanceMethod yX8_count, Cond.selects RX8 yX8_count yX8_count, Cond.code yX8_count cX8_count 2 (some .int), Cond.methodLink RX8 162 yX8_openValves, Cond.instanceMethod yX8_openValves, Cond.selects RX8 yX8_openValves yX8_openValves, Cond.code yX8_openValves cX8_openValves 3 (some .int), Cond.methodLink RL 110 yX7_setting, Cond.instanceMethod yX7_setting, Cond.selects RX7 yX7_setting yX7_setting, Cond.code yX7_setting cX7_setting 2 (some .int), Cond.methodLink RL 113 yX8_setting]
def wsL_law_r31 : List Cond := [Cond.instanceMethod yX8_setting, Cond.selects RX8 yX8_setting yX8_setting, Cond.code yX8_setting cX8_setting 2 (some .int)]
def wsL_law : List Cond := (wsL_law_r1 ++ (wsL_law_r2 ++ (wsL_law_r3 ++ (wsL_law_r4 ++ (wsL_law_r5 ++ (wsL_law_r6 ++ (wsL_law_r7 ++ (wsL_law_r8 ++ (wsL_law_r9 ++ (wsL_law_r10 ++ (wsL_law_r11 ++ (wsL_law_r12 ++ (wsL_law_r13 ++ (wsL_law_r14 ++ (wsL_law_r15 ++ (wsL_law_r16 ++ (wsL_law_r17 ++ (wsL_law_r18 ++ (wsL_law_r19 ++ (wsL_law_r20 ++ (wsL_law_r21 ++ (wsL_law_r22 ++ (wsL_law_r23 ++ (wsL_law_r24 ++ (wsL_law_r25 ++ (wsL_law_r26 ++ (wsL_law_r27 ++ (wsL_law_r28 ++ (wsL_law_r29 ++ (wsL_law_r30 ++ wsL_law_r31)))))))))))))))))))))))))))))) ++ wsX70 ++ wsX80 ++ wsX50 ++ wsX30 ++ wsX10 ++ wsX60 ++ wsX40 ++ wsX00 ++ wsX20 ++ ([] : List Cond)
end
section
theorem wsL_in_r1 : ∀ w ∈ wsL_law_r1, w ∈ lw_tbl := by decide +kernel
theorem wsL_in_r2 : ∀ w ∈ wsL_law_r2, w ∈ lw_tbl := by decide +kernel
theorem wsL_in_r3 : ∀ w ∈ wsL_law_r3, w ∈ lw_tbl := by decide +kernel
theorem wsL_in_r4 : ∀ w ∈ wsL_law_r4, w ∈ lw_tbl := by decide +kernel
theorem wsL_in_r5 : ∀ w ∈ wsL_law_r5, w ∈ lw_tbl := by decide +kernel
theorem wsL_in_r6 : ∀ w ∈ wsL_law_r6, w ∈ lw_tbl := by decide +kernel
theorem wsL_in_r7 : ∀ w ∈ wsL_law_r7, w ∈ lw_tbl := by decide +kernel
theorem wsL_in_r8 : ∀ w ∈ wsL_law_r8, w ∈ lw_tbl := by decide +kernel
theorem wsL_in_r9 : ∀ w ∈ wsL_law_r9, w ∈ lw_tbl := by decide +kernel
theorem wsL_in_r10 : ∀ w ∈ wsL_law_r10, w ∈ lw_tbl := by decide +kernel
theorem wsL_in_r11 : ∀ w ∈ wsL_law_r11, w ∈ lw_tbl := by decide +kernel
theorem wsL_in_r12 : ∀ w ∈ wsL_law_r12, w ∈ lw_tbl := by decide +kernel
theorem wsL_in_r13 : ∀ w ∈ wsL_law_r13, w ∈ lw_tbl := by decide +kernel
theorem wsL_in_r14 : ∀ w ∈ wsL_law_r14, w ∈ lw_tbl := by decide +kernel
theorem wsL_in_r15 : ∀ w ∈ wsL_law_r15, w ∈ lw_tbl := by decide +kernel
theorem wsL_in_r16 : ∀ w ∈ wsL_law_r16, w ∈ lw_tbl := by decide +kernel
theorem wsL_in_r17 : ∀ w ∈ wsL_law_r17, w ∈ lw_tbl := by decide +kernel
theorem wsL_in_r18 : ∀ w ∈ wsL_law_r18, w ∈ lw_tbl := by decide +kernel
theorem wsL_in_r19 : ∀ w ∈ wsL_law_r19, w ∈ lw_tbl := by decide +kernel
theorem wsL_in_r20 : ∀ w ∈ wsL_law_r20, w ∈ lw_tbl := by decide +kernel
theorem wsL_in_r21 : ∀ w ∈ wsL_law_r21, w ∈ lw_tbl := by decide +kernel
theorem wsL_in_r22 : ∀ w ∈ wsL_law_r22, w ∈ lw_tbl := by decide +kernel
theorem wsL_in_r23 : ∀ w ∈ wsL_law_r23, w ∈ lw_tbl := by decide +kernel
theorem wsL_in_r24 : ∀ w ∈ wsL_law_r24, w ∈ lw_tbl := by decide +kernel
theorem wsL_in_r25 : ∀ w ∈ wsL_law_r25, w ∈ lw_tbl := by decide +kernel
theorem wsL_in_r26 : ∀ w ∈ wsL_law_r26, w ∈ lw_tbl := by decide +kernel
theorem wsL_in_r27 : ∀ w ∈ wsL_law_r27, w ∈ lw_tbl := by decide +kernel
theorem wsL_in_r28 : ∀ w ∈ wsL_law_r28, w ∈ lw_tbl := by decide +kernel
theorem wsL_in_r29 : ∀ w ∈ wsL_law_r29, w ∈ lw_tbl := by decide +kernel
theorem wsL_in_r30 : ∀ w ∈ wsL_law_r30, w ∈ lw_tbl := by decide +kernel
theorem wsL_in_r31 : ∀ w ∈ wsL_law_r31, w ∈ lw_tbl := by decide +kernel
theorem wsL_in_x70 : ∀ w ∈ wsX70, w ∈ lw_tbl := by decide +kernel
theorem wsL_in_x80 : ∀ w ∈ wsX80, w ∈ lw_tbl := by decide +kernel
theorem wsL_in_x50 : ∀ w ∈ wsX50, w ∈ lw_tbl := by decide +kernel
theorem wsL_in_x30 : ∀ w ∈ wsX30, w ∈ lw_tbl := by decide +kernel
theorem wsL_in_x10 : ∀ w ∈ wsX10, w ∈ lw_tbl := by decide +kernel
theorem wsL_in_x60 : ∀ w ∈ wsX60, w ∈ lw_tbl := by decide +kernel
theorem wsL_in_x40 : ∀ w ∈ wsX40, w ∈ lw_tbl := by decide +kernel
theorem wsL_in_x00 : ∀ w ∈ wsX00, w ∈ lw_tbl := by decide +kernel
theorem wsL_in_x20 : ∀ w ∈ wsX20, w ∈ lw_tbl := by decide +kernel
theorem wsL_law_in : ∀ w ∈ wsL_law, w ∈ lw_tbl := List.forall_mem_append.mpr ⟨List.forall_mem_append.mpr ⟨List.forall_mem_append.mpr ⟨List.forall_mem_append.mpr ⟨List.forall_mem_append.mpr ⟨List.forall_mem_append.mpr ⟨List.forall_mem_append.mpr ⟨List.forall_mem_append.mpr ⟨List.forall_mem_append.mpr ⟨List.forall_mem_append.mpr ⟨List.forall_mem_append.mpr ⟨wsL_in_r1, List.forall_mem_append.mpr ⟨wsL_in_r2, List.forall_mem_append.mpr ⟨wsL_in_r3, List.forall_mem_append.mpr ⟨wsL_in_r4, List.forall_mem_append.mpr ⟨wsL_in_r5, List.forall_mem_append.mpr ⟨wsL_in_r6, List.forall_mem_append.mpr ⟨wsL_in_r7, List.forall_mem_append.mpr ⟨wsL_in_r8, List.forall_mem_append.mpr ⟨wsL_in_r9, List.forall_mem_append.mpr ⟨wsL_in_r10, List.forall_mem_append.mpr ⟨wsL_in_r11, List.forall_mem_append.mpr ⟨wsL_in_r12, List.forall_mem_append.mpr ⟨wsL_in_r13, List.forall_mem_append.mpr ⟨wsL_in_r14, List.forall_mem_append.mpr ⟨wsL_in_r15, List.forall_mem_append.mpr ⟨wsL_in_r16, List.forall_mem_append.mpr ⟨wsL_in_r17, List.forall_mem_append.mpr ⟨wsL_in_r18, List.forall_mem_append.mpr ⟨wsL_in_r19, List.forall_mem_append.mpr ⟨wsL_in_r20, List.forall_mem_append.mpr ⟨wsL_in_r21, List.forall_mem_append.mpr ⟨wsL_in_r22, List.forall_mem_append.mpr ⟨wsL_in_r23, List.forall_mem_append.mpr ⟨wsL_in_r24, List.forall_mem_append.mpr ⟨wsL_in_r25, List.forall_mem_append.mpr ⟨wsL_in_r26, List.forall_mem_append.mpr ⟨wsL_in_r27, List.forall_mem_append.mpr ⟨wsL_in_r28, List.forall_mem_append.mpr ⟨wsL_in_r29, List.forall_mem_append.mpr ⟨wsL_in_r30, wsL_in_r31⟩⟩⟩⟩⟩⟩⟩⟩⟩⟩⟩⟩⟩⟩⟩⟩⟩⟩⟩⟩⟩⟩⟩⟩⟩⟩⟩⟩⟩⟩, wsL_in_x70⟩, wsL_in_x80⟩, wsL_in_x50⟩, wsL_in_x30⟩, wsL_in_x10⟩, wsL_in_x60⟩, wsL_in_x40⟩, wsL_in_x00⟩, wsL_in_x20⟩, fun _ h => absurd h List.not_mem_nil⟩
theorem inlX0 : ∀ w ∈ wsX00, w ∈ wsL_law := fun _ h => List.mem_append_left _ (List.mem_append_left _ (List.mem_append_right _ h))
theorem inX0 : ∀ w ∈ wsX00, w ∈ lw_tbl := fun w h => wsL_law_in w (inlX0 w h)
theorem inlX1 : ∀ w ∈ wsX10, w ∈ wsL_law := fun _ h => List.mem_append_left _ (List.mem_append_left _ (List.mem_append_left _ (List.mem_append_left _ (List.mem_append_left _ (List.mem_append_right _ h)))))
theorem inX1 : ∀ w ∈ wsX10, w ∈ lw_tbl := fun w h => wsL_law_in w (inlX1 w h)
theorem inlX2 : ∀ w ∈ wsX20, w ∈ wsL_law := fun _ h => List.mem_append_left _ (List.mem_append_right _ h)
theorem inX2 : ∀ w ∈ wsX20, w ∈ lw_tbl := fun w h => wsL_law_in w (inlX2 w h)
theorem inlX3 : ∀ w ∈ wsX30, w ∈ wsL_law := fun _ h => List.mem_append_left _ (List.mem_append_left _ (List.mem_append_left _ (List.mem_append_left _ (List.mem_append_left _ (List.mem_append_left _ (List.mem_append_right _ h))))))
theorem inX3 : ∀ w ∈ wsX30, w ∈ lw_tbl := fun w h => wsL_law_in w (inlX3 w h)
theorem inlX4 : ∀ w ∈ wsX40, w ∈ wsL_law := fun _ h => List.mem_append_left _ (List.mem_append_left _ (List.mem_append_left _ (List.mem_append_right _ h)))
theorem inX4 : ∀ w ∈ wsX40, w ∈ lw_tbl := fun w h => wsL_law_in w (inlX4 w h)
theorem inlX5 : ∀ w ∈ wsX50, w ∈ wsL_law := fun _ h => List.mem_append_left _ (List.mem_append_left _ (List.mem_append_left _ (List.mem_append_left _ (List.mem_append_left _ (List.mem_append_left _ (List.mem_append_left _ (List.mem_append_right _ h)))))))
theorem inX5 : ∀ w ∈ wsX50, w ∈ lw_tbl := fun w h => wsL_law_in w (inlX5 w h)
theorem inlX6 : ∀ w ∈ wsX60, w ∈ wsL_law := fun _ h => List.mem_append_left _ (List.mem_append_left _ (List.mem_append_left _ (List.mem_append_left _ (List.mem_append_right _ h))))
theorem inX6 : ∀ w ∈ wsX60, w ∈ lw_tbl := fun w h => wsL_law_in w (inlX6 w h)
theorem inlX7 : ∀ w ∈ wsX70, w ∈ wsL_law := fun _ h => List.mem_append_left _ (List.mem_append_left _ (List.mem_append_left _ (List.mem_append_left _ (List.mem_append_left _ (List.mem_append_left _ (List.mem_append_left _ (List.mem_append_left _ (List.mem_append_left _ (List.mem_append_right _ h)))))))))
theorem inX7 : ∀ w ∈ wsX70, w ∈ lw_tbl := fun w h => wsL_law_in w (inlX7 w h)
theorem inlX8 : ∀ w ∈ wsX80, w ∈ wsL_law := fun _ h => List.mem_append_left _ (List.mem_append_left _ (List.mem_append_left _ (List.mem_append_left _ (List.mem_append_left _ (List.mem_append_left _ (List.mem_append_left _ (List.mem_append_left _ (List.mem_append_right _ h))))))))
theorem inX8 : ∀ w ∈ wsX80, w ∈ lw_tbl := fun w h => wsL_law_in w (inlX8 w h)
theorem inJ9 : ∀ w ∈ wsJ90, w ∈ lw_tbl := by decide +kernel
theorem inJ10 : ∀ w ∈ wsJ100, w ∈ lw_tbl := by decide +kernel
end
section
theorem dX0_init_0 : decode cX0_init 0 = .ok (.aload_n 0, 1) := by decide +kernel
theorem dX0_init_1 : decode cX0_init 1 = .ok (.invokespecial 1, 3) := by decide +kernel
theorem dX0_init_4 : decode cX0_init 4 = .ok (.aload_n 0, 1) := by decide +kernel
theorem dX0_init_5 : decode cX0_init 5 = .ok (.iload_n 1, 1) := by decide +kernel
theorem dX0_init_6 : decode cX0_init 6 = .ok (.putfield 7, 3) := by decide +kernel
theorem dX0_init_9 : decode cX0_init 9 = .ok (.return_, 1) := by decide +kernel
theorem dX0_copyFrom_0 : decode cX0_copyFrom 0 = .ok (.aload_n 0, 1) := by decide +kernel
theorem dX0_copyFrom_1 : decode cX0_copyFrom 1 = .ok (.aload_n 1, 1) := by decide +kernel
theorem dX0_copyFrom_2 : decode cX0_copyFrom 2 = .ok (.getfield 7, 3) := by decide +kernel
theorem dX0_copyFrom_5 : decode cX0_copyFrom 5 = .ok (.putfield 7, 3) := by decide +kernel
theorem dX0_copyFrom_8 : decode cX0_copyFrom 8 = .ok (.aload_n 0, 1) := by decide +kernel
theorem dX0_copyFrom_9 : decode cX0_copyFrom 9 = .ok (.aload_n 1, 1) := by decide +kernel
theorem dX0_copyFrom_10 : decode cX0_copyFrom 10 = .ok (.getfield 13, 3) := by decide +kernel
theorem dX0_copyFrom_13 : decode cX0_copyFrom 13 = .ok (.putfield 13, 3) := by decide +kernel
theorem dX0_copyFrom_16 : decode cX0_copyFrom 16 = .ok (.aload_n 0, 1) := by decide +kernel
theorem dX0_copyFrom_17 : decode cX0_copyFrom 17 = .ok (.aload_n 1, 1) := by decide +kernel
theorem dX0_copyFrom_18 : decode cX0_copyFrom 18 = .ok (.getfield 16, 3) := by decide +kernel
theorem dX0_copyFrom_21 : decode cX0_copyFrom 21 = .ok (.putfield 16, 3) := by decide +kernel
theorem dX0_copyFrom_24 : decode cX0_copyFrom 24 = .ok (.aload_n 0, 1) := by decide +kernel
theorem dX0_copyFrom_25 : decode cX0_copyFrom 25 = .ok (.aload_n 1, 1) := by decide +kernel
theorem dX0_copyFrom_26 : decode cX0_copyFrom 26 = .ok (.getfield 20, 3) := by decide +kernel
theorem dX0_copyFrom_29 : decode cX0_copyFrom 29 = .ok (.putfield 20, 3) := by decide +kernel
theorem dX0_copyFrom_32 : decode cX0_copyFrom 32 = .ok (.aload_n 0, 1) := by decide +kernel
theorem dX0_copyFrom_33 : decode cX0_copyFrom 33 = .ok (.aload_n 1, 1) := by decide +kernel
theorem dX0_copyFrom_34 : decode cX0_copyFrom 34 = .ok (.getfield 23, 3) := by decide +kernel
theorem dX0_copyFrom_37 : decode cX0_copyFrom 37 = .ok (.putfield 23, 3) := by decide +kernel
theorem dX0_copyFrom_40 : decode cX0_copyFrom 40 = .ok (.aload_n 0, 1) := by decide +kernel
theorem dX0_copyFrom_41 : decode cX0_copyFrom 41 = .ok (.aload_n 1, 1) := by decide +kernel
theorem dX0_copyFrom_42 : decode cX0_copyFrom 42 = .ok (.getfield 26, 3) := by decide +kernel
theorem dX0_copyFrom_45 : decode cX0_copyFrom 45 = .ok (.putfield 26, 3) := by decide +kernel
theorem dX0_copyFrom_48 : decode cX0_copyFrom 48 = .ok (.aload_n 0, 1) := by decide +kernel
theorem dX0_copyFrom_49 : decode cX0_copyFrom 49 = .ok (.aload_n 1, 1) := by decide +kernel
theorem dX0_copyFrom_50 : decode cX0_copyFrom 50 = .ok (.getfield 29, 3) := by decide +kernel
theorem dX0_copyFrom_53 : decode cX0_copyFrom 53 = .ok (.putfield 29, 3) := by decide +kernel
theorem dX0_copyFrom_56 : decode cX0_copyFrom 56 = .ok (.aload_n 0, 1) := by decide +kernel
theorem dX0_copyFrom_57 : decode cX0_copyFrom 57 = .ok (.aload_n 1, 1) := by decide +kernel
theorem dX0_copyFrom_58 : decode cX0_copyFrom 58 = .ok (.getfield 32, 3) := by decide +kernel
theorem dX0_copyFrom_61 : decode cX0_copyFrom 61 = .ok (.putfield 32, 3) := by decide +kernel
theorem dX0_copyFrom_64 : decode cX0_copyFrom 64 = .ok (.aload_n 0, 1) := by decide +kernel
theorem dX0_copyFrom_65 : decode cX0_copyFrom 65 = .ok (.aload_n 1, 1) := by decide +kernel
theorem dX0_copyFrom_66 : decode cX0_copyFrom 66 = .ok (.getfield 35, 3) := by decide +kernel
theorem dX0_copyFrom_69 : decode cX0_copyFrom 69 = .ok (.putfield 35, 3) := by decide +kernel
theorem dX0_copyFrom_72 : decode cX0_copyFrom 72 = .ok (.aload_n 0, 1) := by decide +kernel
theorem dX0_copyFrom_73 : decode cX0_copyFrom 73 = .ok (.aload_n 1, 1) := by decide +kernel
theorem dX0_copyFrom_74 : decode cX0_copyFrom 74 = .ok (.getfield 38, 3) := by decide +kernel
theorem dX0_copyFrom_77 : decode cX0_copyFrom 77 = .ok (.putfield 38, 3) := by decide +kernel
theorem dX0_copyFrom_80 : decode cX0_copyFrom 80 = .ok (.return_, 1) := by decide +kernel
set_option maxRecDepth 20000 in
theorem ggX0_flow_X0_told : GoodIn wsX0_flow wsX0_told := goodIn_r _ [7, 8, 9, 10, 11, 12, 13, 14, 15, 16, 17, 18, 19, 20, 21] (by decide +kernel) (by decide +kernel)
set_option maxRecDepth 20000 in
theorem gX0_flow_X0_told : GoodIn wsX0_flow (wsV RX0 45 RX0 yX0_told wsX0_told) := goodIn_app (goodIn_of _ (by decide +kernel)) ggX0_flow_X0_told
theorem dX0_flow_0 : decode cX0_flow 0 = .ok (.aload_n 0, 1) := by decide +kernel
theorem dX0_flow_1 : decode cX0_flow 1 = .ok (.getstatic 41, 3) := by decide +kernel
theorem dX0_flow_4 : decode cX0_flow 4 = .ok (.aload_n 0, 1) := by decide +kernel
theorem dX0_flow_5 : decode cX0_flow 5 = .ok (.getfield 13, 3) := by decide +kernel
theorem dX0_flow_8 : decode cX0_flow 8 = .ok (.invokevirtual 45, 3) := by decide +kernel
theorem dX0_flow_11 : decode cX0_flow 11 = .ok (.ireturn, 1) := by decide +kernel
set_option maxRecDepth 20000 in
theorem ggX0_strength_X0_told : GoodIn wsX0_strength wsX0_told := goodIn_r _ [7, 8, 9, 10, 11, 12, 13, 14, 15, 16, 17, 18, 19, 20, 21] (by decide +kernel) (by decide +kernel)
set_option maxRecDepth 20000 in
theorem gX0_strength_X0_told : GoodIn wsX0_strength (wsV RX0 45 RX0 yX0_told wsX0_told) := goodIn_app (goodIn_of _ (by decide +kernel)) ggX0_strength_X0_told
theorem dX0_strength_0 : decode cX0_strength 0 = .ok (.aload_n 0, 1) := by decide +kernel
theorem dX0_strength_1 : decode cX0_strength 1 = .ok (.getstatic 49, 3) := by decide +kernel
theorem dX0_strength_4 : decode cX0_strength 4 = .ok (.aload_n 0, 1) := by decide +kernel
theorem dX0_strength_5 : decode cX0_strength 5 = .ok (.getfield 13, 3) := by decide +kernel
theorem dX0_strength_8 : decode cX0_strength 8 = .ok (.invokevirtual 45, 3) := by decide +kernel
theorem dX0_strength_11 : decode cX0_strength 11 = .ok (.ireturn, 1) := by decide +kernel
set_option maxRecDepth 20000 in
theorem ggX0_heatAt_X0_told : GoodIn wsX0_heatAt wsX0_told := goodIn_r _ [6, 7, 8, 9, 10, 11, 12, 13, 14, 15, 16, 17, 18, 19, 20] (by decide +kernel) (by decide +kernel)
set_option maxRecDepth 20000 in
theorem gX0_heatAt_X0_told : GoodIn wsX0_heatAt (wsV RX0 45 RX0 yX0_told wsX0_told) := goodIn_app (goodIn_of _ (by decide +kernel)) ggX0_heatAt_X0_told
theorem dX0_heatAt_0 : decode cX0_heatAt 0 = .ok (.aload_n 0, 1) := by decide +kernel
theorem dX0_heatAt_1 : decode cX0_heatAt 1 = .ok (.getstatic 52, 3) := by decide +kernel
theorem dX0_heatAt_4 : decode cX0_heatAt 4 = .ok (.iload_n 1, 1) := by decide +kernel
theorem dX0_heatAt_5 : decode cX0_heatAt 5 = .ok (.invokevirtual 45, 3) := by decide +kernel
theorem dX0_heatAt_8 : decode cX0_heatAt 8 = .ok (.ireturn, 1) := by decide +kernel
theorem dX0_isOpen_0 : decode cX0_isOpen 0 = .ok (.aload_n 0, 1) := by decide +kernel
theorem dX0_isOpen_1 : decode cX0_isOpen 1 = .ok (.getfield 29, 3) := by decide +kernel
theorem dX0_isOpen_4 : decode cX0_isOpen 4 = .ok (.ifCond .ne 29, 3) := by decide +kernel
theorem dX0_isOpen_7 : decode cX0_isOpen 7 = .ok (.aload_n 0, 1) := by decide +kernel
theorem dX0_isOpen_8 : decode cX0_isOpen 8 = .ok (.getfield 13, 3) := by decide +kernel
theorem dX0_isOpen_11 : decode cX0_isOpen 11 = .ok (.ifCond .eq 22, 3) := by decide +kernel
theorem dX0_isOpen_14 : decode cX0_isOpen 14 = .ok (.aload_n 0, 1) := by decide +kernel
theorem dX0_isOpen_15 : decode cX0_isOpen 15 = .ok (.getfield 16, 3) := by decide +kernel
theorem dX0_isOpen_18 : decode cX0_isOpen 18 = .ok (.ifCond .ne 11, 3) := by decide +kernel
theorem dX0_isOpen_21 : decode cX0_isOpen 21 = .ok (.aload_n 0, 1) := by decide +kernel
theorem dX0_isOpen_22 : decode cX0_isOpen 22 = .ok (.getfield 26, 3) := by decide +kernel
theorem dX0_isOpen_25 : decode cX0_isOpen 25 = .ok (.iload_n 1, 1) := by decide +kernel
theorem dX0_isOpen_26 : decode cX0_isOpen 26 = .ok (.if_icmp .lt 7, 3) := by decide +kernel
theorem dX0_isOpen_29 : decode cX0_isOpen 29 = .ok (.iconst 1, 1) := by decide +kernel
theorem dX0_isOpen_30 : decode cX0_isOpen 30 = .ok (.goto 4, 3) := by decide +kernel
theorem dX0_isOpen_33 : decode cX0_isOpen 33 = .ok (.iconst 0, 1) := by decide +kernel
theorem dX0_isOpen_34 : decode cX0_isOpen 34 = .ok (.ireturn, 1) := by decide +kernel
set_option maxRecDepth 20000 in
theorem ggX0_warmOrCool_X0_heatAt : GoodIn wsX0_warmOrCool wsX0_heatAt := goodIn_r _ [8, 9, 10, 11, 12, 7, 13, 14, 15, 16, 17, 34, 35, 36, 37, 38, 39, 40, 41, 42, 43] (by decide +kernel) (by decide +kernel)
set_option maxRecDepth 20000 in
theorem gX0_warmOrCool_X0_heatAt : GoodIn wsX0_warmOrCool (wsV RX0 55 RX0 yX0_heatAt wsX0_heatAt) := goodIn_app (goodIn_of _ (by decide +kernel)) ggX0_warmOrCool_X0_heatAt
set_option maxRecDepth 20000 in
theorem ggX0_warmOrCool_X0_temperatureAfter : GoodIn wsX0_warmOrCool wsX0_temperatureAfter := goodIn_r _ [21, 22, 14, 23, 24, 25, 26, 27, 28, 29, 30, 15, 16, 17, 31, 32, 7, 33, 34, 35, 36, 37, 38, 39, 40, 41, 42, 43] (by decide +kernel) (by decide +kernel)
set_option maxRecDepth 20000 in
theorem gX0_warmOrCool_X0_temperatureAfter : GoodIn wsX0_warmOrCool (wsV RX0 59 RX0 yX0_temperatureAfter wsX0_temperatureAfter) := goodIn_app (goodIn_of _ (by decide +kernel)) ggX0_warmOrCool_X0_temperatureAfter
theorem dX0_warmOrCool_0 : decode cX0_warmOrCool 0 = .ok (.aload_n 0, 1) := by decide +kernel
theorem dX0_warmOrCool_1 : decode cX0_warmOrCool 1 = .ok (.aload_n 0, 1) := by decide +kernel
theorem dX0_warmOrCool_2 : decode cX0_warmOrCool 2 = .ok (.aload_n 0, 1) := by decide +kernel
theorem dX0_warmOrCool_3 : decode cX0_warmOrCool 3 = .ok (.getfield 26, 3) := by decide +kernel
theorem dX0_warmOrCool_6 : decode cX0_warmOrCool 6 = .ok (.aload_n 0, 1) := by decide +kernel
theorem dX0_warmOrCool_7 : decode cX0_warmOrCool 7 = .ok (.getfield 23, 3) := by decide +kernel
theorem dX0_warmOrCool_10 : decode cX0_warmOrCool 10 = .ok (.ifCond .eq 14, 3) := by decide +kernel
theorem dX0_warmOrCool_13 : decode cX0_warmOrCool 13 = .ok (.aload_n 0, 1) := by decide +kernel
theorem dX0_warmOrCool_14 : decode cX0_warmOrCool 14 = .ok (.aload_n 0, 1) := by decide +kernel
theorem dX0_warmOrCool_15 : decode cX0_warmOrCool 15 = .ok (.getfield 13, 3) := by decide +kernel
theorem dX0_warmOrCool_18 : decode cX0_warmOrCool 18 = .ok (.invokevirtual 55, 3) := by decide +kernel
theorem dX0_warmOrCool_21 : decode cX0_warmOrCool 21 = .ok (.goto 4, 3) := by decide +kernel
theorem dX0_warmOrCool_24 : decode cX0_warmOrCool 24 = .ok (.iconst 0, 1) := by decide +kernel
theorem dX0_warmOrCool_25 : decode cX0_warmOrCool 25 = .ok (.invokevirtual 59, 3) := by decide +kernel
theorem dX0_warmOrCool_28 : decode cX0_warmOrCool 28 = .ok (.putfield 26, 3) := by decide +kernel
theorem dX0_warmOrCool_31 : decode cX0_warmOrCool 31 = .ok (.return_, 1) := by decide +kernel
set_option maxRecDepth 20000 in
theorem ggX0_temperatureAfter_X7_elementAt : GoodIn wsX0_temperatureAfter wsX7_elementAt := goodIn_r _ [13] (by decide +kernel) (by decide +kernel)
set_option maxRecDepth 20000 in
theorem gX0_temperatureAfter_X7_elementAt_n66 : GoodIn wsX0_temperatureAfter (wsX7_elementAt) := ggX0_temperatureAfter_X7_elementAt
set_option maxRecDepth 20000 in
theorem ggX0_temperatureAfter_X0_quotient : GoodIn wsX0_temperatureAfter wsX0_quotient := goodIn_r _ [17] (by decide +kernel) (by decide +kernel)
set_option maxRecDepth 20000 in
theorem gX0_temperatureAfter_X0_quotient : GoodIn wsX0_temperatureAfter (va_wsS RX0 71 yX0_quotient wsX0_quotient) := goodIn_app (goodIn_of _ (by decide +kernel)) ggX0_temperatureAfter_X0_quotient
theorem dX0_temperatureAfter_0 : decode cX0_temperatureAfter 0 = .ok (.iload_n 1, 1) := by decide +kernel
theorem dX0_temperatureAfter_1 : decode cX0_temperatureAfter 1 = .ok (.iload_n 2, 1) := by decide +kernel
theorem dX0_temperatureAfter_2 : decode cX0_temperatureAfter 2 = .ok (.if_icmp .ge 28, 3) := by decide +kernel
theorem dX0_temperatureAfter_5 : decode cX0_temperatureAfter 5 = .ok (.iload_n 2, 1) := by decide +kernel
theorem dX0_temperatureAfter_6 : decode cX0_temperatureAfter 6 = .ok (.iload_n 1, 1) := by decide +kernel
theorem dX0_temperatureAfter_7 : decode cX0_temperatureAfter 7 = .ok (.iload_n 2, 1) := by decide +kernel
theorem dX0_temperatureAfter_8 : decode cX0_temperatureAfter 8 = .ok (.iload_n 1, 1) := by decide +kernel
theorem dX0_temperatureAfter_9 : decode cX0_temperatureAfter 9 = .ok (.isub, 1) := by decide +kernel
theorem dX0_temperatureAfter_10 : decode cX0_temperatureAfter 10 = .ok (.getstatic 63, 3) := by decide +kernel
theorem dX0_temperatureAfter_13 : decode cX0_temperatureAfter 13 = .ok (.aload_n 0, 1) := by decide +kernel
theorem dX0_temperatureAfter_14 : decode cX0_temperatureAfter 14 = .ok (.getfield 7, 3) := by decide +kernel
theorem dX0_temperatureAfter_17 : decode cX0_temperatureAfter 17 = .ok (.invokestatic 66, 3) := by decide +kernel
theorem dX0_temperatureAfter_20 : decode cX0_temperatureAfter 20 = .ok (.invokestatic 71, 3) := by decide +kernel
theorem dX0_temperatureAfter_23 : decode cX0_temperatureAfter 23 = .ok (.iadd, 1) := by decide +kernel
theorem dX0_temperatureAfter_24 : decode cX0_temperatureAfter 24 = .ok (.iconst 1, 1) := by decide +kernel
theorem dX0_temperatureAfter_25 : decode cX0_temperatureAfter 25 = .ok (.iadd, 1) := by decide +kernel
theorem dX0_temperatureAfter_26 : decode cX0_temperatureAfter 26 = .ok (.invokestatic 74, 3) := by decide +kernel
theorem dX0_temperatureAfter_29 : decode cX0_temperatureAfter 29 = .ok (.ireturn, 1) := by decide +kernel
theorem dX0_temperatureAfter_30 : decode cX0_temperatureAfter 30 = .ok (.iload_n 1, 1) := by decide +kernel
theorem dX0_temperatureAfter_31 : decode cX0_temperatureAfter 31 = .ok (.iload_n 2, 1) := by decide +kernel
theorem dX0_temperatureAfter_32 : decode cX0_temperatureAfter 32 = .ok (.if_icmp .le 26, 3) := by decide +kernel
theorem dX0_temperatureAfter_35 : decode cX0_temperatureAfter 35 = .ok (.iload_n 2, 1) := by decide +kernel
theorem dX0_temperatureAfter_36 : decode cX0_temperatureAfter 36 = .ok (.iload_n 1, 1) := by decide +kernel
theorem dX0_temperatureAfter_37 : decode cX0_temperatureAfter 37 = .ok (.iload_n 1, 1) := by decide +kernel
theorem dX0_temperatureAfter_38 : decode cX0_temperatureAfter 38 = .ok (.getstatic 79, 3) := by decide +kernel
theorem dX0_temperatureAfter_41 : decode cX0_temperatureAfter 41 = .ok (.aload_n 0, 1) := by decide +kernel
theorem dX0_temperatureAfter_42 : decode cX0_temperatureAfter 42 = .ok (.getfield 7, 3) := by decide +kernel
theorem dX0_temperatureAfter_45 : decode cX0_temperatureAfter 45 = .ok (.invokestatic 66, 3) := by decide +kernel
theorem dX0_temperatureAfter_48 : decode cX0_temperatureAfter 48 = .ok (.invokestatic 71, 3) := by decide +kernel
theorem dX0_temperatureAfter_51 : decode cX0_temperatureAfter 51 = .ok (.isub, 1) := by decide +kernel
theorem dX0_temperatureAfter_52 : decode cX0_temperatureAfter 52 = .ok (.iconst 1, 1) := by decide +kernel
theorem dX0_temperatureAfter_53 : decode cX0_temperatureAfter 53 = .ok (.isub, 1) := by decide +kernel
theorem dX0_temperatureAfter_54 : decode cX0_temperatureAfter 54 = .ok (.invokestatic 82, 3) := by decide +kernel
theorem dX0_temperatureAfter_57 : decode cX0_temperatureAfter 57 = .ok (.ireturn, 1) := by decide +kernel
theorem dX0_temperatureAfter_58 : decode cX0_temperatureAfter 58 = .ok (.iload_n 1, 1) := by decide +kernel
theorem dX0_temperatureAfter_59 : decode cX0_temperatureAfter 59 = .ok (.ireturn, 1) := by decide +kernel
set_option maxRecDepth 20000 in
theorem ggX0_told_X7_elementAt : GoodIn wsX0_told wsX7_elementAt := goodIn_r _ [4] (by decide +kernel) (by decide +kernel)
set_option maxRecDepth 20000 in
theorem gX0_told_X7_elementAt_n66 : GoodIn wsX0_told (wsX7_elementAt) := ggX0_told_X7_elementAt
theorem dX0_told_0 : decode cX0_told 0 = .ok (.iload_n 2, 1) := by decide +kernel
theorem dX0_told_1 : decode cX0_told 1 = .ok (.ifCond .ne 5, 3) := by decide +kernel
theorem dX0_told_4 : decode cX0_told 4 = .ok (.iconst 0, 1) := by decide +kernel
theorem dX0_told_5 : decode cX0_told 5 = .ok (.ireturn, 1) := by decide +kernel
theorem dX0_told_6 : decode cX0_told 6 = .ok (.aload_n 1, 1) := by decide +kernel
theorem dX0_told_7 : decode cX0_told 7 = .ok (.aload_n 0, 1) := by decide +kernel
theorem dX0_told_8 : decode cX0_told 8 = .ok (.getfield 7, 3) := by decide +kernel
theorem dX0_told_11 : decode cX0_told 11 = .ok (.iconst 2, 1) := by decide +kernel
theorem dX0_told_12 : decode cX0_told 12 = .ok (.imul, 1) := by decide +kernel
theorem dX0_told_13 : decode cX0_told 13 = .ok (.iload_n 2, 1) := by decide +kernel
theorem dX0_told_14 : decode cX0_told 14 = .ok (.iadd, 1) := by decide +kernel
theorem dX0_told_15 : decode cX0_told 15 = .ok (.iconst 1, 1) := by decide +kernel
theorem dX0_told_16 : decode cX0_told 16 = .ok (.isub, 1) := by decide +kernel
theorem dX0_told_17 : decode cX0_told 17 = .ok (.invokestatic 66, 3) := by decide +kernel
theorem dX0_told_20 : decode cX0_told 20 = .ok (.ireturn, 1) := by decide +kernel
theorem dX0_quotient_0 : decode cX0_quotient 0 = .ok (.iload_n 1, 1) := by decide +kernel
theorem dX0_quotient_1 : decode cX0_quotient 1 = .ok (.ifCond .le 9, 3) := by decide +kernel
theorem dX0_quotient_4 : decode cX0_quotient 4 = .ok (.iload_n 0, 1) := by decide +kernel
theorem dX0_quotient_5 : decode cX0_quotient 5 = .ok (.iload_n 1, 1) := by decide +kernel
theorem dX0_quotient_6 : decode cX0_quotient 6 = .ok (.idiv, 1) := by decide +kernel
theorem dX0_quotient_7 : decode cX0_quotient 7 = .ok (.goto 4, 3) := by decide +kernel
theorem dX0_quotient_10 : decode cX0_quotient 10 = .ok (.iconst 0, 1) := by decide +kernel
theorem dX0_quotient_11 : decode cX0_quotient 11 = .ok (.ireturn, 1) := by decide +kernel
set_option maxRecDepth 20000 in
theorem ggX1_init_X5_init : GoodIn wsX1_init wsX5_init := goodIn_r _ [11, 12, 2, 3, 13, 14, 15, 16, 17, 18, 19, 20, 21, 22, 23, 24, 25, 26, 27, 28, 29, 30, 31, 32, 33, 34, 35, 36, 37, 38, 39, 40, 41, 42, 43, 44, 45, 46, 47, 48, 49, 50, 51, 52, 53, 54, 55, 56, 57, 58, 59, 60, 61, 62, 63, 64, 65, 66, 67, 68, 79, 71, 72, 73, 74, 75, 76, 77, 78, 80, 81, 82, 83, 84, 85, 86, 87, 88, 89, 90, 91, 92, 93, 94, 95, 96, 97] (by decide +kernel) (by decide +kernel)
set_option maxRecDepth 20000 in
theorem gX1_init_X5_init : GoodIn wsX1_init (wsX5_init) := ggX1_init_X5_init
theorem dX1_init_0 : decode cX1_init 0 = .ok (.aload_n 0, 1) := by decide +kernel
theorem dX1_init_1 : decode cX1_init 1 = .ok (.invokespecial 1, 3) := by decide +kernel
theorem dX1_init_4 : decode cX1_init 4 = .ok (.aload_n 0, 1) := by decide +kernel
theorem dX1_init_5 : decode cX1_init 5 = .ok (.iconst 4, 1) := by decide +kernel
theorem dX1_init_6 : decode cX1_init 6 = .ok (.anewarray 9, 3) := by decide +kernel
theorem dX1_init_9 : decode cX1_init 9 = .ok (.putfield 11, 3) := by decide +kernel
theorem dX1_init_12 : decode cX1_init 12 = .ok (.iconst 0, 1) := by decide +kernel
theorem dX1_init_13 : decode cX1_init 13 = .ok (.istore_n 1, 1) := by decide +kernel
theorem dX1_init_14 : decode cX1_init 14 = .ok (.iload_n 1, 1) := by decide +kernel
theorem dX1_init_15 : decode cX1_init 15 = .ok (.iconst 4, 1) := by decide +kernel
theorem dX1_init_16 : decode cX1_init 16 = .ok (.if_icmp .ge 22, 3) := by decide +kernel
theorem dX1_init_19 : decode cX1_init 19 = .ok (.aload_n 0, 1) := by decide +kernel
theorem dX1_init_20 : decode cX1_init 20 = .ok (.getfield 11, 3) := by decide +kernel
theorem dX1_init_23 : decode cX1_init 23 = .ok (.iload_n 1, 1) := by decide +kernel
theorem dX1_init_24 : decode cX1_init 24 = .ok (.new 9, 3) := by decide +kernel
theorem dX1_init_27 : decode cX1_init 27 = .ok (.dup, 1) := by decide +kernel
theorem dX1_init_28 : decode cX1_init 28 = .ok (.invokespecial 15, 3) := by decide +kernel
theorem dX1_init_31 : decode cX1_init 31 = .ok (.aastore, 1) := by decide +kernel
theorem dX1_init_32 : decode cX1_init 32 = .ok (.iinc 1 1, 3) := by decide +kernel
theorem dX1_init_35 : decode cX1_init 35 = .ok (.goto (-21), 3) := by decide +kernel
theorem dX1_init_38 : decode cX1_init 38 = .ok (.aload_n 0, 1) := by decide +kernel
theorem dX1_init_39 : decode cX1_init 39 = .ok (.iconst 0, 1) := by decide +kernel
theorem dX1_init_40 : decode cX1_init 40 = .ok (.putfield 16, 3) := by decide +kernel
theorem dX1_init_43 : decode cX1_init 43 = .ok (.return_, 1) := by decide +kernel
set_option maxRecDepth 20000 in
theorem ggX1_record_X1_dropOldest : GoodIn wsX1_record wsX1_dropOldest := goodIn_r _ [7, 2, 1, 71, 72] (by decide +kernel) (by decide +kernel)
set_option maxRecDepth 20000 in
theorem gX1_record_X1_dropOldest : GoodIn wsX1_record (wsV RX1 20 RX1 yX1_dropOldest wsX1_dropOldest) := goodIn_app (goodIn_of _ (by decide +kernel)) ggX1_record_X1_dropOldest
set_option maxRecDepth 20000 in
theorem ggX1_record_X5_copyFrom : GoodIn wsX1_record wsX5_copyFrom := goodIn_r _ [12, 13, 14, 15, 16, 17, 18, 19, 20, 21, 22, 23, 24, 25, 26, 27, 28, 29, 30, 31, 32, 33, 34, 35, 36, 37, 38, 39, 40, 41, 42, 43, 44, 45, 46, 47, 48, 49, 50, 51, 52, 53, 54, 55, 56, 57, 58, 59, 60, 61, 62, 63, 64, 65, 66, 67, 68, 69, 70, 73, 74, 75, 76, 77, 78, 79, 80, 81, 82, 83, 84, 85, 86, 87, 88, 89, 90, 91, 92, 93, 94, 95, 96, 97, 98, 99] (by decide +kernel) (by decide +kernel)
set_option maxRecDepth 20000 in
theorem gX1_record_X5_copyFrom : GoodIn wsX1_record (wsV RX1 23 RX5 yX5_copyFrom wsX5_copyFrom) := goodIn_app (goodIn_of _ (by decide +kernel)) ggX1_record_X5_copyFrom
theorem dX1_record_0 : decode cX1_record 0 = .ok (.aload_n 0, 1) := by decide +kernel
theorem dX1_record_1 : decode cX1_record 1 = .ok (.getfield 16, 3) := by decide +kernel
theorem dX1_record_4 : decode cX1_record 4 = .ok (.iconst 4, 1) := by decide +kernel
theorem dX1_record_5 : decode cX1_record 5 = .ok (.if_icmp .lt 7, 3) := by decide +kernel
theorem dX1_record_8 : decode cX1_record 8 = .ok (.aload_n 0, 1) := by decide +kernel
theorem dX1_record_9 : decode cX1_record 9 = .ok (.invokevirtual 20, 3) := by decide +kernel
theorem dX1_record_12 : decode cX1_record 12 = .ok (.aload_n 0, 1) := by decide +kernel
theorem dX1_record_13 : decode cX1_record 13 = .ok (.getfield 16, 3) := by decide +kernel
theorem dX1_record_16 : decode cX1_record 16 = .ok (.ifCond .lt 34, 3) := by decide +kernel
theorem dX1_record_19 : decode cX1_record 19 = .ok (.aload_n 0, 1) := by decide +kernel
theorem dX1_record_20 : decode cX1_record 20 = .ok (.getfield 16, 3) := by decide +kernel
theorem dX1_record_23 : decode cX1_record 23 = .ok (.iconst 4, 1) := by decide +kernel
theorem dX1_record_24 : decode cX1_record 24 = .ok (.if_icmp .ge 26, 3) := by decide +kernel
theorem dX1_record_27 : decode cX1_record 27 = .ok (.aload_n 0, 1) := by decide +kernel
theorem dX1_record_28 : decode cX1_record 28 = .ok (.getfield 11, 3) := by decide +kernel
theorem dX1_record_31 : decode cX1_record 31 = .ok (.aload_n 0, 1) := by decide +kernel
theorem dX1_record_32 : decode cX1_record 32 = .ok (.getfield 16, 3) := by decide +kernel
theorem dX1_record_35 : decode cX1_record 35 = .ok (.aaload, 1) := by decide +kernel
theorem dX1_record_36 : decode cX1_record 36 = .ok (.aload_n 1, 1) := by decide +kernel
theorem dX1_record_37 : decode cX1_record 37 = .ok (.invokevirtual 23, 3) := by decide +kernel
theorem dX1_record_40 : decode cX1_record 40 = .ok (.aload_n 0, 1) := by decide +kernel
theorem dX1_record_41 : decode cX1_record 41 = .ok (.dup, 1) := by decide +kernel
theorem dX1_record_42 : decode cX1_record 42 = .ok (.getfield 16, 3) := by decide +kernel
theorem dX1_record_45 : decode cX1_record 45 = .ok (.iconst 1, 1) := by decide +kernel
theorem dX1_record_46 : decode cX1_record 46 = .ok (.iadd, 1) := by decide +kernel
theorem dX1_record_47 : decode cX1_record 47 = .ok (.putfield 16, 3) := by decide +kernel
theorem dX1_record_50 : decode cX1_record 50 = .ok (.return_, 1) := by decide +kernel
set_option maxRecDepth 20000 in
theorem ggX1_takeBack_X5_copyFrom : GoodIn wsX1_takeBack wsX5_copyFrom := goodIn_r _ [7, 8, 9, 10, 11, 12, 13, 14, 15, 16, 17, 18, 19, 20, 21, 22, 23, 24, 25, 26, 27, 28, 29, 30, 31, 32, 33, 34, 35, 36, 37, 38, 39, 40, 41, 42, 43, 44, 45, 46, 47, 48, 49, 50, 51, 52, 53, 54, 55, 56, 57, 58, 59, 60, 61, 62, 63, 64, 65, 68, 69, 70, 71, 72, 73, 74, 75, 76, 77, 78, 79, 80, 81, 82, 83, 84, 85, 86, 87, 88, 89, 90, 91, 92, 93, 94] (by decide +kernel) (by decide +kernel)
set_option maxRecDepth 20000 in
theorem gX1_takeBack_X5_copyFrom : GoodIn wsX1_takeBack (wsV RX1 23 RX5 yX5_copyFrom wsX5_copyFrom) := goodIn_app (goodIn_of _ (by decide +kernel)) ggX1_takeBack_X5_copyFrom
theorem dX1_takeBack_0 : decode cX1_takeBack 0 = .ok (.aload_n 0, 1) := by decide +kernel
theorem dX1_takeBack_1 : decode cX1_takeBack 1 = .ok (.getfield 16, 3) := by decide +kernel
theorem dX1_takeBack_4 : decode cX1_takeBack 4 = .ok (.ifCond .le 11, 3) := by decide +kernel
theorem dX1_takeBack_7 : decode cX1_takeBack 7 = .ok (.aload_n 0, 1) := by decide +kernel
theorem dX1_takeBack_8 : decode cX1_takeBack 8 = .ok (.getfield 16, 3) := by decide +kernel
theorem dX1_takeBack_11 : decode cX1_takeBack 11 = .ok (.iconst 4, 1) := by decide +kernel
theorem dX1_takeBack_12 : decode cX1_takeBack 12 = .ok (.if_icmp .le 5, 3) := by decide +kernel
theorem dX1_takeBack_15 : decode cX1_takeBack 15 = .ok (.iconst 0, 1) := by decide +kernel
theorem dX1_takeBack_16 : decode cX1_takeBack 16 = .ok (.ireturn, 1) := by decide +kernel
theorem dX1_takeBack_17 : decode cX1_takeBack 17 = .ok (.aload_n 0, 1) := by decide +kernel
theorem dX1_takeBack_18 : decode cX1_takeBack 18 = .ok (.dup, 1) := by decide +kernel
theorem dX1_takeBack_19 : decode cX1_takeBack 19 = .ok (.getfield 16, 3) := by decide +kernel
theorem dX1_takeBack_22 : decode cX1_takeBack 22 = .ok (.iconst 1, 1) := by decide +kernel
theorem dX1_takeBack_23 : decode cX1_takeBack 23 = .ok (.isub, 1) := by decide +kernel
theorem dX1_takeBack_24 : decode cX1_takeBack 24 = .ok (.putfield 16, 3) := by decide +kernel
theorem dX1_takeBack_27 : decode cX1_takeBack 27 = .ok (.aload_n 1, 1) := by decide +kernel
theorem dX1_takeBack_28 : decode cX1_takeBack 28 = .ok (.aload_n 0, 1) := by decide +kernel
theorem dX1_takeBack_29 : decode cX1_takeBack 29 = .ok (.getfield 11, 3) := by decide +kernel
theorem dX1_takeBack_32 : decode cX1_takeBack 32 = .ok (.aload_n 0, 1) := by decide +kernel
theorem dX1_takeBack_33 : decode cX1_takeBack 33 = .ok (.getfield 16, 3) := by decide +kernel
theorem dX1_takeBack_36 : decode cX1_takeBack 36 = .ok (.aaload, 1) := by decide +kernel
theorem dX1_takeBack_37 : decode cX1_takeBack 37 = .ok (.invokevirtual 23, 3) := by decide +kernel
theorem dX1_takeBack_40 : decode cX1_takeBack 40 = .ok (.iconst 1, 1) := by decide +kernel
theorem dX1_takeBack_41 : decode cX1_takeBack 41 = .ok (.ireturn, 1) := by decide +kernel
theorem dX1_dropOldest_0 : decode cX1_dropOldest 0 = .ok (.aload_n 0, 1) := by decide +kernel
theorem dX1_dropOldest_1 : decode cX1_dropOldest 1 = .ok (.getfield 11, 3) := by decide +kernel
theorem dX1_dropOldest_4 : decode cX1_dropOldest 4 = .ok (.iconst 0, 1) := by decide +kernel
theorem dX1_dropOldest_5 : decode cX1_dropOldest 5 = .ok (.aaload, 1) := by decide +kernel
theorem dX1_dropOldest_6 : decode cX1_dropOldest 6 = .ok (.astore_n 1, 1) := by decide +kernel
theorem dX1_dropOldest_7 : decode cX1_dropOldest 7 = .ok (.iconst 1, 1) := by decide +kernel
theorem dX1_dropOldest_8 : decode cX1_dropOldest 8 = .ok (.istore_n 2, 1) := by decide +kernel
theorem dX1_dropOldest_9 : decode cX1_dropOldest 9 = .ok (.iload_n 2, 1) := by decide +kernel
theorem dX1_dropOldest_10 : decode cX1_dropOldest 10 = .ok (.iconst 4, 1) := by decide +kernel
theorem dX1_dropOldest_11 : decode cX1_dropOldest 11 = .ok (.if_icmp .ge 23, 3) := by decide +kernel
theorem dX1_dropOldest_14 : decode cX1_dropOldest 14 = .ok (.aload_n 0, 1) := by decide +kernel
theorem dX1_dropOldest_15 : decode cX1_dropOldest 15 = .ok (.getfield 11, 3) := by decide +kernel
theorem dX1_dropOldest_18 : decode cX1_dropOldest 18 = .ok (.iload_n 2, 1) := by decide +kernel
theorem dX1_dropOldest_19 : decode cX1_dropOldest 19 = .ok (.iconst 1, 1) := by decide +kernel
theorem dX1_dropOldest_20 : decode cX1_dropOldest 20 = .ok (.isub, 1) := by decide +kernel
theorem dX1_dropOldest_21 : decode cX1_dropOldest 21 = .ok (.aload_n 0, 1) := by decide +kernel
theorem dX1_dropOldest_22 : decode cX1_dropOldest 22 = .ok (.getfield 11, 3) := by decide +kernel
theorem dX1_dropOldest_25 : decode cX1_dropOldest 25 = .ok (.iload_n 2, 1) := by decide +kernel
theorem dX1_dropOldest_26 : decode cX1_dropOldest 26 = .ok (.aaload, 1) := by decide +kernel
theorem dX1_dropOldest_27 : decode cX1_dropOldest 27 = .ok (.aastore, 1) := by decide +kernel
theorem dX1_dropOldest_28 : decode cX1_dropOldest 28 = .ok (.iinc 2 1, 3) := by decide +kernel
theorem dX1_dropOldest_31 : decode cX1_dropOldest 31 = .ok (.goto (-22), 3) := by decide +kernel
theorem dX1_dropOldest_34 : decode cX1_dropOldest 34 = .ok (.aload_n 0, 1) := by decide +kernel
theorem dX1_dropOldest_35 : decode cX1_dropOldest 35 = .ok (.getfield 11, 3) := by decide +kernel
theorem dX1_dropOldest_38 : decode cX1_dropOldest 38 = .ok (.iconst 3, 1) := by decide +kernel
theorem dX1_dropOldest_39 : decode cX1_dropOldest 39 = .ok (.aload_n 1, 1) := by decide +kernel
theorem dX1_dropOldest_40 : decode cX1_dropOldest 40 = .ok (.aastore, 1) := by decide +kernel
theorem dX1_dropOldest_41 : decode cX1_dropOldest 41 = .ok (.aload_n 0, 1) := by decide +kernel
theorem dX1_dropOldest_42 : decode cX1_dropOldest 42 = .ok (.iconst 3, 1) := by decide +kernel
theorem dX1_dropOldest_43 : decode cX1_dropOldest 43 = .ok (.putfield 16, 3) := by decide +kernel
theorem dX1_dropOldest_46 : decode cX1_dropOldest 46 = .ok (.return_, 1) := by decide +kernel
theorem dX2_init_0 : decode cX2_init 0 = .ok (.aload_n 0, 1) := by decide +kernel
theorem dX2_init_1 : decode cX2_init 1 = .ok (.invokespecial 1, 3) := by decide +kernel
theorem dX2_init_4 : decode cX2_init 4 = .ok (.aload_n 0, 1) := by decide +kernel
theorem dX2_init_5 : decode cX2_init 5 = .ok (.bipush 10, 2) := by decide +kernel
theorem dX2_init_7 : decode cX2_init 7 = .ok (.newarray .int, 2) := by decide +kernel
theorem dX2_init_9 : decode cX2_init 9 = .ok (.putfield 9, 3) := by decide +kernel
theorem dX2_init_12 : decode cX2_init 12 = .ok (.aload_n 0, 1) := by decide +kernel
theorem dX2_init_13 : decode cX2_init 13 = .ok (.bipush 10, 2) := by decide +kernel
theorem dX2_init_15 : decode cX2_init 15 = .ok (.newarray .int, 2) := by decide +kernel
theorem dX2_init_17 : decode cX2_init 17 = .ok (.putfield 13, 3) := by decide +kernel
theorem dX2_init_20 : decode cX2_init 20 = .ok (.aload_n 0, 1) := by decide +kernel
theorem dX2_init_21 : decode cX2_init 21 = .ok (.bipush 10, 2) := by decide +kernel
theorem dX2_init_23 : decode cX2_init 23 = .ok (.newarray .int, 2) := by decide +kernel
theorem dX2_init_25 : decode cX2_init 25 = .ok (.putfield 16, 3) := by decide +kernel
theorem dX2_init_28 : decode cX2_init 28 = .ok (.aload_n 0, 1) := by decide +kernel
theorem dX2_init_29 : decode cX2_init 29 = .ok (.iconst 4, 1) := by decide +kernel
theorem dX2_init_30 : decode cX2_init 30 = .ok (.newarray .int, 2) := by decide +kernel
theorem dX2_init_32 : decode cX2_init 32 = .ok (.putfield 19, 3) := by decide +kernel
theorem dX2_init_35 : decode cX2_init 35 = .ok (.aload_n 0, 1) := by decide +kernel
theorem dX2_init_36 : decode cX2_init 36 = .ok (.iconst 0, 1) := by decide +kernel
theorem dX2_init_37 : decode cX2_init 37 = .ok (.putfield 22, 3) := by decide +kernel
theorem dX2_init_40 : decode cX2_init 40 = .ok (.return_, 1) := by decide +kernel
set_option maxRecDepth 20000 in
theorem ggX2_copyFrom_X7_copyRow : GoodIn wsX2_copyFrom wsX7_copyRow := goodIn_r _ [8, 9, 10, 11, 12, 13, 14, 15, 16] (by decide +kernel) (by decide +kernel)
set_option maxRecDepth 20000 in
theorem gX2_copyFrom_X7_copyRow_n26 : GoodIn wsX2_copyFrom (wsX7_copyRow) := ggX2_copyFrom_X7_copyRow
theorem dX2_copyFrom_0 : decode cX2_copyFrom 0 = .ok (.aload_n 1, 1) := by decide +kernel
theorem dX2_copyFrom_1 : decode cX2_copyFrom 1 = .ok (.getfield 9, 3) := by decide +kernel
theorem dX2_copyFrom_4 : decode cX2_copyFrom 4 = .ok (.aload_n 0, 1) := by decide +kernel
theorem dX2_copyFrom_5 : decode cX2_copyFrom 5 = .ok (.getfield 9, 3) := by decide +kernel
theorem dX2_copyFrom_8 : decode cX2_copyFrom 8 = .ok (.invokestatic 26, 3) := by decide +kernel
theorem dX2_copyFrom_11 : decode cX2_copyFrom 11 = .ok (.aload_n 1, 1) := by decide +kernel
theorem dX2_copyFrom_12 : decode cX2_copyFrom 12 = .ok (.getfield 13, 3) := by decide +kernel
theorem dX2_copyFrom_15 : decode cX2_copyFrom 15 = .ok (.aload_n 0, 1) := by decide +kernel
theorem dX2_copyFrom_16 : decode cX2_copyFrom 16 = .ok (.getfield 13, 3) := by decide +kernel
theorem dX2_copyFrom_19 : decode cX2_copyFrom 19 = .ok (.invokestatic 26, 3) := by decide +kernel
theorem dX2_copyFrom_22 : decode cX2_copyFrom 22 = .ok (.aload_n 1, 1) := by decide +kernel
theorem dX2_copyFrom_23 : decode cX2_copyFrom 23 = .ok (.getfield 16, 3) := by decide +kernel
theorem dX2_copyFrom_26 : decode cX2_copyFrom 26 = .ok (.aload_n 0, 1) := by decide +kernel
theorem dX2_copyFrom_27 : decode cX2_copyFrom 27 = .ok (.getfield 16, 3) := by decide +kernel
theorem dX2_copyFrom_30 : decode cX2_copyFrom 30 = .ok (.invokestatic 26, 3) := by decide +kernel
theorem dX2_copyFrom_33 : decode cX2_copyFrom 33 = .ok (.aload_n 1, 1) := by decide +kernel
theorem dX2_copyFrom_34 : decode cX2_copyFrom 34 = .ok (.getfield 19, 3) := by decide +kernel
theorem dX2_copyFrom_37 : decode cX2_copyFrom 37 = .ok (.aload_n 0, 1) := by decide +kernel
theorem dX2_copyFrom_38 : decode cX2_copyFrom 38 = .ok (.getfield 19, 3) := by decide +kernel
theorem dX2_copyFrom_41 : decode cX2_copyFrom 41 = .ok (.invokestatic 26, 3) := by decide +kernel
theorem dX2_copyFrom_44 : decode cX2_copyFrom 44 = .ok (.aload_n 0, 1) := by decide +kernel
theorem dX2_copyFrom_45 : decode cX2_copyFrom 45 = .ok (.aload_n 1, 1) := by decide +kernel
theorem dX2_copyFrom_46 : decode cX2_copyFrom 46 = .ok (.getfield 22, 3) := by decide +kernel
theorem dX2_copyFrom_49 : decode cX2_copyFrom 49 = .ok (.putfield 22, 3) := by decide +kernel
theorem dX2_copyFrom_52 : decode cX2_copyFrom 52 = .ok (.return_, 1) := by decide +kernel
set_option maxRecDepth 20000 in
theorem ggX2_note_X2_putFirst : GoodIn wsX2_note wsX2_putFirst := goodIn_r _ [13, 14, 15, 16, 17] (by decide +kernel) (by decide +kernel)
set_option maxRecDepth 20000 in
theorem gX2_note_X2_putFirst : GoodIn wsX2_note (va_wsS RX2 32 yX2_putFirst wsX2_putFirst) := goodIn_app (goodIn_of _ (by decide +kernel)) ggX2_note_X2_putFirst
set_option maxRecDepth 20000 in
theorem ggX2_note_X7_isWithin : GoodIn wsX2_note wsX7_isWithin := goodIn_r _ [20] (by decide +kernel) (by decide +kernel)
set_option maxRecDepth 20000 in
theorem gX2_note_X7_isWithin_n42 : GoodIn wsX2_note (wsX7_isWithin) := ggX2_note_X7_isWithin
theorem dX2_note_0 : decode cX2_note 0 = .ok (.aload_n 0, 1) := by decide +kernel
theorem dX2_note_1 : decode cX2_note 1 = .ok (.getfield 9, 3) := by decide +kernel
theorem dX2_note_4 : decode cX2_note 4 = .ok (.iload_n 1, 1) := by decide +kernel
theorem dX2_note_5 : decode cX2_note 5 = .ok (.invokestatic 32, 3) := by decide +kernel
theorem dX2_note_8 : decode cX2_note 8 = .ok (.aload_n 0, 1) := by decide +kernel
theorem dX2_note_9 : decode cX2_note 9 = .ok (.getfield 13, 3) := by decide +kernel
theorem dX2_note_12 : decode cX2_note 12 = .ok (.iload_n 2, 1) := by decide +kernel
theorem dX2_note_13 : decode cX2_note 13 = .ok (.invokestatic 32, 3) := by decide +kernel
theorem dX2_note_16 : decode cX2_note 16 = .ok (.aload_n 0, 1) := by decide +kernel
theorem dX2_note_17 : decode cX2_note 17 = .ok (.getfield 16, 3) := by decide +kernel
theorem dX2_note_20 : decode cX2_note 20 = .ok (.iload_n 3, 1) := by decide +kernel
theorem dX2_note_21 : decode cX2_note 21 = .ok (.invokestatic 32, 3) := by decide +kernel
theorem dX2_note_24 : decode cX2_note 24 = .ok (.aload_n 0, 1) := by decide +kernel
theorem dX2_note_25 : decode cX2_note 25 = .ok (.aload_n 0, 1) := by decide +kernel
theorem dX2_note_26 : decode cX2_note 26 = .ok (.getfield 22, 3) := by decide +kernel
theorem dX2_note_29 : decode cX2_note 29 = .ok (.iconst 1, 1) := by decide +kernel
theorem dX2_note_30 : decode cX2_note 30 = .ok (.iadd, 1) := by decide +kernel
theorem dX2_note_31 : decode cX2_note 31 = .ok (.bipush 10, 2) := by decide +kernel
theorem dX2_note_33 : decode cX2_note 33 = .ok (.invokestatic 36, 3) := by decide +kernel
theorem dX2_note_36 : decode cX2_note 36 = .ok (.putfield 22, 3) := by decide +kernel
theorem dX2_note_39 : decode cX2_note 39 = .ok (.iload_n 1, 1) := by decide +kernel
theorem dX2_note_40 : decode cX2_note 40 = .ok (.iconst 0, 1) := by decide +kernel
theorem dX2_note_41 : decode cX2_note 41 = .ok (.iconst 3, 1) := by decide +kernel
theorem dX2_note_42 : decode cX2_note 42 = .ok (.invokestatic 42, 3) := by decide +kernel
theorem dX2_note_45 : decode cX2_note 45 = .ok (.ifCond .eq 13, 3) := by decide +kernel
theorem dX2_note_48 : decode cX2_note 48 = .ok (.aload_n 0, 1) := by decide +kernel
theorem dX2_note_49 : decode cX2_note 49 = .ok (.getfield 19, 3) := by decide +kernel
theorem dX2_note_52 : decode cX2_note 52 = .ok (.iload_n 1, 1) := by decide +kernel
theorem dX2_note_53 : decode cX2_note 53 = .ok (.dup2, 1) := by decide +kernel
theorem dX2_note_54 : decode cX2_note 54 = .ok (.iaload, 1) := by decide +kernel
theorem dX2_note_55 : decode cX2_note 55 = .ok (.iconst 1, 1) := by decide +kernel
theorem dX2_note_56 : decode cX2_note 56 = .ok (.iadd, 1) := by decide +kernel
theorem dX2_note_57 : decode cX2_note 57 = .ok (.iastore, 1) := by decide +kernel
theorem dX2_note_58 : decode cX2_note 58 = .ok (.return_, 1) := by decide +kernel
theorem dX2_total_0 : decode cX2_total 0 = .ok (.iconst 0, 1) := by decide +kernel
theorem dX2_total_1 : decode cX2_total 1 = .ok (.istore_n 1, 1) := by decide +kernel
theorem dX2_total_2 : decode cX2_total 2 = .ok (.aload_n 0, 1) := by decide +kernel
theorem dX2_total_3 : decode cX2_total 3 = .ok (.getfield 19, 3) := by decide +kernel
theorem dX2_total_6 : decode cX2_total 6 = .ok (.astore_n 2, 1) := by decide +kernel
theorem dX2_total_7 : decode cX2_total 7 = .ok (.aload_n 2, 1) := by decide +kernel
theorem dX2_total_8 : decode cX2_total 8 = .ok (.arraylength, 1) := by decide +kernel
theorem dX2_total_9 : decode cX2_total 9 = .ok (.istore_n 3, 1) := by decide +kernel
theorem dX2_total_10 : decode cX2_total 10 = .ok (.iconst 0, 1) := by decide +kernel
theorem dX2_total_11 : decode cX2_total 11 = .ok (.istore 4, 2) := by decide +kernel
theorem dX2_total_13 : decode cX2_total 13 = .ok (.iload 4, 2) := by decide +kernel
theorem dX2_total_15 : decode cX2_total 15 = .ok (.iload_n 3, 1) := by decide +kernel
theorem dX2_total_16 : decode cX2_total 16 = .ok (.if_icmp .ge 20, 3) := by decide +kernel
theorem dX2_total_19 : decode cX2_total 19 = .ok (.aload_n 2, 1) := by decide +kernel
theorem dX2_total_20 : decode cX2_total 20 = .ok (.iload 4, 2) := by decide +kernel
theorem dX2_total_22 : decode cX2_total 22 = .ok (.iaload, 1) := by decide +kernel
theorem dX2_total_23 : decode cX2_total 23 = .ok (.istore 5, 2) := by decide +kernel
theorem dX2_total_25 : decode cX2_total 25 = .ok (.iload_n 1, 1) := by decide +kernel
theorem dX2_total_26 : decode cX2_total 26 = .ok (.iload 5, 2) := by decide +kernel
theorem dX2_total_28 : decode cX2_total 28 = .ok (.iadd, 1) := by decide +kernel
theorem dX2_total_29 : decode cX2_total 29 = .ok (.istore_n 1, 1) := by decide +kernel
theorem dX2_total_30 : decode cX2_total 30 = .ok (.iinc 4 1, 3) := by decide +kernel
theorem dX2_total_33 : decode cX2_total 33 = .ok (.goto (-20), 3) := by decide +kernel
theorem dX2_total_36 : decode cX2_total 36 = .ok (.iload_n 1, 1) := by decide +kernel
theorem dX2_total_37 : decode cX2_total 37 = .ok (.ireturn, 1) := by decide +kernel
theorem dX2_putFirst_0 : decode cX2_putFirst 0 = .ok (.aload_n 0, 1) := by decide +kernel
theorem dX2_putFirst_1 : decode cX2_putFirst 1 = .ok (.arraylength, 1) := by decide +kernel
theorem dX2_putFirst_2 : decode cX2_putFirst 2 = .ok (.ifCond .le 18, 3) := by decide +kernel
theorem dX2_putFirst_5 : decode cX2_putFirst 5 = .ok (.aload_n 0, 1) := by decide +kernel
theorem dX2_putFirst_6 : decode cX2_putFirst 6 = .ok (.iconst 0, 1) := by decide +kernel
theorem dX2_putFirst_7 : decode cX2_putFirst 7 = .ok (.aload_n 0, 1) := by decide +kernel
theorem dX2_putFirst_8 : decode cX2_putFirst 8 = .ok (.iconst 1, 1) := by decide +kernel
theorem dX2_putFirst_9 : decode cX2_putFirst 9 = .ok (.aload_n 0, 1) := by decide +kernel
theorem dX2_putFirst_10 : decode cX2_putFirst 10 = .ok (.arraylength, 1) := by decide +kernel
theorem dX2_putFirst_11 : decode cX2_putFirst 11 = .ok (.iconst 1, 1) := by decide +kernel
theorem dX2_putFirst_12 : decode cX2_putFirst 12 = .ok (.isub, 1) := by decide +kernel
theorem dX2_putFirst_13 : decode cX2_putFirst 13 = .ok (.invokestatic 46, 3) := by decide +kernel
theorem dX2_putFirst_16 : decode cX2_putFirst 16 = .ok (.aload_n 0, 1) := by decide +kernel
theorem dX2_putFirst_17 : decode cX2_putFirst 17 = .ok (.iconst 0, 1) := by decide +kernel
theorem dX2_putFirst_18 : decode cX2_putFirst 18 = .ok (.iload_n 1, 1) := by decide +kernel
theorem dX2_putFirst_19 : decode cX2_putFirst 19 = .ok (.iastore, 1) := by decide +kernel
theorem dX2_putFirst_20 : decode cX2_putFirst 20 = .ok (.return_, 1) := by decide +kernel
theorem dX3_init_0 : decode cX3_init 0 = .ok (.aload_n 0, 1) := by decide +kernel
theorem dX3_init_1 : decode cX3_init 1 = .ok (.invokespecial 1, 3) := by decide +kernel
theorem dX3_init_4 : decode cX3_init 4 = .ok (.aload_n 0, 1) := by decide +kernel
theorem dX3_init_5 : decode cX3_init 5 = .ok (.bipush 12, 2) := by decide +kernel
theorem dX3_init_7 : decode cX3_init 7 = .ok (.newarray .int, 2) := by decide +kernel
theorem dX3_init_9 : decode cX3_init 9 = .ok (.putfield 9, 3) := by decide +kernel
theorem dX3_init_12 : decode cX3_init 12 = .ok (.aload_n 0, 1) := by decide +kernel
theorem dX3_init_13 : decode cX3_init 13 = .ok (.bipush 12, 2) := by decide +kernel
theorem dX3_init_15 : decode cX3_init 15 = .ok (.newarray .int, 2) := by decide +kernel
theorem dX3_init_17 : decode cX3_init 17 = .ok (.putfield 13, 3) := by decide +kernel
theorem dX3_init_20 : decode cX3_init 20 = .ok (.aload_n 0, 1) := by decide +kernel
theorem dX3_init_21 : decode cX3_init 21 = .ok (.iconst 0, 1) := by decide +kernel
theorem dX3_init_22 : decode cX3_init 22 = .ok (.putfield 16, 3) := by decide +kernel
theorem dX3_init_25 : decode cX3_init 25 = .ok (.return_, 1) := by decide +kernel
set_option maxRecDepth 20000 in
theorem ggX3_copyFrom_X7_copyRow : GoodIn wsX3_copyFrom wsX7_copyRow := goodIn_r _ [6, 7, 8, 9, 10, 11, 12, 13, 14] (by decide +kernel) (by decide +kernel)
set_option maxRecDepth 20000 in
theorem gX3_copyFrom_X7_copyRow_n20 : GoodIn wsX3_copyFrom (wsX7_copyRow) := ggX3_copyFrom_X7_copyRow
theorem dX3_copyFrom_0 : decode cX3_copyFrom 0 = .ok (.aload_n 1, 1) := by decide +kernel
theorem dX3_copyFrom_1 : decode cX3_copyFrom 1 = .ok (.getfield 9, 3) := by decide +kernel
theorem dX3_copyFrom_4 : decode cX3_copyFrom 4 = .ok (.aload_n 0, 1) := by decide +kernel
theorem dX3_copyFrom_5 : decode cX3_copyFrom 5 = .ok (.getfield 9, 3) := by decide +kernel
theorem dX3_copyFrom_8 : decode cX3_copyFrom 8 = .ok (.invokestatic 20, 3) := by decide +kernel
theorem dX3_copyFrom_11 : decode cX3_copyFrom 11 = .ok (.aload_n 1, 1) := by decide +kernel
theorem dX3_copyFrom_12 : decode cX3_copyFrom 12 = .ok (.getfield 13, 3) := by decide +kernel
theorem dX3_copyFrom_15 : decode cX3_copyFrom 15 = .ok (.aload_n 0, 1) := by decide +kernel
theorem dX3_copyFrom_16 : decode cX3_copyFrom 16 = .ok (.getfield 13, 3) := by decide +kernel
theorem dX3_copyFrom_19 : decode cX3_copyFrom 19 = .ok (.invokestatic 20, 3) := by decide +kernel
theorem dX3_copyFrom_22 : decode cX3_copyFrom 22 = .ok (.aload_n 0, 1) := by decide +kernel
theorem dX3_copyFrom_23 : decode cX3_copyFrom 23 = .ok (.aload_n 1, 1) := by decide +kernel
theorem dX3_copyFrom_24 : decode cX3_copyFrom 24 = .ok (.getfield 16, 3) := by decide +kernel
theorem dX3_copyFrom_27 : decode cX3_copyFrom 27 = .ok (.putfield 16, 3) := by decide +kernel
theorem dX3_copyFrom_30 : decode cX3_copyFrom 30 = .ok (.return_, 1) := by decide +kernel
theorem dX3_clear_0 : decode cX3_clear 0 = .ok (.aload_n 0, 1) := by decide +kernel
theorem dX3_clear_1 : decode cX3_clear 1 = .ok (.iconst 0, 1) := by decide +kernel
theorem dX3_clear_2 : decode cX3_clear 2 = .ok (.putfield 16, 3) := by decide +kernel
theorem dX3_clear_5 : decode cX3_clear 5 = .ok (.return_, 1) := by decide +kernel
set_option maxRecDepth 20000 in
theorem ggX3_hasRoomFor_X3_placeOf : GoodIn wsX3_hasRoomFor wsX3_placeOf := goodIn_r _ [6, 1, 7, 8, 9, 10] (by decide +kernel) (by decide +kernel)
set_option maxRecDepth 20000 in
theorem gX3_hasRoomFor_X3_placeOf : GoodIn wsX3_hasRoomFor (wsV RX3 26 RX3 yX3_placeOf wsX3_placeOf) := goodIn_app (goodIn_of _ (by decide +kernel)) ggX3_hasRoomFor_X3_placeOf
theorem dX3_hasRoomFor_0 : decode cX3_hasRoomFor 0 = .ok (.aload_n 0, 1) := by decide +kernel
theorem dX3_hasRoomFor_1 : decode cX3_hasRoomFor 1 = .ok (.getfield 16, 3) := by decide +kernel
theorem dX3_hasRoomFor_4 : decode cX3_hasRoomFor 4 = .ok (.bipush 12, 2) := by decide +kernel
theorem dX3_hasRoomFor_6 : decode cX3_hasRoomFor 6 = .ok (.if_icmp .lt 15, 3) := by decide +kernel
theorem dX3_hasRoomFor_9 : decode cX3_hasRoomFor 9 = .ok (.aload_n 0, 1) := by decide +kernel
theorem dX3_hasRoomFor_10 : decode cX3_hasRoomFor 10 = .ok (.iload_n 1, 1) := by decide +kernel
theorem dX3_hasRoomFor_11 : decode cX3_hasRoomFor 11 = .ok (.invokevirtual 26, 3) := by decide +kernel
theorem dX3_hasRoomFor_14 : decode cX3_hasRoomFor 14 = .ok (.aload_n 0, 1) := by decide +kernel
theorem dX3_hasRoomFor_15 : decode cX3_hasRoomFor 15 = .ok (.getfield 16, 3) := by decide +kernel
theorem dX3_hasRoomFor_18 : decode cX3_hasRoomFor 18 = .ok (.if_icmp .ge 7, 3) := by decide +kernel
theorem dX3_hasRoomFor_21 : decode cX3_hasRoomFor 21 = .ok (.iconst 1, 1) := by decide +kernel
theorem dX3_hasRoomFor_22 : decode cX3_hasRoomFor 22 = .ok (.goto 4, 3) := by decide +kernel
theorem dX3_hasRoomFor_25 : decode cX3_hasRoomFor 25 = .ok (.iconst 0, 1) := by decide +kernel
theorem dX3_hasRoomFor_26 : decode cX3_hasRoomFor 26 = .ok (.ireturn, 1) := by decide +kernel
set_option maxRecDepth 20000 in
theorem ggX3_holds_X3_placeOf : GoodIn wsX3_holds wsX3_placeOf := goodIn_r _ [7, 1, 8, 12, 13, 14] (by decide +kernel) (by decide +kernel)
set_option maxRecDepth 20000 in
theorem gX3_holds_X3_placeOf : GoodIn wsX3_holds (wsV RX3 26 RX3 yX3_placeOf wsX3_placeOf) := goodIn_app (goodIn_of _ (by decide +kernel)) ggX3_holds_X3_placeOf
set_option maxRecDepth 20000 in
theorem ggX3_holds_X7_elementAt : GoodIn wsX3_holds wsX7_elementAt := goodIn_r _ [11] (by decide +kernel) (by decide +kernel)
set_option maxRecDepth 20000 in
theorem gX3_holds_X7_elementAt_n30 : GoodIn wsX3_holds (wsX7_elementAt) := ggX3_holds_X7_elementAt
theorem dX3_holds_0 : decode cX3_holds 0 = .ok (.aload_n 0, 1) := by decide +kernel
theorem dX3_holds_1 : decode cX3_holds 1 = .ok (.iload_n 1, 1) := by decide +kernel
theorem dX3_holds_2 : decode cX3_holds 2 = .ok (.invokevirtual 26, 3) := by decide +kernel
theorem dX3_holds_5 : decode cX3_holds 5 = .ok (.istore_n 3, 1) := by decide +kernel
theorem dX3_holds_6 : decode cX3_holds 6 = .ok (.iload_n 3, 1) := by decide +kernel
theorem dX3_holds_7 : decode cX3_holds 7 = .ok (.aload_n 0, 1) := by decide +kernel
theorem dX3_holds_8 : decode cX3_holds 8 = .ok (.getfield 16, 3) := by decide +kernel
theorem dX3_holds_11 : decode cX3_holds 11 = .ok (.if_icmp .ge 19, 3) := by decide +kernel
theorem dX3_holds_14 : decode cX3_holds 14 = .ok (.aload_n 0, 1) := by decide +kernel
theorem dX3_holds_15 : decode cX3_holds 15 = .ok (.getfield 13, 3) := by decide +kernel
theorem dX3_holds_18 : decode cX3_holds 18 = .ok (.iload_n 3, 1) := by decide +kernel
theorem dX3_holds_19 : decode cX3_holds 19 = .ok (.invokestatic 30, 3) := by decide +kernel
theorem dX3_holds_22 : decode cX3_holds 22 = .ok (.iload_n 2, 1) := by decide +kernel
theorem dX3_holds_23 : decode cX3_holds 23 = .ok (.if_icmp .ne 7, 3) := by decide +kernel
theorem dX3_holds_26 : decode cX3_holds 26 = .ok (.iconst 1, 1) := by decide +kernel
theorem dX3_holds_27 : decode cX3_holds 27 = .ok (.goto 4, 3) := by decide +kernel
theorem dX3_holds_30 : decode cX3_holds 30 = .ok (.iconst 0, 1) := by decide +kernel
theorem dX3_holds_31 : decode cX3_holds 31 = .ok (.ireturn, 1) := by decide +kernel
set_option maxRecDepth 20000 in
theorem ggX3_put_X3_hasRoomFor : GoodIn wsX3_put wsX3_hasRoomFor := goodIn_r _ [8, 1, 9, 10, 11, 7, 12, 2, 17, 18, 19] (by decide +kernel) (by decide +kernel)
set_option maxRecDepth 20000 in
theorem gX3_put_X3_hasRoomFor : GoodIn wsX3_put (wsV RX3 34 RX3 yX3_hasRoomFor wsX3_hasRoomFor) := goodIn_app (goodIn_of _ (by decide +kernel)) ggX3_put_X3_hasRoomFor
set_option maxRecDepth 20000 in
theorem ggX3_put_X3_placeOf : GoodIn wsX3_put wsX3_placeOf := goodIn_r _ [12, 1, 2, 17, 18, 19] (by decide +kernel) (by decide +kernel)
set_option maxRecDepth 20000 in
theorem gX3_put_X3_placeOf : GoodIn wsX3_put (wsV RX3 26 RX3 yX3_placeOf wsX3_placeOf) := goodIn_app (goodIn_of _ (by decide +kernel)) ggX3_put_X3_placeOf
set_option maxRecDepth 20000 in
theorem ggX3_put_X3_makePlaceFor : GoodIn wsX3_put wsX3_makePlaceFor := goodIn_r _ [16, 1, 2, 3, 17, 18, 19] (by decide +kernel) (by decide +kernel)
set_option maxRecDepth 20000 in
theorem gX3_put_X3_makePlaceFor : GoodIn wsX3_put (wsV RX3 38 RX3 yX3_makePlaceFor wsX3_makePlaceFor) := goodIn_app (goodIn_of _ (by decide +kernel)) ggX3_put_X3_makePlaceFor
theorem dX3_put_0 : decode cX3_put 0 = .ok (.aload_n 0, 1) := by decide +kernel
theorem dX3_put_1 : decode cX3_put 1 = .ok (.iload_n 1, 1) := by decide +kernel
theorem dX3_put_2 : decode cX3_put 2 = .ok (.invokevirtual 34, 3) := by decide +kernel
theorem dX3_put_5 : decode cX3_put 5 = .ok (.ifCond .ne 5, 3) := by decide +kernel
theorem dX3_put_8 : decode cX3_put 8 = .ok (.iconst 0, 1) := by decide +kernel
theorem dX3_put_9 : decode cX3_put 9 = .ok (.ireturn, 1) := by decide +kernel
theorem dX3_put_10 : decode cX3_put 10 = .ok (.aload_n 0, 1) := by decide +kernel
theorem dX3_put_11 : decode cX3_put 11 = .ok (.iload_n 1, 1) := by decide +kernel
theorem dX3_put_12 : decode cX3_put 12 = .ok (.invokevirtual 26, 3) := by decide +kernel
theorem dX3_put_15 : decode cX3_put 15 = .ok (.istore_n 3, 1) := by decide +kernel
theorem dX3_put_16 : decode cX3_put 16 = .ok (.iload_n 3, 1) := by decide +kernel
theorem dX3_put_17 : decode cX3_put 17 = .ok (.aload_n 0, 1) := by decide +kernel
theorem dX3_put_18 : decode cX3_put 18 = .ok (.getfield 16, 3) := by decide +kernel
theorem dX3_put_21 : decode cX3_put 21 = .ok (.if_icmp .ne 9, 3) := by decide +kernel
theorem dX3_put_24 : decode cX3_put 24 = .ok (.aload_n 0, 1) := by decide +kernel
theorem dX3_put_25 : decode cX3_put 25 = .ok (.iload_n 1, 1) := by decide +kernel
theorem dX3_put_26 : decode cX3_put 26 = .ok (.invokevirtual 38, 3) := by decide +kernel
theorem dX3_put_29 : decode cX3_put 29 = .ok (.istore_n 3, 1) := by decide +kernel
theorem dX3_put_30 : decode cX3_put 30 = .ok (.iload_n 3, 1) := by decide +kernel
theorem dX3_put_31 : decode cX3_put 31 = .ok (.ifCond .lt 23, 3) := by decide +kernel
theorem dX3_put_34 : decode cX3_put 34 = .ok (.iload_n 3, 1) := by decide +kernel
theorem dX3_put_35 : decode cX3_put 35 = .ok (.bipush 12, 2) := by decide +kernel
theorem dX3_put_37 : decode cX3_put 37 = .ok (.if_icmp .ge 17, 3) := by decide +kernel
theorem dX3_put_40 : decode cX3_put 40 = .ok (.aload_n 0, 1) := by decide +kernel
theorem dX3_put_41 : decode cX3_put 41 = .ok (.getfield 9, 3) := by decide +kernel
theorem dX3_put_44 : decode cX3_put 44 = .ok (.iload_n 3, 1) := by decide +kernel
theorem dX3_put_45 : decode cX3_put 45 = .ok (.iload_n 1, 1) := by decide +kernel
theorem dX3_put_46 : decode cX3_put 46 = .ok (.iastore, 1) := by decide +kernel
theorem dX3_put_47 : decode cX3_put 47 = .ok (.aload_n 0, 1) := by decide +kernel
theorem dX3_put_48 : decode cX3_put 48 = .ok (.getfield 13, 3) := by decide +kernel
theorem dX3_put_51 : decode cX3_put 51 = .ok (.iload_n 3, 1) := by decide +kernel
theorem dX3_put_52 : decode cX3_put 52 = .ok (.iload_n 2, 1) := by decide +kernel
theorem dX3_put_53 : decode cX3_put 53 = .ok (.iastore, 1) := by decide +kernel
theorem dX3_put_54 : decode cX3_put 54 = .ok (.iconst 1, 1) := by decide +kernel
theorem dX3_put_55 : decode cX3_put 55 = .ok (.ireturn, 1) := by decide +kernel
theorem dX3_draftIn_0 : decode cX3_draftIn 0 = .ok (.iconst 0, 1) := by decide +kernel
theorem dX3_draftIn_1 : decode cX3_draftIn 1 = .ok (.istore_n 2, 1) := by decide +kernel
theorem dX3_draftIn_2 : decode cX3_draftIn 2 = .ok (.iconst 0, 1) := by decide +kernel
theorem dX3_draftIn_3 : decode cX3_draftIn 3 = .ok (.istore_n 3, 1) := by decide +kernel
theorem dX3_draftIn_4 : decode cX3_draftIn 4 = .ok (.iload_n 3, 1) := by decide +kernel
theorem dX3_draftIn_5 : decode cX3_draftIn 5 = .ok (.aload_n 0, 1) := by decide +kernel
theorem dX3_draftIn_6 : decode cX3_draftIn 6 = .ok (.getfield 16, 3) := by decide +kernel
theorem dX3_draftIn_9 : decode cX3_draftIn 9 = .ok (.if_icmp .ge 32, 3) := by decide +kernel
theorem dX3_draftIn_12 : decode cX3_draftIn 12 = .ok (.iload_n 3, 1) := by decide +kernel
theorem dX3_draftIn_13 : decode cX3_draftIn 13 = .ok (.bipush 12, 2) := by decide +kernel
theorem dX3_draftIn_15 : decode cX3_draftIn 15 = .ok (.if_icmp .ge 26, 3) := by decide +kernel
theorem dX3_draftIn_18 : decode cX3_draftIn 18 = .ok (.aload_n 0, 1) := by decide +kernel
theorem dX3_draftIn_19 : decode cX3_draftIn 19 = .ok (.getfield 9, 3) := by decide +kernel
theorem dX3_draftIn_22 : decode cX3_draftIn 22 = .ok (.iload_n 3, 1) := by decide +kernel
theorem dX3_draftIn_23 : decode cX3_draftIn 23 = .ok (.iaload, 1) := by decide +kernel
theorem dX3_draftIn_24 : decode cX3_draftIn 24 = .ok (.iload_n 1, 1) := by decide +kernel
theorem dX3_draftIn_25 : decode cX3_draftIn 25 = .ok (.if_icmp .gt 10, 3) := by decide +kernel
theorem dX3_draftIn_28 : decode cX3_draftIn 28 = .ok (.aload_n 0, 1) := by decide +kernel
theorem dX3_draftIn_29 : decode cX3_draftIn 29 = .ok (.getfield 13, 3) := by decide +kernel
theorem dX3_draftIn_32 : decode cX3_draftIn 32 = .ok (.iload_n 3, 1) := by decide +kernel
theorem dX3_draftIn_33 : decode cX3_draftIn 33 = .ok (.iaload, 1) := by decide +kernel
theorem dX3_draftIn_34 : decode cX3_draftIn 34 = .ok (.istore_n 2, 1) := by decide +kernel
theorem dX3_draftIn_35 : decode cX3_draftIn 35 = .ok (.iinc 3 1, 3) := by decide +kernel
theorem dX3_draftIn_38 : decode cX3_draftIn 38 = .ok (.goto (-34), 3) := by decide +kernel
theorem dX3_draftIn_41 : decode cX3_draftIn 41 = .ok (.iload_n 2, 1) := by decide +kernel
theorem dX3_draftIn_42 : decode cX3_draftIn 42 = .ok (.ireturn, 1) := by decide +kernel
theorem dX3_placeOf_0 : decode cX3_placeOf 0 = .ok (.iconst 0, 1) := by decide +kernel
theorem dX3_placeOf_1 : decode cX3_placeOf 1 = .ok (.istore_n 2, 1) := by decide +kernel
theorem dX3_placeOf_2 : decode cX3_placeOf 2 = .ok (.iload_n 2, 1) := by decide +kernel
theorem dX3_placeOf_3 : decode cX3_placeOf 3 = .ok (.aload_n 0, 1) := by decide +kernel
theorem dX3_placeOf_4 : decode cX3_placeOf 4 = .ok (.getfield 16, 3) := by decide +kernel
theorem dX3_placeOf_7 : decode cX3_placeOf 7 = .ok (.if_icmp .ge 27, 3) := by decide +kernel
theorem dX3_placeOf_10 : decode cX3_placeOf 10 = .ok (.iload_n 2, 1) := by decide +kernel
theorem dX3_placeOf_11 : decode cX3_placeOf 11 = .ok (.bipush 12, 2) := by decide +kernel
theorem dX3_placeOf_13 : decode cX3_placeOf 13 = .ok (.if_icmp .ge 21, 3) := by decide +kernel
theorem dX3_placeOf_16 : decode cX3_placeOf 16 = .ok (.aload_n 0, 1) := by decide +kernel
theorem dX3_placeOf_17 : decode cX3_placeOf 17 = .ok (.getfield 9, 3) := by decide +kernel
theorem dX3_placeOf_20 : decode cX3_placeOf 20 = .ok (.iload_n 2, 1) := by decide +kernel
theorem dX3_placeOf_21 : decode cX3_placeOf 21 = .ok (.iaload, 1) := by decide +kernel
theorem dX3_placeOf_22 : decode cX3_placeOf 22 = .ok (.iload_n 1, 1) := by decide +kernel
theorem dX3_placeOf_23 : decode cX3_placeOf 23 = .ok (.if_icmp .ne 5, 3) := by decide +kernel
theorem dX3_placeOf_26 : decode cX3_placeOf 26 = .ok (.iload_n 2, 1) := by decide +kernel
theorem dX3_placeOf_27 : decode cX3_placeOf 27 = .ok (.ireturn, 1) := by decide +kernel
theorem dX3_placeOf_28 : decode cX3_placeOf 28 = .ok (.iinc 2 1, 3) := by decide +kernel
theorem dX3_placeOf_31 : decode cX3_placeOf 31 = .ok (.goto (-29), 3) := by decide +kernel
theorem dX3_placeOf_34 : decode cX3_placeOf 34 = .ok (.aload_n 0, 1) := by decide +kernel
theorem dX3_placeOf_35 : decode cX3_placeOf 35 = .ok (.getfield 16, 3) := by decide +kernel
theorem dX3_placeOf_38 : decode cX3_placeOf 38 = .ok (.ireturn, 1) := by decide +kernel
theorem dX3_makePlaceFor_0 : decode cX3_makePlaceFor 0 = .ok (.aload_n 0, 1) := by decide +kernel
theorem dX3_makePlaceFor_1 : decode cX3_makePlaceFor 1 = .ok (.getfield 16, 3) := by decide +kernel
theorem dX3_makePlaceFor_4 : decode cX3_makePlaceFor 4 = .ok (.istore_n 2, 1) := by decide +kernel
theorem dX3_makePlaceFor_5 : decode cX3_makePlaceFor 5 = .ok (.iload_n 2, 1) := by decide +kernel
theorem dX3_makePlaceFor_6 : decode cX3_makePlaceFor 6 = .ok (.ifCond .le 55, 3) := by decide +kernel
theorem dX3_makePlaceFor_9 : decode cX3_makePlaceFor 9 = .ok (.iload_n 2, 1) := by decide +kernel
theorem dX3_makePlaceFor_10 : decode cX3_makePlaceFor 10 = .ok (.bipush 12, 2) := by decide +kernel
theorem dX3_makePlaceFor_12 : decode cX3_makePlaceFor 12 = .ok (.if_icmp .ge 49, 3) := by decide +kernel
theorem dX3_makePlaceFor_15 : decode cX3_makePlaceFor 15 = .ok (.aload_n 0, 1) := by decide +kernel
theorem dX3_makePlaceFor_16 : decode cX3_makePlaceFor 16 = .ok (.getfield 9, 3) := by decide +kernel
theorem dX3_makePlaceFor_19 : decode cX3_makePlaceFor 19 = .ok (.iload_n 2, 1) := by decide +kernel
theorem dX3_makePlaceFor_20 : decode cX3_makePlaceFor 20 = .ok (.iconst 1, 1) := by decide +kernel
theorem dX3_makePlaceFor_21 : decode cX3_makePlaceFor 21 = .ok (.isub, 1) := by decide +kernel
theorem dX3_makePlaceFor_22 : decode cX3_makePlaceFor 22 = .ok (.iaload, 1) := by decide +kernel
theorem dX3_makePlaceFor_23 : decode cX3_makePlaceFor 23 = .ok (.iload_n 1, 1) := by decide +kernel
theorem dX3_makePlaceFor_24 : decode cX3_makePlaceFor 24 = .ok (.if_icmp .le 37, 3) := by decide +kernel
theorem dX3_makePlaceFor_27 : decode cX3_makePlaceFor 27 = .ok (.aload_n 0, 1) := by decide +kernel
theorem dX3_makePlaceFor_28 : decode cX3_makePlaceFor 28 = .ok (.getfield 9, 3) := by decide +kernel
theorem dX3_makePlaceFor_31 : decode cX3_makePlaceFor 31 = .ok (.iload_n 2, 1) := by decide +kernel
theorem dX3_makePlaceFor_32 : decode cX3_makePlaceFor 32 = .ok (.aload_n 0, 1) := by decide +kernel
theorem dX3_makePlaceFor_33 : decode cX3_makePlaceFor 33 = .ok (.getfield 9, 3) := by decide +kernel
theorem dX3_makePlaceFor_36 : decode cX3_makePlaceFor 36 = .ok (.iload_n 2, 1) := by decide +kernel
theorem dX3_makePlaceFor_37 : decode cX3_makePlaceFor 37 = .ok (.iconst 1, 1) := by decide +kernel
theorem dX3_makePlaceFor_38 : decode cX3_makePlaceFor 38 = .ok (.isub, 1) := by decide +kernel
theorem dX3_makePlaceFor_39 : decode cX3_makePlaceFor 39 = .ok (.iaload, 1) := by decide +kernel
theorem dX3_makePlaceFor_40 : decode cX3_makePlaceFor 40 = .ok (.iastore, 1) := by decide +kernel
theorem dX3_makePlaceFor_41 : decode cX3_makePlaceFor 41 = .ok (.aload_n 0, 1) := by decide +kernel
theorem dX3_makePlaceFor_42 : decode cX3_makePlaceFor 42 = .ok (.getfield 13, 3) := by decide +kernel
theorem dX3_makePlaceFor_45 : decode cX3_makePlaceFor 45 = .ok (.iload_n 2, 1) := by decide +kernel
theorem dX3_makePlaceFor_46 : decode cX3_makePlaceFor 46 = .ok (.aload_n 0, 1) := by decide +kernel
theorem dX3_makePlaceFor_47 : decode cX3_makePlaceFor 47 = .ok (.getfield 13, 3) := by decide +kernel
theorem dX3_makePlaceFor_50 : decode cX3_makePlaceFor 50 = .ok (.iload_n 2, 1) := by decide +kernel
theorem dX3_makePlaceFor_51 : decode cX3_makePlaceFor 51 = .ok (.iconst 1, 1) := by decide +kernel
theorem dX3_makePlaceFor_52 : decode cX3_makePlaceFor 52 = .ok (.isub, 1) := by decide +kernel
theorem dX3_makePlaceFor_53 : decode cX3_makePlaceFor 53 = .ok (.iaload, 1) := by decide +kernel
theorem dX3_makePlaceFor_54 : decode cX3_makePlaceFor 54 = .ok (.iastore, 1) := by decide +kernel
theorem dX3_makePlaceFor_55 : decode cX3_makePlaceFor 55 = .ok (.iinc 2 (-1), 3) := by decide +kernel
theorem dX3_makePlaceFor_58 : decode cX3_makePlaceFor 58 = .ok (.goto (-53), 3) := by decide +kernel
theorem dX3_makePlaceFor_61 : decode cX3_makePlaceFor 61 = .ok (.aload_n 0, 1) := by decide +kernel
theorem dX3_makePlaceFor_62 : decode cX3_makePlaceFor 62 = .ok (.dup, 1) := by decide +kernel
theorem dX3_makePlaceFor_63 : decode cX3_makePlaceFor 63 = .ok (.getfield 16, 3) := by decide +kernel
theorem dX3_makePlaceFor_66 : decode cX3_makePlaceFor 66 = .ok (.iconst 1, 1) := by decide +kernel
theorem dX3_makePlaceFor_67 : decode cX3_makePlaceFor 67 = .ok (.iadd, 1) := by decide +kernel
theorem dX3_makePlaceFor_68 : decode cX3_makePlaceFor 68 = .ok (.putfield 16, 3) := by decide +kernel
theorem dX3_makePlaceFor_71 : decode cX3_makePlaceFor 71 = .ok (.iload_n 2, 1) := by decide +kernel
theorem dX3_makePlaceFor_72 : decode cX3_makePlaceFor 72 = .ok (.ireturn, 1) := by decide +kernel
set_option maxRecDepth 20000 in
theorem ggX4_init_X7_copyRow : GoodIn wsX4_init wsX7_copyRow := goodIn_r _ [9, 10, 11, 12, 13, 14, 15, 16, 17] (by decide +kernel) (by decide +kernel)
set_option maxRecDepth 20000 in
theorem gX4_init_X7_copyRow_n16 : GoodIn wsX4_init (wsX7_copyRow) := ggX4_init_X7_copyRow
theorem dX4_init_0 : decode cX4_init 0 = .ok (.aload_n 0, 1) := by decide +kernel
theorem dX4_init_1 : decode cX4_init 1 = .ok (.invokespecial 1, 3) := by decide +kernel
theorem dX4_init_4 : decode cX4_init 4 = .ok (.aload_n 0, 1) := by decide +kernel
theorem dX4_init_5 : decode cX4_init 5 = .ok (.getstatic 7, 3) := by decide +kernel
theorem dX4_init_8 : decode cX4_init 8 = .ok (.arraylength, 1) := by decide +kernel
theorem dX4_init_9 : decode cX4_init 9 = .ok (.newarray .int, 2) := by decide +kernel
theorem dX4_init_11 : decode cX4_init 11 = .ok (.putfield 13, 3) := by decide +kernel
theorem dX4_init_14 : decode cX4_init 14 = .ok (.getstatic 7, 3) := by decide +kernel
theorem dX4_init_17 : decode cX4_init 17 = .ok (.aload_n 0, 1) := by decide +kernel
theorem dX4_init_18 : decode cX4_init 18 = .ok (.getfield 13, 3) := by decide +kernel
theorem dX4_init_21 : decode cX4_init 21 = .ok (.invokestatic 16, 3) := by decide +kernel
theorem dX4_init_24 : decode cX4_init 24 = .ok (.return_, 1) := by decide +kernel
set_option maxRecDepth 20000 in
theorem ggX4_isOne_X7_isWithin : GoodIn wsX4_isOne wsX7_isWithin := goodIn_r _ [4] (by decide +kernel) (by decide +kernel)
set_option maxRecDepth 20000 in
theorem gX4_isOne_X7_isWithin_n22 : GoodIn wsX4_isOne (wsX7_isWithin) := ggX4_isOne_X7_isWithin
theorem dX4_isOne_0 : decode cX4_isOne 0 = .ok (.iload_n 0, 1) := by decide +kernel
theorem dX4_isOne_1 : decode cX4_isOne 1 = .ok (.iconst 0, 1) := by decide +kernel
theorem dX4_isOne_2 : decode cX4_isOne 2 = .ok (.getstatic 7, 3) := by decide +kernel
theorem dX4_isOne_5 : decode cX4_isOne 5 = .ok (.arraylength, 1) := by decide +kernel
theorem dX4_isOne_6 : decode cX4_isOne 6 = .ok (.iconst 1, 1) := by decide +kernel
theorem dX4_isOne_7 : decode cX4_isOne 7 = .ok (.isub, 1) := by decide +kernel
theorem dX4_isOne_8 : decode cX4_isOne 8 = .ok (.invokestatic 22, 3) := by decide +kernel
theorem dX4_isOne_11 : decode cX4_isOne 11 = .ok (.ireturn, 1) := by decide +kernel
set_option maxRecDepth 20000 in
theorem ggX4_allows_X7_elementAt : GoodIn wsX4_allows wsX7_elementAt := goodIn_r _ [5] (by decide +kernel) (by decide +kernel)
set_option maxRecDepth 20000 in
theorem gX4_allows_X7_elementAt_n29 : GoodIn wsX4_allows (wsX7_elementAt) := ggX4_allows_X7_elementAt
set_option maxRecDepth 20000 in
theorem ggX4_allows_X7_isWithin : GoodIn wsX4_allows wsX7_isWithin := goodIn_r _ [7] (by decide +kernel) (by decide +kernel)
set_option maxRecDepth 20000 in
theorem gX4_allows_X7_isWithin_n22 : GoodIn wsX4_allows (wsX7_isWithin) := ggX4_allows_X7_isWithin
theorem dX4_allows_0 : decode cX4_allows 0 = .ok (.iload_n 1, 1) := by decide +kernel
theorem dX4_allows_1 : decode cX4_allows 1 = .ok (.getstatic 26, 3) := by decide +kernel
theorem dX4_allows_4 : decode cX4_allows 4 = .ok (.iload_n 0, 1) := by decide +kernel
theorem dX4_allows_5 : decode cX4_allows 5 = .ok (.invokestatic 29, 3) := by decide +kernel
theorem dX4_allows_8 : decode cX4_allows 8 = .ok (.getstatic 33, 3) := by decide +kernel
theorem dX4_allows_11 : decode cX4_allows 11 = .ok (.iload_n 0, 1) := by decide +kernel
theorem dX4_allows_12 : decode cX4_allows 12 = .ok (.invokestatic 29, 3) := by decide +kernel
theorem dX4_allows_15 : decode cX4_allows 15 = .ok (.invokestatic 22, 3) := by decide +kernel
theorem dX4_allows_18 : decode cX4_allows 18 = .ok (.ireturn, 1) := by decide +kernel
set_option maxRecDepth 20000 in
theorem ggX4_valueOf_X7_elementAt : GoodIn wsX4_valueOf wsX7_elementAt := goodIn_r _ [4] (by decide +kernel) (by decide +kernel)
set_option maxRecDepth 20000 in
theorem gX4_valueOf_X7_elementAt_n29 : GoodIn wsX4_valueOf (wsX7_elementAt) := ggX4_valueOf_X7_elementAt
theorem dX4_valueOf_0 : decode cX4_valueOf 0 = .ok (.aload_n 0, 1) := by decide +kernel
theorem dX4_valueOf_1 : decode cX4_valueOf 1 = .ok (.getfield 13, 3) := by decide +kernel
theorem dX4_valueOf_4 : decode cX4_valueOf 4 = .ok (.iload_n 1, 1) := by decide +kernel
theorem dX4_valueOf_5 : decode cX4_valueOf 5 = .ok (.invokestatic 29, 3) := by decide +kernel
theorem dX4_valueOf_8 : decode cX4_valueOf 8 = .ok (.ireturn, 1) := by decide +kernel
set_option maxRecDepth 20000 in
theorem ggX4_change_X4_isOne : GoodIn wsX4_change wsX4_isOne := goodIn_r _ [5, 6, 7, 8, 9] (by decide +kernel) (by decide +kernel)
set_option maxRecDepth 20000 in
theorem gX4_change_X4_isOne : GoodIn wsX4_change (va_wsS RX4 36 yX4_isOne wsX4_isOne) := goodIn_app (goodIn_of _ (by decide +kernel)) ggX4_change_X4_isOne
theorem dX4_change_0 : decode cX4_change 0 = .ok (.iload_n 1, 1) := by decide +kernel
theorem dX4_change_1 : decode cX4_change 1 = .ok (.invokestatic 36, 3) := by decide +kernel
theorem dX4_change_4 : decode cX4_change 4 = .ok (.ifCond .eq 10, 3) := by decide +kernel
theorem dX4_change_7 : decode cX4_change 7 = .ok (.aload_n 0, 1) := by decide +kernel
theorem dX4_change_8 : decode cX4_change 8 = .ok (.getfield 13, 3) := by decide +kernel
theorem dX4_change_11 : decode cX4_change 11 = .ok (.iload_n 1, 1) := by decide +kernel
theorem dX4_change_12 : decode cX4_change 12 = .ok (.iload_n 2, 1) := by decide +kernel
theorem dX4_change_13 : decode cX4_change 13 = .ok (.iastore, 1) := by decide +kernel
theorem dX4_change_14 : decode cX4_change 14 = .ok (.return_, 1) := by decide +kernel
set_option maxRecDepth 20000 in
theorem ggX4_copyFrom_X7_copyRow : GoodIn wsX4_copyFrom wsX7_copyRow := goodIn_r _ [4, 5, 6, 7, 8, 9, 10, 11, 12] (by decide +kernel) (by decide +kernel)
set_option maxRecDepth 20000 in
theorem gX4_copyFrom_X7_copyRow_n16 : GoodIn wsX4_copyFrom (wsX7_copyRow) := ggX4_copyFrom_X7_copyRow
theorem dX4_copyFrom_0 : decode cX4_copyFrom 0 = .ok (.aload_n 1, 1) := by decide +kernel
theorem dX4_copyFrom_1 : decode cX4_copyFrom 1 = .ok (.getfield 13, 3) := by decide +kernel
theorem dX4_copyFrom_4 : decode cX4_copyFrom 4 = .ok (.aload_n 0, 1) := by decide +kernel
theorem dX4_copyFrom_5 : decode cX4_copyFrom 5 = .ok (.getfield 13, 3) := by decide +kernel
theorem dX4_copyFrom_8 : decode cX4_copyFrom 8 = .ok (.invokestatic 16, 3) := by decide +kernel
theorem dX4_copyFrom_11 : decode cX4_copyFrom 11 = .ok (.return_, 1) := by decide +kernel
set_option maxRecDepth 20000 in
theorem ggX5_init_X4_init : GoodIn wsX5_init wsX4_init := goodIn_r _ [23, 24, 2, 3, 25, 26, 27, 28, 29, 30, 31, 32, 33, 34, 35, 36, 37, 38, 60] (by decide +kernel) (by decide +kernel)
set_option maxRecDepth 20000 in
theorem gX5_init_X4_init : GoodIn wsX5_init (wsX4_init) := ggX5_init_X4_init
set_option maxRecDepth 20000 in
theorem ggX5_init_X0_init : GoodIn wsX5_init wsX0_init := goodIn_r _ [41, 42, 2, 3, 43, 69, 70, 71, 72, 73, 74, 75, 76, 77, 78] (by decide +kernel) (by decide +kernel)
set_option maxRecDepth 20000 in
theorem gX5_init_X0_init : GoodIn wsX5_init (wsX0_init) := ggX5_init_X0_init
set_option maxRecDepth 20000 in
theorem ggX5_init_X3_init : GoodIn wsX5_init wsX3_init := goodIn_r _ [46, 47, 2, 3, 26, 48, 49, 50, 79, 80, 81] (by decide +kernel) (by decide +kernel)
set_option maxRecDepth 20000 in
theorem gX5_init_X3_init : GoodIn wsX5_init (wsX3_init) := ggX5_init_X3_init
set_option maxRecDepth 20000 in
theorem ggX5_init_X2_init : GoodIn wsX5_init wsX2_init := goodIn_r _ [53, 54, 2, 3, 26, 55, 56, 57, 58, 59, 82, 83, 84, 85, 86] (by decide +kernel) (by decide +kernel)
set_option maxRecDepth 20000 in
theorem gX5_init_X2_init : GoodIn wsX5_init (wsX2_init) := ggX5_init_X2_init
theorem dX5_init_0 : decode cX5_init 0 = .ok (.aload_n 0, 1) := by decide +kernel
theorem dX5_init_1 : decode cX5_init 1 = .ok (.invokespecial 1, 3) := by decide +kernel
theorem dX5_init_4 : decode cX5_init 4 = .ok (.aload_n 0, 1) := by decide +kernel
theorem dX5_init_5 : decode cX5_init 5 = .ok (.new 7, 3) := by decide +kernel
theorem dX5_init_8 : decode cX5_init 8 = .ok (.dup, 1) := by decide +kernel
theorem dX5_init_9 : decode cX5_init 9 = .ok (.invokespecial 9, 3) := by decide +kernel
theorem dX5_init_12 : decode cX5_init 12 = .ok (.putfield 10, 3) := by decide +kernel
theorem dX5_init_15 : decode cX5_init 15 = .ok (.aload_n 0, 1) := by decide +kernel
theorem dX5_init_16 : decode cX5_init 16 = .ok (.getstatic 16, 3) := by decide +kernel
theorem dX5_init_19 : decode cX5_init 19 = .ok (.arraylength, 1) := by decide +kernel
theorem dX5_init_20 : decode cX5_init 20 = .ok (.anewarray 20, 3) := by decide +kernel
theorem dX5_init_23 : decode cX5_init 23 = .ok (.putfield 22, 3) := by decide +kernel
theorem dX5_init_26 : decode cX5_init 26 = .ok (.iconst 0, 1) := by decide +kernel
theorem dX5_init_27 : decode cX5_init 27 = .ok (.istore_n 1, 1) := by decide +kernel
theorem dX5_init_28 : decode cX5_init 28 = .ok (.iload_n 1, 1) := by decide +kernel
theorem dX5_init_29 : decode cX5_init 29 = .ok (.getstatic 16, 3) := by decide +kernel
theorem dX5_init_32 : decode cX5_init 32 = .ok (.arraylength, 1) := by decide +kernel
theorem dX5_init_33 : decode cX5_init 33 = .ok (.if_icmp .ge 27, 3) := by decide +kernel
theorem dX5_init_36 : decode cX5_init 36 = .ok (.aload_n 0, 1) := by decide +kernel
theorem dX5_init_37 : decode cX5_init 37 = .ok (.getfield 22, 3) := by decide +kernel
theorem dX5_init_40 : decode cX5_init 40 = .ok (.iload_n 1, 1) := by decide +kernel
theorem dX5_init_41 : decode cX5_init 41 = .ok (.new 20, 3) := by decide +kernel
theorem dX5_init_44 : decode cX5_init 44 = .ok (.dup, 1) := by decide +kernel
theorem dX5_init_45 : decode cX5_init 45 = .ok (.getstatic 16, 3) := by decide +kernel
theorem dX5_init_48 : decode cX5_init 48 = .ok (.iload_n 1, 1) := by decide +kernel
theorem dX5_init_49 : decode cX5_init 49 = .ok (.iaload, 1) := by decide +kernel
theorem dX5_init_50 : decode cX5_init 50 = .ok (.invokespecial 26, 3) := by decide +kernel
theorem dX5_init_53 : decode cX5_init 53 = .ok (.aastore, 1) := by decide +kernel
theorem dX5_init_54 : decode cX5_init 54 = .ok (.iinc 1 1, 3) := by decide +kernel
theorem dX5_init_57 : decode cX5_init 57 = .ok (.goto (-29), 3) := by decide +kernel
theorem dX5_init_60 : decode cX5_init 60 = .ok (.aload_n 0, 1) := by decide +kernel
theorem dX5_init_61 : decode cX5_init 61 = .ok (.new 29, 3) := by decide +kernel
theorem dX5_init_64 : decode cX5_init 64 = .ok (.dup, 1) := by decide +kernel
theorem dX5_init_65 : decode cX5_init 65 = .ok (.invokespecial 31, 3) := by decide +kernel
theorem dX5_init_68 : decode cX5_init 68 = .ok (.putfield 32, 3) := by decide +kernel
theorem dX5_init_71 : decode cX5_init 71 = .ok (.aload_n 0, 1) := by decide +kernel
theorem dX5_init_72 : decode cX5_init 72 = .ok (.new 36, 3) := by decide +kernel
theorem dX5_init_75 : decode cX5_init 75 = .ok (.dup, 1) := by decide +kernel
theorem dX5_init_76 : decode cX5_init 76 = .ok (.invokespecial 38, 3) := by decide +kernel
theorem dX5_init_79 : decode cX5_init 79 = .ok (.putfield 39, 3) := by decide +kernel
theorem dX5_init_82 : decode cX5_init 82 = .ok (.return_, 1) := by decide +kernel
set_option maxRecDepth 20000 in
theorem ggX5_copyFrom_X4_copyFrom : GoodIn wsX5_copyFrom wsX4_copyFrom := goodIn_r _ [13, 14, 15, 16, 17, 18, 19, 20, 21, 22, 23, 24, 25, 67] (by decide +kernel) (by decide +kernel)
set_option maxRecDepth 20000 in
theorem gX5_copyFrom_X4_copyFrom : GoodIn wsX5_copyFrom (wsV RX5 43 RX4 yX4_copyFrom wsX4_copyFrom) := goodIn_app (goodIn_of _ (by decide +kernel)) ggX5_copyFrom_X4_copyFrom
set_option maxRecDepth 20000 in
theorem ggX5_copyFrom_X0_copyFrom : GoodIn wsX5_copyFrom wsX0_copyFrom := goodIn_r _ [30, 31, 32, 33, 34, 35, 36, 37, 38, 39, 40, 68, 69, 70, 71, 72, 73, 74, 75, 76, 77] (by decide +kernel) (by decide +kernel)
set_option maxRecDepth 20000 in
theorem gX5_copyFrom_X0_copyFrom : GoodIn wsX5_copyFrom (wsV RX5 47 RX0 yX0_copyFrom wsX0_copyFrom) := goodIn_app (goodIn_of _ (by decide +kernel)) ggX5_copyFrom_X0_copyFrom
set_option maxRecDepth 20000 in
theorem ggX5_copyFrom_X3_copyFrom : GoodIn wsX5_copyFrom wsX3_copyFrom := goodIn_r _ [45, 46, 47, 48, 15, 16, 17, 18, 19, 20, 21, 22, 23, 24, 25, 78, 79, 80] (by decide +kernel) (by decide +kernel)
set_option maxRecDepth 20000 in
theorem gX5_copyFrom_X3_copyFrom : GoodIn wsX5_copyFrom (wsV RX5 50 RX3 yX3_copyFrom wsX3_copyFrom) := goodIn_app (goodIn_of _ (by decide +kernel)) ggX5_copyFrom_X3_copyFrom
set_option maxRecDepth 20000 in
theorem ggX5_copyFrom_X2_copyFrom : GoodIn wsX5_copyFrom wsX2_copyFrom := goodIn_r _ [53, 54, 55, 56, 57, 58, 15, 16, 17, 18, 19, 20, 21, 22, 23, 24, 25, 81, 82, 83, 84, 85] (by decide +kernel) (by decide +kernel)
set_option maxRecDepth 20000 in
theorem gX5_copyFrom_X2_copyFrom : GoodIn wsX5_copyFrom (wsV RX5 53 RX2 yX2_copyFrom wsX2_copyFrom) := goodIn_app (goodIn_of _ (by decide +kernel)) ggX5_copyFrom_X2_copyFrom
theorem dX5_copyFrom_0 : decode cX5_copyFrom 0 = .ok (.aload_n 0, 1) := by decide +kernel
theorem dX5_copyFrom_1 : decode cX5_copyFrom 1 = .ok (.getfield 10, 3) := by decide +kernel
theorem dX5_copyFrom_4 : decode cX5_copyFrom 4 = .ok (.aload_n 1, 1) := by decide +kernel
theorem dX5_copyFrom_5 : decode cX5_copyFrom 5 = .ok (.getfield 10, 3) := by decide +kernel
theorem dX5_copyFrom_8 : decode cX5_copyFrom 8 = .ok (.invokevirtual 43, 3) := by decide +kernel
theorem dX5_copyFrom_11 : decode cX5_copyFrom 11 = .ok (.iconst 0, 1) := by decide +kernel
theorem dX5_copyFrom_12 : decode cX5_copyFrom 12 = .ok (.istore_n 2, 1) := by decide +kernel
theorem dX5_copyFrom_13 : decode cX5_copyFrom 13 = .ok (.iload_n 2, 1) := by decide +kernel
theorem dX5_copyFrom_14 : decode cX5_copyFrom 14 = .ok (.aload_n 0, 1) := by decide +kernel
theorem dX5_copyFrom_15 : decode cX5_copyFrom 15 = .ok (.getfield 22, 3) := by decide +kernel
theorem dX5_copyFrom_18 : decode cX5_copyFrom 18 = .ok (.arraylength, 1) := by decide +kernel
theorem dX5_copyFrom_19 : decode cX5_copyFrom 19 = .ok (.if_icmp .ge 33, 3) := by decide +kernel
theorem dX5_copyFrom_22 : decode cX5_copyFrom 22 = .ok (.iload_n 2, 1) := by decide +kernel
theorem dX5_copyFrom_23 : decode cX5_copyFrom 23 = .ok (.aload_n 1, 1) := by decide +kernel
theorem dX5_copyFrom_24 : decode cX5_copyFrom 24 = .ok (.getfield 22, 3) := by decide +kernel
theorem dX5_copyFrom_27 : decode cX5_copyFrom 27 = .ok (.arraylength, 1) := by decide +kernel
theorem dX5_copyFrom_28 : decode cX5_copyFrom 28 = .ok (.if_icmp .ge 24, 3) := by decide +kernel
theorem dX5_copyFrom_31 : decode cX5_copyFrom 31 = .ok (.aload_n 0, 1) := by decide +kernel
theorem dX5_copyFrom_32 : decode cX5_copyFrom 32 = .ok (.getfield 22, 3) := by decide +kernel
theorem dX5_copyFrom_35 : decode cX5_copyFrom 35 = .ok (.iload_n 2, 1) := by decide +kernel
theorem dX5_copyFrom_36 : decode cX5_copyFrom 36 = .ok (.aaload, 1) := by decide +kernel
theorem dX5_copyFrom_37 : decode cX5_copyFrom 37 = .ok (.aload_n 1, 1) := by decide +kernel
theorem dX5_copyFrom_38 : decode cX5_copyFrom 38 = .ok (.getfield 22, 3) := by decide +kernel
theorem dX5_copyFrom_41 : decode cX5_copyFrom 41 = .ok (.iload_n 2, 1) := by decide +kernel
theorem dX5_copyFrom_42 : decode cX5_copyFrom 42 = .ok (.aaload, 1) := by decide +kernel
theorem dX5_copyFrom_43 : decode cX5_copyFrom 43 = .ok (.invokevirtual 47, 3) := by decide +kernel
theorem dX5_copyFrom_46 : decode cX5_copyFrom 46 = .ok (.iinc 2 1, 3) := by decide +kernel
theorem dX5_copyFrom_49 : decode cX5_copyFrom 49 = .ok (.goto (-36), 3) := by decide +kernel
theorem dX5_copyFrom_52 : decode cX5_copyFrom 52 = .ok (.aload_n 0, 1) := by decide +kernel
theorem dX5_copyFrom_53 : decode cX5_copyFrom 53 = .ok (.getfield 32, 3) := by decide +kernel
theorem dX5_copyFrom_56 : decode cX5_copyFrom 56 = .ok (.aload_n 1, 1) := by decide +kernel
theorem dX5_copyFrom_57 : decode cX5_copyFrom 57 = .ok (.getfield 32, 3) := by decide +kernel
theorem dX5_copyFrom_60 : decode cX5_copyFrom 60 = .ok (.invokevirtual 50, 3) := by decide +kernel
theorem dX5_copyFrom_63 : decode cX5_copyFrom 63 = .ok (.aload_n 0, 1) := by decide +kernel
theorem dX5_copyFrom_64 : decode cX5_copyFrom 64 = .ok (.getfield 39, 3) := by decide +kernel
theorem dX5_copyFrom_67 : decode cX5_copyFrom 67 = .ok (.aload_n 1, 1) := by decide +kernel
theorem dX5_copyFrom_68 : decode cX5_copyFrom 68 = .ok (.getfield 39, 3) := by decide +kernel
theorem dX5_copyFrom_71 : decode cX5_copyFrom 71 = .ok (.invokevirtual 53, 3) := by decide +kernel
theorem dX5_copyFrom_74 : decode cX5_copyFrom 74 = .ok (.aload_n 0, 1) := by decide +kernel
theorem dX5_copyFrom_75 : decode cX5_copyFrom 75 = .ok (.aload_n 1, 1) := by decide +kernel
theorem dX5_copyFrom_76 : decode cX5_copyFrom 76 = .ok (.getfield 56, 3) := by decide +kernel
theorem dX5_copyFrom_79 : decode cX5_copyFrom 79 = .ok (.putfield 56, 3) := by decide +kernel
theorem dX5_copyFrom_82 : decode cX5_copyFrom 82 = .ok (.aload_n 0, 1) := by decide +kernel
theorem dX5_copyFrom_83 : decode cX5_copyFrom 83 = .ok (.aload_n 1, 1) := by decide +kernel
theorem dX5_copyFrom_84 : decode cX5_copyFrom 84 = .ok (.getfield 60, 3) := by decide +kernel
theorem dX5_copyFrom_87 : decode cX5_copyFrom 87 = .ok (.putfield 60, 3) := by decide +kernel
theorem dX5_copyFrom_90 : decode cX5_copyFrom 90 = .ok (.aload_n 0, 1) := by decide +kernel
theorem dX5_copyFrom_91 : decode cX5_copyFrom 91 = .ok (.aload_n 1, 1) := by decide +kernel
theorem dX5_copyFrom_92 : decode cX5_copyFrom 92 = .ok (.getfield 63, 3) := by decide +kernel
theorem dX5_copyFrom_95 : decode cX5_copyFrom 95 = .ok (.putfield 63, 3) := by decide +kernel
theorem dX5_copyFrom_98 : decode cX5_copyFrom 98 = .ok (.aload_n 0, 1) := by decide +kernel
theorem dX5_copyFrom_99 : decode cX5_copyFrom 99 = .ok (.aload_n 1, 1) := by decide +kernel
theorem dX5_copyFrom_100 : decode cX5_copyFrom 100 = .ok (.getfield 66, 3) := by decide +kernel
theorem dX5_copyFrom_103 : decode cX5_copyFrom 103 = .ok (.putfield 66, 3) := by decide +kernel
theorem dX5_copyFrom_106 : decode cX5_copyFrom 106 = .ok (.return_, 1) := by decide +kernel
theorem dX5_find_0 : decode cX5_find 0 = .ok (.iload_n 1, 1) := by decide +kernel
theorem dX5_find_1 : decode cX5_find 1 = .ok (.ifCond .lt 21, 3) := by decide +kernel
theorem dX5_find_4 : decode cX5_find 4 = .ok (.iload_n 1, 1) := by decide +kernel
theorem dX5_find_5 : decode cX5_find 5 = .ok (.aload_n 0, 1) := by decide +kernel
theorem dX5_find_6 : decode cX5_find 6 = .ok (.getfield 22, 3) := by decide +kernel
theorem dX5_find_9 : decode cX5_find 9 = .ok (.arraylength, 1) := by decide +kernel
theorem dX5_find_10 : decode cX5_find 10 = .ok (.if_icmp .ge 12, 3) := by decide +kernel
theorem dX5_find_13 : decode cX5_find 13 = .ok (.aload_n 0, 1) := by decide +kernel
theorem dX5_find_14 : decode cX5_find 14 = .ok (.getfield 22, 3) := by decide +kernel
theorem dX5_find_17 : decode cX5_find 17 = .ok (.iload_n 1, 1) := by decide +kernel
theorem dX5_find_18 : decode cX5_find 18 = .ok (.aaload, 1) := by decide +kernel
theorem dX5_find_19 : decode cX5_find 19 = .ok (.goto 4, 3) := by decide +kernel
theorem dX5_find_22 : decode cX5_find 22 = .ok (.aconst_null, 1) := by decide +kernel
theorem dX5_find_23 : decode cX5_find 23 = .ok (.areturn, 1) := by decide +kernel
set_option maxRecDepth 20000 in
theorem ggX5_isOpen_X4_valueOf : GoodIn wsX5_isOpen wsX4_valueOf := goodIn_r _ [6, 7, 8, 9, 10, 28] (by decide +kernel) (by decide +kernel)
set_option maxRecDepth 20000 in
theorem gX5_isOpen_X4_valueOf : GoodIn wsX5_isOpen (wsV RX5 69 RX4 yX4_valueOf wsX4_valueOf) := goodIn_app (goodIn_of _ (by decide +kernel)) ggX5_isOpen_X4_valueOf
set_option maxRecDepth 20000 in
theorem ggX5_isOpen_X0_isOpen : GoodIn wsX5_isOpen wsX0_isOpen := goodIn_r _ [15, 16, 17, 18, 19, 29, 30, 31, 32, 33, 34, 35, 36, 37, 38] (by decide +kernel) (by decide +kernel)
set_option maxRecDepth 20000 in
theorem gX5_isOpen_X0_isOpen : GoodIn wsX5_isOpen (wsV RX5 73 RX0 yX0_isOpen wsX0_isOpen) := goodIn_app (goodIn_of _ (by decide +kernel)) ggX5_isOpen_X0_isOpen
theorem dX5_isOpen_0 : decode cX5_isOpen 0 = .ok (.aload_n 1, 1) := by decide +kernel
theorem dX5_isOpen_1 : decode cX5_isOpen 1 = .ok (.aload_n 0, 1) := by decide +kernel
theorem dX5_isOpen_2 : decode cX5_isOpen 2 = .ok (.getfield 10, 3) := by decide +kernel
theorem dX5_isOpen_5 : decode cX5_isOpen 5 = .ok (.iconst 0, 1) := by decide +kernel
theorem dX5_isOpen_6 : decode cX5_isOpen 6 = .ok (.invokevirtual 69, 3) := by decide +kernel
theorem dX5_isOpen_9 : decode cX5_isOpen 9 = .ok (.invokevirtual 73, 3) := by decide +kernel
theorem dX5_isOpen_12 : decode cX5_isOpen 12 = .ok (.ireturn, 1) := by decide +kernel
set_option maxRecDepth 20000 in
theorem ggX5_allowsFire_X4_valueOf : GoodIn wsX5_allowsFire wsX4_valueOf := goodIn_r _ [7, 8, 9, 10, 11, 20] (by decide +kernel) (by decide +kernel)
set_option maxRecDepth 20000 in
theorem gX5_allowsFire_X4_valueOf : GoodIn wsX5_allowsFire (wsV RX5 69 RX4 yX4_valueOf wsX4_valueOf) := goodIn_app (goodIn_of _ (by decide +kernel)) ggX5_allowsFire_X4_valueOf
theorem dX5_allowsFire_0 : decode cX5_allowsFire 0 = .ok (.aload_n 0, 1) := by decide +kernel
theorem dX5_allowsFire_1 : decode cX5_allowsFire 1 = .ok (.getfield 60, 3) := by decide +kernel
theorem dX5_allowsFire_4 : decode cX5_allowsFire 4 = .ok (.aload_n 0, 1) := by decide +kernel
theorem dX5_allowsFire_5 : decode cX5_allowsFire 5 = .ok (.getfield 10, 3) := by decide +kernel
theorem dX5_allowsFire_8 : decode cX5_allowsFire 8 = .ok (.iconst 3, 1) := by decide +kernel
theorem dX5_allowsFire_9 : decode cX5_allowsFire 9 = .ok (.invokevirtual 69, 3) := by decide +kernel
theorem dX5_allowsFire_12 : decode cX5_allowsFire 12 = .ok (.if_icmp .ge 7, 3) := by decide +kernel
theorem dX5_allowsFire_15 : decode cX5_allowsFire 15 = .ok (.iconst 1, 1) := by decide +kernel
theorem dX5_allowsFire_16 : decode cX5_allowsFire 16 = .ok (.goto 4, 3) := by decide +kernel
theorem dX5_allowsFire_19 : decode cX5_allowsFire 19 = .ok (.iconst 0, 1) := by decide +kernel
theorem dX5_allowsFire_20 : decode cX5_allowsFire 20 = .ok (.ireturn, 1) := by decide +kernel
set_option maxRecDepth 20000 in
theorem ggX5_draft_X3_draftIn : GoodIn wsX5_draft wsX3_draftIn := goodIn_r _ [7, 8, 9, 10, 19, 20, 21] (by decide +kernel) (by decide +kernel)
set_option maxRecDepth 20000 in
theorem gX5_draft_X3_draftIn : GoodIn wsX5_draft (wsV RX5 77 RX3 yX3_draftIn wsX3_draftIn) := goodIn_app (goodIn_of _ (by decide +kernel)) ggX5_draft_X3_draftIn
theorem dX5_draft_0 : decode cX5_draft 0 = .ok (.aload_n 0, 1) := by decide +kernel
theorem dX5_draft_1 : decode cX5_draft 1 = .ok (.getfield 32, 3) := by decide +kernel
theorem dX5_draft_4 : decode cX5_draft 4 = .ok (.aload_n 0, 1) := by decide +kernel
theorem dX5_draft_5 : decode cX5_draft 5 = .ok (.getfield 56, 3) := by decide +kernel
theorem dX5_draft_8 : decode cX5_draft 8 = .ok (.invokevirtual 77, 3) := by decide +kernel
theorem dX5_draft_11 : decode cX5_draft 11 = .ok (.ireturn, 1) := by decide +kernel
set_option maxRecDepth 20000 in
theorem ggX5_kindle_X2_note : GoodIn wsX5_kindle wsX2_note := goodIn_r _ [9, 10, 11, 12, 13, 14, 15, 16, 17, 18, 19, 20, 8, 21, 22, 23, 24, 25, 26, 27, 28, 47, 48, 49, 50, 51] (by decide +kernel) (by decide +kernel)
set_option maxRecDepth 20000 in
theorem gX5_kindle_X2_note : GoodIn wsX5_kindle (wsV RX5 87 RX2 yX2_note wsX2_note) := goodIn_app (goodIn_of _ (by decide +kernel)) ggX5_kindle_X2_note
theorem dX5_kindle_0 : decode cX5_kindle 0 = .ok (.aload_n 2, 1) := by decide +kernel
theorem dX5_kindle_1 : decode cX5_kindle 1 = .ok (.iconst 1, 1) := by decide +kernel
theorem dX5_kindle_2 : decode cX5_kindle 2 = .ok (.putfield 80, 3) := by decide +kernel
theorem dX5_kindle_5 : decode cX5_kindle 5 = .ok (.aload_n 2, 1) := by decide +kernel
theorem dX5_kindle_6 : decode cX5_kindle 6 = .ok (.iconst 0, 1) := by decide +kernel
theorem dX5_kindle_7 : decode cX5_kindle 7 = .ok (.putfield 84, 3) := by decide +kernel
theorem dX5_kindle_10 : decode cX5_kindle 10 = .ok (.aload_n 0, 1) := by decide +kernel
theorem dX5_kindle_11 : decode cX5_kindle 11 = .ok (.getfield 39, 3) := by decide +kernel
theorem dX5_kindle_14 : decode cX5_kindle 14 = .ok (.iconst 0, 1) := by decide +kernel
theorem dX5_kindle_15 : decode cX5_kindle 15 = .ok (.iload_n 1, 1) := by decide +kernel
theorem dX5_kindle_16 : decode cX5_kindle 16 = .ok (.aload_n 0, 1) := by decide +kernel
theorem dX5_kindle_17 : decode cX5_kindle 17 = .ok (.getfield 56, 3) := by decide +kernel
theorem dX5_kindle_20 : decode cX5_kindle 20 = .ok (.invokevirtual 87, 3) := by decide +kernel
theorem dX5_kindle_23 : decode cX5_kindle 23 = .ok (.return_, 1) := by decide +kernel
set_option maxRecDepth 20000 in
theorem ggX5_passTick_X5_draft : GoodIn wsX5_passTick wsX5_draft := goodIn_r _ [14, 15, 9, 16, 17, 18, 19, 20, 21, 22, 23, 140, 141, 142, 143, 144, 145, 146, 147, 148, 149, 150] (by decide +kernel) (by decide +kernel)
set_option maxRecDepth 20000 in
theorem gX5_passTick_X5_draft : GoodIn wsX5_passTick (wsV RX5 91 RX5 yX5_draft wsX5_draft) := goodIn_app (goodIn_of _ (by decide +kernel)) ggX5_passTick_X5_draft
set_option maxRecDepth 20000 in
theorem ggX5_passTick_X5_allowsFire : GoodIn wsX5_passTick wsX5_allowsFire := goodIn_r _ [27, 3, 8, 28, 29, 30, 31, 32, 33, 34, 35, 36, 140, 141, 142, 143, 144, 145, 146, 147, 151] (by decide +kernel) (by decide +kernel)
set_option maxRecDepth 20000 in
theorem gX5_passTick_X5_allowsFire : GoodIn wsX5_passTick (wsV RX5 95 RX5 yX5_allowsFire wsX5_allowsFire) := goodIn_app (goodIn_of _ (by decide +kernel)) ggX5_passTick_X5_allowsFire
set_option maxRecDepth 20000 in
theorem ggX5_passTick_X5_blow : GoodIn wsX5_passTick wsX5_blow := goodIn_r _ [40, 41, 42, 9, 43, 44, 45, 13, 46, 8, 28, 29, 30, 31, 32, 33, 34, 35, 36, 47, 48, 49, 50, 51, 52, 53, 54, 55, 56, 57, 58, 59, 60, 61, 62, 63, 64, 65, 66, 67, 68, 69, 70, 71, 72, 73, 74, 75, 76, 6, 77, 78, 79, 80, 81, 82, 83, 84, 85, 86, 87, 152, 153, 154, 155, 156, 157, 158, 159, 160, 161, 140, 141, 142, 143, 144, 145, 146, 147, 151, 162, 163, 164, 165, 166] (by decide +kernel) (by decide +kernel)
set_option maxRecDepth 20000 in
theorem gX5_passTick_X5_blow : GoodIn wsX5_passTick (wsV RX5 99 RX5 yX5_blow wsX5_blow) := goodIn_app (goodIn_of _ (by decide +kernel)) ggX5_passTick_X5_blow
set_option maxRecDepth 20000 in
theorem ggX5_passTick_X5_spark : GoodIn wsX5_passTick wsX5_spark := goodIn_r _ [91, 41, 92, 93, 8, 94, 42, 9, 43, 44, 45, 13, 46, 28, 29, 30, 31, 32, 33, 34, 35, 36, 47, 48, 49, 50, 51, 52, 53, 54, 55, 56, 57, 58, 59, 60, 61, 62, 63, 64, 65, 95, 96, 97, 98, 66, 67, 68, 69, 70, 71, 72, 73, 74, 75, 76, 6, 77, 78, 79, 80, 81, 82, 83, 84, 85, 86, 87, 152, 153, 154, 155, 156, 157, 158, 159, 160, 161, 140, 141, 142, 143, 144, 145, 146, 147, 151, 162, 163, 164, 165, 166] (by decide +kernel) (by decide +kernel)
set_option maxRecDepth 20000 in
theorem gX5_passTick_X5_spark : GoodIn wsX5_passTick (wsV RX5 103 RX5 yX5_spark wsX5_spark) := goodIn_app (goodIn_of _ (by decide +kernel)) ggX5_passTick_X5_spark
set_option maxRecDepth 20000 in
theorem ggX5_passTick_X5_warmOrDrop : GoodIn wsX5_passTick wsX5_warmOrDrop := goodIn_r _ [102, 41, 42, 9, 43, 44, 45, 13, 46, 8, 28, 29, 30, 31, 32, 33, 34, 35, 36, 47, 48, 49, 50, 51, 52, 53, 54, 55, 103, 104, 105, 106, 107, 108, 109, 110, 111, 112, 61, 62, 63, 64, 65, 113, 114, 115, 116, 117, 118, 76, 6, 77, 119, 120, 5, 7, 121, 122, 123, 66, 67, 68, 69, 70, 71, 72, 73, 74, 75, 78, 79, 80, 81, 82, 83, 84, 85, 86, 87, 152, 153, 154, 155, 156, 157, 158, 159, 160, 161, 140, 141, 142, 143, 144, 145, 146, 147, 151, 162, 163, 164, 165, 166] (by decide +kernel) (by decide +kernel)
set_option maxRecDepth 20000 in
theorem gX5_passTick_X5_warmOrDrop : GoodIn wsX5_passTick (wsV RX5 106 RX5 yX5_warmOrDrop wsX5_warmOrDrop) := goodIn_app (goodIn_of _ (by decide +kernel)) ggX5_passTick_X5_warmOrDrop
set_option maxRecDepth 20000 in
theorem ggX5_passTick_X5_flow : GoodIn wsX5_passTick wsX5_flow := goodIn_r _ [127, 128, 3, 129, 130, 4, 5, 6, 7, 131, 132, 133, 13, 134, 41, 43, 44, 45, 46, 8, 28, 29, 30, 31, 32, 33, 34, 35, 36, 47, 48, 49, 50, 51, 52, 53, 54, 55, 135, 136, 137, 138, 139, 61, 62, 63, 64, 65, 152, 153, 154, 155, 156, 157, 158, 159, 160, 161, 140, 141, 142, 143, 144, 145, 146, 147, 151] (by decide +kernel) (by decide +kernel)
set_option maxRecDepth 20000 in
theorem gX5_passTick_X5_flow : GoodIn wsX5_passTick (wsV RX5 110 RX5 yX5_flow wsX5_flow) := goodIn_app (goodIn_of _ (by decide +kernel)) ggX5_passTick_X5_flow
set_option maxRecDepth 20000 in
theorem ggX5_passTick_X4_valueOf : GoodIn wsX5_passTick wsX4_valueOf := goodIn_r _ [32, 33, 34, 35, 36, 151] (by decide +kernel) (by decide +kernel)
set_option maxRecDepth 20000 in
theorem gX5_passTick_X4_valueOf : GoodIn wsX5_passTick (wsV RX5 69 RX4 yX4_valueOf wsX4_valueOf) := goodIn_app (goodIn_of _ (by decide +kernel)) ggX5_passTick_X4_valueOf
theorem dX5_passTick_0 : decode cX5_passTick 0 = .ok (.aload_n 0, 1) := by decide +kernel
theorem dX5_passTick_1 : decode cX5_passTick 1 = .ok (.invokevirtual 91, 3) := by decide +kernel
theorem dX5_passTick_4 : decode cX5_passTick 4 = .ok (.istore_n 1, 1) := by decide +kernel
theorem dX5_passTick_5 : decode cX5_passTick 5 = .ok (.aload_n 0, 1) := by decide +kernel
theorem dX5_passTick_6 : decode cX5_passTick 6 = .ok (.invokevirtual 95, 3) := by decide +kernel
theorem dX5_passTick_9 : decode cX5_passTick 9 = .ok (.istore_n 2, 1) := by decide +kernel
theorem dX5_passTick_10 : decode cX5_passTick 10 = .ok (.iconst 0, 1) := by decide +kernel
theorem dX5_passTick_11 : decode cX5_passTick 11 = .ok (.istore_n 3, 1) := by decide +kernel
theorem dX5_passTick_12 : decode cX5_passTick 12 = .ok (.iload_n 3, 1) := by decide +kernel
theorem dX5_passTick_13 : decode cX5_passTick 13 = .ok (.aload_n 0, 1) := by decide +kernel
theorem dX5_passTick_14 : decode cX5_passTick 14 = .ok (.getfield 22, 3) := by decide +kernel
theorem dX5_passTick_17 : decode cX5_passTick 17 = .ok (.arraylength, 1) := by decide +kernel
theorem dX5_passTick_18 : decode cX5_passTick 18 = .ok (.if_icmp .ge 50, 3) := by decide +kernel
theorem dX5_passTick_21 : decode cX5_passTick 21 = .ok (.aload_n 0, 1) := by decide +kernel
theorem dX5_passTick_22 : decode cX5_passTick 22 = .ok (.getfield 22, 3) := by decide +kernel
theorem dX5_passTick_25 : decode cX5_passTick 25 = .ok (.iload_n 3, 1) := by decide +kernel
theorem dX5_passTick_26 : decode cX5_passTick 26 = .ok (.aaload, 1) := by decide +kernel
theorem dX5_passTick_27 : decode cX5_passTick 27 = .ok (.astore 4, 2) := by decide +kernel
theorem dX5_passTick_29 : decode cX5_passTick 29 = .ok (.aload_n 0, 1) := by decide +kernel
theorem dX5_passTick_30 : decode cX5_passTick 30 = .ok (.iload_n 3, 1) := by decide +kernel
theorem dX5_passTick_31 : decode cX5_passTick 31 = .ok (.aload 4, 2) := by decide +kernel
theorem dX5_passTick_33 : decode cX5_passTick 33 = .ok (.iload_n 1, 1) := by decide +kernel
theorem dX5_passTick_34 : decode cX5_passTick 34 = .ok (.invokevirtual 99, 3) := by decide +kernel
theorem dX5_passTick_37 : decode cX5_passTick 37 = .ok (.iload_n 2, 1) := by decide +kernel
theorem dX5_passTick_38 : decode cX5_passTick 38 = .ok (.ifCond .eq 11, 3) := by decide +kernel
theorem dX5_passTick_41 : decode cX5_passTick 41 = .ok (.aload_n 0, 1) := by decide +kernel
theorem dX5_passTick_42 : decode cX5_passTick 42 = .ok (.iload_n 3, 1) := by decide +kernel
theorem dX5_passTick_43 : decode cX5_passTick 43 = .ok (.aload 4, 2) := by decide +kernel
theorem dX5_passTick_45 : decode cX5_passTick 45 = .ok (.iload_n 1, 1) := by decide +kernel
theorem dX5_passTick_46 : decode cX5_passTick 46 = .ok (.invokevirtual 103, 3) := by decide +kernel
theorem dX5_passTick_49 : decode cX5_passTick 49 = .ok (.aload_n 0, 1) := by decide +kernel
theorem dX5_passTick_50 : decode cX5_passTick 50 = .ok (.iload_n 3, 1) := by decide +kernel
theorem dX5_passTick_51 : decode cX5_passTick 51 = .ok (.aload 4, 2) := by decide +kernel
theorem dX5_passTick_53 : decode cX5_passTick 53 = .ok (.invokevirtual 106, 3) := by decide +kernel
theorem dX5_passTick_56 : decode cX5_passTick 56 = .ok (.aload_n 0, 1) := by decide +kernel
theorem dX5_passTick_57 : decode cX5_passTick 57 = .ok (.aload 4, 2) := by decide +kernel
theorem dX5_passTick_59 : decode cX5_passTick 59 = .ok (.invokevirtual 110, 3) := by decide +kernel
theorem dX5_passTick_62 : decode cX5_passTick 62 = .ok (.iinc 3 1, 3) := by decide +kernel
theorem dX5_passTick_65 : decode cX5_passTick 65 = .ok (.goto (-53), 3) := by decide +kernel
theorem dX5_passTick_68 : decode cX5_passTick 68 = .ok (.aload_n 0, 1) := by decide +kernel
theorem dX5_passTick_69 : decode cX5_passTick 69 = .ok (.aload_n 0, 1) := by decide +kernel
theorem dX5_passTick_70 : decode cX5_passTick 70 = .ok (.getfield 63, 3) := by decide +kernel
theorem dX5_passTick_73 : decode cX5_passTick 73 = .ok (.aload_n 0, 1) := by decide +kernel
theorem dX5_passTick_74 : decode cX5_passTick 74 = .ok (.getfield 60, 3) := by decide +kernel
theorem dX5_passTick_77 : decode cX5_passTick 77 = .ok (.invokestatic 113, 3) := by decide +kernel
theorem dX5_passTick_80 : decode cX5_passTick 80 = .ok (.putfield 63, 3) := by decide +kernel
theorem dX5_passTick_83 : decode cX5_passTick 83 = .ok (.aload_n 0, 1) := by decide +kernel
theorem dX5_passTick_84 : decode cX5_passTick 84 = .ok (.iconst 0, 1) := by decide +kernel
theorem dX5_passTick_85 : decode cX5_passTick 85 = .ok (.aload_n 0, 1) := by decide +kernel
theorem dX5_passTick_86 : decode cX5_passTick 86 = .ok (.getfield 60, 3) := by decide +kernel
theorem dX5_passTick_89 : decode cX5_passTick 89 = .ok (.aload_n 0, 1) := by decide +kernel
theorem dX5_passTick_90 : decode cX5_passTick 90 = .ok (.getfield 10, 3) := by decide +kernel
theorem dX5_passTick_93 : decode cX5_passTick 93 = .ok (.iconst 2, 1) := by decide +kernel
theorem dX5_passTick_94 : decode cX5_passTick 94 = .ok (.invokevirtual 69, 3) := by decide +kernel
theorem dX5_passTick_97 : decode cX5_passTick 97 = .ok (.isub, 1) := by decide +kernel
theorem dX5_passTick_98 : decode cX5_passTick 98 = .ok (.iload_n 1, 1) := by decide +kernel
theorem dX5_passTick_99 : decode cX5_passTick 99 = .ok (.isub, 1) := by decide +kernel
theorem dX5_passTick_100 : decode cX5_passTick 100 = .ok (.invokestatic 113, 3) := by decide +kernel
theorem dX5_passTick_103 : decode cX5_passTick 103 = .ok (.putfield 60, 3) := by decide +kernel
theorem dX5_passTick_106 : decode cX5_passTick 106 = .ok (.aload_n 0, 1) := by decide +kernel
theorem dX5_passTick_107 : decode cX5_passTick 107 = .ok (.dup, 1) := by decide +kernel
theorem dX5_passTick_108 : decode cX5_passTick 108 = .ok (.getfield 56, 3) := by decide +kernel
theorem dX5_passTick_111 : decode cX5_passTick 111 = .ok (.iconst 1, 1) := by decide +kernel
theorem dX5_passTick_112 : decode cX5_passTick 112 = .ok (.iadd, 1) := by decide +kernel
theorem dX5_passTick_113 : decode cX5_passTick 113 = .ok (.putfield 56, 3) := by decide +kernel
theorem dX5_passTick_116 : decode cX5_passTick 116 = .ok (.return_, 1) := by decide +kernel
set_option maxRecDepth 20000 in
theorem ggX5_isClear_X5_flowsUnburnt : GoodIn wsX5_isClear wsX5_flowsUnburnt := goodIn_r _ [7, 8, 9, 10, 11, 6, 12, 13, 14, 15, 16, 17, 18, 19, 20, 21, 22, 23, 24, 25, 26, 27, 28, 29, 30, 31, 40, 41, 42, 43, 44, 45, 46, 47, 48, 49, 32, 33, 34, 35, 36, 37, 38, 39, 50] (by decide +kernel) (by decide +kernel)
set_option maxRecDepth 20000 in
theorem gX5_isClear_X5_flowsUnburnt : GoodIn wsX5_isClear (wsV RX5 119 RX5 yX5_flowsUnburnt wsX5_flowsUnburnt) := goodIn_app (goodIn_of _ (by decide +kernel)) ggX5_isClear_X5_flowsUnburnt
theorem dX5_isClear_0 : decode cX5_isClear 0 = .ok (.aload_n 0, 1) := by decide +kernel
theorem dX5_isClear_1 : decode cX5_isClear 1 = .ok (.getfield 60, 3) := by decide +kernel
theorem dX5_isClear_4 : decode cX5_isClear 4 = .ok (.ifCond .le 5, 3) := by decide +kernel
theorem dX5_isClear_7 : decode cX5_isClear 7 = .ok (.iconst 0, 1) := by decide +kernel
theorem dX5_isClear_8 : decode cX5_isClear 8 = .ok (.ireturn, 1) := by decide +kernel
theorem dX5_isClear_9 : decode cX5_isClear 9 = .ok (.aload_n 0, 1) := by decide +kernel
theorem dX5_isClear_10 : decode cX5_isClear 10 = .ok (.getfield 22, 3) := by decide +kernel
theorem dX5_isClear_13 : decode cX5_isClear 13 = .ok (.astore_n 1, 1) := by decide +kernel
theorem dX5_isClear_14 : decode cX5_isClear 14 = .ok (.aload_n 1, 1) := by decide +kernel
theorem dX5_isClear_15 : decode cX5_isClear 15 = .ok (.arraylength, 1) := by decide +kernel
theorem dX5_isClear_16 : decode cX5_isClear 16 = .ok (.istore_n 2, 1) := by decide +kernel
theorem dX5_isClear_17 : decode cX5_isClear 17 = .ok (.iconst 0, 1) := by decide +kernel
theorem dX5_isClear_18 : decode cX5_isClear 18 = .ok (.istore_n 3, 1) := by decide +kernel
theorem dX5_isClear_19 : decode cX5_isClear 19 = .ok (.iload_n 3, 1) := by decide +kernel
theorem dX5_isClear_20 : decode cX5_isClear 20 = .ok (.iload_n 2, 1) := by decide +kernel
theorem dX5_isClear_21 : decode cX5_isClear 21 = .ok (.if_icmp .ge 25, 3) := by decide +kernel
theorem dX5_isClear_24 : decode cX5_isClear 24 = .ok (.aload_n 1, 1) := by decide +kernel
theorem dX5_isClear_25 : decode cX5_isClear 25 = .ok (.iload_n 3, 1) := by decide +kernel
theorem dX5_isClear_26 : decode cX5_isClear 26 = .ok (.aaload, 1) := by decide +kernel
theorem dX5_isClear_27 : decode cX5_isClear 27 = .ok (.astore 4, 2) := by decide +kernel
theorem dX5_isClear_29 : decode cX5_isClear 29 = .ok (.aload_n 0, 1) := by decide +kernel
theorem dX5_isClear_30 : decode cX5_isClear 30 = .ok (.aload 4, 2) := by decide +kernel
theorem dX5_isClear_32 : decode cX5_isClear 32 = .ok (.invokevirtual 119, 3) := by decide +kernel
theorem dX5_isClear_35 : decode cX5_isClear 35 = .ok (.ifCond .eq 5, 3) := by decide +kernel
theorem dX5_isClear_38 : decode cX5_isClear 38 = .ok (.iconst 0, 1) := by decide +kernel
theorem dX5_isClear_39 : decode cX5_isClear 39 = .ok (.ireturn, 1) := by decide +kernel
theorem dX5_isClear_40 : decode cX5_isClear 40 = .ok (.iinc 3 1, 3) := by decide +kernel
theorem dX5_isClear_43 : decode cX5_isClear 43 = .ok (.goto (-24), 3) := by decide +kernel
theorem dX5_isClear_46 : decode cX5_isClear 46 = .ok (.iconst 1, 1) := by decide +kernel
theorem dX5_isClear_47 : decode cX5_isClear 47 = .ok (.ireturn, 1) := by decide +kernel
set_option maxRecDepth 20000 in
theorem ggX5_ignitersOn_X7_oneIf : GoodIn wsX5_ignitersOn wsX7_oneIf := goodIn_r _ [5] (by decide +kernel) (by decide +kernel)
set_option maxRecDepth 20000 in
theorem gX5_ignitersOn_X7_oneIf_n126 : GoodIn wsX5_ignitersOn (wsX7_oneIf) := ggX5_ignitersOn_X7_oneIf
theorem dX5_ignitersOn_0 : decode cX5_ignitersOn 0 = .ok (.iconst 0, 1) := by decide +kernel
theorem dX5_ignitersOn_1 : decode cX5_ignitersOn 1 = .ok (.istore_n 1, 1) := by decide +kernel
theorem dX5_ignitersOn_2 : decode cX5_ignitersOn 2 = .ok (.aload_n 0, 1) := by decide +kernel
theorem dX5_ignitersOn_3 : decode cX5_ignitersOn 3 = .ok (.getfield 22, 3) := by decide +kernel
theorem dX5_ignitersOn_6 : decode cX5_ignitersOn 6 = .ok (.astore_n 2, 1) := by decide +kernel
theorem dX5_ignitersOn_7 : decode cX5_ignitersOn 7 = .ok (.aload_n 2, 1) := by decide +kernel
theorem dX5_ignitersOn_8 : decode cX5_ignitersOn 8 = .ok (.arraylength, 1) := by decide +kernel
theorem dX5_ignitersOn_9 : decode cX5_ignitersOn 9 = .ok (.istore_n 3, 1) := by decide +kernel
theorem dX5_ignitersOn_10 : decode cX5_ignitersOn 10 = .ok (.iconst 0, 1) := by decide +kernel
theorem dX5_ignitersOn_11 : decode cX5_ignitersOn 11 = .ok (.istore 4, 2) := by decide +kernel
theorem dX5_ignitersOn_13 : decode cX5_ignitersOn 13 = .ok (.iload 4, 2) := by decide +kernel
theorem dX5_ignitersOn_15 : decode cX5_ignitersOn 15 = .ok (.iload_n 3, 1) := by decide +kernel
theorem dX5_ignitersOn_16 : decode cX5_ignitersOn 16 = .ok (.if_icmp .ge 26, 3) := by decide +kernel
theorem dX5_ignitersOn_19 : decode cX5_ignitersOn 19 = .ok (.aload_n 2, 1) := by decide +kernel
theorem dX5_ignitersOn_20 : decode cX5_ignitersOn 20 = .ok (.iload 4, 2) := by decide +kernel
theorem dX5_ignitersOn_22 : decode cX5_ignitersOn 22 = .ok (.aaload, 1) := by decide +kernel
theorem dX5_ignitersOn_23 : decode cX5_ignitersOn 23 = .ok (.astore 5, 2) := by decide +kernel
theorem dX5_ignitersOn_25 : decode cX5_ignitersOn 25 = .ok (.iload_n 1, 1) := by decide +kernel
theorem dX5_ignitersOn_26 : decode cX5_ignitersOn 26 = .ok (.aload 5, 2) := by decide +kernel
theorem dX5_ignitersOn_28 : decode cX5_ignitersOn 28 = .ok (.getfield 123, 3) := by decide +kernel
theorem dX5_ignitersOn_31 : decode cX5_ignitersOn 31 = .ok (.invokestatic 126, 3) := by decide +kernel
theorem dX5_ignitersOn_34 : decode cX5_ignitersOn 34 = .ok (.iadd, 1) := by decide +kernel
theorem dX5_ignitersOn_35 : decode cX5_ignitersOn 35 = .ok (.istore_n 1, 1) := by decide +kernel
theorem dX5_ignitersOn_36 : decode cX5_ignitersOn 36 = .ok (.iinc 4 1, 3) := by decide +kernel
theorem dX5_ignitersOn_39 : decode cX5_ignitersOn 39 = .ok (.goto (-26), 3) := by decide +kernel
theorem dX5_ignitersOn_42 : decode cX5_ignitersOn 42 = .ok (.iload_n 1, 1) := by decide +kernel
theorem dX5_ignitersOn_43 : decode cX5_ignitersOn 43 = .ok (.ireturn, 1) := by decide +kernel
set_option maxRecDepth 20000 in
theorem ggX5_flames_X7_oneIf : GoodIn wsX5_flames wsX7_oneIf := goodIn_r _ [5] (by decide +kernel) (by decide +kernel)
set_option maxRecDepth 20000 in
theorem gX5_flames_X7_oneIf_n126 : GoodIn wsX5_flames (wsX7_oneIf) := ggX5_flames_X7_oneIf
theorem dX5_flames_0 : decode cX5_flames 0 = .ok (.iconst 0, 1) := by decide +kernel
theorem dX5_flames_1 : decode cX5_flames 1 = .ok (.istore_n 1, 1) := by decide +kernel
theorem dX5_flames_2 : decode cX5_flames 2 = .ok (.aload_n 0, 1) := by decide +kernel
theorem dX5_flames_3 : decode cX5_flames 3 = .ok (.getfield 22, 3) := by decide +kernel
theorem dX5_flames_6 : decode cX5_flames 6 = .ok (.astore_n 2, 1) := by decide +kernel
theorem dX5_flames_7 : decode cX5_flames 7 = .ok (.aload_n 2, 1) := by decide +kernel
theorem dX5_flames_8 : decode cX5_flames 8 = .ok (.arraylength, 1) := by decide +kernel
theorem dX5_flames_9 : decode cX5_flames 9 = .ok (.istore_n 3, 1) := by decide +kernel
theorem dX5_flames_10 : decode cX5_flames 10 = .ok (.iconst 0, 1) := by decide +kernel
theorem dX5_flames_11 : decode cX5_flames 11 = .ok (.istore 4, 2) := by decide +kernel
theorem dX5_flames_13 : decode cX5_flames 13 = .ok (.iload 4, 2) := by decide +kernel
theorem dX5_flames_15 : decode cX5_flames 15 = .ok (.iload_n 3, 1) := by decide +kernel
theorem dX5_flames_16 : decode cX5_flames 16 = .ok (.if_icmp .ge 26, 3) := by decide +kernel
theorem dX5_flames_19 : decode cX5_flames 19 = .ok (.aload_n 2, 1) := by decide +kernel
theorem dX5_flames_20 : decode cX5_flames 20 = .ok (.iload 4, 2) := by decide +kernel
theorem dX5_flames_22 : decode cX5_flames 22 = .ok (.aaload, 1) := by decide +kernel
theorem dX5_flames_23 : decode cX5_flames 23 = .ok (.astore 5, 2) := by decide +kernel
theorem dX5_flames_25 : decode cX5_flames 25 = .ok (.iload_n 1, 1) := by decide +kernel
theorem dX5_flames_26 : decode cX5_flames 26 = .ok (.aload 5, 2) := by decide +kernel
theorem dX5_flames_28 : decode cX5_flames 28 = .ok (.getfield 80, 3) := by decide +kernel
theorem dX5_flames_31 : decode cX5_flames 31 = .ok (.invokestatic 126, 3) := by decide +kernel
theorem dX5_flames_34 : decode cX5_flames 34 = .ok (.iadd, 1) := by decide +kernel
theorem dX5_flames_35 : decode cX5_flames 35 = .ok (.istore_n 1, 1) := by decide +kernel
theorem dX5_flames_36 : decode cX5_flames 36 = .ok (.iinc 4 1, 3) := by decide +kernel
theorem dX5_flames_39 : decode cX5_flames 39 = .ok (.goto (-26), 3) := by decide +kernel
theorem dX5_flames_42 : decode cX5_flames 42 = .ok (.iload_n 1, 1) := by decide +kernel
theorem dX5_flames_43 : decode cX5_flames 43 = .ok (.ireturn, 1) := by decide +kernel
set_option maxRecDepth 20000 in
theorem ggX5_openValves_X5_isOpen : GoodIn wsX5_openValves wsX5_isOpen := goodIn_r _ [6, 7, 8, 9, 10, 11, 12, 13, 14, 15, 16, 17, 18, 19, 20, 21, 22, 23, 24, 25, 28, 29, 30, 31, 32, 33, 34, 35, 36, 37, 38, 39, 40, 41, 42, 43, 44, 45, 46] (by decide +kernel) (by decide +kernel)
set_option maxRecDepth 20000 in
theorem gX5_openValves_X5_isOpen : GoodIn wsX5_openValves (wsV RX5 132 RX5 yX5_isOpen wsX5_isOpen) := goodIn_app (goodIn_of _ (by decide +kernel)) ggX5_openValves_X5_isOpen
set_option maxRecDepth 20000 in
theorem ggX5_openValves_X7_oneIf : GoodIn wsX5_openValves wsX7_oneIf := goodIn_r _ [27] (by decide +kernel) (by decide +kernel)
set_option maxRecDepth 20000 in
theorem gX5_openValves_X7_oneIf_n126 : GoodIn wsX5_openValves (wsX7_oneIf) := ggX5_openValves_X7_oneIf
theorem dX5_openValves_0 : decode cX5_openValves 0 = .ok (.iconst 0, 1) := by decide +kernel
theorem dX5_openValves_1 : decode cX5_openValves 1 = .ok (.istore_n 1, 1) := by decide +kernel
theorem dX5_openValves_2 : decode cX5_openValves 2 = .ok (.aload_n 0, 1) := by decide +kernel
theorem dX5_openValves_3 : decode cX5_openValves 3 = .ok (.getfield 22, 3) := by decide +kernel
theorem dX5_openValves_6 : decode cX5_openValves 6 = .ok (.astore_n 2, 1) := by decide +kernel
theorem dX5_openValves_7 : decode cX5_openValves 7 = .ok (.aload_n 2, 1) := by decide +kernel
theorem dX5_openValves_8 : decode cX5_openValves 8 = .ok (.arraylength, 1) := by decide +kernel
theorem dX5_openValves_9 : decode cX5_openValves 9 = .ok (.istore_n 3, 1) := by decide +kernel
theorem dX5_openValves_10 : decode cX5_openValves 10 = .ok (.iconst 0, 1) := by decide +kernel
theorem dX5_openValves_11 : decode cX5_openValves 11 = .ok (.istore 4, 2) := by decide +kernel
theorem dX5_openValves_13 : decode cX5_openValves 13 = .ok (.iload 4, 2) := by decide +kernel
theorem dX5_openValves_15 : decode cX5_openValves 15 = .ok (.iload_n 3, 1) := by decide +kernel
theorem dX5_openValves_16 : decode cX5_openValves 16 = .ok (.if_icmp .ge 27, 3) := by decide +kernel
theorem dX5_openValves_19 : decode cX5_openValves 19 = .ok (.aload_n 2, 1) := by decide +kernel
theorem dX5_openValves_20 : decode cX5_openValves 20 = .ok (.iload 4, 2) := by decide +kernel
theorem dX5_openValves_22 : decode cX5_openValves 22 = .ok (.aaload, 1) := by decide +kernel
theorem dX5_openValves_23 : decode cX5_openValves 23 = .ok (.astore 5, 2) := by decide +kernel
theorem dX5_openValves_25 : decode cX5_openValves 25 = .ok (.iload_n 1, 1) := by decide +kernel
theorem dX5_openValves_26 : decode cX5_openValves 26 = .ok (.aload_n 0, 1) := by decide +kernel
theorem dX5_openValves_27 : decode cX5_openValves 27 = .ok (.aload 5, 2) := by decide +kernel
theorem dX5_openValves_29 : decode cX5_openValves 29 = .ok (.invokevirtual 132, 3) := by decide +kernel
theorem dX5_openValves_32 : decode cX5_openValves 32 = .ok (.invokestatic 126, 3) := by decide +kernel
theorem dX5_openValves_35 : decode cX5_openValves 35 = .ok (.iadd, 1) := by decide +kernel
theorem dX5_openValves_36 : decode cX5_openValves 36 = .ok (.istore_n 1, 1) := by decide +kernel
theorem dX5_openValves_37 : decode cX5_openValves 37 = .ok (.iinc 4 1, 3) := by decide +kernel
theorem dX5_openValves_40 : decode cX5_openValves 40 = .ok (.goto (-27), 3) := by decide +kernel
theorem dX5_openValves_43 : decode cX5_openValves 43 = .ok (.iload_n 1, 1) := by decide +kernel
theorem dX5_openValves_44 : decode cX5_openValves 44 = .ok (.ireturn, 1) := by decide +kernel
set_option maxRecDepth 20000 in
theorem ggX5_lockedBurners_X7_oneIf : GoodIn wsX5_lockedBurners wsX7_oneIf := goodIn_r _ [5] (by decide +kernel) (by decide +kernel)
set_option maxRecDepth 20000 in
theorem gX5_lockedBurners_X7_oneIf_n126 : GoodIn wsX5_lockedBurners (wsX7_oneIf) := ggX5_lockedBurners_X7_oneIf
theorem dX5_lockedBurners_0 : decode cX5_lockedBurners 0 = .ok (.iconst 0, 1) := by decide +kernel
theorem dX5_lockedBurners_1 : decode cX5_lockedBurners 1 = .ok (.istore_n 1, 1) := by decide +kernel
theorem dX5_lockedBurners_2 : decode cX5_lockedBurners 2 = .ok (.aload_n 0, 1) := by decide +kernel
theorem dX5_lockedBurners_3 : decode cX5_lockedBurners 3 = .ok (.getfield 22, 3) := by decide +kernel
theorem dX5_lockedBurners_6 : decode cX5_lockedBurners 6 = .ok (.astore_n 2, 1) := by decide +kernel
theorem dX5_lockedBurners_7 : decode cX5_lockedBurners 7 = .ok (.aload_n 2, 1) := by decide +kernel
theorem dX5_lockedBurners_8 : decode cX5_lockedBurners 8 = .ok (.arraylength, 1) := by decide +kernel
theorem dX5_lockedBurners_9 : decode cX5_lockedBurners 9 = .ok (.istore_n 3, 1) := by decide +kernel
theorem dX5_lockedBurners_10 : decode cX5_lockedBurners 10 = .ok (.iconst 0, 1) := by decide +kernel
theorem dX5_lockedBurners_11 : decode cX5_lockedBurners 11 = .ok (.istore 4, 2) := by decide +kernel
theorem dX5_lockedBurners_13 : decode cX5_lockedBurners 13 = .ok (.iload 4, 2) := by decide +kernel
theorem dX5_lockedBurners_15 : decode cX5_lockedBurners 15 = .ok (.iload_n 3, 1) := by decide +kernel
theorem dX5_lockedBurners_16 : decode cX5_lockedBurners 16 = .ok (.if_icmp .ge 26, 3) := by decide +kernel
theorem dX5_lockedBurners_19 : decode cX5_lockedBurners 19 = .ok (.aload_n 2, 1) := by decide +kernel
theorem dX5_lockedBurners_20 : decode cX5_lockedBurners 20 = .ok (.iload 4, 2) := by decide +kernel
theorem dX5_lockedBurners_22 : decode cX5_lockedBurners 22 = .ok (.aaload, 1) := by decide +kernel
theorem dX5_lockedBurners_23 : decode cX5_lockedBurners 23 = .ok (.astore 5, 2) := by decide +kernel
theorem dX5_lockedBurners_25 : decode cX5_lockedBurners 25 = .ok (.iload_n 1, 1) := by decide +kernel
theorem dX5_lockedBurners_26 : decode cX5_lockedBurners 26 = .ok (.aload 5, 2) := by decide +kernel
theorem dX5_lockedBurners_28 : decode cX5_lockedBurners 28 = .ok (.getfield 134, 3) := by decide +kernel
theorem dX5_lockedBurners_31 : decode cX5_lockedBurners 31 = .ok (.invokestatic 126, 3) := by decide +kernel
theorem dX5_lockedBurners_34 : decode cX5_lockedBurners 34 = .ok (.iadd, 1) := by decide +kernel
theorem dX5_lockedBurners_35 : decode cX5_lockedBurners 35 = .ok (.istore_n 1, 1) := by decide +kernel
theorem dX5_lockedBurners_36 : decode cX5_lockedBurners 36 = .ok (.iinc 4 1, 3) := by decide +kernel
theorem dX5_lockedBurners_39 : decode cX5_lockedBurners 39 = .ok (.goto (-26), 3) := by decide +kernel
theorem dX5_lockedBurners_42 : decode cX5_lockedBurners 42 = .ok (.iload_n 1, 1) := by decide +kernel
theorem dX5_lockedBurners_43 : decode cX5_lockedBurners 43 = .ok (.ireturn, 1) := by decide +kernel
set_option maxRecDepth 20000 in
theorem ggX5_blow_X5_isOpen : GoodIn wsX5_blow wsX5_isOpen := goodIn_r _ [8, 9, 10, 11, 12, 13, 14, 15, 16, 17, 18, 19, 20, 21, 22, 23, 24, 25, 26, 27, 71, 72, 73, 74, 75, 76, 77, 78, 79, 61, 62, 63, 64, 65, 66, 67, 68, 69, 70] (by decide +kernel) (by decide +kernel)
set_option maxRecDepth 20000 in
theorem gX5_blow_X5_isOpen : GoodIn wsX5_blow (wsV RX5 132 RX5 yX5_isOpen wsX5_isOpen) := goodIn_app (goodIn_of _ (by decide +kernel)) ggX5_blow_X5_isOpen
set_option maxRecDepth 20000 in
theorem ggX5_blow_X0_strength : GoodIn wsX5_blow wsX0_strength := goodIn_r _ [31, 32, 25, 33, 34, 35, 22, 36, 37, 16, 17, 18, 61, 62, 63, 64, 65, 66, 67, 68, 69, 70] (by decide +kernel) (by decide +kernel)
set_option maxRecDepth 20000 in
theorem gX5_blow_X0_strength : GoodIn wsX5_blow (wsV RX5 137 RX0 yX0_strength wsX0_strength) := goodIn_app (goodIn_of _ (by decide +kernel)) ggX5_blow_X0_strength
set_option maxRecDepth 20000 in
theorem ggX5_blow_X2_note : GoodIn wsX5_blow wsX2_note := goodIn_r _ [42, 43, 44, 45, 46, 47, 48, 49, 50, 51, 52, 53, 41, 54, 55, 56, 57, 58, 59, 17, 60, 80, 81, 82, 83, 84] (by decide +kernel) (by decide +kernel)
set_option maxRecDepth 20000 in
theorem gX5_blow_X2_note : GoodIn wsX5_blow (wsV RX5 87 RX2 yX2_note wsX2_note) := goodIn_app (goodIn_of _ (by decide +kernel)) ggX5_blow_X2_note
theorem dX5_blow_0 : decode cX5_blow 0 = .ok (.aload_n 2, 1) := by decide +kernel
theorem dX5_blow_1 : decode cX5_blow 1 = .ok (.getfield 80, 3) := by decide +kernel
theorem dX5_blow_4 : decode cX5_blow 4 = .ok (.ifCond .ne 4, 3) := by decide +kernel
theorem dX5_blow_7 : decode cX5_blow 7 = .ok (.return_, 1) := by decide +kernel
theorem dX5_blow_8 : decode cX5_blow 8 = .ok (.aload_n 0, 1) := by decide +kernel
theorem dX5_blow_9 : decode cX5_blow 9 = .ok (.aload_n 2, 1) := by decide +kernel
theorem dX5_blow_10 : decode cX5_blow 10 = .ok (.invokevirtual 132, 3) := by decide +kernel
theorem dX5_blow_13 : decode cX5_blow 13 = .ok (.ifCond .ne 11, 3) := by decide +kernel
theorem dX5_blow_16 : decode cX5_blow 16 = .ok (.aload_n 2, 1) := by decide +kernel
theorem dX5_blow_17 : decode cX5_blow 17 = .ok (.iconst 0, 1) := by decide +kernel
theorem dX5_blow_18 : decode cX5_blow 18 = .ok (.putfield 80, 3) := by decide +kernel
theorem dX5_blow_21 : decode cX5_blow 21 = .ok (.goto 29, 3) := by decide +kernel
theorem dX5_blow_24 : decode cX5_blow 24 = .ok (.iload_n 3, 1) := by decide +kernel
theorem dX5_blow_25 : decode cX5_blow 25 = .ok (.aload_n 2, 1) := by decide +kernel
theorem dX5_blow_26 : decode cX5_blow 26 = .ok (.invokevirtual 137, 3) := by decide +kernel
theorem dX5_blow_29 : decode cX5_blow 29 = .ok (.if_icmp .le 21, 3) := by decide +kernel
theorem dX5_blow_32 : decode cX5_blow 32 = .ok (.aload_n 2, 1) := by decide +kernel
theorem dX5_blow_33 : decode cX5_blow 33 = .ok (.iconst 0, 1) := by decide +kernel
theorem dX5_blow_34 : decode cX5_blow 34 = .ok (.putfield 80, 3) := by decide +kernel
theorem dX5_blow_37 : decode cX5_blow 37 = .ok (.aload_n 0, 1) := by decide +kernel
theorem dX5_blow_38 : decode cX5_blow 38 = .ok (.getfield 39, 3) := by decide +kernel
theorem dX5_blow_41 : decode cX5_blow 41 = .ok (.iconst 1, 1) := by decide +kernel
theorem dX5_blow_42 : decode cX5_blow 42 = .ok (.iload_n 1, 1) := by decide +kernel
theorem dX5_blow_43 : decode cX5_blow 43 = .ok (.aload_n 0, 1) := by decide +kernel
theorem dX5_blow_44 : decode cX5_blow 44 = .ok (.getfield 56, 3) := by decide +kernel
theorem dX5_blow_47 : decode cX5_blow 47 = .ok (.invokevirtual 87, 3) := by decide +kernel
theorem dX5_blow_50 : decode cX5_blow 50 = .ok (.return_, 1) := by decide +kernel
set_option maxRecDepth 20000 in
theorem ggX5_spark_X5_isOpen : GoodIn wsX5_spark wsX5_isOpen := goodIn_r _ [12, 4, 13, 14, 15, 16, 17, 18, 19, 20, 21, 22, 23, 24, 25, 26, 27, 28, 29, 30, 78, 79, 80, 81, 82, 83, 84, 85, 86, 68, 69, 70, 71, 72, 73, 74, 75, 76, 77] (by decide +kernel) (by decide +kernel)
set_option maxRecDepth 20000 in
theorem gX5_spark_X5_isOpen : GoodIn wsX5_spark (wsV RX5 132 RX5 yX5_isOpen wsX5_isOpen) := goodIn_app (goodIn_of _ (by decide +kernel)) ggX5_spark_X5_isOpen
set_option maxRecDepth 20000 in
theorem ggX5_spark_X0_strength : GoodIn wsX5_spark wsX0_strength := goodIn_r _ [34, 35, 28, 36, 37, 38, 25, 39, 40, 19, 20, 21, 68, 69, 70, 71, 72, 73, 74, 75, 76, 77] (by decide +kernel) (by decide +kernel)
set_option maxRecDepth 20000 in
theorem gX5_spark_X0_strength : GoodIn wsX5_spark (wsV RX5 137 RX0 yX0_strength wsX0_strength) := goodIn_app (goodIn_of _ (by decide +kernel)) ggX5_spark_X0_strength
set_option maxRecDepth 20000 in
theorem ggX5_spark_X5_kindle : GoodIn wsX5_spark wsX5_kindle := goodIn_r _ [44, 1, 3, 6, 7, 45, 46, 47, 48, 49, 50, 51, 52, 53, 54, 55, 56, 57, 58, 59, 60, 61, 62, 63, 64, 65, 66, 20, 67, 68, 69, 70, 71, 72, 73, 74, 75, 76, 77, 78, 79, 80, 81, 82, 83, 84, 85, 87, 88, 89, 90, 91] (by decide +kernel) (by decide +kernel)
end
section
set_option maxRecDepth 20000 in
theorem gX5_spark_X5_kindle : GoodIn wsX5_spark (wsV RX5 140 RX5 yX5_kindle wsX5_kindle) := goodIn_app (goodIn_of _ (by decide +kernel)) ggX5_spark_X5_kindle
set_option maxRecDepth 20000 in
theorem ggX5_spark_X4_valueOf : GoodIn wsX5_spark wsX4_valueOf := goodIn_r _ [17, 18, 19, 20, 21, 86] (by decide +kernel) (by decide +kernel)
set_option maxRecDepth 20000 in
theorem gX5_spark_X4_valueOf : GoodIn wsX5_spark (wsV RX5 69 RX4 yX4_valueOf wsX4_valueOf) := goodIn_app (goodIn_of _ (by decide +kernel)) ggX5_spark_X4_valueOf
set_option maxRecDepth 20000 in
theorem ggX5_spark_X2_note : GoodIn wsX5_spark wsX2_note := goodIn_r _ [49, 50, 51, 52, 53, 54, 55, 56, 57, 58, 59, 60, 48, 61, 62, 63, 64, 65, 66, 20, 67, 87, 88, 89, 90, 91] (by decide +kernel) (by decide +kernel)
set_option maxRecDepth 20000 in
theorem gX5_spark_X2_note : GoodIn wsX5_spark (wsV RX5 87 RX2 yX2_note wsX2_note) := goodIn_app (goodIn_of _ (by decide +kernel)) ggX5_spark_X2_note
theorem dX5_spark_0 : decode cX5_spark 0 = .ok (.aload_n 2, 1) := by decide +kernel
theorem dX5_spark_1 : decode cX5_spark 1 = .ok (.getfield 80, 3) := by decide +kernel
theorem dX5_spark_4 : decode cX5_spark 4 = .ok (.ifCond .ne 18, 3) := by decide +kernel
theorem dX5_spark_7 : decode cX5_spark 7 = .ok (.aload_n 2, 1) := by decide +kernel
theorem dX5_spark_8 : decode cX5_spark 8 = .ok (.getfield 123, 3) := by decide +kernel
theorem dX5_spark_11 : decode cX5_spark 11 = .ok (.ifCond .eq 11, 3) := by decide +kernel
theorem dX5_spark_14 : decode cX5_spark 14 = .ok (.aload_n 0, 1) := by decide +kernel
theorem dX5_spark_15 : decode cX5_spark 15 = .ok (.aload_n 2, 1) := by decide +kernel
theorem dX5_spark_16 : decode cX5_spark 16 = .ok (.invokevirtual 132, 3) := by decide +kernel
theorem dX5_spark_19 : decode cX5_spark 19 = .ok (.ifCond .ne 4, 3) := by decide +kernel
theorem dX5_spark_22 : decode cX5_spark 22 = .ok (.return_, 1) := by decide +kernel
theorem dX5_spark_23 : decode cX5_spark 23 = .ok (.aload_n 2, 1) := by decide +kernel
theorem dX5_spark_24 : decode cX5_spark 24 = .ok (.dup, 1) := by decide +kernel
theorem dX5_spark_25 : decode cX5_spark 25 = .ok (.getfield 84, 3) := by decide +kernel
theorem dX5_spark_28 : decode cX5_spark 28 = .ok (.iconst 1, 1) := by decide +kernel
theorem dX5_spark_29 : decode cX5_spark 29 = .ok (.iadd, 1) := by decide +kernel
theorem dX5_spark_30 : decode cX5_spark 30 = .ok (.putfield 84, 3) := by decide +kernel
theorem dX5_spark_33 : decode cX5_spark 33 = .ok (.iload_n 3, 1) := by decide +kernel
theorem dX5_spark_34 : decode cX5_spark 34 = .ok (.aload_n 2, 1) := by decide +kernel
theorem dX5_spark_35 : decode cX5_spark 35 = .ok (.invokevirtual 137, 3) := by decide +kernel
theorem dX5_spark_38 : decode cX5_spark 38 = .ok (.if_icmp .gt 12, 3) := by decide +kernel
theorem dX5_spark_41 : decode cX5_spark 41 = .ok (.aload_n 0, 1) := by decide +kernel
theorem dX5_spark_42 : decode cX5_spark 42 = .ok (.iload_n 1, 1) := by decide +kernel
theorem dX5_spark_43 : decode cX5_spark 43 = .ok (.aload_n 2, 1) := by decide +kernel
theorem dX5_spark_44 : decode cX5_spark 44 = .ok (.invokevirtual 140, 3) := by decide +kernel
theorem dX5_spark_47 : decode cX5_spark 47 = .ok (.goto 36, 3) := by decide +kernel
theorem dX5_spark_50 : decode cX5_spark 50 = .ok (.aload_n 2, 1) := by decide +kernel
theorem dX5_spark_51 : decode cX5_spark 51 = .ok (.getfield 84, 3) := by decide +kernel
theorem dX5_spark_54 : decode cX5_spark 54 = .ok (.aload_n 0, 1) := by decide +kernel
theorem dX5_spark_55 : decode cX5_spark 55 = .ok (.getfield 10, 3) := by decide +kernel
theorem dX5_spark_58 : decode cX5_spark 58 = .ok (.iconst 1, 1) := by decide +kernel
theorem dX5_spark_59 : decode cX5_spark 59 = .ok (.invokevirtual 69, 3) := by decide +kernel
theorem dX5_spark_62 : decode cX5_spark 62 = .ok (.if_icmp .lt 21, 3) := by decide +kernel
theorem dX5_spark_65 : decode cX5_spark 65 = .ok (.aload_n 2, 1) := by decide +kernel
theorem dX5_spark_66 : decode cX5_spark 66 = .ok (.iconst 1, 1) := by decide +kernel
theorem dX5_spark_67 : decode cX5_spark 67 = .ok (.putfield 134, 3) := by decide +kernel
theorem dX5_spark_70 : decode cX5_spark 70 = .ok (.aload_n 0, 1) := by decide +kernel
theorem dX5_spark_71 : decode cX5_spark 71 = .ok (.getfield 39, 3) := by decide +kernel
theorem dX5_spark_74 : decode cX5_spark 74 = .ok (.iconst 3, 1) := by decide +kernel
theorem dX5_spark_75 : decode cX5_spark 75 = .ok (.iload_n 1, 1) := by decide +kernel
theorem dX5_spark_76 : decode cX5_spark 76 = .ok (.aload_n 0, 1) := by decide +kernel
theorem dX5_spark_77 : decode cX5_spark 77 = .ok (.getfield 56, 3) := by decide +kernel
theorem dX5_spark_80 : decode cX5_spark 80 = .ok (.invokevirtual 87, 3) := by decide +kernel
theorem dX5_spark_83 : decode cX5_spark 83 = .ok (.return_, 1) := by decide +kernel
set_option maxRecDepth 20000 in
theorem ggX5_warmOrDrop_X5_isOpen : GoodIn wsX5_warmOrDrop wsX5_isOpen := goodIn_r _ [8, 9, 10, 11, 12, 13, 14, 15, 16, 17, 18, 19, 20, 21, 22, 23, 24, 25, 26, 27, 89, 90, 91, 92, 93, 94, 95, 96, 97, 79, 80, 81, 82, 83, 84, 85, 86, 87, 88] (by decide +kernel) (by decide +kernel)
set_option maxRecDepth 20000 in
theorem gX5_warmOrDrop_X5_isOpen : GoodIn wsX5_warmOrDrop (wsV RX5 132 RX5 yX5_isOpen wsX5_isOpen) := goodIn_app (goodIn_of _ (by decide +kernel)) ggX5_warmOrDrop_X5_isOpen
set_option maxRecDepth 20000 in
theorem ggX5_warmOrDrop_X0_warmOrCool : GoodIn wsX5_warmOrDrop wsX0_warmOrCool := goodIn_r _ [31, 27, 32, 25, 33, 34, 35, 22, 36, 37, 38, 39, 40, 41, 42, 16, 17, 18, 43, 44, 45, 46, 47, 48, 49, 50, 51, 52, 53, 54, 55, 56, 57, 58, 79, 80, 81, 82, 83, 84, 85, 86, 87, 88] (by decide +kernel) (by decide +kernel)
set_option maxRecDepth 20000 in
theorem gX5_warmOrDrop_X0_warmOrCool : GoodIn wsX5_warmOrDrop (wsV RX5 143 RX0 yX0_warmOrCool wsX0_warmOrCool) := goodIn_app (goodIn_of _ (by decide +kernel)) ggX5_warmOrDrop_X0_warmOrCool
set_option maxRecDepth 20000 in
theorem ggX5_warmOrDrop_X2_note : GoodIn wsX5_warmOrDrop wsX2_note := goodIn_r _ [63, 64, 65, 66, 67, 68, 49, 50, 51, 69, 70, 71, 62, 72, 73, 74, 75, 76, 77, 17, 78, 98, 99, 100, 101, 102] (by decide +kernel) (by decide +kernel)
set_option maxRecDepth 20000 in
theorem gX5_warmOrDrop_X2_note : GoodIn wsX5_warmOrDrop (wsV RX5 87 RX2 yX2_note wsX2_note) := goodIn_app (goodIn_of _ (by decide +kernel)) ggX5_warmOrDrop_X2_note
theorem dX5_warmOrDrop_0 : decode cX5_warmOrDrop 0 = .ok (.aload_n 0, 1) := by decide +kernel
theorem dX5_warmOrDrop_1 : decode cX5_warmOrDrop 1 = .ok (.aload_n 2, 1) := by decide +kernel
theorem dX5_warmOrDrop_2 : decode cX5_warmOrDrop 2 = .ok (.invokevirtual 132, 3) := by decide +kernel
theorem dX5_warmOrDrop_5 : decode cX5_warmOrDrop 5 = .ok (.istore_n 3, 1) := by decide +kernel
theorem dX5_warmOrDrop_6 : decode cX5_warmOrDrop 6 = .ok (.aload_n 2, 1) := by decide +kernel
theorem dX5_warmOrDrop_7 : decode cX5_warmOrDrop 7 = .ok (.invokevirtual 143, 3) := by decide +kernel
theorem dX5_warmOrDrop_10 : decode cX5_warmOrDrop 10 = .ok (.iload_n 3, 1) := by decide +kernel
theorem dX5_warmOrDrop_11 : decode cX5_warmOrDrop 11 = .ok (.ifCond .eq 29, 3) := by decide +kernel
theorem dX5_warmOrDrop_14 : decode cX5_warmOrDrop 14 = .ok (.aload_n 0, 1) := by decide +kernel
theorem dX5_warmOrDrop_15 : decode cX5_warmOrDrop 15 = .ok (.aload_n 2, 1) := by decide +kernel
theorem dX5_warmOrDrop_16 : decode cX5_warmOrDrop 16 = .ok (.invokevirtual 132, 3) := by decide +kernel
theorem dX5_warmOrDrop_19 : decode cX5_warmOrDrop 19 = .ok (.ifCond .ne 21, 3) := by decide +kernel
theorem dX5_warmOrDrop_22 : decode cX5_warmOrDrop 22 = .ok (.aload_n 2, 1) := by decide +kernel
theorem dX5_warmOrDrop_23 : decode cX5_warmOrDrop 23 = .ok (.iconst 0, 1) := by decide +kernel
theorem dX5_warmOrDrop_24 : decode cX5_warmOrDrop 24 = .ok (.putfield 80, 3) := by decide +kernel
theorem dX5_warmOrDrop_27 : decode cX5_warmOrDrop 27 = .ok (.aload_n 0, 1) := by decide +kernel
theorem dX5_warmOrDrop_28 : decode cX5_warmOrDrop 28 = .ok (.getfield 39, 3) := by decide +kernel
theorem dX5_warmOrDrop_31 : decode cX5_warmOrDrop 31 = .ok (.iconst 2, 1) := by decide +kernel
theorem dX5_warmOrDrop_32 : decode cX5_warmOrDrop 32 = .ok (.iload_n 1, 1) := by decide +kernel
theorem dX5_warmOrDrop_33 : decode cX5_warmOrDrop 33 = .ok (.aload_n 0, 1) := by decide +kernel
theorem dX5_warmOrDrop_34 : decode cX5_warmOrDrop 34 = .ok (.getfield 56, 3) := by decide +kernel
theorem dX5_warmOrDrop_37 : decode cX5_warmOrDrop 37 = .ok (.invokevirtual 87, 3) := by decide +kernel
theorem dX5_warmOrDrop_40 : decode cX5_warmOrDrop 40 = .ok (.return_, 1) := by decide +kernel
set_option maxRecDepth 20000 in
theorem ggX5_flow_X5_flowsUnburnt : GoodIn wsX5_flow wsX5_flowsUnburnt := goodIn_r _ [13, 14, 15, 16, 17, 12, 18, 19, 20, 21, 22, 23, 24, 25, 26, 27, 28, 29, 30, 31, 32, 33, 34, 35, 36, 37, 48, 49, 50, 51, 52, 53, 54, 55, 56, 57, 58, 59, 60, 61, 62, 63, 64, 65, 66] (by decide +kernel) (by decide +kernel)
set_option maxRecDepth 20000 in
theorem gX5_flow_X5_flowsUnburnt : GoodIn wsX5_flow (wsV RX5 119 RX5 yX5_flowsUnburnt wsX5_flowsUnburnt) := goodIn_app (goodIn_of _ (by decide +kernel)) ggX5_flow_X5_flowsUnburnt
set_option maxRecDepth 20000 in
theorem ggX5_flow_X0_flow : GoodIn wsX5_flow wsX0_flow := goodIn_r _ [41, 42, 35, 43, 44, 45, 32, 46, 47, 26, 27, 28, 48, 49, 50, 51, 52, 53, 54, 55, 56, 57] (by decide +kernel) (by decide +kernel)
set_option maxRecDepth 20000 in
theorem gX5_flow_X0_flow : GoodIn wsX5_flow (wsV RX5 149 RX0 yX0_flow wsX0_flow) := goodIn_app (goodIn_of _ (by decide +kernel)) ggX5_flow_X0_flow
theorem dX5_flow_0 : decode cX5_flow 0 = .ok (.aload_n 0, 1) := by decide +kernel
theorem dX5_flow_1 : decode cX5_flow 1 = .ok (.aload_n 1, 1) := by decide +kernel
theorem dX5_flow_2 : decode cX5_flow 2 = .ok (.invokevirtual 119, 3) := by decide +kernel
theorem dX5_flow_5 : decode cX5_flow 5 = .ok (.ifCond .ne 9, 3) := by decide +kernel
theorem dX5_flow_8 : decode cX5_flow 8 = .ok (.aload_n 1, 1) := by decide +kernel
theorem dX5_flow_9 : decode cX5_flow 9 = .ok (.iconst 0, 1) := by decide +kernel
theorem dX5_flow_10 : decode cX5_flow 10 = .ok (.putfield 146, 3) := by decide +kernel
theorem dX5_flow_13 : decode cX5_flow 13 = .ok (.return_, 1) := by decide +kernel
theorem dX5_flow_14 : decode cX5_flow 14 = .ok (.aload_n 0, 1) := by decide +kernel
theorem dX5_flow_15 : decode cX5_flow 15 = .ok (.dup, 1) := by decide +kernel
theorem dX5_flow_16 : decode cX5_flow 16 = .ok (.getfield 60, 3) := by decide +kernel
theorem dX5_flow_19 : decode cX5_flow 19 = .ok (.aload_n 1, 1) := by decide +kernel
theorem dX5_flow_20 : decode cX5_flow 20 = .ok (.invokevirtual 149, 3) := by decide +kernel
theorem dX5_flow_23 : decode cX5_flow 23 = .ok (.iadd, 1) := by decide +kernel
theorem dX5_flow_24 : decode cX5_flow 24 = .ok (.putfield 60, 3) := by decide +kernel
theorem dX5_flow_27 : decode cX5_flow 27 = .ok (.aload_n 1, 1) := by decide +kernel
theorem dX5_flow_28 : decode cX5_flow 28 = .ok (.dup, 1) := by decide +kernel
theorem dX5_flow_29 : decode cX5_flow 29 = .ok (.getfield 151, 3) := by decide +kernel
theorem dX5_flow_32 : decode cX5_flow 32 = .ok (.aload_n 1, 1) := by decide +kernel
theorem dX5_flow_33 : decode cX5_flow 33 = .ok (.invokevirtual 149, 3) := by decide +kernel
theorem dX5_flow_36 : decode cX5_flow 36 = .ok (.iadd, 1) := by decide +kernel
theorem dX5_flow_37 : decode cX5_flow 37 = .ok (.putfield 151, 3) := by decide +kernel
theorem dX5_flow_40 : decode cX5_flow 40 = .ok (.aload_n 1, 1) := by decide +kernel
theorem dX5_flow_41 : decode cX5_flow 41 = .ok (.dup, 1) := by decide +kernel
theorem dX5_flow_42 : decode cX5_flow 42 = .ok (.getfield 146, 3) := by decide +kernel
theorem dX5_flow_45 : decode cX5_flow 45 = .ok (.iconst 1, 1) := by decide +kernel
theorem dX5_flow_46 : decode cX5_flow 46 = .ok (.iadd, 1) := by decide +kernel
theorem dX5_flow_47 : decode cX5_flow 47 = .ok (.putfield 146, 3) := by decide +kernel
theorem dX5_flow_50 : decode cX5_flow 50 = .ok (.aload_n 0, 1) := by decide +kernel
theorem dX5_flow_51 : decode cX5_flow 51 = .ok (.aload_n 0, 1) := by decide +kernel
theorem dX5_flow_52 : decode cX5_flow 52 = .ok (.getfield 66, 3) := by decide +kernel
theorem dX5_flow_55 : decode cX5_flow 55 = .ok (.aload_n 1, 1) := by decide +kernel
theorem dX5_flow_56 : decode cX5_flow 56 = .ok (.getfield 146, 3) := by decide +kernel
theorem dX5_flow_59 : decode cX5_flow 59 = .ok (.invokestatic 113, 3) := by decide +kernel
theorem dX5_flow_62 : decode cX5_flow 62 = .ok (.putfield 66, 3) := by decide +kernel
theorem dX5_flow_65 : decode cX5_flow 65 = .ok (.return_, 1) := by decide +kernel
set_option maxRecDepth 20000 in
theorem ggX5_flowsUnburnt_X5_isOpen : GoodIn wsX5_flowsUnburnt wsX5_isOpen := goodIn_r _ [6, 7, 8, 9, 10, 11, 12, 13, 14, 15, 16, 17, 18, 19, 20, 21, 22, 23, 24, 25, 36, 37, 38, 39, 40, 41, 42, 43, 44, 26, 27, 28, 29, 30, 31, 32, 33, 34, 35] (by decide +kernel) (by decide +kernel)
set_option maxRecDepth 20000 in
theorem gX5_flowsUnburnt_X5_isOpen : GoodIn wsX5_flowsUnburnt (wsV RX5 132 RX5 yX5_isOpen wsX5_isOpen) := goodIn_app (goodIn_of _ (by decide +kernel)) ggX5_flowsUnburnt_X5_isOpen
theorem dX5_flowsUnburnt_0 : decode cX5_flowsUnburnt 0 = .ok (.aload_n 0, 1) := by decide +kernel
theorem dX5_flowsUnburnt_1 : decode cX5_flowsUnburnt 1 = .ok (.aload_n 1, 1) := by decide +kernel
theorem dX5_flowsUnburnt_2 : decode cX5_flowsUnburnt 2 = .ok (.invokevirtual 132, 3) := by decide +kernel
theorem dX5_flowsUnburnt_5 : decode cX5_flowsUnburnt 5 = .ok (.ifCond .eq 14, 3) := by decide +kernel
theorem dX5_flowsUnburnt_8 : decode cX5_flowsUnburnt 8 = .ok (.aload_n 1, 1) := by decide +kernel
theorem dX5_flowsUnburnt_9 : decode cX5_flowsUnburnt 9 = .ok (.getfield 80, 3) := by decide +kernel
theorem dX5_flowsUnburnt_12 : decode cX5_flowsUnburnt 12 = .ok (.ifCond .ne 7, 3) := by decide +kernel
theorem dX5_flowsUnburnt_15 : decode cX5_flowsUnburnt 15 = .ok (.iconst 1, 1) := by decide +kernel
theorem dX5_flowsUnburnt_16 : decode cX5_flowsUnburnt 16 = .ok (.goto 4, 3) := by decide +kernel
theorem dX5_flowsUnburnt_19 : decode cX5_flowsUnburnt 19 = .ok (.iconst 0, 1) := by decide +kernel
theorem dX5_flowsUnburnt_20 : decode cX5_flowsUnburnt 20 = .ok (.ireturn, 1) := by decide +kernel
theorem dX6_init_0 : decode cX6_init 0 = .ok (.aload_n 0, 1) := by decide +kernel
theorem dX6_init_1 : decode cX6_init 1 = .ok (.invokespecial 1, 3) := by decide +kernel
theorem dX6_init_4 : decode cX6_init 4 = .ok (.aload_n 0, 1) := by decide +kernel
theorem dX6_init_5 : decode cX6_init 5 = .ok (.bipush 60, 2) := by decide +kernel
theorem dX6_init_7 : decode cX6_init 7 = .ok (.newarray .char, 2) := by decide +kernel
theorem dX6_init_9 : decode cX6_init 9 = .ok (.putfield 9, 3) := by decide +kernel
theorem dX6_init_12 : decode cX6_init 12 = .ok (.aload_n 0, 1) := by decide +kernel
theorem dX6_init_13 : decode cX6_init 13 = .ok (.iconst 0, 1) := by decide +kernel
theorem dX6_init_14 : decode cX6_init 14 = .ok (.putfield 13, 3) := by decide +kernel
theorem dX6_init_17 : decode cX6_init 17 = .ok (.return_, 1) := by decide +kernel
theorem dX6_append_0 : decode cX6_append 0 = .ok (.aload_n 0, 1) := by decide +kernel
theorem dX6_append_1 : decode cX6_append 1 = .ok (.getfield 13, 3) := by decide +kernel
theorem dX6_append_4 : decode cX6_append 4 = .ok (.ifCond .lt 12, 3) := by decide +kernel
theorem dX6_append_7 : decode cX6_append 7 = .ok (.aload_n 0, 1) := by decide +kernel
theorem dX6_append_8 : decode cX6_append 8 = .ok (.getfield 13, 3) := by decide +kernel
theorem dX6_append_11 : decode cX6_append 11 = .ok (.bipush 60, 2) := by decide +kernel
theorem dX6_append_13 : decode cX6_append 13 = .ok (.if_icmp .lt 5, 3) := by decide +kernel
theorem dX6_append_16 : decode cX6_append 16 = .ok (.iconst 0, 1) := by decide +kernel
theorem dX6_append_17 : decode cX6_append 17 = .ok (.ireturn, 1) := by decide +kernel
theorem dX6_append_18 : decode cX6_append 18 = .ok (.aload_n 0, 1) := by decide +kernel
theorem dX6_append_19 : decode cX6_append 19 = .ok (.getfield 9, 3) := by decide +kernel
theorem dX6_append_22 : decode cX6_append 22 = .ok (.aload_n 0, 1) := by decide +kernel
theorem dX6_append_23 : decode cX6_append 23 = .ok (.getfield 13, 3) := by decide +kernel
theorem dX6_append_26 : decode cX6_append 26 = .ok (.iload_n 1, 1) := by decide +kernel
theorem dX6_append_27 : decode cX6_append 27 = .ok (.castore, 1) := by decide +kernel
theorem dX6_append_28 : decode cX6_append 28 = .ok (.aload_n 0, 1) := by decide +kernel
theorem dX6_append_29 : decode cX6_append 29 = .ok (.dup, 1) := by decide +kernel
theorem dX6_append_30 : decode cX6_append 30 = .ok (.getfield 13, 3) := by decide +kernel
theorem dX6_append_33 : decode cX6_append 33 = .ok (.iconst 1, 1) := by decide +kernel
theorem dX6_append_34 : decode cX6_append 34 = .ok (.iadd, 1) := by decide +kernel
theorem dX6_append_35 : decode cX6_append 35 = .ok (.putfield 13, 3) := by decide +kernel
theorem dX6_append_38 : decode cX6_append 38 = .ok (.iconst 1, 1) := by decide +kernel
theorem dX6_append_39 : decode cX6_append 39 = .ok (.ireturn, 1) := by decide +kernel
theorem dX6_empty_0 : decode cX6_empty 0 = .ok (.aload_n 0, 1) := by decide +kernel
theorem dX6_empty_1 : decode cX6_empty 1 = .ok (.iconst 0, 1) := by decide +kernel
theorem dX6_empty_2 : decode cX6_empty 2 = .ok (.putfield 13, 3) := by decide +kernel
theorem dX6_empty_5 : decode cX6_empty 5 = .ok (.return_, 1) := by decide +kernel
set_option maxRecDepth 20000 in
theorem ggX6_fault_X6_placeAfter : GoodIn wsX6_fault wsX6_placeAfter := goodIn_r _ [6, 7, 8, 5, 9] (by decide +kernel) (by decide +kernel)
set_option maxRecDepth 20000 in
theorem gX6_fault_X6_placeAfter : GoodIn wsX6_fault (va_wsS RX6 17 yX6_placeAfter wsX6_placeAfter) := goodIn_app (goodIn_of _ (by decide +kernel)) ggX6_fault_X6_placeAfter
theorem dX6_fault_0 : decode cX6_fault 0 = .ok (.iconst 0, 1) := by decide +kernel
theorem dX6_fault_1 : decode cX6_fault 1 = .ok (.istore_n 1, 1) := by decide +kernel
theorem dX6_fault_2 : decode cX6_fault 2 = .ok (.iconst 0, 1) := by decide +kernel
theorem dX6_fault_3 : decode cX6_fault 3 = .ok (.istore_n 2, 1) := by decide +kernel
theorem dX6_fault_4 : decode cX6_fault 4 = .ok (.iload_n 2, 1) := by decide +kernel
theorem dX6_fault_5 : decode cX6_fault 5 = .ok (.aload_n 0, 1) := by decide +kernel
theorem dX6_fault_6 : decode cX6_fault 6 = .ok (.getfield 13, 3) := by decide +kernel
theorem dX6_fault_9 : decode cX6_fault 9 = .ok (.if_icmp .ge 34, 3) := by decide +kernel
theorem dX6_fault_12 : decode cX6_fault 12 = .ok (.iload_n 2, 1) := by decide +kernel
theorem dX6_fault_13 : decode cX6_fault 13 = .ok (.bipush 60, 2) := by decide +kernel
theorem dX6_fault_15 : decode cX6_fault 15 = .ok (.if_icmp .ge 28, 3) := by decide +kernel
theorem dX6_fault_18 : decode cX6_fault 18 = .ok (.iload_n 1, 1) := by decide +kernel
theorem dX6_fault_19 : decode cX6_fault 19 = .ok (.aload_n 0, 1) := by decide +kernel
theorem dX6_fault_20 : decode cX6_fault 20 = .ok (.getfield 9, 3) := by decide +kernel
theorem dX6_fault_23 : decode cX6_fault 23 = .ok (.iload_n 2, 1) := by decide +kernel
theorem dX6_fault_24 : decode cX6_fault 24 = .ok (.caload, 1) := by decide +kernel
theorem dX6_fault_25 : decode cX6_fault 25 = .ok (.invokestatic 17, 3) := by decide +kernel
theorem dX6_fault_28 : decode cX6_fault 28 = .ok (.istore_n 1, 1) := by decide +kernel
theorem dX6_fault_29 : decode cX6_fault 29 = .ok (.iload_n 1, 1) := by decide +kernel
theorem dX6_fault_30 : decode cX6_fault 30 = .ok (.bipush 7, 2) := by decide +kernel
theorem dX6_fault_32 : decode cX6_fault 32 = .ok (.if_icmp .ne 5, 3) := by decide +kernel
theorem dX6_fault_35 : decode cX6_fault 35 = .ok (.iload_n 2, 1) := by decide +kernel
theorem dX6_fault_36 : decode cX6_fault 36 = .ok (.ireturn, 1) := by decide +kernel
theorem dX6_fault_37 : decode cX6_fault 37 = .ok (.iinc 2 1, 3) := by decide +kernel
theorem dX6_fault_40 : decode cX6_fault 40 = .ok (.goto (-36), 3) := by decide +kernel
theorem dX6_fault_43 : decode cX6_fault 43 = .ok (.iload_n 1, 1) := by decide +kernel
theorem dX6_fault_44 : decode cX6_fault 44 = .ok (.bipush 6, 2) := by decide +kernel
theorem dX6_fault_46 : decode cX6_fault 46 = .ok (.if_icmp .ne 7, 3) := by decide +kernel
theorem dX6_fault_49 : decode cX6_fault 49 = .ok (.iconst (-1), 1) := by decide +kernel
theorem dX6_fault_50 : decode cX6_fault 50 = .ok (.goto 7, 3) := by decide +kernel
theorem dX6_fault_53 : decode cX6_fault 53 = .ok (.aload_n 0, 1) := by decide +kernel
theorem dX6_fault_54 : decode cX6_fault 54 = .ok (.getfield 13, 3) := by decide +kernel
theorem dX6_fault_57 : decode cX6_fault 57 = .ok (.ireturn, 1) := by decide +kernel
set_option maxRecDepth 20000 in
theorem ggX6_readInto_X3_clear : GoodIn wsX6_readInto wsX3_clear := goodIn_r _ [7, 8, 29, 30, 31] (by decide +kernel) (by decide +kernel)
set_option maxRecDepth 20000 in
theorem gX6_readInto_X3_clear : GoodIn wsX6_readInto (wsV RX6 21 RX3 yX3_clear wsX3_clear) := goodIn_app (goodIn_of _ (by decide +kernel)) ggX6_readInto_X3_clear
set_option maxRecDepth 20000 in
theorem ggX6_readInto_X3_put : GoodIn wsX6_readInto wsX3_put := goodIn_r _ [12, 8, 13, 14, 15, 16, 17, 6, 18, 19, 20, 21, 22, 23, 24, 25, 26, 29, 30, 31] (by decide +kernel) (by decide +kernel)
set_option maxRecDepth 20000 in
theorem gX6_readInto_X3_put : GoodIn wsX6_readInto (wsV RX6 26 RX3 yX3_put wsX3_put) := goodIn_app (goodIn_of _ (by decide +kernel)) ggX6_readInto_X3_put
theorem dX6_readInto_0 : decode cX6_readInto 0 = .ok (.aload_n 1, 1) := by decide +kernel
theorem dX6_readInto_1 : decode cX6_readInto 1 = .ok (.invokevirtual 21, 3) := by decide +kernel
theorem dX6_readInto_4 : decode cX6_readInto 4 = .ok (.iconst 0, 1) := by decide +kernel
theorem dX6_readInto_5 : decode cX6_readInto 5 = .ok (.istore_n 2, 1) := by decide +kernel
theorem dX6_readInto_6 : decode cX6_readInto 6 = .ok (.iconst 0, 1) := by decide +kernel
theorem dX6_readInto_7 : decode cX6_readInto 7 = .ok (.istore_n 3, 1) := by decide +kernel
theorem dX6_readInto_8 : decode cX6_readInto 8 = .ok (.iconst 0, 1) := by decide +kernel
theorem dX6_readInto_9 : decode cX6_readInto 9 = .ok (.istore 4, 2) := by decide +kernel
theorem dX6_readInto_11 : decode cX6_readInto 11 = .ok (.iload 4, 2) := by decide +kernel
theorem dX6_readInto_13 : decode cX6_readInto 13 = .ok (.aload_n 0, 1) := by decide +kernel
theorem dX6_readInto_14 : decode cX6_readInto 14 = .ok (.getfield 13, 3) := by decide +kernel
theorem dX6_readInto_17 : decode cX6_readInto 17 = .ok (.if_icmp .ge 84, 3) := by decide +kernel
theorem dX6_readInto_20 : decode cX6_readInto 20 = .ok (.iload 4, 2) := by decide +kernel
theorem dX6_readInto_22 : decode cX6_readInto 22 = .ok (.bipush 60, 2) := by decide +kernel
theorem dX6_readInto_24 : decode cX6_readInto 24 = .ok (.if_icmp .ge 77, 3) := by decide +kernel
theorem dX6_readInto_27 : decode cX6_readInto 27 = .ok (.aload_n 0, 1) := by decide +kernel
theorem dX6_readInto_28 : decode cX6_readInto 28 = .ok (.getfield 9, 3) := by decide +kernel
theorem dX6_readInto_31 : decode cX6_readInto 31 = .ok (.iload 4, 2) := by decide +kernel
theorem dX6_readInto_33 : decode cX6_readInto 33 = .ok (.caload, 1) := by decide +kernel
theorem dX6_readInto_34 : decode cX6_readInto 34 = .ok (.istore 5, 2) := by decide +kernel
theorem dX6_readInto_36 : decode cX6_readInto 36 = .ok (.iload 5, 2) := by decide +kernel
theorem dX6_readInto_38 : decode cX6_readInto 38 = .ok (.bipush 58, 2) := by decide +kernel
theorem dX6_readInto_40 : decode cX6_readInto 40 = .ok (.if_icmp .ne 8, 3) := by decide +kernel
theorem dX6_readInto_43 : decode cX6_readInto 43 = .ok (.iconst 1, 1) := by decide +kernel
theorem dX6_readInto_44 : decode cX6_readInto 44 = .ok (.istore_n 3, 1) := by decide +kernel
theorem dX6_readInto_45 : decode cX6_readInto 45 = .ok (.goto 50, 3) := by decide +kernel
theorem dX6_readInto_48 : decode cX6_readInto 48 = .ok (.iload 5, 2) := by decide +kernel
theorem dX6_readInto_50 : decode cX6_readInto 50 = .ok (.bipush 44, 2) := by decide +kernel
theorem dX6_readInto_52 : decode cX6_readInto 52 = .ok (.if_icmp .ne 10, 3) := by decide +kernel
theorem dX6_readInto_55 : decode cX6_readInto 55 = .ok (.iconst 0, 1) := by decide +kernel
theorem dX6_readInto_56 : decode cX6_readInto 56 = .ok (.istore_n 3, 1) := by decide +kernel
theorem dX6_readInto_57 : decode cX6_readInto 57 = .ok (.iconst 0, 1) := by decide +kernel
theorem dX6_readInto_58 : decode cX6_readInto 58 = .ok (.istore_n 2, 1) := by decide +kernel
theorem dX6_readInto_59 : decode cX6_readInto 59 = .ok (.goto 36, 3) := by decide +kernel
theorem dX6_readInto_62 : decode cX6_readInto 62 = .ok (.iload_n 3, 1) := by decide +kernel
theorem dX6_readInto_63 : decode cX6_readInto 63 = .ok (.ifCond .ne 17, 3) := by decide +kernel
theorem dX6_readInto_66 : decode cX6_readInto 66 = .ok (.iload_n 2, 1) := by decide +kernel
theorem dX6_readInto_67 : decode cX6_readInto 67 = .ok (.bipush 10, 2) := by decide +kernel
theorem dX6_readInto_69 : decode cX6_readInto 69 = .ok (.imul, 1) := by decide +kernel
theorem dX6_readInto_70 : decode cX6_readInto 70 = .ok (.iload 5, 2) := by decide +kernel
theorem dX6_readInto_72 : decode cX6_readInto 72 = .ok (.bipush 48, 2) := by decide +kernel
theorem dX6_readInto_74 : decode cX6_readInto 74 = .ok (.isub, 1) := by decide +kernel
theorem dX6_readInto_75 : decode cX6_readInto 75 = .ok (.iadd, 1) := by decide +kernel
theorem dX6_readInto_76 : decode cX6_readInto 76 = .ok (.istore_n 2, 1) := by decide +kernel
theorem dX6_readInto_77 : decode cX6_readInto 77 = .ok (.goto 18, 3) := by decide +kernel
theorem dX6_readInto_80 : decode cX6_readInto 80 = .ok (.aload_n 1, 1) := by decide +kernel
theorem dX6_readInto_81 : decode cX6_readInto 81 = .ok (.iload_n 2, 1) := by decide +kernel
theorem dX6_readInto_82 : decode cX6_readInto 82 = .ok (.iload 5, 2) := by decide +kernel
theorem dX6_readInto_84 : decode cX6_readInto 84 = .ok (.bipush 48, 2) := by decide +kernel
theorem dX6_readInto_86 : decode cX6_readInto 86 = .ok (.isub, 1) := by decide +kernel
theorem dX6_readInto_87 : decode cX6_readInto 87 = .ok (.invokevirtual 26, 3) := by decide +kernel
theorem dX6_readInto_90 : decode cX6_readInto 90 = .ok (.ifCond .ne 5, 3) := by decide +kernel
theorem dX6_readInto_93 : decode cX6_readInto 93 = .ok (.iconst 0, 1) := by decide +kernel
theorem dX6_readInto_94 : decode cX6_readInto 94 = .ok (.ireturn, 1) := by decide +kernel
theorem dX6_readInto_95 : decode cX6_readInto 95 = .ok (.iinc 4 1, 3) := by decide +kernel
theorem dX6_readInto_98 : decode cX6_readInto 98 = .ok (.goto (-87), 3) := by decide +kernel
theorem dX6_readInto_101 : decode cX6_readInto 101 = .ok (.iconst 1, 1) := by decide +kernel
theorem dX6_readInto_102 : decode cX6_readInto 102 = .ok (.ireturn, 1) := by decide +kernel
set_option maxRecDepth 20000 in
theorem ggX6_placeAfter_X6_isDigit : GoodIn wsX6_placeAfter wsX6_isDigit := goodIn_r _ [4] (by decide +kernel) (by decide +kernel)
set_option maxRecDepth 20000 in
theorem gX6_placeAfter_X6_isDigit : GoodIn wsX6_placeAfter (va_wsS RX6 30 yX6_isDigit wsX6_isDigit) := goodIn_app (goodIn_of _ (by decide +kernel)) ggX6_placeAfter_X6_isDigit
theorem dX6_placeAfter_0 : decode cX6_placeAfter 0 = .ok (.iload_n 0, 1) := by decide +kernel
theorem dX6_placeAfter_1 : decode cX6_placeAfter 1 = .ok (.tableswitch 130 0 6 #[43, 65, 65, 65, 89, 102, 117], 43) := by decide +kernel
theorem dX6_placeAfter_44 : decode cX6_placeAfter 44 = .ok (.iload_n 1, 1) := by decide +kernel
theorem dX6_placeAfter_45 : decode cX6_placeAfter 45 = .ok (.bipush 48, 2) := by decide +kernel
theorem dX6_placeAfter_47 : decode cX6_placeAfter 47 = .ok (.if_icmp .ne 5, 3) := by decide +kernel
theorem dX6_placeAfter_50 : decode cX6_placeAfter 50 = .ok (.iconst 4, 1) := by decide +kernel
theorem dX6_placeAfter_51 : decode cX6_placeAfter 51 = .ok (.ireturn, 1) := by decide +kernel
theorem dX6_placeAfter_52 : decode cX6_placeAfter 52 = .ok (.iload_n 1, 1) := by decide +kernel
theorem dX6_placeAfter_53 : decode cX6_placeAfter 53 = .ok (.invokestatic 30, 3) := by decide +kernel
theorem dX6_placeAfter_56 : decode cX6_placeAfter 56 = .ok (.ifCond .eq 7, 3) := by decide +kernel
theorem dX6_placeAfter_59 : decode cX6_placeAfter 59 = .ok (.iconst 1, 1) := by decide +kernel
theorem dX6_placeAfter_60 : decode cX6_placeAfter 60 = .ok (.goto 5, 3) := by decide +kernel
theorem dX6_placeAfter_63 : decode cX6_placeAfter 63 = .ok (.bipush 7, 2) := by decide +kernel
theorem dX6_placeAfter_65 : decode cX6_placeAfter 65 = .ok (.ireturn, 1) := by decide +kernel
theorem dX6_placeAfter_66 : decode cX6_placeAfter 66 = .ok (.iload_n 1, 1) := by decide +kernel
theorem dX6_placeAfter_67 : decode cX6_placeAfter 67 = .ok (.invokestatic 30, 3) := by decide +kernel
theorem dX6_placeAfter_70 : decode cX6_placeAfter 70 = .ok (.ifCond .eq 7, 3) := by decide +kernel
theorem dX6_placeAfter_73 : decode cX6_placeAfter 73 = .ok (.iload_n 0, 1) := by decide +kernel
theorem dX6_placeAfter_74 : decode cX6_placeAfter 74 = .ok (.iconst 1, 1) := by decide +kernel
theorem dX6_placeAfter_75 : decode cX6_placeAfter 75 = .ok (.iadd, 1) := by decide +kernel
theorem dX6_placeAfter_76 : decode cX6_placeAfter 76 = .ok (.ireturn, 1) := by decide +kernel
theorem dX6_placeAfter_77 : decode cX6_placeAfter 77 = .ok (.iload_n 1, 1) := by decide +kernel
theorem dX6_placeAfter_78 : decode cX6_placeAfter 78 = .ok (.bipush 58, 2) := by decide +kernel
theorem dX6_placeAfter_80 : decode cX6_placeAfter 80 = .ok (.if_icmp .ne 7, 3) := by decide +kernel
theorem dX6_placeAfter_83 : decode cX6_placeAfter 83 = .ok (.iconst 5, 1) := by decide +kernel
theorem dX6_placeAfter_84 : decode cX6_placeAfter 84 = .ok (.goto 5, 3) := by decide +kernel
theorem dX6_placeAfter_87 : decode cX6_placeAfter 87 = .ok (.bipush 7, 2) := by decide +kernel
theorem dX6_placeAfter_89 : decode cX6_placeAfter 89 = .ok (.ireturn, 1) := by decide +kernel
theorem dX6_placeAfter_90 : decode cX6_placeAfter 90 = .ok (.iload_n 1, 1) := by decide +kernel
theorem dX6_placeAfter_91 : decode cX6_placeAfter 91 = .ok (.bipush 58, 2) := by decide +kernel
theorem dX6_placeAfter_93 : decode cX6_placeAfter 93 = .ok (.if_icmp .ne 7, 3) := by decide +kernel
theorem dX6_placeAfter_96 : decode cX6_placeAfter 96 = .ok (.iconst 5, 1) := by decide +kernel
theorem dX6_placeAfter_97 : decode cX6_placeAfter 97 = .ok (.goto 5, 3) := by decide +kernel
theorem dX6_placeAfter_100 : decode cX6_placeAfter 100 = .ok (.bipush 7, 2) := by decide +kernel
theorem dX6_placeAfter_102 : decode cX6_placeAfter 102 = .ok (.ireturn, 1) := by decide +kernel
theorem dX6_placeAfter_103 : decode cX6_placeAfter 103 = .ok (.iload_n 1, 1) := by decide +kernel
theorem dX6_placeAfter_104 : decode cX6_placeAfter 104 = .ok (.invokestatic 30, 3) := by decide +kernel
theorem dX6_placeAfter_107 : decode cX6_placeAfter 107 = .ok (.ifCond .eq 8, 3) := by decide +kernel
theorem dX6_placeAfter_110 : decode cX6_placeAfter 110 = .ok (.bipush 6, 2) := by decide +kernel
theorem dX6_placeAfter_112 : decode cX6_placeAfter 112 = .ok (.goto 5, 3) := by decide +kernel
theorem dX6_placeAfter_115 : decode cX6_placeAfter 115 = .ok (.bipush 7, 2) := by decide +kernel
theorem dX6_placeAfter_117 : decode cX6_placeAfter 117 = .ok (.ireturn, 1) := by decide +kernel
theorem dX6_placeAfter_118 : decode cX6_placeAfter 118 = .ok (.iload_n 1, 1) := by decide +kernel
theorem dX6_placeAfter_119 : decode cX6_placeAfter 119 = .ok (.bipush 44, 2) := by decide +kernel
theorem dX6_placeAfter_121 : decode cX6_placeAfter 121 = .ok (.if_icmp .ne 7, 3) := by decide +kernel
theorem dX6_placeAfter_124 : decode cX6_placeAfter 124 = .ok (.iconst 0, 1) := by decide +kernel
theorem dX6_placeAfter_125 : decode cX6_placeAfter 125 = .ok (.goto 5, 3) := by decide +kernel
theorem dX6_placeAfter_128 : decode cX6_placeAfter 128 = .ok (.bipush 7, 2) := by decide +kernel
theorem dX6_placeAfter_130 : decode cX6_placeAfter 130 = .ok (.ireturn, 1) := by decide +kernel
theorem dX6_placeAfter_131 : decode cX6_placeAfter 131 = .ok (.bipush 7, 2) := by decide +kernel
theorem dX6_placeAfter_133 : decode cX6_placeAfter 133 = .ok (.ireturn, 1) := by decide +kernel
theorem dX6_isDigit_0 : decode cX6_isDigit 0 = .ok (.iload_n 0, 1) := by decide +kernel
theorem dX6_isDigit_1 : decode cX6_isDigit 1 = .ok (.bipush 48, 2) := by decide +kernel
theorem dX6_isDigit_3 : decode cX6_isDigit 3 = .ok (.if_icmp .lt 13, 3) := by decide +kernel
theorem dX6_isDigit_6 : decode cX6_isDigit 6 = .ok (.iload_n 0, 1) := by decide +kernel
theorem dX6_isDigit_7 : decode cX6_isDigit 7 = .ok (.bipush 57, 2) := by decide +kernel
theorem dX6_isDigit_9 : decode cX6_isDigit 9 = .ok (.if_icmp .gt 7, 3) := by decide +kernel
theorem dX6_isDigit_12 : decode cX6_isDigit 12 = .ok (.iconst 1, 1) := by decide +kernel
theorem dX6_isDigit_13 : decode cX6_isDigit 13 = .ok (.goto 4, 3) := by decide +kernel
theorem dX6_isDigit_16 : decode cX6_isDigit 16 = .ok (.iconst 0, 1) := by decide +kernel
theorem dX6_isDigit_17 : decode cX6_isDigit 17 = .ok (.ireturn, 1) := by decide +kernel
set_option maxRecDepth 20000 in
theorem ggX7_init_X5_init : GoodIn wsX7_init wsX5_init := goodIn_r _ [25, 26, 2, 3, 27, 28, 29, 30, 31, 32, 33, 34, 35, 36, 11, 12, 37, 38, 39, 40, 41, 42, 43, 44, 45, 46, 47, 48, 49, 50, 51, 52, 53, 54, 55, 56, 57, 58, 59, 60, 61, 62, 63, 64, 65, 66, 67, 68, 69, 70, 71, 72, 73, 74, 75, 76, 77, 78, 79, 80, 119, 97, 98, 99, 100, 101, 102, 103, 104, 120, 121, 122, 123, 124, 125, 126, 127, 128, 129, 112, 113, 114, 130, 131, 132, 133, 134] (by decide +kernel) (by decide +kernel)
set_option maxRecDepth 20000 in
theorem gX7_init_X5_init : GoodIn wsX7_init (wsX5_init) := ggX7_init_X5_init
set_option maxRecDepth 20000 in
theorem ggX7_init_X3_init : GoodIn wsX7_init wsX3_init := goodIn_r _ [67, 68, 2, 3, 47, 69, 70, 71, 112, 113, 114] (by decide +kernel) (by decide +kernel)
set_option maxRecDepth 20000 in
theorem gX7_init_X3_init : GoodIn wsX7_init (wsX3_init) := ggX7_init_X3_init
set_option maxRecDepth 20000 in
theorem ggX7_init_X1_init : GoodIn wsX7_init wsX1_init := goodIn_r _ [84, 85, 2, 3, 86, 87, 5, 6, 88, 89, 24, 25, 26, 27, 28, 29, 30, 31, 32, 33, 34, 35, 36, 11, 12, 37, 38, 39, 40, 41, 42, 43, 44, 45, 46, 47, 48, 49, 50, 51, 52, 53, 54, 55, 56, 57, 58, 59, 60, 61, 62, 63, 64, 65, 66, 67, 68, 69, 70, 71, 72, 73, 74, 75, 76, 77, 78, 79, 80, 115, 116, 97, 98, 99, 100, 101, 102, 103, 104, 119, 120, 121, 122, 123, 124, 125, 126, 127, 128, 129, 112, 113, 114, 130, 131, 132, 133, 134] (by decide +kernel) (by decide +kernel)
set_option maxRecDepth 20000 in
theorem gX7_init_X1_init : GoodIn wsX7_init (wsX1_init) := ggX7_init_X1_init
set_option maxRecDepth 20000 in
theorem ggX7_init_X6_init : GoodIn wsX7_init wsX6_init := goodIn_r _ [92, 93, 2, 3, 94, 95, 96, 117, 118] (by decide +kernel) (by decide +kernel)
set_option maxRecDepth 20000 in
theorem gX7_init_X6_init : GoodIn wsX7_init (wsX6_init) := ggX7_init_X6_init
theorem dX7_init_0 : decode cX7_init 0 = .ok (.aload_n 0, 1) := by decide +kernel
theorem dX7_init_1 : decode cX7_init 1 = .ok (.invokespecial 1, 3) := by decide +kernel
theorem dX7_init_4 : decode cX7_init 4 = .ok (.aload_n 0, 1) := by decide +kernel
theorem dX7_init_5 : decode cX7_init 5 = .ok (.new 7, 3) := by decide +kernel
theorem dX7_init_8 : decode cX7_init 8 = .ok (.dup, 1) := by decide +kernel
theorem dX7_init_9 : decode cX7_init 9 = .ok (.invokespecial 9, 3) := by decide +kernel
theorem dX7_init_12 : decode cX7_init 12 = .ok (.putfield 10, 3) := by decide +kernel
theorem dX7_init_15 : decode cX7_init 15 = .ok (.aload_n 0, 1) := by decide +kernel
theorem dX7_init_16 : decode cX7_init 16 = .ok (.new 7, 3) := by decide +kernel
theorem dX7_init_19 : decode cX7_init 19 = .ok (.dup, 1) := by decide +kernel
theorem dX7_init_20 : decode cX7_init 20 = .ok (.invokespecial 9, 3) := by decide +kernel
theorem dX7_init_23 : decode cX7_init 23 = .ok (.putfield 16, 3) := by decide +kernel
theorem dX7_init_26 : decode cX7_init 26 = .ok (.aload_n 0, 1) := by decide +kernel
theorem dX7_init_27 : decode cX7_init 27 = .ok (.new 7, 3) := by decide +kernel
theorem dX7_init_30 : decode cX7_init 30 = .ok (.dup, 1) := by decide +kernel
theorem dX7_init_31 : decode cX7_init 31 = .ok (.invokespecial 9, 3) := by decide +kernel
theorem dX7_init_34 : decode cX7_init 34 = .ok (.putfield 19, 3) := by decide +kernel
theorem dX7_init_37 : decode cX7_init 37 = .ok (.aload_n 0, 1) := by decide +kernel
theorem dX7_init_38 : decode cX7_init 38 = .ok (.new 22, 3) := by decide +kernel
theorem dX7_init_41 : decode cX7_init 41 = .ok (.dup, 1) := by decide +kernel
theorem dX7_init_42 : decode cX7_init 42 = .ok (.invokespecial 24, 3) := by decide +kernel
theorem dX7_init_45 : decode cX7_init 45 = .ok (.putfield 25, 3) := by decide +kernel
theorem dX7_init_48 : decode cX7_init 48 = .ok (.aload_n 0, 1) := by decide +kernel
theorem dX7_init_49 : decode cX7_init 49 = .ok (.new 29, 3) := by decide +kernel
theorem dX7_init_52 : decode cX7_init 52 = .ok (.dup, 1) := by decide +kernel
theorem dX7_init_53 : decode cX7_init 53 = .ok (.invokespecial 31, 3) := by decide +kernel
theorem dX7_init_56 : decode cX7_init 56 = .ok (.putfield 32, 3) := by decide +kernel
theorem dX7_init_59 : decode cX7_init 59 = .ok (.aload_n 0, 1) := by decide +kernel
theorem dX7_init_60 : decode cX7_init 60 = .ok (.new 36, 3) := by decide +kernel
theorem dX7_init_63 : decode cX7_init 63 = .ok (.dup, 1) := by decide +kernel
theorem dX7_init_64 : decode cX7_init 64 = .ok (.invokespecial 38, 3) := by decide +kernel
theorem dX7_init_67 : decode cX7_init 67 = .ok (.putfield 39, 3) := by decide +kernel
theorem dX7_init_70 : decode cX7_init 70 = .ok (.aload_n 0, 1) := by decide +kernel
theorem dX7_init_71 : decode cX7_init 71 = .ok (.iconst 0, 1) := by decide +kernel
theorem dX7_init_72 : decode cX7_init 72 = .ok (.putfield 43, 3) := by decide +kernel
theorem dX7_init_75 : decode cX7_init 75 = .ok (.return_, 1) := by decide +kernel
set_option maxRecDepth 20000 in
theorem ggX7_set_X4_isOne : GoodIn wsX7_set wsX4_isOne := goodIn_r _ [7, 8, 9, 10, 11] (by decide +kernel) (by decide +kernel)
set_option maxRecDepth 20000 in
theorem gX7_set_X4_isOne : GoodIn wsX7_set (va_wsS RX7 47 yX4_isOne wsX4_isOne) := goodIn_app (goodIn_of _ (by decide +kernel)) ggX7_set_X4_isOne
set_option maxRecDepth 20000 in
theorem ggX7_set_X4_allows : GoodIn wsX7_set wsX4_allows := goodIn_r _ [14, 15, 16, 17, 10, 18, 9, 11] (by decide +kernel) (by decide +kernel)
set_option maxRecDepth 20000 in
theorem gX7_set_X4_allows : GoodIn wsX7_set (va_wsS RX7 53 yX4_allows wsX4_allows) := goodIn_app (goodIn_of _ (by decide +kernel)) ggX7_set_X4_allows
set_option maxRecDepth 20000 in
theorem ggX7_set_X4_valueOf : GoodIn wsX7_set wsX4_valueOf := goodIn_r _ [22, 23, 17, 10, 18, 115] (by decide +kernel) (by decide +kernel)
set_option maxRecDepth 20000 in
theorem gX7_set_X4_valueOf : GoodIn wsX7_set (wsV RX7 61 RX4 yX4_valueOf wsX4_valueOf) := goodIn_app (goodIn_of _ (by decide +kernel)) ggX7_set_X4_valueOf
set_option maxRecDepth 20000 in
theorem ggX7_set_X1_record : GoodIn wsX7_set wsX1_record := goodIn_r _ [28, 29, 30, 31, 32, 33, 27, 34, 35, 36, 37, 38, 39, 40, 41, 42, 43, 44, 45, 46, 47, 48, 49, 50, 6, 51, 23, 52, 10, 53, 54, 55, 56, 57, 58, 59, 60, 61, 62, 63, 64, 65, 66, 67, 68, 69, 70, 71, 72, 73, 74, 75, 76, 77, 78, 79, 80, 81, 82, 83, 84, 85, 86, 87, 88, 89, 90, 91, 92, 93, 94, 116, 117, 107, 108, 109, 110, 111, 112, 113, 114, 115, 118, 119, 120, 121, 122, 123, 124, 125, 126, 127, 128, 129, 130, 131, 132, 133, 134, 135] (by decide +kernel) (by decide +kernel)
set_option maxRecDepth 20000 in
theorem gX7_set_X1_record : GoodIn wsX7_set (wsV RX7 65 RX1 yX1_record wsX1_record) := goodIn_app (goodIn_of _ (by decide +kernel)) ggX7_set_X1_record
set_option maxRecDepth 20000 in
theorem ggX7_set_X4_change : GoodIn wsX7_set wsX4_change := goodIn_r _ [98, 23, 99, 5, 6, 7, 8, 9, 10, 11, 115] (by decide +kernel) (by decide +kernel)
set_option maxRecDepth 20000 in
theorem gX7_set_X4_change : GoodIn wsX7_set (wsV RX7 69 RX4 yX4_change wsX4_change) := goodIn_app (goodIn_of _ (by decide +kernel)) ggX7_set_X4_change
theorem dX7_set_0 : decode cX7_set 0 = .ok (.iload_n 1, 1) := by decide +kernel
theorem dX7_set_1 : decode cX7_set 1 = .ok (.invokestatic 47, 3) := by decide +kernel
theorem dX7_set_4 : decode cX7_set 4 = .ok (.ifCond .ne 5, 3) := by decide +kernel
theorem dX7_set_7 : decode cX7_set 7 = .ok (.iconst (-1), 1) := by decide +kernel
theorem dX7_set_8 : decode cX7_set 8 = .ok (.ireturn, 1) := by decide +kernel
theorem dX7_set_9 : decode cX7_set 9 = .ok (.iload_n 1, 1) := by decide +kernel
theorem dX7_set_10 : decode cX7_set 10 = .ok (.iload_n 2, 1) := by decide +kernel
theorem dX7_set_11 : decode cX7_set 11 = .ok (.invokestatic 53, 3) := by decide +kernel
theorem dX7_set_14 : decode cX7_set 14 = .ok (.ifCond .ne 6, 3) := by decide +kernel
theorem dX7_set_17 : decode cX7_set 17 = .ok (.bipush (-2), 2) := by decide +kernel
theorem dX7_set_19 : decode cX7_set 19 = .ok (.ireturn, 1) := by decide +kernel
theorem dX7_set_20 : decode cX7_set 20 = .ok (.aload_n 0, 1) := by decide +kernel
theorem dX7_set_21 : decode cX7_set 21 = .ok (.getfield 10, 3) := by decide +kernel
theorem dX7_set_24 : decode cX7_set 24 = .ok (.getfield 57, 3) := by decide +kernel
theorem dX7_set_27 : decode cX7_set 27 = .ok (.iload_n 1, 1) := by decide +kernel
theorem dX7_set_28 : decode cX7_set 28 = .ok (.invokevirtual 61, 3) := by decide +kernel
theorem dX7_set_31 : decode cX7_set 31 = .ok (.istore_n 3, 1) := by decide +kernel
theorem dX7_set_32 : decode cX7_set 32 = .ok (.iload_n 3, 1) := by decide +kernel
theorem dX7_set_33 : decode cX7_set 33 = .ok (.iload_n 2, 1) := by decide +kernel
theorem dX7_set_34 : decode cX7_set 34 = .ok (.if_icmp .ne 6, 3) := by decide +kernel
theorem dX7_set_37 : decode cX7_set 37 = .ok (.bipush (-5), 2) := by decide +kernel
theorem dX7_set_39 : decode cX7_set 39 = .ok (.ireturn, 1) := by decide +kernel
theorem dX7_set_40 : decode cX7_set 40 = .ok (.aload_n 0, 1) := by decide +kernel
theorem dX7_set_41 : decode cX7_set 41 = .ok (.getfield 32, 3) := by decide +kernel
theorem dX7_set_44 : decode cX7_set 44 = .ok (.aload_n 0, 1) := by decide +kernel
theorem dX7_set_45 : decode cX7_set 45 = .ok (.getfield 10, 3) := by decide +kernel
theorem dX7_set_48 : decode cX7_set 48 = .ok (.invokevirtual 65, 3) := by decide +kernel
theorem dX7_set_51 : decode cX7_set 51 = .ok (.aload_n 0, 1) := by decide +kernel
theorem dX7_set_52 : decode cX7_set 52 = .ok (.getfield 10, 3) := by decide +kernel
theorem dX7_set_55 : decode cX7_set 55 = .ok (.getfield 57, 3) := by decide +kernel
theorem dX7_set_58 : decode cX7_set 58 = .ok (.iload_n 1, 1) := by decide +kernel
theorem dX7_set_59 : decode cX7_set 59 = .ok (.iload_n 2, 1) := by decide +kernel
theorem dX7_set_60 : decode cX7_set 60 = .ok (.invokevirtual 69, 3) := by decide +kernel
theorem dX7_set_63 : decode cX7_set 63 = .ok (.iload_n 3, 1) := by decide +kernel
theorem dX7_set_64 : decode cX7_set 64 = .ok (.ireturn, 1) := by decide +kernel
set_option maxRecDepth 20000 in
theorem ggX7_setKind_X5_find : GoodIn wsX7_setKind wsX5_find := goodIn_r _ [9, 10, 103, 104, 105, 106, 107, 108, 109, 110] (by decide +kernel) (by decide +kernel)
set_option maxRecDepth 20000 in
theorem gX7_setKind_X5_find : GoodIn wsX7_setKind (wsV RX7 73 RX5 yX5_find wsX5_find) := goodIn_app (goodIn_of _ (by decide +kernel)) ggX7_setKind_X5_find
set_option maxRecDepth 20000 in
theorem ggX7_setKind_X7_isWithin : GoodIn wsX7_setKind wsX7_isWithin := goodIn_r _ [14] (by decide +kernel) (by decide +kernel)
set_option maxRecDepth 20000 in
theorem gX7_setKind_X7_isWithin : GoodIn wsX7_setKind (va_wsS RX7 79 yX7_isWithin wsX7_isWithin) := goodIn_app (goodIn_of _ (by decide +kernel)) ggX7_setKind_X7_isWithin
set_option maxRecDepth 20000 in
theorem ggX7_setKind_X1_record : GoodIn wsX7_setKind wsX1_record := goodIn_r _ [19, 20, 21, 22, 23, 24, 18, 25, 26, 27, 28, 8, 29, 30, 10, 31, 32, 33, 34, 35, 36, 37, 38, 39, 40, 41, 42, 43, 13, 44, 45, 46, 47, 48, 49, 50, 51, 52, 53, 54, 55, 56, 57, 58, 59, 60, 61, 62, 63, 64, 65, 66, 67, 68, 69, 70, 71, 72, 73, 74, 75, 76, 77, 78, 79, 80, 81, 82, 83, 84, 85, 111, 112, 103, 104, 105, 106, 107, 108, 109, 110, 113, 93, 94, 95, 96, 97, 98, 99, 100, 101, 102, 114, 115, 116, 117, 118, 119, 120, 121] (by decide +kernel) (by decide +kernel)
set_option maxRecDepth 20000 in
theorem gX7_setKind_X1_record : GoodIn wsX7_setKind (wsV RX7 65 RX1 yX1_record wsX1_record) := goodIn_app (goodIn_of _ (by decide +kernel)) ggX7_setKind_X1_record
theorem dX7_setKind_0 : decode cX7_setKind 0 = .ok (.aload_n 0, 1) := by decide +kernel
theorem dX7_setKind_1 : decode cX7_setKind 1 = .ok (.getfield 10, 3) := by decide +kernel
theorem dX7_setKind_4 : decode cX7_setKind 4 = .ok (.iload_n 1, 1) := by decide +kernel
theorem dX7_setKind_5 : decode cX7_setKind 5 = .ok (.invokevirtual 73, 3) := by decide +kernel
theorem dX7_setKind_8 : decode cX7_setKind 8 = .ok (.astore_n 3, 1) := by decide +kernel
theorem dX7_setKind_9 : decode cX7_setKind 9 = .ok (.aload_n 3, 1) := by decide +kernel
theorem dX7_setKind_10 : decode cX7_setKind 10 = .ok (.ifnonnull 5, 3) := by decide +kernel
theorem dX7_setKind_13 : decode cX7_setKind 13 = .ok (.iconst (-1), 1) := by decide +kernel
theorem dX7_setKind_14 : decode cX7_setKind 14 = .ok (.ireturn, 1) := by decide +kernel
theorem dX7_setKind_15 : decode cX7_setKind 15 = .ok (.iload_n 2, 1) := by decide +kernel
theorem dX7_setKind_16 : decode cX7_setKind 16 = .ok (.iconst 0, 1) := by decide +kernel
theorem dX7_setKind_17 : decode cX7_setKind 17 = .ok (.iconst 2, 1) := by decide +kernel
theorem dX7_setKind_18 : decode cX7_setKind 18 = .ok (.invokestatic 79, 3) := by decide +kernel
theorem dX7_setKind_21 : decode cX7_setKind 21 = .ok (.ifCond .ne 6, 3) := by decide +kernel
theorem dX7_setKind_24 : decode cX7_setKind 24 = .ok (.bipush (-2), 2) := by decide +kernel
theorem dX7_setKind_26 : decode cX7_setKind 26 = .ok (.ireturn, 1) := by decide +kernel
theorem dX7_setKind_27 : decode cX7_setKind 27 = .ok (.aload_n 3, 1) := by decide +kernel
theorem dX7_setKind_28 : decode cX7_setKind 28 = .ok (.getfield 83, 3) := by decide +kernel
theorem dX7_setKind_31 : decode cX7_setKind 31 = .ok (.ifCond .eq 6, 3) := by decide +kernel
theorem dX7_setKind_34 : decode cX7_setKind 34 = .ok (.bipush (-4), 2) := by decide +kernel
theorem dX7_setKind_36 : decode cX7_setKind 36 = .ok (.ireturn, 1) := by decide +kernel
theorem dX7_setKind_37 : decode cX7_setKind 37 = .ok (.aload_n 3, 1) := by decide +kernel
theorem dX7_setKind_38 : decode cX7_setKind 38 = .ok (.getfield 87, 3) := by decide +kernel
theorem dX7_setKind_41 : decode cX7_setKind 41 = .ok (.istore 4, 2) := by decide +kernel
theorem dX7_setKind_43 : decode cX7_setKind 43 = .ok (.iload 4, 2) := by decide +kernel
theorem dX7_setKind_45 : decode cX7_setKind 45 = .ok (.iload_n 2, 1) := by decide +kernel
theorem dX7_setKind_46 : decode cX7_setKind 46 = .ok (.if_icmp .ne 6, 3) := by decide +kernel
theorem dX7_setKind_49 : decode cX7_setKind 49 = .ok (.bipush (-5), 2) := by decide +kernel
theorem dX7_setKind_51 : decode cX7_setKind 51 = .ok (.ireturn, 1) := by decide +kernel
theorem dX7_setKind_52 : decode cX7_setKind 52 = .ok (.aload_n 0, 1) := by decide +kernel
theorem dX7_setKind_53 : decode cX7_setKind 53 = .ok (.getfield 32, 3) := by decide +kernel
theorem dX7_setKind_56 : decode cX7_setKind 56 = .ok (.aload_n 0, 1) := by decide +kernel
theorem dX7_setKind_57 : decode cX7_setKind 57 = .ok (.getfield 10, 3) := by decide +kernel
theorem dX7_setKind_60 : decode cX7_setKind 60 = .ok (.invokevirtual 65, 3) := by decide +kernel
theorem dX7_setKind_63 : decode cX7_setKind 63 = .ok (.aload_n 3, 1) := by decide +kernel
theorem dX7_setKind_64 : decode cX7_setKind 64 = .ok (.iload_n 2, 1) := by decide +kernel
theorem dX7_setKind_65 : decode cX7_setKind 65 = .ok (.putfield 87, 3) := by decide +kernel
theorem dX7_setKind_68 : decode cX7_setKind 68 = .ok (.iload 4, 2) := by decide +kernel
theorem dX7_setKind_70 : decode cX7_setKind 70 = .ok (.ireturn, 1) := by decide +kernel
set_option maxRecDepth 20000 in
theorem ggX7_plan_X7_isWithin : GoodIn wsX7_plan wsX7_isWithin := goodIn_r _ [8] (by decide +kernel) (by decide +kernel)
set_option maxRecDepth 20000 in
theorem gX7_plan_X7_isWithin : GoodIn wsX7_plan (va_wsS RX7 79 yX7_isWithin wsX7_isWithin) := goodIn_app (goodIn_of _ (by decide +kernel)) ggX7_plan_X7_isWithin
set_option maxRecDepth 20000 in
theorem ggX7_plan_X3_hasRoomFor : GoodIn wsX7_plan wsX3_hasRoomFor := goodIn_r _ [13, 14, 15, 16, 17, 12, 18, 19, 120, 121, 122] (by decide +kernel) (by decide +kernel)
set_option maxRecDepth 20000 in
theorem gX7_plan_X3_hasRoomFor : GoodIn wsX7_plan (wsV RX7 93 RX3 yX3_hasRoomFor wsX3_hasRoomFor) := goodIn_app (goodIn_of _ (by decide +kernel)) ggX7_plan_X3_hasRoomFor
set_option maxRecDepth 20000 in
theorem ggX7_plan_X3_holds : GoodIn wsX7_plan wsX3_holds := goodIn_r _ [23, 14, 24, 15, 16, 17, 12, 18, 19, 25, 7, 26, 120, 121, 122] (by decide +kernel) (by decide +kernel)
set_option maxRecDepth 20000 in
theorem gX7_plan_X3_holds : GoodIn wsX7_plan (wsV RX7 96 RX3 yX3_holds wsX3_holds) := goodIn_app (goodIn_of _ (by decide +kernel)) ggX7_plan_X3_holds
set_option maxRecDepth 20000 in
theorem ggX7_plan_X1_record : GoodIn wsX7_plan wsX1_record := goodIn_r _ [31, 32, 33, 34, 35, 36, 30, 37, 38, 39, 40, 41, 42, 43, 44, 45, 46, 47, 48, 49, 50, 51, 52, 53, 54, 55, 56, 57, 7, 58, 59, 60, 61, 62, 63, 64, 65, 66, 67, 68, 69, 70, 71, 72, 73, 74, 75, 76, 77, 78, 79, 80, 81, 82, 83, 84, 12, 85, 19, 24, 14, 86, 87, 88, 89, 90, 91, 92, 93, 94, 95, 123, 124, 112, 113, 114, 115, 116, 117, 118, 119, 125, 126, 127, 128, 129, 130, 131, 132, 133, 134, 135, 120, 121, 122, 136, 137, 138, 139, 140] (by decide +kernel) (by decide +kernel)
set_option maxRecDepth 20000 in
theorem gX7_plan_X1_record : GoodIn wsX7_plan (wsV RX7 65 RX1 yX1_record wsX1_record) := goodIn_app (goodIn_of _ (by decide +kernel)) ggX7_plan_X1_record
set_option maxRecDepth 20000 in
theorem ggX7_plan_X3_put : GoodIn wsX7_plan wsX3_put := goodIn_r _ [99, 14, 19, 24, 100, 10, 11, 12, 13, 15, 16, 17, 18, 101, 102, 103, 104, 120, 121, 122] (by decide +kernel) (by decide +kernel)
set_option maxRecDepth 20000 in
theorem gX7_plan_X3_put : GoodIn wsX7_plan (wsV RX7 99 RX3 yX3_put wsX3_put) := goodIn_app (goodIn_of _ (by decide +kernel)) ggX7_plan_X3_put
theorem dX7_plan_0 : decode cX7_plan 0 = .ok (.iload_n 1, 1) := by decide +kernel
theorem dX7_plan_1 : decode cX7_plan 1 = .ok (.iconst 0, 1) := by decide +kernel
theorem dX7_plan_2 : decode cX7_plan 2 = .ok (.sipush 9999, 3) := by decide +kernel
theorem dX7_plan_5 : decode cX7_plan 5 = .ok (.invokestatic 79, 3) := by decide +kernel
theorem dX7_plan_8 : decode cX7_plan 8 = .ok (.ifCond .eq 13, 3) := by decide +kernel
theorem dX7_plan_11 : decode cX7_plan 11 = .ok (.iload_n 2, 1) := by decide +kernel
theorem dX7_plan_12 : decode cX7_plan 12 = .ok (.iconst 0, 1) := by decide +kernel
theorem dX7_plan_13 : decode cX7_plan 13 = .ok (.bipush 9, 2) := by decide +kernel
theorem dX7_plan_15 : decode cX7_plan 15 = .ok (.invokestatic 79, 3) := by decide +kernel
theorem dX7_plan_18 : decode cX7_plan 18 = .ok (.ifCond .ne 6, 3) := by decide +kernel
theorem dX7_plan_21 : decode cX7_plan 21 = .ok (.bipush (-2), 2) := by decide +kernel
theorem dX7_plan_23 : decode cX7_plan 23 = .ok (.ireturn, 1) := by decide +kernel
theorem dX7_plan_24 : decode cX7_plan 24 = .ok (.aload_n 0, 1) := by decide +kernel
theorem dX7_plan_25 : decode cX7_plan 25 = .ok (.getfield 10, 3) := by decide +kernel
theorem dX7_plan_28 : decode cX7_plan 28 = .ok (.getfield 90, 3) := by decide +kernel
theorem dX7_plan_31 : decode cX7_plan 31 = .ok (.iload_n 1, 1) := by decide +kernel
theorem dX7_plan_32 : decode cX7_plan 32 = .ok (.invokevirtual 93, 3) := by decide +kernel
theorem dX7_plan_35 : decode cX7_plan 35 = .ok (.ifCond .ne 6, 3) := by decide +kernel
theorem dX7_plan_38 : decode cX7_plan 38 = .ok (.bipush (-3), 2) := by decide +kernel
theorem dX7_plan_40 : decode cX7_plan 40 = .ok (.ireturn, 1) := by decide +kernel
theorem dX7_plan_41 : decode cX7_plan 41 = .ok (.aload_n 0, 1) := by decide +kernel
theorem dX7_plan_42 : decode cX7_plan 42 = .ok (.getfield 10, 3) := by decide +kernel
theorem dX7_plan_45 : decode cX7_plan 45 = .ok (.getfield 90, 3) := by decide +kernel
theorem dX7_plan_48 : decode cX7_plan 48 = .ok (.iload_n 1, 1) := by decide +kernel
theorem dX7_plan_49 : decode cX7_plan 49 = .ok (.iload_n 2, 1) := by decide +kernel
theorem dX7_plan_50 : decode cX7_plan 50 = .ok (.invokevirtual 96, 3) := by decide +kernel
theorem dX7_plan_53 : decode cX7_plan 53 = .ok (.ifCond .eq 6, 3) := by decide +kernel
theorem dX7_plan_56 : decode cX7_plan 56 = .ok (.bipush (-5), 2) := by decide +kernel
theorem dX7_plan_58 : decode cX7_plan 58 = .ok (.ireturn, 1) := by decide +kernel
theorem dX7_plan_59 : decode cX7_plan 59 = .ok (.aload_n 0, 1) := by decide +kernel
theorem dX7_plan_60 : decode cX7_plan 60 = .ok (.getfield 32, 3) := by decide +kernel
theorem dX7_plan_63 : decode cX7_plan 63 = .ok (.aload_n 0, 1) := by decide +kernel
theorem dX7_plan_64 : decode cX7_plan 64 = .ok (.getfield 10, 3) := by decide +kernel
theorem dX7_plan_67 : decode cX7_plan 67 = .ok (.invokevirtual 65, 3) := by decide +kernel
theorem dX7_plan_70 : decode cX7_plan 70 = .ok (.aload_n 0, 1) := by decide +kernel
theorem dX7_plan_71 : decode cX7_plan 71 = .ok (.getfield 10, 3) := by decide +kernel
theorem dX7_plan_74 : decode cX7_plan 74 = .ok (.getfield 90, 3) := by decide +kernel
theorem dX7_plan_77 : decode cX7_plan 77 = .ok (.iload_n 1, 1) := by decide +kernel
theorem dX7_plan_78 : decode cX7_plan 78 = .ok (.iload_n 2, 1) := by decide +kernel
theorem dX7_plan_79 : decode cX7_plan 79 = .ok (.invokevirtual 99, 3) := by decide +kernel
theorem dX7_plan_82 : decode cX7_plan 82 = .ok (.pop, 1) := by decide +kernel
theorem dX7_plan_83 : decode cX7_plan 83 = .ok (.aload_n 0, 1) := by decide +kernel
theorem dX7_plan_84 : decode cX7_plan 84 = .ok (.getfield 10, 3) := by decide +kernel
theorem dX7_plan_87 : decode cX7_plan 87 = .ok (.getfield 90, 3) := by decide +kernel
theorem dX7_plan_90 : decode cX7_plan 90 = .ok (.getfield 102, 3) := by decide +kernel
theorem dX7_plan_93 : decode cX7_plan 93 = .ok (.ireturn, 1) := by decide +kernel
set_option maxRecDepth 20000 in
theorem ggX7_readPlan_X6_fault : GoodIn wsX7_readPlan wsX6_fault := goodIn_r _ [11, 12, 13, 14, 15, 10, 16, 17, 18, 19, 137, 138] (by decide +kernel) (by decide +kernel)
set_option maxRecDepth 20000 in
theorem gX7_readPlan_X6_fault : GoodIn wsX7_readPlan (wsV RX7 105 RX6 yX6_fault wsX6_fault) := goodIn_app (goodIn_of _ (by decide +kernel)) ggX7_readPlan_X6_fault
set_option maxRecDepth 20000 in
theorem ggX7_readPlan_X6_readInto : GoodIn wsX7_readPlan wsX6_readInto := goodIn_r _ [23, 12, 13, 24, 25, 26, 27, 28, 29, 30, 31, 32, 33, 34, 35, 36, 37, 38, 39, 40, 41, 42, 43, 44, 45, 46, 47, 137, 138, 134, 135, 136] (by decide +kernel) (by decide +kernel)
set_option maxRecDepth 20000 in
theorem gX7_readPlan_X6_readInto : GoodIn wsX7_readPlan (wsV RX7 109 RX6 yX6_readInto wsX6_readInto) := goodIn_app (goodIn_of _ (by decide +kernel)) ggX7_readPlan_X6_readInto
set_option maxRecDepth 20000 in
theorem ggX7_readPlan_X1_record : GoodIn wsX7_readPlan wsX1_record := goodIn_r _ [52, 53, 54, 55, 56, 57, 51, 58, 59, 60, 61, 62, 63, 64, 65, 66, 67, 68, 69, 70, 71, 72, 73, 74, 75, 76, 77, 78, 79, 80, 81, 82, 83, 84, 85, 86, 87, 88, 89, 90, 91, 92, 93, 94, 95, 96, 97, 98, 99, 100, 101, 102, 103, 104, 105, 106, 27, 107, 34, 35, 29, 108, 109, 110, 111, 112, 113, 114, 115, 116, 117, 139, 140, 126, 127, 128, 129, 130, 131, 132, 133, 141, 142, 143, 144, 145, 146, 147, 148, 149, 150, 151, 134, 135, 136, 152, 153, 154, 155, 156] (by decide +kernel) (by decide +kernel)
set_option maxRecDepth 20000 in
theorem gX7_readPlan_X1_record : GoodIn wsX7_readPlan (wsV RX7 65 RX1 yX1_record wsX1_record) := goodIn_app (goodIn_of _ (by decide +kernel)) ggX7_readPlan_X1_record
set_option maxRecDepth 20000 in
theorem ggX7_readPlan_X3_copyFrom : GoodIn wsX7_readPlan wsX3_copyFrom := goodIn_r _ [107, 34, 35, 29, 78, 79, 80, 81, 82, 83, 84, 85, 86, 87, 88, 134, 135, 136] (by decide +kernel) (by decide +kernel)
set_option maxRecDepth 20000 in
theorem gX7_readPlan_X3_copyFrom : GoodIn wsX7_readPlan (wsV RX7 113 RX3 yX3_copyFrom wsX3_copyFrom) := goodIn_app (goodIn_of _ (by decide +kernel)) ggX7_readPlan_X3_copyFrom
theorem dX7_readPlan_0 : decode cX7_readPlan 0 = .ok (.aload_n 0, 1) := by decide +kernel
theorem dX7_readPlan_1 : decode cX7_readPlan 1 = .ok (.getfield 39, 3) := by decide +kernel
theorem dX7_readPlan_4 : decode cX7_readPlan 4 = .ok (.invokevirtual 105, 3) := by decide +kernel
theorem dX7_readPlan_7 : decode cX7_readPlan 7 = .ok (.istore_n 1, 1) := by decide +kernel
theorem dX7_readPlan_8 : decode cX7_readPlan 8 = .ok (.iload_n 1, 1) := by decide +kernel
theorem dX7_readPlan_9 : decode cX7_readPlan 9 = .ok (.iconst (-1), 1) := by decide +kernel
theorem dX7_readPlan_10 : decode cX7_readPlan 10 = .ok (.if_icmp .eq 8, 3) := by decide +kernel
theorem dX7_readPlan_13 : decode cX7_readPlan 13 = .ok (.bipush (-100), 2) := by decide +kernel
theorem dX7_readPlan_15 : decode cX7_readPlan 15 = .ok (.iload_n 1, 1) := by decide +kernel
theorem dX7_readPlan_16 : decode cX7_readPlan 16 = .ok (.isub, 1) := by decide +kernel
theorem dX7_readPlan_17 : decode cX7_readPlan 17 = .ok (.ireturn, 1) := by decide +kernel
theorem dX7_readPlan_18 : decode cX7_readPlan 18 = .ok (.aload_n 0, 1) := by decide +kernel
theorem dX7_readPlan_19 : decode cX7_readPlan 19 = .ok (.getfield 39, 3) := by decide +kernel
theorem dX7_readPlan_22 : decode cX7_readPlan 22 = .ok (.aload_n 0, 1) := by decide +kernel
theorem dX7_readPlan_23 : decode cX7_readPlan 23 = .ok (.getfield 25, 3) := by decide +kernel
theorem dX7_readPlan_26 : decode cX7_readPlan 26 = .ok (.invokevirtual 109, 3) := by decide +kernel
theorem dX7_readPlan_29 : decode cX7_readPlan 29 = .ok (.ifCond .ne 6, 3) := by decide +kernel
theorem dX7_readPlan_32 : decode cX7_readPlan 32 = .ok (.bipush (-3), 2) := by decide +kernel
theorem dX7_readPlan_34 : decode cX7_readPlan 34 = .ok (.ireturn, 1) := by decide +kernel
theorem dX7_readPlan_35 : decode cX7_readPlan 35 = .ok (.aload_n 0, 1) := by decide +kernel
theorem dX7_readPlan_36 : decode cX7_readPlan 36 = .ok (.getfield 32, 3) := by decide +kernel
theorem dX7_readPlan_39 : decode cX7_readPlan 39 = .ok (.aload_n 0, 1) := by decide +kernel
theorem dX7_readPlan_40 : decode cX7_readPlan 40 = .ok (.getfield 10, 3) := by decide +kernel
theorem dX7_readPlan_43 : decode cX7_readPlan 43 = .ok (.invokevirtual 65, 3) := by decide +kernel
theorem dX7_readPlan_46 : decode cX7_readPlan 46 = .ok (.aload_n 0, 1) := by decide +kernel
theorem dX7_readPlan_47 : decode cX7_readPlan 47 = .ok (.getfield 10, 3) := by decide +kernel
theorem dX7_readPlan_50 : decode cX7_readPlan 50 = .ok (.getfield 90, 3) := by decide +kernel
theorem dX7_readPlan_53 : decode cX7_readPlan 53 = .ok (.aload_n 0, 1) := by decide +kernel
theorem dX7_readPlan_54 : decode cX7_readPlan 54 = .ok (.getfield 25, 3) := by decide +kernel
theorem dX7_readPlan_57 : decode cX7_readPlan 57 = .ok (.invokevirtual 113, 3) := by decide +kernel
theorem dX7_readPlan_60 : decode cX7_readPlan 60 = .ok (.aload_n 0, 1) := by decide +kernel
theorem dX7_readPlan_61 : decode cX7_readPlan 61 = .ok (.getfield 10, 3) := by decide +kernel
theorem dX7_readPlan_64 : decode cX7_readPlan 64 = .ok (.getfield 90, 3) := by decide +kernel
theorem dX7_readPlan_67 : decode cX7_readPlan 67 = .ok (.getfield 102, 3) := by decide +kernel
theorem dX7_readPlan_70 : decode cX7_readPlan 70 = .ok (.ireturn, 1) := by decide +kernel
set_option maxRecDepth 20000 in
theorem ggX7_turn_X5_find : GoodIn wsX7_turn wsX5_find := goodIn_r _ [9, 10, 103, 104, 105, 106, 107, 108, 109, 110] (by decide +kernel) (by decide +kernel)
set_option maxRecDepth 20000 in
theorem gX7_turn_X5_find : GoodIn wsX7_turn (wsV RX7 73 RX5 yX5_find wsX5_find) := goodIn_app (goodIn_of _ (by decide +kernel)) ggX7_turn_X5_find
set_option maxRecDepth 20000 in
theorem ggX7_turn_X7_isWithin : GoodIn wsX7_turn wsX7_isWithin := goodIn_r _ [14] (by decide +kernel) (by decide +kernel)
set_option maxRecDepth 20000 in
theorem gX7_turn_X7_isWithin : GoodIn wsX7_turn (va_wsS RX7 79 yX7_isWithin wsX7_isWithin) := goodIn_app (goodIn_of _ (by decide +kernel)) ggX7_turn_X7_isWithin
set_option maxRecDepth 20000 in
theorem ggX7_turn_X1_record : GoodIn wsX7_turn wsX1_record := goodIn_r _ [19, 20, 21, 22, 23, 24, 18, 25, 26, 27, 28, 8, 29, 30, 10, 31, 32, 33, 34, 35, 36, 37, 38, 39, 40, 41, 42, 43, 13, 44, 45, 46, 47, 48, 49, 50, 51, 52, 53, 54, 55, 56, 57, 58, 59, 60, 61, 62, 63, 64, 65, 66, 67, 68, 69, 70, 71, 72, 73, 74, 75, 76, 77, 78, 79, 80, 81, 82, 83, 84, 85, 111, 112, 103, 104, 105, 106, 107, 108, 109, 110, 113, 93, 94, 95, 96, 97, 98, 99, 100, 101, 102, 114, 115, 116, 117, 118, 119, 120, 121] (by decide +kernel) (by decide +kernel)
set_option maxRecDepth 20000 in
theorem gX7_turn_X1_record : GoodIn wsX7_turn (wsV RX7 65 RX1 yX1_record wsX1_record) := goodIn_app (goodIn_of _ (by decide +kernel)) ggX7_turn_X1_record
theorem dX7_turn_0 : decode cX7_turn 0 = .ok (.aload_n 0, 1) := by decide +kernel
theorem dX7_turn_1 : decode cX7_turn 1 = .ok (.getfield 10, 3) := by decide +kernel
theorem dX7_turn_4 : decode cX7_turn 4 = .ok (.iload_n 1, 1) := by decide +kernel
theorem dX7_turn_5 : decode cX7_turn 5 = .ok (.invokevirtual 73, 3) := by decide +kernel
theorem dX7_turn_8 : decode cX7_turn 8 = .ok (.astore_n 3, 1) := by decide +kernel
theorem dX7_turn_9 : decode cX7_turn 9 = .ok (.aload_n 3, 1) := by decide +kernel
theorem dX7_turn_10 : decode cX7_turn 10 = .ok (.ifnonnull 5, 3) := by decide +kernel
theorem dX7_turn_13 : decode cX7_turn 13 = .ok (.iconst (-1), 1) := by decide +kernel
theorem dX7_turn_14 : decode cX7_turn 14 = .ok (.ireturn, 1) := by decide +kernel
theorem dX7_turn_15 : decode cX7_turn 15 = .ok (.iload_n 2, 1) := by decide +kernel
theorem dX7_turn_16 : decode cX7_turn 16 = .ok (.iconst 0, 1) := by decide +kernel
theorem dX7_turn_17 : decode cX7_turn 17 = .ok (.iconst 2, 1) := by decide +kernel
theorem dX7_turn_18 : decode cX7_turn 18 = .ok (.invokestatic 79, 3) := by decide +kernel
theorem dX7_turn_21 : decode cX7_turn 21 = .ok (.ifCond .ne 6, 3) := by decide +kernel
theorem dX7_turn_24 : decode cX7_turn 24 = .ok (.bipush (-2), 2) := by decide +kernel
theorem dX7_turn_26 : decode cX7_turn 26 = .ok (.ireturn, 1) := by decide +kernel
theorem dX7_turn_27 : decode cX7_turn 27 = .ok (.aload_n 3, 1) := by decide +kernel
theorem dX7_turn_28 : decode cX7_turn 28 = .ok (.getfield 83, 3) := by decide +kernel
theorem dX7_turn_31 : decode cX7_turn 31 = .ok (.istore 4, 2) := by decide +kernel
theorem dX7_turn_33 : decode cX7_turn 33 = .ok (.iload 4, 2) := by decide +kernel
theorem dX7_turn_35 : decode cX7_turn 35 = .ok (.iload_n 2, 1) := by decide +kernel
theorem dX7_turn_36 : decode cX7_turn 36 = .ok (.if_icmp .ne 6, 3) := by decide +kernel
theorem dX7_turn_39 : decode cX7_turn 39 = .ok (.bipush (-5), 2) := by decide +kernel
theorem dX7_turn_41 : decode cX7_turn 41 = .ok (.ireturn, 1) := by decide +kernel
theorem dX7_turn_42 : decode cX7_turn 42 = .ok (.aload_n 0, 1) := by decide +kernel
theorem dX7_turn_43 : decode cX7_turn 43 = .ok (.getfield 32, 3) := by decide +kernel
theorem dX7_turn_46 : decode cX7_turn 46 = .ok (.aload_n 0, 1) := by decide +kernel
theorem dX7_turn_47 : decode cX7_turn 47 = .ok (.getfield 10, 3) := by decide +kernel
theorem dX7_turn_50 : decode cX7_turn 50 = .ok (.invokevirtual 65, 3) := by decide +kernel
theorem dX7_turn_53 : decode cX7_turn 53 = .ok (.aload_n 3, 1) := by decide +kernel
theorem dX7_turn_54 : decode cX7_turn 54 = .ok (.iload_n 2, 1) := by decide +kernel
theorem dX7_turn_55 : decode cX7_turn 55 = .ok (.putfield 83, 3) := by decide +kernel
theorem dX7_turn_58 : decode cX7_turn 58 = .ok (.iload_n 2, 1) := by decide +kernel
theorem dX7_turn_59 : decode cX7_turn 59 = .ok (.ifCond .ne 8, 3) := by decide +kernel
theorem dX7_turn_62 : decode cX7_turn 62 = .ok (.aload_n 3, 1) := by decide +kernel
theorem dX7_turn_63 : decode cX7_turn 63 = .ok (.iconst 0, 1) := by decide +kernel
theorem dX7_turn_64 : decode cX7_turn 64 = .ok (.putfield 117, 3) := by decide +kernel
theorem dX7_turn_67 : decode cX7_turn 67 = .ok (.iload 4, 2) := by decide +kernel
theorem dX7_turn_69 : decode cX7_turn 69 = .ok (.ireturn, 1) := by decide +kernel
set_option maxRecDepth 20000 in
theorem ggX7_press_X5_find : GoodIn wsX7_press wsX5_find := goodIn_r _ [8, 9, 116, 117, 118, 119, 120, 121, 122, 123] (by decide +kernel) (by decide +kernel)
set_option maxRecDepth 20000 in
theorem gX7_press_X5_find : GoodIn wsX7_press (wsV RX7 73 RX5 yX5_find wsX5_find) := goodIn_app (goodIn_of _ (by decide +kernel)) ggX7_press_X5_find
set_option maxRecDepth 20000 in
theorem ggX7_press_X1_record : GoodIn wsX7_press wsX1_record := goodIn_r _ [14, 15, 16, 17, 18, 19, 13, 20, 21, 22, 23, 7, 24, 25, 9, 26, 27, 28, 29, 30, 31, 32, 33, 34, 35, 36, 37, 38, 39, 40, 41, 42, 43, 44, 45, 46, 47, 48, 49, 50, 51, 52, 53, 54, 55, 56, 57, 58, 59, 60, 61, 62, 63, 64, 65, 66, 67, 68, 69, 70, 71, 72, 73, 74, 75, 76, 77, 78, 79, 80, 81, 124, 125, 116, 117, 118, 119, 120, 121, 122, 123, 126, 106, 107, 108, 109, 110, 111, 112, 113, 114, 115, 127, 128, 129, 130, 131, 132, 133, 134] (by decide +kernel) (by decide +kernel)
set_option maxRecDepth 20000 in
theorem gX7_press_X1_record : GoodIn wsX7_press (wsV RX7 65 RX1 yX1_record wsX1_record) := goodIn_app (goodIn_of _ (by decide +kernel)) ggX7_press_X1_record
set_option maxRecDepth 20000 in
theorem ggX7_press_X5_isOpen : GoodIn wsX7_press wsX5_isOpen := goodIn_r _ [85, 25, 86, 87, 88, 35, 89, 37, 90, 39, 91, 92, 93, 94, 52, 95, 60, 55, 56, 59, 116, 117, 118, 119, 120, 121, 122, 123, 126, 106, 107, 108, 109, 110, 111, 112, 113, 114, 115] (by decide +kernel) (by decide +kernel)
set_option maxRecDepth 20000 in
theorem gX7_press_X5_isOpen : GoodIn wsX7_press (wsV RX7 123 RX5 yX5_isOpen wsX5_isOpen) := goodIn_app (goodIn_of _ (by decide +kernel)) ggX7_press_X5_isOpen
set_option maxRecDepth 20000 in
theorem ggX7_press_X7_oneIf : GoodIn wsX7_press wsX7_oneIf := goodIn_r _ [98] (by decide +kernel) (by decide +kernel)
set_option maxRecDepth 20000 in
theorem gX7_press_X7_oneIf : GoodIn wsX7_press (va_wsS RX7 127 yX7_oneIf wsX7_oneIf) := goodIn_app (goodIn_of _ (by decide +kernel)) ggX7_press_X7_oneIf
theorem dX7_press_0 : decode cX7_press 0 = .ok (.aload_n 0, 1) := by decide +kernel
theorem dX7_press_1 : decode cX7_press 1 = .ok (.getfield 10, 3) := by decide +kernel
theorem dX7_press_4 : decode cX7_press 4 = .ok (.iload_n 1, 1) := by decide +kernel
theorem dX7_press_5 : decode cX7_press 5 = .ok (.invokevirtual 73, 3) := by decide +kernel
theorem dX7_press_8 : decode cX7_press 8 = .ok (.astore_n 3, 1) := by decide +kernel
theorem dX7_press_9 : decode cX7_press 9 = .ok (.aload_n 3, 1) := by decide +kernel
theorem dX7_press_10 : decode cX7_press 10 = .ok (.ifnonnull 5, 3) := by decide +kernel
theorem dX7_press_13 : decode cX7_press 13 = .ok (.iconst (-1), 1) := by decide +kernel
theorem dX7_press_14 : decode cX7_press 14 = .ok (.ireturn, 1) := by decide +kernel
theorem dX7_press_15 : decode cX7_press 15 = .ok (.aload_n 3, 1) := by decide +kernel
theorem dX7_press_16 : decode cX7_press 16 = .ok (.getfield 120, 3) := by decide +kernel
theorem dX7_press_19 : decode cX7_press 19 = .ok (.iload_n 2, 1) := by decide +kernel
theorem dX7_press_20 : decode cX7_press 20 = .ok (.if_icmp .ne 6, 3) := by decide +kernel
theorem dX7_press_23 : decode cX7_press 23 = .ok (.bipush (-5), 2) := by decide +kernel
theorem dX7_press_25 : decode cX7_press 25 = .ok (.ireturn, 1) := by decide +kernel
theorem dX7_press_26 : decode cX7_press 26 = .ok (.aload_n 0, 1) := by decide +kernel
theorem dX7_press_27 : decode cX7_press 27 = .ok (.getfield 32, 3) := by decide +kernel
theorem dX7_press_30 : decode cX7_press 30 = .ok (.aload_n 0, 1) := by decide +kernel
theorem dX7_press_31 : decode cX7_press 31 = .ok (.getfield 10, 3) := by decide +kernel
theorem dX7_press_34 : decode cX7_press 34 = .ok (.invokevirtual 65, 3) := by decide +kernel
theorem dX7_press_37 : decode cX7_press 37 = .ok (.aload_n 3, 1) := by decide +kernel
theorem dX7_press_38 : decode cX7_press 38 = .ok (.iload_n 2, 1) := by decide +kernel
theorem dX7_press_39 : decode cX7_press 39 = .ok (.putfield 120, 3) := by decide +kernel
theorem dX7_press_42 : decode cX7_press 42 = .ok (.aload_n 0, 1) := by decide +kernel
theorem dX7_press_43 : decode cX7_press 43 = .ok (.getfield 10, 3) := by decide +kernel
theorem dX7_press_46 : decode cX7_press 46 = .ok (.aload_n 3, 1) := by decide +kernel
theorem dX7_press_47 : decode cX7_press 47 = .ok (.invokevirtual 123, 3) := by decide +kernel
theorem dX7_press_50 : decode cX7_press 50 = .ok (.invokestatic 127, 3) := by decide +kernel
theorem dX7_press_53 : decode cX7_press 53 = .ok (.ireturn, 1) := by decide +kernel
set_option maxRecDepth 20000 in
theorem ggX7_igniter_X5_find : GoodIn wsX7_igniter wsX5_find := goodIn_r _ [8, 9, 106, 107, 108, 109, 110, 111, 112, 113] (by decide +kernel) (by decide +kernel)
set_option maxRecDepth 20000 in
theorem gX7_igniter_X5_find : GoodIn wsX7_igniter (wsV RX7 73 RX5 yX5_find wsX5_find) := goodIn_app (goodIn_of _ (by decide +kernel)) ggX7_igniter_X5_find
set_option maxRecDepth 20000 in
theorem ggX7_igniter_X1_record : GoodIn wsX7_igniter wsX1_record := goodIn_r _ [14, 15, 16, 17, 18, 19, 13, 20, 21, 22, 23, 7, 24, 25, 9, 26, 27, 28, 29, 30, 31, 32, 33, 34, 35, 36, 37, 38, 39, 40, 41, 42, 43, 44, 45, 46, 47, 48, 49, 50, 51, 52, 53, 54, 55, 56, 57, 58, 59, 60, 61, 62, 63, 64, 65, 66, 67, 68, 69, 70, 71, 72, 73, 74, 75, 76, 77, 78, 79, 80, 81, 114, 115, 106, 107, 108, 109, 110, 111, 112, 113, 116, 96, 97, 98, 99, 100, 101, 102, 103, 104, 105, 117, 118, 119, 120, 121, 122, 123, 124] (by decide +kernel) (by decide +kernel)
set_option maxRecDepth 20000 in
theorem gX7_igniter_X1_record : GoodIn wsX7_igniter (wsV RX7 65 RX1 yX1_record wsX1_record) := goodIn_app (goodIn_of _ (by decide +kernel)) ggX7_igniter_X1_record
set_option maxRecDepth 20000 in
theorem ggX7_igniter_X5_ignitersOn : GoodIn wsX7_igniter wsX5_ignitersOn := goodIn_r _ [85, 9, 86, 87, 39, 88, 106, 107, 108, 109, 110, 111, 112, 113, 96, 97, 98, 99, 100, 101, 102, 103, 104, 105] (by decide +kernel) (by decide +kernel)
set_option maxRecDepth 20000 in
theorem gX7_igniter_X5_ignitersOn : GoodIn wsX7_igniter (wsV RX7 134 RX5 yX5_ignitersOn wsX5_ignitersOn) := goodIn_app (goodIn_of _ (by decide +kernel)) ggX7_igniter_X5_ignitersOn
theorem dX7_igniter_0 : decode cX7_igniter 0 = .ok (.aload_n 0, 1) := by decide +kernel
theorem dX7_igniter_1 : decode cX7_igniter 1 = .ok (.getfield 10, 3) := by decide +kernel
theorem dX7_igniter_4 : decode cX7_igniter 4 = .ok (.iload_n 1, 1) := by decide +kernel
theorem dX7_igniter_5 : decode cX7_igniter 5 = .ok (.invokevirtual 73, 3) := by decide +kernel
theorem dX7_igniter_8 : decode cX7_igniter 8 = .ok (.astore_n 3, 1) := by decide +kernel
theorem dX7_igniter_9 : decode cX7_igniter 9 = .ok (.aload_n 3, 1) := by decide +kernel
theorem dX7_igniter_10 : decode cX7_igniter 10 = .ok (.ifnonnull 5, 3) := by decide +kernel
theorem dX7_igniter_13 : decode cX7_igniter 13 = .ok (.iconst (-1), 1) := by decide +kernel
theorem dX7_igniter_14 : decode cX7_igniter 14 = .ok (.ireturn, 1) := by decide +kernel
theorem dX7_igniter_15 : decode cX7_igniter 15 = .ok (.aload_n 3, 1) := by decide +kernel
theorem dX7_igniter_16 : decode cX7_igniter 16 = .ok (.getfield 131, 3) := by decide +kernel
theorem dX7_igniter_19 : decode cX7_igniter 19 = .ok (.iload_n 2, 1) := by decide +kernel
theorem dX7_igniter_20 : decode cX7_igniter 20 = .ok (.if_icmp .ne 6, 3) := by decide +kernel
theorem dX7_igniter_23 : decode cX7_igniter 23 = .ok (.bipush (-5), 2) := by decide +kernel
theorem dX7_igniter_25 : decode cX7_igniter 25 = .ok (.ireturn, 1) := by decide +kernel
theorem dX7_igniter_26 : decode cX7_igniter 26 = .ok (.aload_n 0, 1) := by decide +kernel
theorem dX7_igniter_27 : decode cX7_igniter 27 = .ok (.getfield 32, 3) := by decide +kernel
theorem dX7_igniter_30 : decode cX7_igniter 30 = .ok (.aload_n 0, 1) := by decide +kernel
theorem dX7_igniter_31 : decode cX7_igniter 31 = .ok (.getfield 10, 3) := by decide +kernel
theorem dX7_igniter_34 : decode cX7_igniter 34 = .ok (.invokevirtual 65, 3) := by decide +kernel
theorem dX7_igniter_37 : decode cX7_igniter 37 = .ok (.aload_n 3, 1) := by decide +kernel
theorem dX7_igniter_38 : decode cX7_igniter 38 = .ok (.iload_n 2, 1) := by decide +kernel
theorem dX7_igniter_39 : decode cX7_igniter 39 = .ok (.putfield 131, 3) := by decide +kernel
theorem dX7_igniter_42 : decode cX7_igniter 42 = .ok (.aload_n 0, 1) := by decide +kernel
theorem dX7_igniter_43 : decode cX7_igniter 43 = .ok (.getfield 10, 3) := by decide +kernel
theorem dX7_igniter_46 : decode cX7_igniter 46 = .ok (.invokevirtual 134, 3) := by decide +kernel
theorem dX7_igniter_49 : decode cX7_igniter 49 = .ok (.ireturn, 1) := by decide +kernel
set_option maxRecDepth 20000 in
theorem ggX7_light_X5_find : GoodIn wsX7_light wsX5_find := goodIn_r _ [8, 9, 151, 152, 153, 154, 155, 156, 157, 158] (by decide +kernel) (by decide +kernel)
set_option maxRecDepth 20000 in
theorem gX7_light_X5_find : GoodIn wsX7_light (wsV RX7 73 RX5 yX5_find wsX5_find) := goodIn_app (goodIn_of _ (by decide +kernel)) ggX7_light_X5_find
set_option maxRecDepth 20000 in
theorem ggX7_light_X5_isOpen : GoodIn wsX7_light wsX5_isOpen := goodIn_r _ [13, 14, 15, 16, 17, 18, 19, 20, 21, 22, 23, 24, 25, 26, 27, 28, 29, 30, 31, 32, 151, 152, 153, 154, 155, 156, 157, 158, 159, 141, 142, 143, 144, 145, 146, 147, 148, 149, 150] (by decide +kernel) (by decide +kernel)
set_option maxRecDepth 20000 in
theorem gX7_light_X5_isOpen : GoodIn wsX7_light (wsV RX7 123 RX5 yX5_isOpen wsX5_isOpen) := goodIn_app (goodIn_of _ (by decide +kernel)) ggX7_light_X5_isOpen
set_option maxRecDepth 20000 in
theorem ggX7_light_X5_allowsFire : GoodIn wsX7_light wsX5_allowsFire := goodIn_r _ [36, 37, 14, 15, 16, 17, 18, 19, 20, 21, 22, 23, 151, 152, 153, 154, 155, 156, 157, 158, 159] (by decide +kernel) (by decide +kernel)
set_option maxRecDepth 20000 in
theorem gX7_light_X5_allowsFire : GoodIn wsX7_light (wsV RX7 137 RX5 yX5_allowsFire wsX5_allowsFire) := goodIn_app (goodIn_of _ (by decide +kernel)) ggX7_light_X5_allowsFire
set_option maxRecDepth 20000 in
theorem ggX7_light_X1_record : GoodIn wsX7_light wsX1_record := goodIn_r _ [42, 43, 44, 45, 46, 47, 41, 48, 49, 50, 51, 7, 52, 14, 9, 53, 54, 55, 37, 56, 57, 58, 59, 60, 18, 61, 20, 62, 22, 63, 64, 65, 66, 67, 68, 69, 70, 71, 72, 73, 74, 27, 75, 76, 30, 31, 77, 78, 32, 29, 79, 80, 81, 82, 83, 84, 85, 86, 87, 88, 89, 90, 91, 92, 93, 94, 95, 96, 97, 98, 99, 160, 161, 151, 152, 153, 154, 155, 156, 157, 158, 159, 141, 142, 143, 144, 145, 146, 147, 148, 149, 150, 162, 163, 164, 165, 166, 167, 168, 169] (by decide +kernel) (by decide +kernel)
set_option maxRecDepth 20000 in
theorem gX7_light_X1_record : GoodIn wsX7_light (wsV RX7 65 RX1 yX1_record wsX1_record) := goodIn_app (goodIn_of _ (by decide +kernel)) ggX7_light_X1_record
set_option maxRecDepth 20000 in
theorem ggX7_light_X5_draft : GoodIn wsX7_light wsX5_draft := goodIn_r _ [103, 53, 55, 104, 105, 106, 85, 107, 89, 87, 88, 151, 152, 153, 154, 155, 156, 157, 158, 162, 163, 164] (by decide +kernel) (by decide +kernel)
set_option maxRecDepth 20000 in
theorem gX7_light_X5_draft : GoodIn wsX7_light (wsV RX7 141 RX5 yX5_draft wsX5_draft) := goodIn_app (goodIn_of _ (by decide +kernel)) ggX7_light_X5_draft
set_option maxRecDepth 20000 in
theorem ggX7_light_X0_strength : GoodIn wsX7_light wsX0_strength := goodIn_r _ [111, 112, 30, 113, 114, 115, 27, 116, 76, 21, 22, 23, 141, 142, 143, 144, 145, 146, 147, 148, 149, 150] (by decide +kernel) (by decide +kernel)
set_option maxRecDepth 20000 in
theorem gX7_light_X0_strength : GoodIn wsX7_light (wsV RX7 144 RX0 yX0_strength wsX0_strength) := goodIn_app (goodIn_of _ (by decide +kernel)) ggX7_light_X0_strength
set_option maxRecDepth 20000 in
theorem ggX7_light_X5_kindle : GoodIn wsX7_light wsX5_kindle := goodIn_r _ [120, 121, 122, 54, 55, 123, 124, 125, 93, 126, 95, 96, 97, 99, 127, 65, 66, 67, 98, 128, 129, 130, 131, 69, 70, 71, 132, 22, 133, 141, 142, 143, 144, 145, 146, 147, 148, 149, 150, 151, 152, 153, 154, 155, 156, 157, 158, 165, 166, 167, 168, 169] (by decide +kernel) (by decide +kernel)
set_option maxRecDepth 20000 in
theorem gX7_light_X5_kindle : GoodIn wsX7_light (wsV RX7 147 RX5 yX5_kindle wsX5_kindle) := goodIn_app (goodIn_of _ (by decide +kernel)) ggX7_light_X5_kindle
theorem dX7_light_0 : decode cX7_light 0 = .ok (.aload_n 0, 1) := by decide +kernel
theorem dX7_light_1 : decode cX7_light 1 = .ok (.getfield 10, 3) := by decide +kernel
theorem dX7_light_4 : decode cX7_light 4 = .ok (.iload_n 1, 1) := by decide +kernel
theorem dX7_light_5 : decode cX7_light 5 = .ok (.invokevirtual 73, 3) := by decide +kernel
theorem dX7_light_8 : decode cX7_light 8 = .ok (.astore_n 2, 1) := by decide +kernel
theorem dX7_light_9 : decode cX7_light 9 = .ok (.aload_n 2, 1) := by decide +kernel
theorem dX7_light_10 : decode cX7_light 10 = .ok (.ifnonnull 5, 3) := by decide +kernel
theorem dX7_light_13 : decode cX7_light 13 = .ok (.iconst (-1), 1) := by decide +kernel
theorem dX7_light_14 : decode cX7_light 14 = .ok (.ireturn, 1) := by decide +kernel
theorem dX7_light_15 : decode cX7_light 15 = .ok (.aload_n 0, 1) := by decide +kernel
theorem dX7_light_16 : decode cX7_light 16 = .ok (.getfield 10, 3) := by decide +kernel
theorem dX7_light_19 : decode cX7_light 19 = .ok (.aload_n 2, 1) := by decide +kernel
theorem dX7_light_20 : decode cX7_light 20 = .ok (.invokevirtual 123, 3) := by decide +kernel
theorem dX7_light_23 : decode cX7_light 23 = .ok (.ifCond .eq 20, 3) := by decide +kernel
theorem dX7_light_26 : decode cX7_light 26 = .ok (.aload_n 2, 1) := by decide +kernel
theorem dX7_light_27 : decode cX7_light 27 = .ok (.getfield 117, 3) := by decide +kernel
theorem dX7_light_30 : decode cX7_light 30 = .ok (.ifCond .ne 13, 3) := by decide +kernel
theorem dX7_light_33 : decode cX7_light 33 = .ok (.aload_n 0, 1) := by decide +kernel
theorem dX7_light_34 : decode cX7_light 34 = .ok (.getfield 10, 3) := by decide +kernel
theorem dX7_light_37 : decode cX7_light 37 = .ok (.invokevirtual 137, 3) := by decide +kernel
theorem dX7_light_40 : decode cX7_light 40 = .ok (.ifCond .ne 6, 3) := by decide +kernel
theorem dX7_light_43 : decode cX7_light 43 = .ok (.bipush (-4), 2) := by decide +kernel
theorem dX7_light_45 : decode cX7_light 45 = .ok (.ireturn, 1) := by decide +kernel
theorem dX7_light_46 : decode cX7_light 46 = .ok (.aload_n 0, 1) := by decide +kernel
theorem dX7_light_47 : decode cX7_light 47 = .ok (.getfield 32, 3) := by decide +kernel
theorem dX7_light_50 : decode cX7_light 50 = .ok (.aload_n 0, 1) := by decide +kernel
theorem dX7_light_51 : decode cX7_light 51 = .ok (.getfield 10, 3) := by decide +kernel
theorem dX7_light_54 : decode cX7_light 54 = .ok (.invokevirtual 65, 3) := by decide +kernel
theorem dX7_light_57 : decode cX7_light 57 = .ok (.aload_n 0, 1) := by decide +kernel
theorem dX7_light_58 : decode cX7_light 58 = .ok (.getfield 10, 3) := by decide +kernel
theorem dX7_light_61 : decode cX7_light 61 = .ok (.invokevirtual 141, 3) := by decide +kernel
theorem dX7_light_64 : decode cX7_light 64 = .ok (.aload_n 2, 1) := by decide +kernel
theorem dX7_light_65 : decode cX7_light 65 = .ok (.invokevirtual 144, 3) := by decide +kernel
theorem dX7_light_68 : decode cX7_light 68 = .ok (.if_icmp .le 5, 3) := by decide +kernel
theorem dX7_light_71 : decode cX7_light 71 = .ok (.iconst 0, 1) := by decide +kernel
theorem dX7_light_72 : decode cX7_light 72 = .ok (.ireturn, 1) := by decide +kernel
theorem dX7_light_73 : decode cX7_light 73 = .ok (.aload_n 0, 1) := by decide +kernel
theorem dX7_light_74 : decode cX7_light 74 = .ok (.getfield 10, 3) := by decide +kernel
theorem dX7_light_77 : decode cX7_light 77 = .ok (.iload_n 1, 1) := by decide +kernel
theorem dX7_light_78 : decode cX7_light 78 = .ok (.aload_n 2, 1) := by decide +kernel
theorem dX7_light_79 : decode cX7_light 79 = .ok (.invokevirtual 147, 3) := by decide +kernel
theorem dX7_light_82 : decode cX7_light 82 = .ok (.iconst 1, 1) := by decide +kernel
theorem dX7_light_83 : decode cX7_light 83 = .ok (.ireturn, 1) := by decide +kernel
set_option maxRecDepth 20000 in
theorem ggX7_unlock_X5_find : GoodIn wsX7_unlock wsX5_find := goodIn_r _ [10, 11, 108, 109, 110, 111, 112, 113, 114, 115] (by decide +kernel) (by decide +kernel)
set_option maxRecDepth 20000 in
theorem gX7_unlock_X5_find : GoodIn wsX7_unlock (wsV RX7 73 RX5 yX5_find wsX5_find) := goodIn_app (goodIn_of _ (by decide +kernel)) ggX7_unlock_X5_find
set_option maxRecDepth 20000 in
theorem ggX7_unlock_X1_record : GoodIn wsX7_unlock wsX1_record := goodIn_r _ [16, 17, 18, 19, 20, 21, 15, 22, 23, 24, 25, 9, 26, 27, 11, 28, 29, 30, 31, 32, 33, 34, 35, 36, 37, 38, 39, 40, 41, 42, 43, 44, 45, 46, 47, 48, 49, 50, 51, 52, 53, 54, 55, 56, 57, 58, 59, 60, 61, 62, 63, 64, 65, 66, 67, 68, 69, 70, 71, 72, 73, 74, 75, 76, 77, 78, 79, 80, 81, 82, 83, 116, 117, 108, 109, 110, 111, 112, 113, 114, 115, 118, 98, 99, 100, 101, 102, 103, 104, 105, 106, 107, 119, 120, 121, 122, 123, 124, 125, 126] (by decide +kernel) (by decide +kernel)
set_option maxRecDepth 20000 in
theorem gX7_unlock_X1_record : GoodIn wsX7_unlock (wsV RX7 65 RX1 yX1_record wsX1_record) := goodIn_app (goodIn_of _ (by decide +kernel)) ggX7_unlock_X1_record
set_option maxRecDepth 20000 in
theorem ggX7_unlock_X5_lockedBurners : GoodIn wsX7_unlock wsX5_lockedBurners := goodIn_r _ [87, 11, 88, 89, 41, 90, 108, 109, 110, 111, 112, 113, 114, 115, 98, 99, 100, 101, 102, 103, 104, 105, 106, 107] (by decide +kernel) (by decide +kernel)
set_option maxRecDepth 20000 in
theorem gX7_unlock_X5_lockedBurners : GoodIn wsX7_unlock (wsV RX7 157 RX5 yX5_lockedBurners wsX5_lockedBurners) := goodIn_app (goodIn_of _ (by decide +kernel)) ggX7_unlock_X5_lockedBurners
theorem dX7_unlock_0 : decode cX7_unlock 0 = .ok (.aload_n 0, 1) := by decide +kernel
theorem dX7_unlock_1 : decode cX7_unlock 1 = .ok (.getfield 10, 3) := by decide +kernel
theorem dX7_unlock_4 : decode cX7_unlock 4 = .ok (.iload_n 1, 1) := by decide +kernel
theorem dX7_unlock_5 : decode cX7_unlock 5 = .ok (.invokevirtual 73, 3) := by decide +kernel
theorem dX7_unlock_8 : decode cX7_unlock 8 = .ok (.astore_n 2, 1) := by decide +kernel
theorem dX7_unlock_9 : decode cX7_unlock 9 = .ok (.aload_n 2, 1) := by decide +kernel
theorem dX7_unlock_10 : decode cX7_unlock 10 = .ok (.ifnonnull 5, 3) := by decide +kernel
theorem dX7_unlock_13 : decode cX7_unlock 13 = .ok (.iconst (-1), 1) := by decide +kernel
theorem dX7_unlock_14 : decode cX7_unlock 14 = .ok (.ireturn, 1) := by decide +kernel
theorem dX7_unlock_15 : decode cX7_unlock 15 = .ok (.aload_n 2, 1) := by decide +kernel
theorem dX7_unlock_16 : decode cX7_unlock 16 = .ok (.getfield 151, 3) := by decide +kernel
theorem dX7_unlock_19 : decode cX7_unlock 19 = .ok (.ifCond .eq 10, 3) := by decide +kernel
theorem dX7_unlock_22 : decode cX7_unlock 22 = .ok (.aload_n 2, 1) := by decide +kernel
theorem dX7_unlock_23 : decode cX7_unlock 23 = .ok (.getfield 83, 3) := by decide +kernel
theorem dX7_unlock_26 : decode cX7_unlock 26 = .ok (.ifCond .eq 6, 3) := by decide +kernel
theorem dX7_unlock_29 : decode cX7_unlock 29 = .ok (.bipush (-4), 2) := by decide +kernel
theorem dX7_unlock_31 : decode cX7_unlock 31 = .ok (.ireturn, 1) := by decide +kernel
theorem dX7_unlock_32 : decode cX7_unlock 32 = .ok (.aload_n 0, 1) := by decide +kernel
theorem dX7_unlock_33 : decode cX7_unlock 33 = .ok (.getfield 32, 3) := by decide +kernel
theorem dX7_unlock_36 : decode cX7_unlock 36 = .ok (.aload_n 0, 1) := by decide +kernel
theorem dX7_unlock_37 : decode cX7_unlock 37 = .ok (.getfield 10, 3) := by decide +kernel
theorem dX7_unlock_40 : decode cX7_unlock 40 = .ok (.invokevirtual 65, 3) := by decide +kernel
theorem dX7_unlock_43 : decode cX7_unlock 43 = .ok (.aload_n 2, 1) := by decide +kernel
theorem dX7_unlock_44 : decode cX7_unlock 44 = .ok (.iconst 0, 1) := by decide +kernel
theorem dX7_unlock_45 : decode cX7_unlock 45 = .ok (.putfield 151, 3) := by decide +kernel
theorem dX7_unlock_48 : decode cX7_unlock 48 = .ok (.aload_n 2, 1) := by decide +kernel
theorem dX7_unlock_49 : decode cX7_unlock 49 = .ok (.iconst 0, 1) := by decide +kernel
theorem dX7_unlock_50 : decode cX7_unlock 50 = .ok (.putfield 154, 3) := by decide +kernel
theorem dX7_unlock_53 : decode cX7_unlock 53 = .ok (.aload_n 0, 1) := by decide +kernel
theorem dX7_unlock_54 : decode cX7_unlock 54 = .ok (.getfield 10, 3) := by decide +kernel
theorem dX7_unlock_57 : decode cX7_unlock 57 = .ok (.invokevirtual 157, 3) := by decide +kernel
theorem dX7_unlock_60 : decode cX7_unlock 60 = .ok (.ireturn, 1) := by decide +kernel
set_option maxRecDepth 20000 in
theorem ggX7_pass_X7_isWithin : GoodIn wsX7_pass wsX7_isWithin := goodIn_r _ [9] (by decide +kernel) (by decide +kernel)
set_option maxRecDepth 20000 in
theorem gX7_pass_X7_isWithin : GoodIn wsX7_pass (va_wsS RX7 79 yX7_isWithin wsX7_isWithin) := goodIn_app (goodIn_of _ (by decide +kernel)) ggX7_pass_X7_isWithin
set_option maxRecDepth 20000 in
theorem ggX7_pass_X1_record : GoodIn wsX7_pass wsX1_record := goodIn_r _ [14, 15, 16, 17, 18, 19, 13, 20, 21, 22, 23, 24, 25, 26, 27, 28, 29, 30, 31, 32, 33, 34, 35, 36, 37, 38, 39, 40, 8, 41, 42, 43, 44, 45, 46, 47, 48, 49, 50, 51, 52, 53, 54, 55, 56, 57, 58, 59, 60, 61, 62, 63, 64, 65, 66, 67, 68, 69, 70, 71, 72, 73, 74, 75, 76, 77, 78, 79, 80, 81, 82, 208, 209, 200, 201, 202, 203, 204, 205, 206, 207, 210, 211, 212, 213, 214, 215, 216, 217, 218, 219, 220, 221, 222, 223, 224, 225, 226, 227, 228] (by decide +kernel) (by decide +kernel)
set_option maxRecDepth 20000 in
theorem gX7_pass_X1_record : GoodIn wsX7_pass (wsV RX7 65 RX1 yX1_record wsX1_record) := goodIn_app (goodIn_of _ (by decide +kernel)) ggX7_pass_X1_record
set_option maxRecDepth 20000 in
theorem ggX7_pass_X2_total : GoodIn wsX7_pass wsX2_total := goodIn_r _ [86, 81, 224, 225, 226, 227, 228] (by decide +kernel) (by decide +kernel)
set_option maxRecDepth 20000 in
theorem gX7_pass_X2_total : GoodIn wsX7_pass (wsV RX7 168 RX2 yX2_total wsX2_total) := goodIn_app (goodIn_of _ (by decide +kernel)) ggX7_pass_X2_total
set_option maxRecDepth 20000 in
theorem ggX7_pass_X5_passTick : GoodIn wsX7_pass wsX5_passTick := goodIn_r _ [90, 27, 32, 31, 91, 92, 44, 93, 26, 30, 94, 95, 96, 24, 97, 28, 98, 99, 100, 68, 101, 72, 70, 71, 102, 103, 104, 105, 106, 107, 108, 37, 109, 39, 110, 8, 111, 112, 113, 114, 115, 116, 29, 117, 118, 119, 120, 121, 122, 123, 53, 124, 61, 56, 57, 60, 125, 126, 127, 128, 129, 130, 131, 132, 133, 55, 134, 135, 136, 76, 137, 78, 79, 80, 82, 138, 43, 45, 81, 139, 140, 141, 142, 47, 48, 49, 7, 9, 143, 144, 145, 146, 147, 148, 149, 150, 151, 152, 153, 154, 155, 156, 157, 158, 159, 160, 161, 59, 162, 163, 164, 165, 166, 167, 168, 169, 170, 171, 172, 173, 174, 175, 176, 177, 178, 179, 180, 181, 182, 183, 33, 184, 185, 186, 187, 188, 189, 190, 191, 192, 200, 201, 202, 203, 204, 205, 206, 207, 221, 222, 223, 210, 211, 212, 213, 214, 215, 216, 217, 218, 219, 220, 224, 225, 226, 227, 228] (by decide +kernel) (by decide +kernel)
set_option maxRecDepth 20000 in
theorem gX7_pass_X5_passTick : GoodIn wsX7_pass (wsV RX7 173 RX5 yX5_passTick wsX5_passTick) := goodIn_app (goodIn_of _ (by decide +kernel)) ggX7_pass_X5_passTick
theorem dX7_pass_0 : decode cX7_pass 0 = .ok (.iload_n 1, 1) := by decide +kernel
theorem dX7_pass_1 : decode cX7_pass 1 = .ok (.iconst 1, 1) := by decide +kernel
theorem dX7_pass_2 : decode cX7_pass 2 = .ok (.sipush 200, 3) := by decide +kernel
theorem dX7_pass_5 : decode cX7_pass 5 = .ok (.invokestatic 79, 3) := by decide +kernel
theorem dX7_pass_8 : decode cX7_pass 8 = .ok (.ifCond .ne 6, 3) := by decide +kernel
theorem dX7_pass_11 : decode cX7_pass 11 = .ok (.bipush (-2), 2) := by decide +kernel
theorem dX7_pass_13 : decode cX7_pass 13 = .ok (.ireturn, 1) := by decide +kernel
theorem dX7_pass_14 : decode cX7_pass 14 = .ok (.aload_n 0, 1) := by decide +kernel
theorem dX7_pass_15 : decode cX7_pass 15 = .ok (.getfield 10, 3) := by decide +kernel
theorem dX7_pass_18 : decode cX7_pass 18 = .ok (.getfield 160, 3) := by decide +kernel
theorem dX7_pass_21 : decode cX7_pass 21 = .ok (.iload_n 1, 1) := by decide +kernel
theorem dX7_pass_22 : decode cX7_pass 22 = .ok (.iadd, 1) := by decide +kernel
theorem dX7_pass_23 : decode cX7_pass 23 = .ok (.ldc 163, 2) := by decide +kernel
theorem dX7_pass_25 : decode cX7_pass 25 = .ok (.if_icmp .le 6, 3) := by decide +kernel
theorem dX7_pass_28 : decode cX7_pass 28 = .ok (.bipush (-3), 2) := by decide +kernel
theorem dX7_pass_30 : decode cX7_pass 30 = .ok (.ireturn, 1) := by decide +kernel
theorem dX7_pass_31 : decode cX7_pass 31 = .ok (.aload_n 0, 1) := by decide +kernel
theorem dX7_pass_32 : decode cX7_pass 32 = .ok (.getfield 32, 3) := by decide +kernel
theorem dX7_pass_35 : decode cX7_pass 35 = .ok (.aload_n 0, 1) := by decide +kernel
theorem dX7_pass_36 : decode cX7_pass 36 = .ok (.getfield 10, 3) := by decide +kernel
theorem dX7_pass_39 : decode cX7_pass 39 = .ok (.invokevirtual 65, 3) := by decide +kernel
theorem dX7_pass_42 : decode cX7_pass 42 = .ok (.aload_n 0, 1) := by decide +kernel
theorem dX7_pass_43 : decode cX7_pass 43 = .ok (.getfield 10, 3) := by decide +kernel
theorem dX7_pass_46 : decode cX7_pass 46 = .ok (.getfield 164, 3) := by decide +kernel
theorem dX7_pass_49 : decode cX7_pass 49 = .ok (.invokevirtual 168, 3) := by decide +kernel
theorem dX7_pass_52 : decode cX7_pass 52 = .ok (.istore_n 2, 1) := by decide +kernel
theorem dX7_pass_53 : decode cX7_pass 53 = .ok (.iconst 0, 1) := by decide +kernel
theorem dX7_pass_54 : decode cX7_pass 54 = .ok (.istore_n 3, 1) := by decide +kernel
theorem dX7_pass_55 : decode cX7_pass 55 = .ok (.iload_n 3, 1) := by decide +kernel
theorem dX7_pass_56 : decode cX7_pass 56 = .ok (.iload_n 1, 1) := by decide +kernel
theorem dX7_pass_57 : decode cX7_pass 57 = .ok (.if_icmp .ge 16, 3) := by decide +kernel
theorem dX7_pass_60 : decode cX7_pass 60 = .ok (.aload_n 0, 1) := by decide +kernel
theorem dX7_pass_61 : decode cX7_pass 61 = .ok (.getfield 10, 3) := by decide +kernel
theorem dX7_pass_64 : decode cX7_pass 64 = .ok (.invokevirtual 173, 3) := by decide +kernel
theorem dX7_pass_67 : decode cX7_pass 67 = .ok (.iinc 3 1, 3) := by decide +kernel
theorem dX7_pass_70 : decode cX7_pass 70 = .ok (.goto (-15), 3) := by decide +kernel
theorem dX7_pass_73 : decode cX7_pass 73 = .ok (.aload_n 0, 1) := by decide +kernel
theorem dX7_pass_74 : decode cX7_pass 74 = .ok (.getfield 10, 3) := by decide +kernel
theorem dX7_pass_77 : decode cX7_pass 77 = .ok (.getfield 164, 3) := by decide +kernel
theorem dX7_pass_80 : decode cX7_pass 80 = .ok (.invokevirtual 168, 3) := by decide +kernel
theorem dX7_pass_83 : decode cX7_pass 83 = .ok (.iload_n 2, 1) := by decide +kernel
theorem dX7_pass_84 : decode cX7_pass 84 = .ok (.isub, 1) := by decide +kernel
theorem dX7_pass_85 : decode cX7_pass 85 = .ok (.ireturn, 1) := by decide +kernel
set_option maxRecDepth 20000 in
theorem ggX7_type_X6_append : GoodIn wsX7_type wsX6_append := goodIn_r _ [7, 8, 9, 17, 18] (by decide +kernel) (by decide +kernel)
set_option maxRecDepth 20000 in
theorem gX7_type_X6_append : GoodIn wsX7_type (wsV RX7 176 RX6 yX6_append wsX6_append) := goodIn_app (goodIn_of _ (by decide +kernel)) ggX7_type_X6_append
theorem dX7_type_0 : decode cX7_type 0 = .ok (.aload_n 0, 1) := by decide +kernel
theorem dX7_type_1 : decode cX7_type 1 = .ok (.getfield 39, 3) := by decide +kernel
theorem dX7_type_4 : decode cX7_type 4 = .ok (.iload_n 1, 1) := by decide +kernel
theorem dX7_type_5 : decode cX7_type 5 = .ok (.invokevirtual 176, 3) := by decide +kernel
theorem dX7_type_8 : decode cX7_type 8 = .ok (.ifCond .ne 6, 3) := by decide +kernel
theorem dX7_type_11 : decode cX7_type 11 = .ok (.bipush (-3), 2) := by decide +kernel
theorem dX7_type_13 : decode cX7_type 13 = .ok (.ireturn, 1) := by decide +kernel
theorem dX7_type_14 : decode cX7_type 14 = .ok (.aload_n 0, 1) := by decide +kernel
theorem dX7_type_15 : decode cX7_type 15 = .ok (.getfield 39, 3) := by decide +kernel
theorem dX7_type_18 : decode cX7_type 18 = .ok (.getfield 180, 3) := by decide +kernel
theorem dX7_type_21 : decode cX7_type 21 = .ok (.ireturn, 1) := by decide +kernel
set_option maxRecDepth 20000 in
theorem ggX7_clearText_X6_empty : GoodIn wsX7_clearText wsX6_empty := goodIn_r _ [7, 8, 16, 17] (by decide +kernel) (by decide +kernel)
set_option maxRecDepth 20000 in
theorem gX7_clearText_X6_empty : GoodIn wsX7_clearText (wsV RX7 183 RX6 yX6_empty wsX6_empty) := goodIn_app (goodIn_of _ (by decide +kernel)) ggX7_clearText_X6_empty
theorem dX7_clearText_0 : decode cX7_clearText 0 = .ok (.aload_n 0, 1) := by decide +kernel
theorem dX7_clearText_1 : decode cX7_clearText 1 = .ok (.getfield 39, 3) := by decide +kernel
theorem dX7_clearText_4 : decode cX7_clearText 4 = .ok (.getfield 180, 3) := by decide +kernel
theorem dX7_clearText_7 : decode cX7_clearText 7 = .ok (.istore_n 1, 1) := by decide +kernel
theorem dX7_clearText_8 : decode cX7_clearText 8 = .ok (.aload_n 0, 1) := by decide +kernel
theorem dX7_clearText_9 : decode cX7_clearText 9 = .ok (.getfield 39, 3) := by decide +kernel
theorem dX7_clearText_12 : decode cX7_clearText 12 = .ok (.invokevirtual 183, 3) := by decide +kernel
theorem dX7_clearText_15 : decode cX7_clearText 15 = .ok (.iload_n 1, 1) := by decide +kernel
theorem dX7_clearText_16 : decode cX7_clearText 16 = .ok (.ireturn, 1) := by decide +kernel
set_option maxRecDepth 20000 in
theorem ggX7_undo_X1_takeBack : GoodIn wsX7_undo wsX1_takeBack := goodIn_r _ [8, 9, 10, 11, 12, 13, 14, 15, 16, 17, 18, 19, 20, 21, 22, 23, 24, 25, 26, 27, 28, 29, 30, 31, 32, 33, 34, 35, 36, 37, 38, 39, 40, 41, 42, 43, 44, 45, 46, 47, 48, 49, 50, 51, 52, 53, 54, 55, 56, 57, 58, 59, 60, 61, 62, 63, 64, 65, 66, 67, 68, 69, 70, 71, 72, 73, 81, 82, 83, 84, 85, 86, 87, 88, 89, 90, 91, 92, 93, 94, 95, 96, 97, 98, 99, 100, 101, 102, 103, 104, 105, 106, 107, 108, 109] (by decide +kernel) (by decide +kernel)
set_option maxRecDepth 20000 in
theorem gX7_undo_X1_takeBack : GoodIn wsX7_undo (wsV RX7 186 RX1 yX1_takeBack wsX1_takeBack) := goodIn_app (goodIn_of _ (by decide +kernel)) ggX7_undo_X1_takeBack
theorem dX7_undo_0 : decode cX7_undo 0 = .ok (.aload_n 0, 1) := by decide +kernel
theorem dX7_undo_1 : decode cX7_undo 1 = .ok (.getfield 32, 3) := by decide +kernel
theorem dX7_undo_4 : decode cX7_undo 4 = .ok (.aload_n 0, 1) := by decide +kernel
theorem dX7_undo_5 : decode cX7_undo 5 = .ok (.getfield 10, 3) := by decide +kernel
theorem dX7_undo_8 : decode cX7_undo 8 = .ok (.invokevirtual 186, 3) := by decide +kernel
theorem dX7_undo_11 : decode cX7_undo 11 = .ok (.ifCond .ne 6, 3) := by decide +kernel
theorem dX7_undo_14 : decode cX7_undo 14 = .ok (.bipush (-5), 2) := by decide +kernel
theorem dX7_undo_16 : decode cX7_undo 16 = .ok (.ireturn, 1) := by decide +kernel
theorem dX7_undo_17 : decode cX7_undo 17 = .ok (.aload_n 0, 1) := by decide +kernel
theorem dX7_undo_18 : decode cX7_undo 18 = .ok (.getfield 32, 3) := by decide +kernel
theorem dX7_undo_21 : decode cX7_undo 21 = .ok (.getfield 190, 3) := by decide +kernel
theorem dX7_undo_24 : decode cX7_undo 24 = .ok (.ireturn, 1) := by decide +kernel
set_option maxRecDepth 20000 in
theorem ggX7_keep_X5_copyFrom : GoodIn wsX7_keep wsX5_copyFrom := goodIn_r _ [9, 10, 11, 12, 13, 14, 15, 16, 17, 18, 19, 20, 21, 22, 23, 24, 25, 26, 27, 28, 29, 30, 31, 32, 33, 34, 35, 36, 37, 38, 39, 40, 41, 42, 43, 44, 45, 46, 47, 48, 49, 50, 51, 52, 53, 54, 55, 56, 57, 58, 59, 60, 61, 62, 63, 64, 65, 66, 67, 75, 76, 77, 78, 79, 80, 81, 82, 83, 84, 85, 86, 87, 88, 89, 90, 91, 92, 93, 94, 95, 96, 97, 98, 99, 100, 101] (by decide +kernel) (by decide +kernel)
set_option maxRecDepth 20000 in
theorem gX7_keep_X5_copyFrom : GoodIn wsX7_keep (wsV RX7 191 RX5 yX5_copyFrom wsX5_copyFrom) := goodIn_app (goodIn_of _ (by decide +kernel)) ggX7_keep_X5_copyFrom
theorem dX7_keep_0 : decode cX7_keep 0 = .ok (.aload_n 0, 1) := by decide +kernel
theorem dX7_keep_1 : decode cX7_keep 1 = .ok (.getfield 16, 3) := by decide +kernel
theorem dX7_keep_4 : decode cX7_keep 4 = .ok (.aload_n 0, 1) := by decide +kernel
theorem dX7_keep_5 : decode cX7_keep 5 = .ok (.getfield 10, 3) := by decide +kernel
theorem dX7_keep_8 : decode cX7_keep 8 = .ok (.invokevirtual 191, 3) := by decide +kernel
theorem dX7_keep_11 : decode cX7_keep 11 = .ok (.aload_n 0, 1) := by decide +kernel
theorem dX7_keep_12 : decode cX7_keep 12 = .ok (.iconst 1, 1) := by decide +kernel
theorem dX7_keep_13 : decode cX7_keep 13 = .ok (.putfield 43, 3) := by decide +kernel
theorem dX7_keep_16 : decode cX7_keep 16 = .ok (.aload_n 0, 1) := by decide +kernel
theorem dX7_keep_17 : decode cX7_keep 17 = .ok (.getfield 10, 3) := by decide +kernel
theorem dX7_keep_20 : decode cX7_keep 20 = .ok (.getfield 160, 3) := by decide +kernel
theorem dX7_keep_23 : decode cX7_keep 23 = .ok (.ireturn, 1) := by decide +kernel
set_option maxRecDepth 20000 in
theorem ggX7_restore_X1_record : GoodIn wsX7_restore wsX1_record := goodIn_r _ [10, 11, 12, 13, 14, 15, 9, 16, 17, 18, 19, 20, 21, 22, 23, 24, 25, 26, 27, 28, 29, 30, 31, 32, 33, 34, 35, 36, 37, 38, 39, 40, 41, 42, 43, 44, 45, 46, 47, 48, 49, 50, 51, 52, 53, 54, 55, 56, 57, 58, 59, 60, 61, 62, 63, 64, 65, 66, 67, 68, 69, 70, 71, 72, 73, 74, 75, 76, 77, 78, 79, 96, 97, 88, 89, 90, 91, 92, 93, 94, 95, 98, 99, 100, 101, 102, 103, 104, 105, 106, 107, 108, 109, 110, 111, 112, 113, 114, 115, 116] (by decide +kernel) (by decide +kernel)
set_option maxRecDepth 20000 in
theorem gX7_restore_X1_record : GoodIn wsX7_restore (wsV RX7 65 RX1 yX1_record wsX1_record) := goodIn_app (goodIn_of _ (by decide +kernel)) ggX7_restore_X1_record
set_option maxRecDepth 20000 in
theorem ggX7_restore_X5_copyFrom : GoodIn wsX7_restore wsX5_copyFrom := goodIn_r _ [21, 22, 23, 24, 25, 26, 27, 28, 29, 30, 31, 32, 33, 34, 35, 36, 37, 38, 39, 40, 41, 42, 43, 44, 45, 46, 47, 48, 49, 50, 51, 52, 53, 54, 55, 56, 57, 58, 59, 60, 61, 62, 63, 64, 65, 66, 67, 68, 69, 70, 71, 72, 73, 74, 75, 76, 77, 78, 79, 88, 89, 90, 91, 92, 93, 94, 95, 98, 99, 100, 101, 102, 103, 104, 105, 106, 107, 108, 109, 110, 111, 112, 113, 114, 115, 116] (by decide +kernel) (by decide +kernel)
set_option maxRecDepth 20000 in
theorem gX7_restore_X5_copyFrom : GoodIn wsX7_restore (wsV RX7 191 RX5 yX5_copyFrom wsX5_copyFrom) := goodIn_app (goodIn_of _ (by decide +kernel)) ggX7_restore_X5_copyFrom
theorem dX7_restore_0 : decode cX7_restore 0 = .ok (.aload_n 0, 1) := by decide +kernel
theorem dX7_restore_1 : decode cX7_restore 1 = .ok (.getfield 43, 3) := by decide +kernel
theorem dX7_restore_4 : decode cX7_restore 4 = .ok (.ifCond .ne 6, 3) := by decide +kernel
theorem dX7_restore_7 : decode cX7_restore 7 = .ok (.bipush (-5), 2) := by decide +kernel
theorem dX7_restore_9 : decode cX7_restore 9 = .ok (.ireturn, 1) := by decide +kernel
theorem dX7_restore_10 : decode cX7_restore 10 = .ok (.aload_n 0, 1) := by decide +kernel
theorem dX7_restore_11 : decode cX7_restore 11 = .ok (.getfield 32, 3) := by decide +kernel
theorem dX7_restore_14 : decode cX7_restore 14 = .ok (.aload_n 0, 1) := by decide +kernel
theorem dX7_restore_15 : decode cX7_restore 15 = .ok (.getfield 10, 3) := by decide +kernel
theorem dX7_restore_18 : decode cX7_restore 18 = .ok (.invokevirtual 65, 3) := by decide +kernel
theorem dX7_restore_21 : decode cX7_restore 21 = .ok (.aload_n 0, 1) := by decide +kernel
theorem dX7_restore_22 : decode cX7_restore 22 = .ok (.getfield 10, 3) := by decide +kernel
theorem dX7_restore_25 : decode cX7_restore 25 = .ok (.aload_n 0, 1) := by decide +kernel
theorem dX7_restore_26 : decode cX7_restore 26 = .ok (.getfield 16, 3) := by decide +kernel
theorem dX7_restore_29 : decode cX7_restore 29 = .ok (.invokevirtual 191, 3) := by decide +kernel
theorem dX7_restore_32 : decode cX7_restore 32 = .ok (.aload_n 0, 1) := by decide +kernel
theorem dX7_restore_33 : decode cX7_restore 33 = .ok (.getfield 10, 3) := by decide +kernel
theorem dX7_restore_36 : decode cX7_restore 36 = .ok (.getfield 160, 3) := by decide +kernel
theorem dX7_restore_39 : decode cX7_restore 39 = .ok (.ireturn, 1) := by decide +kernel
set_option maxRecDepth 20000 in
theorem ggX7_burner_X5_find : GoodIn wsX7_burner wsX5_find := goodIn_r _ [16, 17, 71, 72, 73, 74, 75, 76, 77, 78] (by decide +kernel) (by decide +kernel)
set_option maxRecDepth 20000 in
theorem gX7_burner_X5_find : GoodIn wsX7_burner (wsV RX7 73 RX5 yX5_find wsX5_find) := goodIn_app (goodIn_of _ (by decide +kernel)) ggX7_burner_X5_find
set_option maxRecDepth 20000 in
theorem ggX7_burner_X7_oneIf : GoodIn wsX7_burner wsX7_oneIf := goodIn_r _ [21] (by decide +kernel) (by decide +kernel)
set_option maxRecDepth 20000 in
theorem gX7_burner_X7_oneIf : GoodIn wsX7_burner (va_wsS RX7 127 yX7_oneIf wsX7_oneIf) := goodIn_app (goodIn_of _ (by decide +kernel)) ggX7_burner_X7_oneIf
set_option maxRecDepth 20000 in
theorem ggX7_burner_X5_isOpen : GoodIn wsX7_burner wsX5_isOpen := goodIn_r _ [25, 26, 27, 28, 29, 30, 31, 32, 33, 20, 34, 35, 36, 37, 38, 39, 40, 41, 42, 43, 71, 72, 73, 74, 75, 76, 77, 78, 79, 61, 62, 63, 64, 65, 66, 67, 68, 69, 70] (by decide +kernel) (by decide +kernel)
set_option maxRecDepth 20000 in
theorem gX7_burner_X5_isOpen : GoodIn wsX7_burner (wsV RX7 123 RX5 yX5_isOpen wsX5_isOpen) := goodIn_app (goodIn_of _ (by decide +kernel)) ggX7_burner_X5_isOpen
set_option maxRecDepth 20000 in
theorem ggX7_burner_X0_strength : GoodIn wsX7_burner wsX0_strength := goodIn_r _ [47, 48, 41, 49, 50, 51, 38, 52, 53, 33, 20, 34, 61, 62, 63, 64, 65, 66, 67, 68, 69, 70] (by decide +kernel) (by decide +kernel)
set_option maxRecDepth 20000 in
theorem gX7_burner_X0_strength : GoodIn wsX7_burner (wsV RX7 144 RX0 yX0_strength wsX0_strength) := goodIn_app (goodIn_of _ (by decide +kernel)) ggX7_burner_X0_strength
theorem dX7_burner_0 : decode cX7_burner 0 = .ok (.aload_n 0, 1) := by decide +kernel
theorem dX7_burner_1 : decode cX7_burner 1 = .ok (.getfield 10, 3) := by decide +kernel
theorem dX7_burner_4 : decode cX7_burner 4 = .ok (.iload_n 1, 1) := by decide +kernel
theorem dX7_burner_5 : decode cX7_burner 5 = .ok (.invokevirtual 73, 3) := by decide +kernel
theorem dX7_burner_8 : decode cX7_burner 8 = .ok (.astore_n 3, 1) := by decide +kernel
theorem dX7_burner_9 : decode cX7_burner 9 = .ok (.aload_n 3, 1) := by decide +kernel
theorem dX7_burner_10 : decode cX7_burner 10 = .ok (.ifnonnull 5, 3) := by decide +kernel
theorem dX7_burner_13 : decode cX7_burner 13 = .ok (.iconst (-1), 1) := by decide +kernel
theorem dX7_burner_14 : decode cX7_burner 14 = .ok (.ireturn, 1) := by decide +kernel
theorem dX7_burner_15 : decode cX7_burner 15 = .ok (.iload_n 2, 1) := by decide +kernel
theorem dX7_burner_16 : decode cX7_burner 16 = .ok (.tableswitch 143 0 11 #[64, 69, 74, 82, 90, 98, 103, 115, 123, 128, 133, 138], 64) := by decide +kernel
theorem dX7_burner_80 : decode cX7_burner 80 = .ok (.aload_n 3, 1) := by decide +kernel
theorem dX7_burner_81 : decode cX7_burner 81 = .ok (.getfield 87, 3) := by decide +kernel
theorem dX7_burner_84 : decode cX7_burner 84 = .ok (.ireturn, 1) := by decide +kernel
theorem dX7_burner_85 : decode cX7_burner 85 = .ok (.aload_n 3, 1) := by decide +kernel
theorem dX7_burner_86 : decode cX7_burner 86 = .ok (.getfield 83, 3) := by decide +kernel
theorem dX7_burner_89 : decode cX7_burner 89 = .ok (.ireturn, 1) := by decide +kernel
theorem dX7_burner_90 : decode cX7_burner 90 = .ok (.aload_n 3, 1) := by decide +kernel
theorem dX7_burner_91 : decode cX7_burner 91 = .ok (.getfield 120, 3) := by decide +kernel
theorem dX7_burner_94 : decode cX7_burner 94 = .ok (.invokestatic 127, 3) := by decide +kernel
theorem dX7_burner_97 : decode cX7_burner 97 = .ok (.ireturn, 1) := by decide +kernel
theorem dX7_burner_98 : decode cX7_burner 98 = .ok (.aload_n 3, 1) := by decide +kernel
theorem dX7_burner_99 : decode cX7_burner 99 = .ok (.getfield 131, 3) := by decide +kernel
theorem dX7_burner_102 : decode cX7_burner 102 = .ok (.invokestatic 127, 3) := by decide +kernel
theorem dX7_burner_105 : decode cX7_burner 105 = .ok (.ireturn, 1) := by decide +kernel
theorem dX7_burner_106 : decode cX7_burner 106 = .ok (.aload_n 3, 1) := by decide +kernel
theorem dX7_burner_107 : decode cX7_burner 107 = .ok (.getfield 117, 3) := by decide +kernel
theorem dX7_burner_110 : decode cX7_burner 110 = .ok (.invokestatic 127, 3) := by decide +kernel
theorem dX7_burner_113 : decode cX7_burner 113 = .ok (.ireturn, 1) := by decide +kernel
theorem dX7_burner_114 : decode cX7_burner 114 = .ok (.aload_n 3, 1) := by decide +kernel
theorem dX7_burner_115 : decode cX7_burner 115 = .ok (.getfield 193, 3) := by decide +kernel
theorem dX7_burner_118 : decode cX7_burner 118 = .ok (.ireturn, 1) := by decide +kernel
theorem dX7_burner_119 : decode cX7_burner 119 = .ok (.aload_n 0, 1) := by decide +kernel
theorem dX7_burner_120 : decode cX7_burner 120 = .ok (.getfield 10, 3) := by decide +kernel
theorem dX7_burner_123 : decode cX7_burner 123 = .ok (.aload_n 3, 1) := by decide +kernel
theorem dX7_burner_124 : decode cX7_burner 124 = .ok (.invokevirtual 123, 3) := by decide +kernel
theorem dX7_burner_127 : decode cX7_burner 127 = .ok (.invokestatic 127, 3) := by decide +kernel
theorem dX7_burner_130 : decode cX7_burner 130 = .ok (.ireturn, 1) := by decide +kernel
theorem dX7_burner_131 : decode cX7_burner 131 = .ok (.aload_n 3, 1) := by decide +kernel
theorem dX7_burner_132 : decode cX7_burner 132 = .ok (.getfield 151, 3) := by decide +kernel
theorem dX7_burner_135 : decode cX7_burner 135 = .ok (.invokestatic 127, 3) := by decide +kernel
theorem dX7_burner_138 : decode cX7_burner 138 = .ok (.ireturn, 1) := by decide +kernel
theorem dX7_burner_139 : decode cX7_burner 139 = .ok (.aload_n 3, 1) := by decide +kernel
theorem dX7_burner_140 : decode cX7_burner 140 = .ok (.getfield 154, 3) := by decide +kernel
theorem dX7_burner_143 : decode cX7_burner 143 = .ok (.ireturn, 1) := by decide +kernel
theorem dX7_burner_144 : decode cX7_burner 144 = .ok (.aload_n 3, 1) := by decide +kernel
theorem dX7_burner_145 : decode cX7_burner 145 = .ok (.getfield 196, 3) := by decide +kernel
theorem dX7_burner_148 : decode cX7_burner 148 = .ok (.ireturn, 1) := by decide +kernel
theorem dX7_burner_149 : decode cX7_burner 149 = .ok (.aload_n 3, 1) := by decide +kernel
theorem dX7_burner_150 : decode cX7_burner 150 = .ok (.getfield 199, 3) := by decide +kernel
theorem dX7_burner_153 : decode cX7_burner 153 = .ok (.ireturn, 1) := by decide +kernel
theorem dX7_burner_154 : decode cX7_burner 154 = .ok (.aload_n 3, 1) := by decide +kernel
theorem dX7_burner_155 : decode cX7_burner 155 = .ok (.invokevirtual 144, 3) := by decide +kernel
theorem dX7_burner_158 : decode cX7_burner 158 = .ok (.ireturn, 1) := by decide +kernel
theorem dX7_burner_159 : decode cX7_burner 159 = .ok (.bipush (-2), 2) := by decide +kernel
theorem dX7_burner_161 : decode cX7_burner 161 = .ok (.ireturn, 1) := by decide +kernel
set_option maxRecDepth 20000 in
theorem ggX7_staysOpen_X5_find : GoodIn wsX7_staysOpen wsX5_find := goodIn_r _ [10, 11, 56, 57, 58, 59, 60, 61, 62, 63] (by decide +kernel) (by decide +kernel)
set_option maxRecDepth 20000 in
theorem gX7_staysOpen_X5_find : GoodIn wsX7_staysOpen (wsV RX7 73 RX5 yX5_find wsX5_find) := goodIn_app (goodIn_of _ (by decide +kernel)) ggX7_staysOpen_X5_find
set_option maxRecDepth 20000 in
theorem ggX7_staysOpen_X4_valueOf : GoodIn wsX7_staysOpen wsX4_valueOf := goodIn_r _ [16, 17, 18, 19, 20, 64] (by decide +kernel) (by decide +kernel)
set_option maxRecDepth 20000 in
theorem gX7_staysOpen_X4_valueOf : GoodIn wsX7_staysOpen (wsV RX7 61 RX4 yX4_valueOf wsX4_valueOf) := goodIn_app (goodIn_of _ (by decide +kernel)) ggX7_staysOpen_X4_valueOf
set_option maxRecDepth 20000 in
theorem ggX7_staysOpen_X0_temperatureAfter : GoodIn wsX7_staysOpen wsX0_temperatureAfter := goodIn_r _ [25, 26, 27, 28, 29, 30, 31, 32, 33, 34, 35, 18, 19, 20, 36, 37, 24, 38, 46, 47, 48, 49, 50, 51, 52, 53, 54, 55] (by decide +kernel) (by decide +kernel)
set_option maxRecDepth 20000 in
theorem gX7_staysOpen_X0_temperatureAfter : GoodIn wsX7_staysOpen (wsV RX7 202 RX0 yX0_temperatureAfter wsX0_temperatureAfter) := goodIn_app (goodIn_of _ (by decide +kernel)) ggX7_staysOpen_X0_temperatureAfter
theorem dX7_staysOpen_0 : decode cX7_staysOpen 0 = .ok (.aload_n 0, 1) := by decide +kernel
theorem dX7_staysOpen_1 : decode cX7_staysOpen 1 = .ok (.getfield 10, 3) := by decide +kernel
theorem dX7_staysOpen_4 : decode cX7_staysOpen 4 = .ok (.iload_n 1, 1) := by decide +kernel
theorem dX7_staysOpen_5 : decode cX7_staysOpen 5 = .ok (.invokevirtual 73, 3) := by decide +kernel
theorem dX7_staysOpen_8 : decode cX7_staysOpen 8 = .ok (.astore_n 2, 1) := by decide +kernel
theorem dX7_staysOpen_9 : decode cX7_staysOpen 9 = .ok (.aload_n 2, 1) := by decide +kernel
theorem dX7_staysOpen_10 : decode cX7_staysOpen 10 = .ok (.ifnonnull 5, 3) := by decide +kernel
theorem dX7_staysOpen_13 : decode cX7_staysOpen 13 = .ok (.iconst (-1), 1) := by decide +kernel
theorem dX7_staysOpen_14 : decode cX7_staysOpen 14 = .ok (.ireturn, 1) := by decide +kernel
theorem dX7_staysOpen_15 : decode cX7_staysOpen 15 = .ok (.aload_n 2, 1) := by decide +kernel
theorem dX7_staysOpen_16 : decode cX7_staysOpen 16 = .ok (.getfield 83, 3) := by decide +kernel
theorem dX7_staysOpen_19 : decode cX7_staysOpen 19 = .ok (.ifCond .eq 10, 3) := by decide +kernel
theorem dX7_staysOpen_22 : decode cX7_staysOpen 22 = .ok (.aload_n 2, 1) := by decide +kernel
theorem dX7_staysOpen_23 : decode cX7_staysOpen 23 = .ok (.getfield 151, 3) := by decide +kernel
theorem dX7_staysOpen_26 : decode cX7_staysOpen 26 = .ok (.ifCond .eq 6, 3) := by decide +kernel
theorem dX7_staysOpen_29 : decode cX7_staysOpen 29 = .ok (.bipush (-4), 2) := by decide +kernel
theorem dX7_staysOpen_31 : decode cX7_staysOpen 31 = .ok (.ireturn, 1) := by decide +kernel
theorem dX7_staysOpen_32 : decode cX7_staysOpen 32 = .ok (.aload_n 0, 1) := by decide +kernel
theorem dX7_staysOpen_33 : decode cX7_staysOpen 33 = .ok (.getfield 10, 3) := by decide +kernel
theorem dX7_staysOpen_36 : decode cX7_staysOpen 36 = .ok (.getfield 57, 3) := by decide +kernel
theorem dX7_staysOpen_39 : decode cX7_staysOpen 39 = .ok (.iconst 0, 1) := by decide +kernel
theorem dX7_staysOpen_40 : decode cX7_staysOpen 40 = .ok (.invokevirtual 61, 3) := by decide +kernel
theorem dX7_staysOpen_43 : decode cX7_staysOpen 43 = .ok (.istore_n 3, 1) := by decide +kernel
theorem dX7_staysOpen_44 : decode cX7_staysOpen 44 = .ok (.aload_n 2, 1) := by decide +kernel
theorem dX7_staysOpen_45 : decode cX7_staysOpen 45 = .ok (.getfield 193, 3) := by decide +kernel
theorem dX7_staysOpen_48 : decode cX7_staysOpen 48 = .ok (.istore 4, 2) := by decide +kernel
theorem dX7_staysOpen_50 : decode cX7_staysOpen 50 = .ok (.iconst 0, 1) := by decide +kernel
theorem dX7_staysOpen_51 : decode cX7_staysOpen 51 = .ok (.istore 5, 2) := by decide +kernel
theorem dX7_staysOpen_53 : decode cX7_staysOpen 53 = .ok (.iload 4, 2) := by decide +kernel
theorem dX7_staysOpen_55 : decode cX7_staysOpen 55 = .ok (.iload_n 3, 1) := by decide +kernel
theorem dX7_staysOpen_56 : decode cX7_staysOpen 56 = .ok (.if_icmp .lt 26, 3) := by decide +kernel
theorem dX7_staysOpen_59 : decode cX7_staysOpen 59 = .ok (.iload 5, 2) := by decide +kernel
theorem dX7_staysOpen_61 : decode cX7_staysOpen 61 = .ok (.sipush 1000, 3) := by decide +kernel
theorem dX7_staysOpen_64 : decode cX7_staysOpen 64 = .ok (.if_icmp .ge 18, 3) := by decide +kernel
theorem dX7_staysOpen_67 : decode cX7_staysOpen 67 = .ok (.aload_n 2, 1) := by decide +kernel
theorem dX7_staysOpen_68 : decode cX7_staysOpen 68 = .ok (.iload 4, 2) := by decide +kernel
theorem dX7_staysOpen_70 : decode cX7_staysOpen 70 = .ok (.iconst 0, 1) := by decide +kernel
theorem dX7_staysOpen_71 : decode cX7_staysOpen 71 = .ok (.invokevirtual 202, 3) := by decide +kernel
theorem dX7_staysOpen_74 : decode cX7_staysOpen 74 = .ok (.istore 4, 2) := by decide +kernel
theorem dX7_staysOpen_76 : decode cX7_staysOpen 76 = .ok (.iinc 5 1, 3) := by decide +kernel
theorem dX7_staysOpen_79 : decode cX7_staysOpen 79 = .ok (.goto (-26), 3) := by decide +kernel
theorem dX7_staysOpen_82 : decode cX7_staysOpen 82 = .ok (.iload 5, 2) := by decide +kernel
theorem dX7_staysOpen_84 : decode cX7_staysOpen 84 = .ok (.ireturn, 1) := by decide +kernel
set_option maxRecDepth 20000 in
theorem ggX7_toPress_X5_find : GoodIn wsX7_toPress wsX5_find := goodIn_r _ [8, 9, 56, 57, 58, 59, 60, 61, 62, 63] (by decide +kernel) (by decide +kernel)
set_option maxRecDepth 20000 in
theorem gX7_toPress_X5_find : GoodIn wsX7_toPress (wsV RX7 73 RX5 yX5_find wsX5_find) := goodIn_app (goodIn_of _ (by decide +kernel)) ggX7_toPress_X5_find
set_option maxRecDepth 20000 in
theorem ggX7_toPress_X7_isWithin : GoodIn wsX7_toPress wsX7_isWithin := goodIn_r _ [13] (by decide +kernel) (by decide +kernel)
set_option maxRecDepth 20000 in
theorem gX7_toPress_X7_isWithin : GoodIn wsX7_toPress (va_wsS RX7 79 yX7_isWithin wsX7_isWithin) := goodIn_app (goodIn_of _ (by decide +kernel)) ggX7_toPress_X7_isWithin
set_option maxRecDepth 20000 in
theorem ggX7_toPress_X4_valueOf : GoodIn wsX7_toPress wsX4_valueOf := goodIn_r _ [18, 19, 20, 12, 21, 74] (by decide +kernel) (by decide +kernel)
set_option maxRecDepth 20000 in
theorem gX7_toPress_X4_valueOf : GoodIn wsX7_toPress (wsV RX7 61 RX4 yX4_valueOf wsX4_valueOf) := goodIn_app (goodIn_of _ (by decide +kernel)) ggX7_toPress_X4_valueOf
set_option maxRecDepth 20000 in
theorem ggX7_toPress_X0_heatAt : GoodIn wsX7_toPress wsX0_heatAt := goodIn_r _ [26, 27, 28, 29, 30, 25, 31, 32, 20, 12, 21, 64, 65, 66, 67, 68, 69, 70, 71, 72, 73] (by decide +kernel) (by decide +kernel)
set_option maxRecDepth 20000 in
theorem gX7_toPress_X0_heatAt : GoodIn wsX7_toPress (wsV RX7 206 RX0 yX0_heatAt wsX0_heatAt) := goodIn_app (goodIn_of _ (by decide +kernel)) ggX7_toPress_X0_heatAt
set_option maxRecDepth 20000 in
theorem ggX7_toPress_X0_temperatureAfter : GoodIn wsX7_toPress wsX0_temperatureAfter := goodIn_r _ [36, 37, 32, 38, 39, 40, 41, 42, 43, 44, 45, 20, 12, 21, 46, 47, 25, 48, 64, 65, 66, 67, 68, 69, 70, 71, 72, 73] (by decide +kernel) (by decide +kernel)
set_option maxRecDepth 20000 in
theorem gX7_toPress_X0_temperatureAfter : GoodIn wsX7_toPress (wsV RX7 202 RX0 yX0_temperatureAfter wsX0_temperatureAfter) := goodIn_app (goodIn_of _ (by decide +kernel)) ggX7_toPress_X0_temperatureAfter
theorem dX7_toPress_0 : decode cX7_toPress 0 = .ok (.aload_n 0, 1) := by decide +kernel
theorem dX7_toPress_1 : decode cX7_toPress 1 = .ok (.getfield 10, 3) := by decide +kernel
theorem dX7_toPress_4 : decode cX7_toPress 4 = .ok (.iload_n 1, 1) := by decide +kernel
theorem dX7_toPress_5 : decode cX7_toPress 5 = .ok (.invokevirtual 73, 3) := by decide +kernel
theorem dX7_toPress_8 : decode cX7_toPress 8 = .ok (.astore_n 3, 1) := by decide +kernel
theorem dX7_toPress_9 : decode cX7_toPress 9 = .ok (.aload_n 3, 1) := by decide +kernel
theorem dX7_toPress_10 : decode cX7_toPress 10 = .ok (.ifnonnull 5, 3) := by decide +kernel
theorem dX7_toPress_13 : decode cX7_toPress 13 = .ok (.iconst (-1), 1) := by decide +kernel
theorem dX7_toPress_14 : decode cX7_toPress 14 = .ok (.ireturn, 1) := by decide +kernel
theorem dX7_toPress_15 : decode cX7_toPress 15 = .ok (.iload_n 2, 1) := by decide +kernel
theorem dX7_toPress_16 : decode cX7_toPress 16 = .ok (.iconst 1, 1) := by decide +kernel
theorem dX7_toPress_17 : decode cX7_toPress 17 = .ok (.iconst 2, 1) := by decide +kernel
theorem dX7_toPress_18 : decode cX7_toPress 18 = .ok (.invokestatic 79, 3) := by decide +kernel
theorem dX7_toPress_21 : decode cX7_toPress 21 = .ok (.ifCond .ne 6, 3) := by decide +kernel
theorem dX7_toPress_24 : decode cX7_toPress 24 = .ok (.bipush (-2), 2) := by decide +kernel
theorem dX7_toPress_26 : decode cX7_toPress 26 = .ok (.ireturn, 1) := by decide +kernel
theorem dX7_toPress_27 : decode cX7_toPress 27 = .ok (.aload_n 0, 1) := by decide +kernel
theorem dX7_toPress_28 : decode cX7_toPress 28 = .ok (.getfield 10, 3) := by decide +kernel
theorem dX7_toPress_31 : decode cX7_toPress 31 = .ok (.getfield 57, 3) := by decide +kernel
theorem dX7_toPress_34 : decode cX7_toPress 34 = .ok (.iconst 0, 1) := by decide +kernel
theorem dX7_toPress_35 : decode cX7_toPress 35 = .ok (.invokevirtual 61, 3) := by decide +kernel
theorem dX7_toPress_38 : decode cX7_toPress 38 = .ok (.istore 4, 2) := by decide +kernel
theorem dX7_toPress_40 : decode cX7_toPress 40 = .ok (.aload_n 3, 1) := by decide +kernel
theorem dX7_toPress_41 : decode cX7_toPress 41 = .ok (.iload_n 2, 1) := by decide +kernel
theorem dX7_toPress_42 : decode cX7_toPress 42 = .ok (.invokevirtual 206, 3) := by decide +kernel
theorem dX7_toPress_45 : decode cX7_toPress 45 = .ok (.istore 5, 2) := by decide +kernel
theorem dX7_toPress_47 : decode cX7_toPress 47 = .ok (.aload_n 3, 1) := by decide +kernel
theorem dX7_toPress_48 : decode cX7_toPress 48 = .ok (.getfield 193, 3) := by decide +kernel
theorem dX7_toPress_51 : decode cX7_toPress 51 = .ok (.istore 6, 2) := by decide +kernel
theorem dX7_toPress_53 : decode cX7_toPress 53 = .ok (.iconst 0, 1) := by decide +kernel
theorem dX7_toPress_54 : decode cX7_toPress 54 = .ok (.istore 7, 2) := by decide +kernel
theorem dX7_toPress_56 : decode cX7_toPress 56 = .ok (.iload 6, 2) := by decide +kernel
theorem dX7_toPress_58 : decode cX7_toPress 58 = .ok (.iload 4, 2) := by decide +kernel
theorem dX7_toPress_60 : decode cX7_toPress 60 = .ok (.if_icmp .ge 27, 3) := by decide +kernel
theorem dX7_toPress_63 : decode cX7_toPress 63 = .ok (.iload 7, 2) := by decide +kernel
theorem dX7_toPress_65 : decode cX7_toPress 65 = .ok (.sipush 1000, 3) := by decide +kernel
theorem dX7_toPress_68 : decode cX7_toPress 68 = .ok (.if_icmp .ge 19, 3) := by decide +kernel
theorem dX7_toPress_71 : decode cX7_toPress 71 = .ok (.aload_n 3, 1) := by decide +kernel
theorem dX7_toPress_72 : decode cX7_toPress 72 = .ok (.iload 6, 2) := by decide +kernel
theorem dX7_toPress_74 : decode cX7_toPress 74 = .ok (.iload 5, 2) := by decide +kernel
theorem dX7_toPress_76 : decode cX7_toPress 76 = .ok (.invokevirtual 202, 3) := by decide +kernel
theorem dX7_toPress_79 : decode cX7_toPress 79 = .ok (.istore 6, 2) := by decide +kernel
theorem dX7_toPress_81 : decode cX7_toPress 81 = .ok (.iinc 7 1, 3) := by decide +kernel
theorem dX7_toPress_84 : decode cX7_toPress 84 = .ok (.goto (-28), 3) := by decide +kernel
theorem dX7_toPress_87 : decode cX7_toPress 87 = .ok (.iload 7, 2) := by decide +kernel
theorem dX7_toPress_89 : decode cX7_toPress 89 = .ok (.ireturn, 1) := by decide +kernel
set_option maxRecDepth 20000 in
theorem ggX7_clearIn_X5_copyFrom : GoodIn wsX7_clearIn wsX5_copyFrom := goodIn_r _ [7, 8, 9, 10, 11, 12, 13, 14, 15, 16, 17, 18, 19, 20, 21, 22, 23, 24, 25, 26, 27, 28, 29, 30, 31, 32, 33, 34, 35, 36, 37, 38, 39, 40, 41, 42, 43, 44, 45, 46, 47, 48, 49, 50, 51, 52, 53, 54, 55, 56, 57, 58, 59, 60, 61, 62, 63, 64, 65, 185, 186, 187, 188, 189, 190, 191, 192, 193, 194, 195, 196, 197, 198, 199, 200, 201, 202, 203, 204, 205, 206, 207, 208, 209, 210, 211] (by decide +kernel) (by decide +kernel)
set_option maxRecDepth 20000 in
theorem gX7_clearIn_X5_copyFrom : GoodIn wsX7_clearIn (wsV RX7 191 RX5 yX5_copyFrom wsX5_copyFrom) := goodIn_app (goodIn_of _ (by decide +kernel)) ggX7_clearIn_X5_copyFrom
set_option maxRecDepth 20000 in
theorem ggX7_clearIn_X5_isClear : GoodIn wsX7_clearIn wsX5_isClear := goodIn_r _ [69, 13, 9, 70, 71, 72, 6, 73, 74, 75, 76, 77, 78, 8, 79, 80, 81, 19, 82, 21, 83, 23, 84, 85, 86, 87, 36, 88, 44, 39, 40, 43, 185, 186, 187, 188, 189, 190, 191, 192, 194, 195, 196, 197, 198, 199, 200, 201, 202, 203, 193] (by decide +kernel) (by decide +kernel)
set_option maxRecDepth 20000 in
theorem gX7_clearIn_X5_isClear : GoodIn wsX7_clearIn (wsV RX7 209 RX5 yX5_isClear wsX5_isClear) := goodIn_app (goodIn_of _ (by decide +kernel)) ggX7_clearIn_X5_isClear
set_option maxRecDepth 20000 in
theorem ggX7_clearIn_X5_passTick : GoodIn wsX7_clearIn wsX5_passTick := goodIn_r _ [92, 9, 14, 13, 93, 94, 27, 95, 8, 12, 96, 97, 98, 6, 99, 10, 100, 101, 102, 51, 103, 55, 53, 54, 104, 105, 106, 107, 79, 80, 81, 19, 82, 21, 83, 23, 84, 108, 109, 110, 111, 74, 11, 75, 76, 77, 78, 85, 86, 87, 36, 88, 44, 39, 40, 43, 112, 113, 114, 115, 116, 117, 118, 119, 120, 38, 121, 122, 123, 59, 124, 61, 62, 63, 65, 125, 26, 28, 64, 126, 127, 128, 129, 30, 31, 32, 130, 131, 132, 133, 134, 135, 136, 137, 138, 139, 140, 141, 142, 143, 144, 145, 146, 147, 148, 149, 150, 42, 151, 152, 153, 154, 155, 156, 157, 158, 159, 160, 161, 162, 163, 164, 165, 166, 167, 168, 169, 170, 171, 172, 15, 70, 71, 72, 73, 173, 174, 175, 176, 177, 185, 186, 187, 188, 189, 190, 191, 192, 204, 205, 206, 193, 194, 195, 196, 197, 198, 199, 200, 201, 202, 203, 207, 208, 209, 210, 211] (by decide +kernel) (by decide +kernel)
set_option maxRecDepth 20000 in
theorem gX7_clearIn_X5_passTick : GoodIn wsX7_clearIn (wsV RX7 173 RX5 yX5_passTick wsX5_passTick) := goodIn_app (goodIn_of _ (by decide +kernel)) ggX7_clearIn_X5_passTick
theorem dX7_clearIn_0 : decode cX7_clearIn 0 = .ok (.aload_n 0, 1) := by decide +kernel
theorem dX7_clearIn_1 : decode cX7_clearIn 1 = .ok (.getfield 19, 3) := by decide +kernel
theorem dX7_clearIn_4 : decode cX7_clearIn 4 = .ok (.aload_n 0, 1) := by decide +kernel
theorem dX7_clearIn_5 : decode cX7_clearIn 5 = .ok (.getfield 10, 3) := by decide +kernel
theorem dX7_clearIn_8 : decode cX7_clearIn 8 = .ok (.invokevirtual 191, 3) := by decide +kernel
theorem dX7_clearIn_11 : decode cX7_clearIn 11 = .ok (.iconst 0, 1) := by decide +kernel
theorem dX7_clearIn_12 : decode cX7_clearIn 12 = .ok (.istore_n 1, 1) := by decide +kernel
theorem dX7_clearIn_13 : decode cX7_clearIn 13 = .ok (.iload_n 1, 1) := by decide +kernel
theorem dX7_clearIn_14 : decode cX7_clearIn 14 = .ok (.sipush 500, 3) := by decide +kernel
theorem dX7_clearIn_17 : decode cX7_clearIn 17 = .ok (.if_icmp .gt 28, 3) := by decide +kernel
theorem dX7_clearIn_20 : decode cX7_clearIn 20 = .ok (.aload_n 0, 1) := by decide +kernel
theorem dX7_clearIn_21 : decode cX7_clearIn 21 = .ok (.getfield 19, 3) := by decide +kernel
theorem dX7_clearIn_24 : decode cX7_clearIn 24 = .ok (.invokevirtual 209, 3) := by decide +kernel
theorem dX7_clearIn_27 : decode cX7_clearIn 27 = .ok (.ifCond .eq 5, 3) := by decide +kernel
theorem dX7_clearIn_30 : decode cX7_clearIn 30 = .ok (.iload_n 1, 1) := by decide +kernel
theorem dX7_clearIn_31 : decode cX7_clearIn 31 = .ok (.ireturn, 1) := by decide +kernel
theorem dX7_clearIn_32 : decode cX7_clearIn 32 = .ok (.aload_n 0, 1) := by decide +kernel
theorem dX7_clearIn_33 : decode cX7_clearIn 33 = .ok (.getfield 19, 3) := by decide +kernel
theorem dX7_clearIn_36 : decode cX7_clearIn 36 = .ok (.invokevirtual 173, 3) := by decide +kernel
theorem dX7_clearIn_39 : decode cX7_clearIn 39 = .ok (.iinc 1 1, 3) := by decide +kernel
theorem dX7_clearIn_42 : decode cX7_clearIn 42 = .ok (.goto (-29), 3) := by decide +kernel
end
section
theorem dX7_clearIn_45 : decode cX7_clearIn 45 = .ok (.bipush (-5), 2) := by decide +kernel
theorem dX7_clearIn_47 : decode cX7_clearIn 47 = .ok (.ireturn, 1) := by decide +kernel
set_option maxRecDepth 20000 in
theorem ggX7_blownIn_X5_find : GoodIn wsX7_blownIn wsX5_find := goodIn_r _ [9, 10, 51, 52, 53, 54, 55, 56, 57, 58] (by decide +kernel) (by decide +kernel)
set_option maxRecDepth 20000 in
theorem gX7_blownIn_X5_find : GoodIn wsX7_blownIn (wsV RX7 73 RX5 yX5_find wsX5_find) := goodIn_app (goodIn_of _ (by decide +kernel)) ggX7_blownIn_X5_find
set_option maxRecDepth 20000 in
theorem ggX7_blownIn_X0_strength : GoodIn wsX7_blownIn wsX0_strength := goodIn_r _ [15, 16, 17, 18, 19, 20, 14, 21, 22, 23, 24, 25, 41, 42, 43, 44, 45, 46, 47, 48, 49, 50] (by decide +kernel) (by decide +kernel)
set_option maxRecDepth 20000 in
theorem gX7_blownIn_X0_strength : GoodIn wsX7_blownIn (wsV RX7 144 RX0 yX0_strength wsX0_strength) := goodIn_app (goodIn_of _ (by decide +kernel)) ggX7_blownIn_X0_strength
set_option maxRecDepth 20000 in
theorem ggX7_blownIn_X3_draftIn : GoodIn wsX7_blownIn wsX3_draftIn := goodIn_r _ [30, 31, 32, 33, 59, 60, 61] (by decide +kernel) (by decide +kernel)
set_option maxRecDepth 20000 in
theorem gX7_blownIn_X3_draftIn : GoodIn wsX7_blownIn (wsV RX7 212 RX3 yX3_draftIn wsX3_draftIn) := goodIn_app (goodIn_of _ (by decide +kernel)) ggX7_blownIn_X3_draftIn
theorem dX7_blownIn_0 : decode cX7_blownIn 0 = .ok (.aload_n 0, 1) := by decide +kernel
theorem dX7_blownIn_1 : decode cX7_blownIn 1 = .ok (.getfield 10, 3) := by decide +kernel
theorem dX7_blownIn_4 : decode cX7_blownIn 4 = .ok (.iload_n 1, 1) := by decide +kernel
theorem dX7_blownIn_5 : decode cX7_blownIn 5 = .ok (.invokevirtual 73, 3) := by decide +kernel
theorem dX7_blownIn_8 : decode cX7_blownIn 8 = .ok (.astore_n 2, 1) := by decide +kernel
theorem dX7_blownIn_9 : decode cX7_blownIn 9 = .ok (.aload_n 2, 1) := by decide +kernel
theorem dX7_blownIn_10 : decode cX7_blownIn 10 = .ok (.ifnonnull 5, 3) := by decide +kernel
theorem dX7_blownIn_13 : decode cX7_blownIn 13 = .ok (.iconst (-1), 1) := by decide +kernel
theorem dX7_blownIn_14 : decode cX7_blownIn 14 = .ok (.ireturn, 1) := by decide +kernel
theorem dX7_blownIn_15 : decode cX7_blownIn 15 = .ok (.aload_n 2, 1) := by decide +kernel
theorem dX7_blownIn_16 : decode cX7_blownIn 16 = .ok (.getfield 83, 3) := by decide +kernel
theorem dX7_blownIn_19 : decode cX7_blownIn 19 = .ok (.ifCond .ne 6, 3) := by decide +kernel
theorem dX7_blownIn_22 : decode cX7_blownIn 22 = .ok (.bipush (-4), 2) := by decide +kernel
theorem dX7_blownIn_24 : decode cX7_blownIn 24 = .ok (.ireturn, 1) := by decide +kernel
theorem dX7_blownIn_25 : decode cX7_blownIn 25 = .ok (.aload_n 2, 1) := by decide +kernel
theorem dX7_blownIn_26 : decode cX7_blownIn 26 = .ok (.invokevirtual 144, 3) := by decide +kernel
theorem dX7_blownIn_29 : decode cX7_blownIn 29 = .ok (.istore_n 3, 1) := by decide +kernel
theorem dX7_blownIn_30 : decode cX7_blownIn 30 = .ok (.iconst 0, 1) := by decide +kernel
theorem dX7_blownIn_31 : decode cX7_blownIn 31 = .ok (.istore 4, 2) := by decide +kernel
theorem dX7_blownIn_33 : decode cX7_blownIn 33 = .ok (.iload 4, 2) := by decide +kernel
theorem dX7_blownIn_35 : decode cX7_blownIn 35 = .ok (.sipush 500, 3) := by decide +kernel
theorem dX7_blownIn_38 : decode cX7_blownIn 38 = .ok (.if_icmp .gt 36, 3) := by decide +kernel
theorem dX7_blownIn_41 : decode cX7_blownIn 41 = .ok (.aload_n 0, 1) := by decide +kernel
theorem dX7_blownIn_42 : decode cX7_blownIn 42 = .ok (.getfield 10, 3) := by decide +kernel
theorem dX7_blownIn_45 : decode cX7_blownIn 45 = .ok (.getfield 90, 3) := by decide +kernel
theorem dX7_blownIn_48 : decode cX7_blownIn 48 = .ok (.aload_n 0, 1) := by decide +kernel
theorem dX7_blownIn_49 : decode cX7_blownIn 49 = .ok (.getfield 10, 3) := by decide +kernel
theorem dX7_blownIn_52 : decode cX7_blownIn 52 = .ok (.getfield 160, 3) := by decide +kernel
theorem dX7_blownIn_55 : decode cX7_blownIn 55 = .ok (.iload 4, 2) := by decide +kernel
theorem dX7_blownIn_57 : decode cX7_blownIn 57 = .ok (.iadd, 1) := by decide +kernel
theorem dX7_blownIn_58 : decode cX7_blownIn 58 = .ok (.invokevirtual 212, 3) := by decide +kernel
theorem dX7_blownIn_61 : decode cX7_blownIn 61 = .ok (.iload_n 3, 1) := by decide +kernel
theorem dX7_blownIn_62 : decode cX7_blownIn 62 = .ok (.if_icmp .le 6, 3) := by decide +kernel
theorem dX7_blownIn_65 : decode cX7_blownIn 65 = .ok (.iload 4, 2) := by decide +kernel
theorem dX7_blownIn_67 : decode cX7_blownIn 67 = .ok (.ireturn, 1) := by decide +kernel
theorem dX7_blownIn_68 : decode cX7_blownIn 68 = .ok (.iinc 4 1, 3) := by decide +kernel
theorem dX7_blownIn_71 : decode cX7_blownIn 71 = .ok (.goto (-38), 3) := by decide +kernel
theorem dX7_blownIn_74 : decode cX7_blownIn 74 = .ok (.bipush (-5), 2) := by decide +kernel
theorem dX7_blownIn_76 : decode cX7_blownIn 76 = .ok (.ireturn, 1) := by decide +kernel
set_option maxRecDepth 20000 in
theorem ggX7_entry_X7_isWithin : GoodIn wsX7_entry wsX7_isWithin := goodIn_r _ [9] (by decide +kernel) (by decide +kernel)
set_option maxRecDepth 20000 in
theorem gX7_entry_X7_isWithin : GoodIn wsX7_entry (va_wsS RX7 79 yX7_isWithin wsX7_isWithin) := goodIn_app (goodIn_of _ (by decide +kernel)) ggX7_entry_X7_isWithin
set_option maxRecDepth 20000 in
theorem ggX7_entry_X7_elementAt : GoodIn wsX7_entry wsX7_elementAt := goodIn_r _ [12] (by decide +kernel) (by decide +kernel)
set_option maxRecDepth 20000 in
theorem gX7_entry_X7_elementAt : GoodIn wsX7_entry (va_wsS RX7 222 yX7_elementAt wsX7_elementAt) := goodIn_app (goodIn_of _ (by decide +kernel)) ggX7_entry_X7_elementAt
theorem dX7_entry_0 : decode cX7_entry 0 = .ok (.iload_n 1, 1) := by decide +kernel
theorem dX7_entry_1 : decode cX7_entry 1 = .ok (.ifCond .lt 12, 3) := by decide +kernel
theorem dX7_entry_4 : decode cX7_entry 4 = .ok (.iload_n 2, 1) := by decide +kernel
theorem dX7_entry_5 : decode cX7_entry 5 = .ok (.iconst 0, 1) := by decide +kernel
theorem dX7_entry_6 : decode cX7_entry 6 = .ok (.iconst 1, 1) := by decide +kernel
theorem dX7_entry_7 : decode cX7_entry 7 = .ok (.invokestatic 79, 3) := by decide +kernel
theorem dX7_entry_10 : decode cX7_entry 10 = .ok (.ifCond .ne 6, 3) := by decide +kernel
theorem dX7_entry_13 : decode cX7_entry 13 = .ok (.bipush (-2), 2) := by decide +kernel
theorem dX7_entry_15 : decode cX7_entry 15 = .ok (.ireturn, 1) := by decide +kernel
theorem dX7_entry_16 : decode cX7_entry 16 = .ok (.iload_n 1, 1) := by decide +kernel
theorem dX7_entry_17 : decode cX7_entry 17 = .ok (.aload_n 0, 1) := by decide +kernel
theorem dX7_entry_18 : decode cX7_entry 18 = .ok (.getfield 10, 3) := by decide +kernel
theorem dX7_entry_21 : decode cX7_entry 21 = .ok (.getfield 90, 3) := by decide +kernel
theorem dX7_entry_24 : decode cX7_entry 24 = .ok (.getfield 102, 3) := by decide +kernel
theorem dX7_entry_27 : decode cX7_entry 27 = .ok (.if_icmp .lt 6, 3) := by decide +kernel
theorem dX7_entry_30 : decode cX7_entry 30 = .ok (.bipush (-5), 2) := by decide +kernel
theorem dX7_entry_32 : decode cX7_entry 32 = .ok (.ireturn, 1) := by decide +kernel
theorem dX7_entry_33 : decode cX7_entry 33 = .ok (.iload_n 2, 1) := by decide +kernel
theorem dX7_entry_34 : decode cX7_entry 34 = .ok (.ifCond .ne 16, 3) := by decide +kernel
theorem dX7_entry_37 : decode cX7_entry 37 = .ok (.aload_n 0, 1) := by decide +kernel
theorem dX7_entry_38 : decode cX7_entry 38 = .ok (.getfield 10, 3) := by decide +kernel
theorem dX7_entry_41 : decode cX7_entry 41 = .ok (.getfield 90, 3) := by decide +kernel
theorem dX7_entry_44 : decode cX7_entry 44 = .ok (.getfield 215, 3) := by decide +kernel
theorem dX7_entry_47 : decode cX7_entry 47 = .ok (.goto 13, 3) := by decide +kernel
theorem dX7_entry_50 : decode cX7_entry 50 = .ok (.aload_n 0, 1) := by decide +kernel
theorem dX7_entry_51 : decode cX7_entry 51 = .ok (.getfield 10, 3) := by decide +kernel
theorem dX7_entry_54 : decode cX7_entry 54 = .ok (.getfield 90, 3) := by decide +kernel
theorem dX7_entry_57 : decode cX7_entry 57 = .ok (.getfield 219, 3) := by decide +kernel
theorem dX7_entry_60 : decode cX7_entry 60 = .ok (.iload_n 1, 1) := by decide +kernel
theorem dX7_entry_61 : decode cX7_entry 61 = .ok (.invokestatic 222, 3) := by decide +kernel
theorem dX7_entry_64 : decode cX7_entry 64 = .ok (.ireturn, 1) := by decide +kernel
set_option maxRecDepth 20000 in
theorem ggX7_event_X7_isWithin : GoodIn wsX7_event wsX7_isWithin := goodIn_r _ [10] (by decide +kernel) (by decide +kernel)
set_option maxRecDepth 20000 in
theorem gX7_event_X7_isWithin : GoodIn wsX7_event (va_wsS RX7 79 yX7_isWithin wsX7_isWithin) := goodIn_app (goodIn_of _ (by decide +kernel)) ggX7_event_X7_isWithin
set_option maxRecDepth 20000 in
theorem ggX7_event_X7_elementAt : GoodIn wsX7_event wsX7_elementAt := goodIn_r _ [13] (by decide +kernel) (by decide +kernel)
set_option maxRecDepth 20000 in
theorem gX7_event_X7_elementAt : GoodIn wsX7_event (va_wsS RX7 222 yX7_elementAt wsX7_elementAt) := goodIn_app (goodIn_of _ (by decide +kernel)) ggX7_event_X7_elementAt
theorem dX7_event_0 : decode cX7_event 0 = .ok (.iload_n 1, 1) := by decide +kernel
theorem dX7_event_1 : decode cX7_event 1 = .ok (.ifCond .lt 12, 3) := by decide +kernel
theorem dX7_event_4 : decode cX7_event 4 = .ok (.iload_n 2, 1) := by decide +kernel
theorem dX7_event_5 : decode cX7_event 5 = .ok (.iconst 0, 1) := by decide +kernel
theorem dX7_event_6 : decode cX7_event 6 = .ok (.iconst 2, 1) := by decide +kernel
theorem dX7_event_7 : decode cX7_event 7 = .ok (.invokestatic 79, 3) := by decide +kernel
theorem dX7_event_10 : decode cX7_event 10 = .ok (.ifCond .ne 6, 3) := by decide +kernel
theorem dX7_event_13 : decode cX7_event 13 = .ok (.bipush (-2), 2) := by decide +kernel
theorem dX7_event_15 : decode cX7_event 15 = .ok (.ireturn, 1) := by decide +kernel
theorem dX7_event_16 : decode cX7_event 16 = .ok (.iload_n 1, 1) := by decide +kernel
theorem dX7_event_17 : decode cX7_event 17 = .ok (.aload_n 0, 1) := by decide +kernel
theorem dX7_event_18 : decode cX7_event 18 = .ok (.getfield 10, 3) := by decide +kernel
theorem dX7_event_21 : decode cX7_event 21 = .ok (.getfield 164, 3) := by decide +kernel
theorem dX7_event_24 : decode cX7_event 24 = .ok (.getfield 226, 3) := by decide +kernel
theorem dX7_event_27 : decode cX7_event 27 = .ok (.if_icmp .lt 6, 3) := by decide +kernel
theorem dX7_event_30 : decode cX7_event 30 = .ok (.bipush (-5), 2) := by decide +kernel
theorem dX7_event_32 : decode cX7_event 32 = .ok (.ireturn, 1) := by decide +kernel
theorem dX7_event_33 : decode cX7_event 33 = .ok (.iload_n 2, 1) := by decide +kernel
theorem dX7_event_34 : decode cX7_event 34 = .ok (.ifCond .ne 18, 3) := by decide +kernel
theorem dX7_event_37 : decode cX7_event 37 = .ok (.aload_n 0, 1) := by decide +kernel
theorem dX7_event_38 : decode cX7_event 38 = .ok (.getfield 10, 3) := by decide +kernel
theorem dX7_event_41 : decode cX7_event 41 = .ok (.getfield 164, 3) := by decide +kernel
theorem dX7_event_44 : decode cX7_event 44 = .ok (.getfield 229, 3) := by decide +kernel
theorem dX7_event_47 : decode cX7_event 47 = .ok (.iload_n 1, 1) := by decide +kernel
theorem dX7_event_48 : decode cX7_event 48 = .ok (.invokestatic 222, 3) := by decide +kernel
theorem dX7_event_51 : decode cX7_event 51 = .ok (.ireturn, 1) := by decide +kernel
theorem dX7_event_52 : decode cX7_event 52 = .ok (.iload_n 2, 1) := by decide +kernel
theorem dX7_event_53 : decode cX7_event 53 = .ok (.iconst 1, 1) := by decide +kernel
theorem dX7_event_54 : decode cX7_event 54 = .ok (.if_icmp .ne 16, 3) := by decide +kernel
theorem dX7_event_57 : decode cX7_event 57 = .ok (.aload_n 0, 1) := by decide +kernel
theorem dX7_event_58 : decode cX7_event 58 = .ok (.getfield 10, 3) := by decide +kernel
theorem dX7_event_61 : decode cX7_event 61 = .ok (.getfield 164, 3) := by decide +kernel
theorem dX7_event_64 : decode cX7_event 64 = .ok (.getfield 232, 3) := by decide +kernel
theorem dX7_event_67 : decode cX7_event 67 = .ok (.goto 13, 3) := by decide +kernel
theorem dX7_event_70 : decode cX7_event 70 = .ok (.aload_n 0, 1) := by decide +kernel
theorem dX7_event_71 : decode cX7_event 71 = .ok (.getfield 10, 3) := by decide +kernel
theorem dX7_event_74 : decode cX7_event 74 = .ok (.getfield 164, 3) := by decide +kernel
theorem dX7_event_77 : decode cX7_event 77 = .ok (.getfield 235, 3) := by decide +kernel
theorem dX7_event_80 : decode cX7_event 80 = .ok (.iload_n 1, 1) := by decide +kernel
theorem dX7_event_81 : decode cX7_event 81 = .ok (.invokestatic 222, 3) := by decide +kernel
theorem dX7_event_84 : decode cX7_event 84 = .ok (.ireturn, 1) := by decide +kernel
set_option maxRecDepth 20000 in
theorem ggX7_count_X5_draft : GoodIn wsX7_count wsX5_draft := goodIn_r _ [18, 19, 20, 21, 22, 23, 24, 25, 26, 27, 28, 77, 78, 79, 80, 81, 82, 83, 84, 85, 86, 87] (by decide +kernel) (by decide +kernel)
set_option maxRecDepth 20000 in
theorem gX7_count_X5_draft : GoodIn wsX7_count (wsV RX7 141 RX5 yX5_draft wsX5_draft) := goodIn_app (goodIn_of _ (by decide +kernel)) ggX7_count_X5_draft
set_option maxRecDepth 20000 in
theorem ggX7_count_X7_elementAt : GoodIn wsX7_count wsX7_elementAt := goodIn_r _ [32] (by decide +kernel) (by decide +kernel)
set_option maxRecDepth 20000 in
theorem gX7_count_X7_elementAt : GoodIn wsX7_count (va_wsS RX7 222 yX7_elementAt wsX7_elementAt) := goodIn_app (goodIn_of _ (by decide +kernel)) ggX7_count_X7_elementAt
set_option maxRecDepth 20000 in
theorem ggX7_count_X5_flames : GoodIn wsX7_count wsX5_flames := goodIn_r _ [36, 37, 38, 39, 31, 40, 77, 78, 79, 80, 81, 82, 83, 84, 97, 98, 99, 100, 101, 102, 103, 104, 105, 106] (by decide +kernel) (by decide +kernel)
set_option maxRecDepth 20000 in
theorem gX7_count_X5_flames : GoodIn wsX7_count (wsV RX7 242 RX5 yX5_flames wsX5_flames) := goodIn_app (goodIn_of _ (by decide +kernel)) ggX7_count_X5_flames
set_option maxRecDepth 20000 in
theorem ggX7_count_X5_openValves : GoodIn wsX7_count wsX5_openValves := goodIn_r _ [44, 37, 45, 46, 47, 17, 48, 49, 50, 51, 52, 53, 54, 55, 30, 31, 32, 56, 57, 58, 59, 60, 61, 62, 63, 64, 39, 40, 77, 78, 79, 80, 81, 82, 83, 84, 107, 97, 98, 99, 100, 101, 102, 103, 104, 105, 106] (by decide +kernel) (by decide +kernel)
set_option maxRecDepth 20000 in
theorem gX7_count_X5_openValves : GoodIn wsX7_count (wsV RX7 245 RX5 yX5_openValves wsX5_openValves) := goodIn_app (goodIn_of _ (by decide +kernel)) ggX7_count_X5_openValves
set_option maxRecDepth 20000 in
theorem ggX7_count_X5_lockedBurners : GoodIn wsX7_count wsX5_lockedBurners := goodIn_r _ [68, 37, 69, 39, 31, 40, 77, 78, 79, 80, 81, 82, 83, 84, 97, 98, 99, 100, 101, 102, 103, 104, 105, 106] (by decide +kernel) (by decide +kernel)
set_option maxRecDepth 20000 in
theorem gX7_count_X5_lockedBurners : GoodIn wsX7_count (wsV RX7 157 RX5 yX5_lockedBurners wsX5_lockedBurners) := goodIn_app (goodIn_of _ (by decide +kernel)) ggX7_count_X5_lockedBurners
theorem dX7_count_0 : decode cX7_count 0 = .ok (.iload_n 1, 1) := by decide +kernel
theorem dX7_count_1 : decode cX7_count 1 = .ok (.tableswitch 183 0 14 #[75, 83, 91, 99, 110, 110, 110, 110, 127, 135, 143, 151, 159, 167, 175], 75) := by decide +kernel
theorem dX7_count_76 : decode cX7_count 76 = .ok (.aload_n 0, 1) := by decide +kernel
theorem dX7_count_77 : decode cX7_count 77 = .ok (.getfield 10, 3) := by decide +kernel
theorem dX7_count_80 : decode cX7_count 80 = .ok (.getfield 160, 3) := by decide +kernel
theorem dX7_count_83 : decode cX7_count 83 = .ok (.ireturn, 1) := by decide +kernel
theorem dX7_count_84 : decode cX7_count 84 = .ok (.aload_n 0, 1) := by decide +kernel
theorem dX7_count_85 : decode cX7_count 85 = .ok (.getfield 10, 3) := by decide +kernel
theorem dX7_count_88 : decode cX7_count 88 = .ok (.getfield 236, 3) := by decide +kernel
theorem dX7_count_91 : decode cX7_count 91 = .ok (.ireturn, 1) := by decide +kernel
theorem dX7_count_92 : decode cX7_count 92 = .ok (.aload_n 0, 1) := by decide +kernel
theorem dX7_count_93 : decode cX7_count 93 = .ok (.getfield 10, 3) := by decide +kernel
theorem dX7_count_96 : decode cX7_count 96 = .ok (.invokevirtual 141, 3) := by decide +kernel
theorem dX7_count_99 : decode cX7_count 99 = .ok (.ireturn, 1) := by decide +kernel
theorem dX7_count_100 : decode cX7_count 100 = .ok (.aload_n 0, 1) := by decide +kernel
theorem dX7_count_101 : decode cX7_count 101 = .ok (.getfield 10, 3) := by decide +kernel
theorem dX7_count_104 : decode cX7_count 104 = .ok (.getfield 90, 3) := by decide +kernel
theorem dX7_count_107 : decode cX7_count 107 = .ok (.getfield 102, 3) := by decide +kernel
theorem dX7_count_110 : decode cX7_count 110 = .ok (.ireturn, 1) := by decide +kernel
theorem dX7_count_111 : decode cX7_count 111 = .ok (.aload_n 0, 1) := by decide +kernel
theorem dX7_count_112 : decode cX7_count 112 = .ok (.getfield 10, 3) := by decide +kernel
theorem dX7_count_115 : decode cX7_count 115 = .ok (.getfield 164, 3) := by decide +kernel
theorem dX7_count_118 : decode cX7_count 118 = .ok (.getfield 239, 3) := by decide +kernel
theorem dX7_count_121 : decode cX7_count 121 = .ok (.iload_n 1, 1) := by decide +kernel
theorem dX7_count_122 : decode cX7_count 122 = .ok (.iconst 4, 1) := by decide +kernel
theorem dX7_count_123 : decode cX7_count 123 = .ok (.isub, 1) := by decide +kernel
theorem dX7_count_124 : decode cX7_count 124 = .ok (.invokestatic 222, 3) := by decide +kernel
theorem dX7_count_127 : decode cX7_count 127 = .ok (.ireturn, 1) := by decide +kernel
theorem dX7_count_128 : decode cX7_count 128 = .ok (.aload_n 0, 1) := by decide +kernel
theorem dX7_count_129 : decode cX7_count 129 = .ok (.getfield 10, 3) := by decide +kernel
theorem dX7_count_132 : decode cX7_count 132 = .ok (.invokevirtual 242, 3) := by decide +kernel
theorem dX7_count_135 : decode cX7_count 135 = .ok (.ireturn, 1) := by decide +kernel
theorem dX7_count_136 : decode cX7_count 136 = .ok (.aload_n 0, 1) := by decide +kernel
theorem dX7_count_137 : decode cX7_count 137 = .ok (.getfield 10, 3) := by decide +kernel
theorem dX7_count_140 : decode cX7_count 140 = .ok (.invokevirtual 245, 3) := by decide +kernel
theorem dX7_count_143 : decode cX7_count 143 = .ok (.ireturn, 1) := by decide +kernel
theorem dX7_count_144 : decode cX7_count 144 = .ok (.aload_n 0, 1) := by decide +kernel
theorem dX7_count_145 : decode cX7_count 145 = .ok (.getfield 10, 3) := by decide +kernel
theorem dX7_count_148 : decode cX7_count 148 = .ok (.invokevirtual 157, 3) := by decide +kernel
theorem dX7_count_151 : decode cX7_count 151 = .ok (.ireturn, 1) := by decide +kernel
theorem dX7_count_152 : decode cX7_count 152 = .ok (.aload_n 0, 1) := by decide +kernel
theorem dX7_count_153 : decode cX7_count 153 = .ok (.getfield 10, 3) := by decide +kernel
theorem dX7_count_156 : decode cX7_count 156 = .ok (.getfield 248, 3) := by decide +kernel
theorem dX7_count_159 : decode cX7_count 159 = .ok (.ireturn, 1) := by decide +kernel
theorem dX7_count_160 : decode cX7_count 160 = .ok (.aload_n 0, 1) := by decide +kernel
theorem dX7_count_161 : decode cX7_count 161 = .ok (.getfield 10, 3) := by decide +kernel
theorem dX7_count_164 : decode cX7_count 164 = .ok (.getfield 251, 3) := by decide +kernel
theorem dX7_count_167 : decode cX7_count 167 = .ok (.ireturn, 1) := by decide +kernel
theorem dX7_count_168 : decode cX7_count 168 = .ok (.aload_n 0, 1) := by decide +kernel
theorem dX7_count_169 : decode cX7_count 169 = .ok (.getfield 32, 3) := by decide +kernel
theorem dX7_count_172 : decode cX7_count 172 = .ok (.getfield 190, 3) := by decide +kernel
theorem dX7_count_175 : decode cX7_count 175 = .ok (.ireturn, 1) := by decide +kernel
theorem dX7_count_176 : decode cX7_count 176 = .ok (.aload_n 0, 1) := by decide +kernel
theorem dX7_count_177 : decode cX7_count 177 = .ok (.getfield 39, 3) := by decide +kernel
theorem dX7_count_180 : decode cX7_count 180 = .ok (.getfield 180, 3) := by decide +kernel
theorem dX7_count_183 : decode cX7_count 183 = .ok (.ireturn, 1) := by decide +kernel
theorem dX7_count_184 : decode cX7_count 184 = .ok (.bipush (-2), 2) := by decide +kernel
theorem dX7_count_186 : decode cX7_count 186 = .ok (.ireturn, 1) := by decide +kernel
set_option maxRecDepth 20000 in
theorem ggX7_setting_X4_isOne : GoodIn wsX7_setting wsX4_isOne := goodIn_r _ [6, 7, 8, 9, 10] (by decide +kernel) (by decide +kernel)
set_option maxRecDepth 20000 in
theorem gX7_setting_X4_isOne : GoodIn wsX7_setting (va_wsS RX7 47 yX4_isOne wsX4_isOne) := goodIn_app (goodIn_of _ (by decide +kernel)) ggX7_setting_X4_isOne
set_option maxRecDepth 20000 in
theorem ggX7_setting_X4_valueOf : GoodIn wsX7_setting wsX4_valueOf := goodIn_r _ [14, 15, 16, 9, 17, 33] (by decide +kernel) (by decide +kernel)
set_option maxRecDepth 20000 in
theorem gX7_setting_X4_valueOf : GoodIn wsX7_setting (wsV RX7 61 RX4 yX4_valueOf wsX4_valueOf) := goodIn_app (goodIn_of _ (by decide +kernel)) ggX7_setting_X4_valueOf
theorem dX7_setting_0 : decode cX7_setting 0 = .ok (.iload_n 1, 1) := by decide +kernel
theorem dX7_setting_1 : decode cX7_setting 1 = .ok (.invokestatic 47, 3) := by decide +kernel
theorem dX7_setting_4 : decode cX7_setting 4 = .ok (.ifCond .ne 5, 3) := by decide +kernel
theorem dX7_setting_7 : decode cX7_setting 7 = .ok (.iconst (-1), 1) := by decide +kernel
theorem dX7_setting_8 : decode cX7_setting 8 = .ok (.ireturn, 1) := by decide +kernel
theorem dX7_setting_9 : decode cX7_setting 9 = .ok (.aload_n 0, 1) := by decide +kernel
theorem dX7_setting_10 : decode cX7_setting 10 = .ok (.getfield 10, 3) := by decide +kernel
theorem dX7_setting_13 : decode cX7_setting 13 = .ok (.getfield 57, 3) := by decide +kernel
theorem dX7_setting_16 : decode cX7_setting 16 = .ok (.iload_n 1, 1) := by decide +kernel
theorem dX7_setting_17 : decode cX7_setting 17 = .ok (.invokevirtual 61, 3) := by decide +kernel
theorem dX7_setting_20 : decode cX7_setting 20 = .ok (.ireturn, 1) := by decide +kernel
theorem dX7_isWithin_0 : decode cX7_isWithin 0 = .ok (.iload_n 0, 1) := by decide +kernel
theorem dX7_isWithin_1 : decode cX7_isWithin 1 = .ok (.iload_n 1, 1) := by decide +kernel
theorem dX7_isWithin_2 : decode cX7_isWithin 2 = .ok (.if_icmp .lt 12, 3) := by decide +kernel
theorem dX7_isWithin_5 : decode cX7_isWithin 5 = .ok (.iload_n 0, 1) := by decide +kernel
theorem dX7_isWithin_6 : decode cX7_isWithin 6 = .ok (.iload_n 2, 1) := by decide +kernel
theorem dX7_isWithin_7 : decode cX7_isWithin 7 = .ok (.if_icmp .gt 7, 3) := by decide +kernel
theorem dX7_isWithin_10 : decode cX7_isWithin 10 = .ok (.iconst 1, 1) := by decide +kernel
theorem dX7_isWithin_11 : decode cX7_isWithin 11 = .ok (.goto 4, 3) := by decide +kernel
theorem dX7_isWithin_14 : decode cX7_isWithin 14 = .ok (.iconst 0, 1) := by decide +kernel
theorem dX7_isWithin_15 : decode cX7_isWithin 15 = .ok (.ireturn, 1) := by decide +kernel
theorem dX7_oneIf_0 : decode cX7_oneIf 0 = .ok (.iload_n 0, 1) := by decide +kernel
theorem dX7_oneIf_1 : decode cX7_oneIf 1 = .ok (.ifCond .eq 7, 3) := by decide +kernel
theorem dX7_oneIf_4 : decode cX7_oneIf 4 = .ok (.iconst 1, 1) := by decide +kernel
theorem dX7_oneIf_5 : decode cX7_oneIf 5 = .ok (.goto 4, 3) := by decide +kernel
theorem dX7_oneIf_8 : decode cX7_oneIf 8 = .ok (.iconst 0, 1) := by decide +kernel
theorem dX7_oneIf_9 : decode cX7_oneIf 9 = .ok (.ireturn, 1) := by decide +kernel
theorem dX7_elementAt_0 : decode cX7_elementAt 0 = .ok (.iload_n 1, 1) := by decide +kernel
theorem dX7_elementAt_1 : decode cX7_elementAt 1 = .ok (.ifCond .lt 15, 3) := by decide +kernel
theorem dX7_elementAt_4 : decode cX7_elementAt 4 = .ok (.iload_n 1, 1) := by decide +kernel
theorem dX7_elementAt_5 : decode cX7_elementAt 5 = .ok (.aload_n 0, 1) := by decide +kernel
theorem dX7_elementAt_6 : decode cX7_elementAt 6 = .ok (.arraylength, 1) := by decide +kernel
theorem dX7_elementAt_7 : decode cX7_elementAt 7 = .ok (.if_icmp .ge 9, 3) := by decide +kernel
theorem dX7_elementAt_10 : decode cX7_elementAt 10 = .ok (.aload_n 0, 1) := by decide +kernel
theorem dX7_elementAt_11 : decode cX7_elementAt 11 = .ok (.iload_n 1, 1) := by decide +kernel
theorem dX7_elementAt_12 : decode cX7_elementAt 12 = .ok (.iaload, 1) := by decide +kernel
theorem dX7_elementAt_13 : decode cX7_elementAt 13 = .ok (.goto 4, 3) := by decide +kernel
theorem dX7_elementAt_16 : decode cX7_elementAt 16 = .ok (.iconst 0, 1) := by decide +kernel
theorem dX7_elementAt_17 : decode cX7_elementAt 17 = .ok (.ireturn, 1) := by decide +kernel
theorem dX7_copyRow_0 : decode cX7_copyRow 0 = .ok (.aload_n 0, 1) := by decide +kernel
theorem dX7_copyRow_1 : decode cX7_copyRow 1 = .ok (.iconst 0, 1) := by decide +kernel
theorem dX7_copyRow_2 : decode cX7_copyRow 2 = .ok (.aload_n 1, 1) := by decide +kernel
theorem dX7_copyRow_3 : decode cX7_copyRow 3 = .ok (.iconst 0, 1) := by decide +kernel
theorem dX7_copyRow_4 : decode cX7_copyRow 4 = .ok (.aload_n 0, 1) := by decide +kernel
theorem dX7_copyRow_5 : decode cX7_copyRow 5 = .ok (.arraylength, 1) := by decide +kernel
theorem dX7_copyRow_6 : decode cX7_copyRow 6 = .ok (.aload_n 1, 1) := by decide +kernel
theorem dX7_copyRow_7 : decode cX7_copyRow 7 = .ok (.arraylength, 1) := by decide +kernel
theorem dX7_copyRow_8 : decode cX7_copyRow 8 = .ok (.invokestatic 254, 3) := by decide +kernel
theorem dX7_copyRow_11 : decode cX7_copyRow 11 = .ok (.invokestatic 259, 3) := by decide +kernel
theorem dX7_copyRow_14 : decode cX7_copyRow 14 = .ok (.return_, 1) := by decide +kernel
theorem dX8_init_0 : decode cX8_init 0 = .ok (.aload_n 0, 1) := by decide +kernel
theorem dX8_init_1 : decode cX8_init 1 = .ok (.invokespecial 1, 3) := by decide +kernel
theorem dX8_init_4 : decode cX8_init 4 = .ok (.aload_n 0, 1) := by decide +kernel
theorem dX8_init_5 : decode cX8_init 5 = .ok (.bipush 108, 2) := by decide +kernel
theorem dX8_init_7 : decode cX8_init 7 = .ok (.newarray .int, 2) := by decide +kernel
theorem dX8_init_9 : decode cX8_init 9 = .ok (.putfield 7, 3) := by decide +kernel
theorem dX8_init_12 : decode cX8_init 12 = .ok (.aload_n 0, 1) := by decide +kernel
theorem dX8_init_13 : decode cX8_init 13 = .ok (.bipush 108, 2) := by decide +kernel
theorem dX8_init_15 : decode cX8_init 15 = .ok (.newarray .int, 2) := by decide +kernel
theorem dX8_init_17 : decode cX8_init 17 = .ok (.putfield 13, 3) := by decide +kernel
theorem dX8_init_20 : decode cX8_init 20 = .ok (.aload_n 0, 1) := by decide +kernel
theorem dX8_init_21 : decode cX8_init 21 = .ok (.sipush 432, 3) := by decide +kernel
theorem dX8_init_24 : decode cX8_init 24 = .ok (.newarray .int, 2) := by decide +kernel
theorem dX8_init_26 : decode cX8_init 26 = .ok (.putfield 16, 3) := by decide +kernel
theorem dX8_init_29 : decode cX8_init 29 = .ok (.aload_n 0, 1) := by decide +kernel
theorem dX8_init_30 : decode cX8_init 30 = .ok (.bipush 108, 2) := by decide +kernel
theorem dX8_init_32 : decode cX8_init 32 = .ok (.newarray .int, 2) := by decide +kernel
theorem dX8_init_34 : decode cX8_init 34 = .ok (.putfield 19, 3) := by decide +kernel
theorem dX8_init_37 : decode cX8_init 37 = .ok (.aload_n 0, 1) := by decide +kernel
theorem dX8_init_38 : decode cX8_init 38 = .ok (.bipush 60, 2) := by decide +kernel
theorem dX8_init_40 : decode cX8_init 40 = .ok (.newarray .int, 2) := by decide +kernel
theorem dX8_init_42 : decode cX8_init 42 = .ok (.putfield 22, 3) := by decide +kernel
theorem dX8_init_45 : decode cX8_init 45 = .ok (.aload_n 0, 1) := by decide +kernel
theorem dX8_init_46 : decode cX8_init 46 = .ok (.bipush 32, 2) := by decide +kernel
theorem dX8_init_48 : decode cX8_init 48 = .ok (.newarray .int, 2) := by decide +kernel
theorem dX8_init_50 : decode cX8_init 50 = .ok (.putfield 25, 3) := by decide +kernel
theorem dX8_init_53 : decode cX8_init 53 = .ok (.aload_n 0, 1) := by decide +kernel
theorem dX8_init_54 : decode cX8_init 54 = .ok (.bipush 32, 2) := by decide +kernel
theorem dX8_init_56 : decode cX8_init 56 = .ok (.newarray .int, 2) := by decide +kernel
theorem dX8_init_58 : decode cX8_init 58 = .ok (.putfield 28, 3) := by decide +kernel
theorem dX8_init_61 : decode cX8_init 61 = .ok (.aload_n 0, 1) := by decide +kernel
theorem dX8_init_62 : decode cX8_init 62 = .ok (.iconst 0, 1) := by decide +kernel
theorem dX8_init_63 : decode cX8_init 63 = .ok (.putfield 31, 3) := by decide +kernel
theorem dX8_init_66 : decode cX8_init 66 = .ok (.aload_n 0, 1) := by decide +kernel
theorem dX8_init_67 : decode cX8_init 67 = .ok (.getfield 7, 3) := by decide +kernel
theorem dX8_init_70 : decode cX8_init 70 = .ok (.iconst 0, 1) := by decide +kernel
theorem dX8_init_71 : decode cX8_init 71 = .ok (.sipush 300, 3) := by decide +kernel
theorem dX8_init_74 : decode cX8_init 74 = .ok (.iastore, 1) := by decide +kernel
theorem dX8_init_75 : decode cX8_init 75 = .ok (.aload_n 0, 1) := by decide +kernel
theorem dX8_init_76 : decode cX8_init 76 = .ok (.getfield 7, 3) := by decide +kernel
theorem dX8_init_79 : decode cX8_init 79 = .ok (.iconst 1, 1) := by decide +kernel
theorem dX8_init_80 : decode cX8_init 80 = .ok (.iconst 5, 1) := by decide +kernel
theorem dX8_init_81 : decode cX8_init 81 = .ok (.iastore, 1) := by decide +kernel
theorem dX8_init_82 : decode cX8_init 82 = .ok (.aload_n 0, 1) := by decide +kernel
theorem dX8_init_83 : decode cX8_init 83 = .ok (.getfield 7, 3) := by decide +kernel
theorem dX8_init_86 : decode cX8_init 86 = .ok (.iconst 2, 1) := by decide +kernel
theorem dX8_init_87 : decode cX8_init 87 = .ok (.iconst 5, 1) := by decide +kernel
theorem dX8_init_88 : decode cX8_init 88 = .ok (.iastore, 1) := by decide +kernel
theorem dX8_init_89 : decode cX8_init 89 = .ok (.aload_n 0, 1) := by decide +kernel
theorem dX8_init_90 : decode cX8_init 90 = .ok (.getfield 7, 3) := by decide +kernel
theorem dX8_init_93 : decode cX8_init 93 = .ok (.iconst 3, 1) := by decide +kernel
theorem dX8_init_94 : decode cX8_init 94 = .ok (.sipush 300, 3) := by decide +kernel
theorem dX8_init_97 : decode cX8_init 97 = .ok (.iastore, 1) := by decide +kernel
theorem dX8_init_98 : decode cX8_init 98 = .ok (.aload_n 0, 1) := by decide +kernel
theorem dX8_init_99 : decode cX8_init 99 = .ok (.getfield 7, 3) := by decide +kernel
theorem dX8_init_102 : decode cX8_init 102 = .ok (.bipush 88, 2) := by decide +kernel
theorem dX8_init_104 : decode cX8_init 104 = .ok (.iconst 1, 1) := by decide +kernel
theorem dX8_init_105 : decode cX8_init 105 = .ok (.iastore, 1) := by decide +kernel
theorem dX8_init_106 : decode cX8_init 106 = .ok (.aload_n 0, 1) := by decide +kernel
theorem dX8_init_107 : decode cX8_init 107 = .ok (.getfield 7, 3) := by decide +kernel
theorem dX8_init_110 : decode cX8_init 110 = .ok (.bipush 98, 2) := by decide +kernel
theorem dX8_init_112 : decode cX8_init 112 = .ok (.iconst 2, 1) := by decide +kernel
theorem dX8_init_113 : decode cX8_init 113 = .ok (.iastore, 1) := by decide +kernel
theorem dX8_init_114 : decode cX8_init 114 = .ok (.return_, 1) := by decide +kernel
theorem dX8_in_0 : decode cX8_in 0 = .ok (.iload_n 0, 1) := by decide +kernel
theorem dX8_in_1 : decode cX8_in 1 = .ok (.iload_n 1, 1) := by decide +kernel
theorem dX8_in_2 : decode cX8_in 2 = .ok (.if_icmp .lt 12, 3) := by decide +kernel
theorem dX8_in_5 : decode cX8_in 5 = .ok (.iload_n 0, 1) := by decide +kernel
theorem dX8_in_6 : decode cX8_in 6 = .ok (.iload_n 2, 1) := by decide +kernel
theorem dX8_in_7 : decode cX8_in 7 = .ok (.if_icmp .gt 7, 3) := by decide +kernel
theorem dX8_in_10 : decode cX8_in 10 = .ok (.iconst 1, 1) := by decide +kernel
theorem dX8_in_11 : decode cX8_in 11 = .ok (.goto 4, 3) := by decide +kernel
theorem dX8_in_14 : decode cX8_in 14 = .ok (.iconst 0, 1) := by decide +kernel
theorem dX8_in_15 : decode cX8_in 15 = .ok (.ireturn, 1) := by decide +kernel
set_option maxRecDepth 20000 in
theorem ggX8_isBurner_X8_in : GoodIn wsX8_isBurner wsX8_in := goodIn_r _ [4] (by decide +kernel) (by decide +kernel)
set_option maxRecDepth 20000 in
theorem gX8_isBurner_X8_in : GoodIn wsX8_isBurner (va_wsS RX8 35 yX8_in wsX8_in) := goodIn_app (goodIn_of _ (by decide +kernel)) ggX8_isBurner_X8_in
theorem dX8_isBurner_0 : decode cX8_isBurner 0 = .ok (.iload_n 0, 1) := by decide +kernel
theorem dX8_isBurner_1 : decode cX8_isBurner 1 = .ok (.iconst 0, 1) := by decide +kernel
theorem dX8_isBurner_2 : decode cX8_isBurner 2 = .ok (.iconst 3, 1) := by decide +kernel
theorem dX8_isBurner_3 : decode cX8_isBurner 3 = .ok (.invokestatic 35, 3) := by decide +kernel
theorem dX8_isBurner_6 : decode cX8_isBurner 6 = .ok (.ireturn, 1) := by decide +kernel
theorem dX8_get_0 : decode cX8_get 0 = .ok (.aload_n 0, 1) := by decide +kernel
theorem dX8_get_1 : decode cX8_get 1 = .ok (.getfield 7, 3) := by decide +kernel
theorem dX8_get_4 : decode cX8_get 4 = .ok (.bipush 68, 2) := by decide +kernel
theorem dX8_get_6 : decode cX8_get 6 = .ok (.bipush 10, 2) := by decide +kernel
theorem dX8_get_8 : decode cX8_get 8 = .ok (.iload_n 1, 1) := by decide +kernel
theorem dX8_get_9 : decode cX8_get 9 = .ok (.imul, 1) := by decide +kernel
theorem dX8_get_10 : decode cX8_get 10 = .ok (.iadd, 1) := by decide +kernel
theorem dX8_get_11 : decode cX8_get 11 = .ok (.iload_n 2, 1) := by decide +kernel
theorem dX8_get_12 : decode cX8_get 12 = .ok (.iadd, 1) := by decide +kernel
theorem dX8_get_13 : decode cX8_get 13 = .ok (.iaload, 1) := by decide +kernel
theorem dX8_get_14 : decode cX8_get 14 = .ok (.ireturn, 1) := by decide +kernel
theorem dX8_lay_0 : decode cX8_lay 0 = .ok (.aload_n 0, 1) := by decide +kernel
theorem dX8_lay_1 : decode cX8_lay 1 = .ok (.getfield 7, 3) := by decide +kernel
theorem dX8_lay_4 : decode cX8_lay 4 = .ok (.bipush 68, 2) := by decide +kernel
theorem dX8_lay_6 : decode cX8_lay 6 = .ok (.bipush 10, 2) := by decide +kernel
theorem dX8_lay_8 : decode cX8_lay 8 = .ok (.iload_n 1, 1) := by decide +kernel
theorem dX8_lay_9 : decode cX8_lay 9 = .ok (.imul, 1) := by decide +kernel
theorem dX8_lay_10 : decode cX8_lay 10 = .ok (.iadd, 1) := by decide +kernel
theorem dX8_lay_11 : decode cX8_lay 11 = .ok (.iload_n 2, 1) := by decide +kernel
theorem dX8_lay_12 : decode cX8_lay 12 = .ok (.iadd, 1) := by decide +kernel
theorem dX8_lay_13 : decode cX8_lay 13 = .ok (.iload_n 3, 1) := by decide +kernel
theorem dX8_lay_14 : decode cX8_lay 14 = .ok (.iastore, 1) := by decide +kernel
theorem dX8_lay_15 : decode cX8_lay 15 = .ok (.return_, 1) := by decide +kernel
theorem dX8_records_0 : decode cX8_records 0 = .ok (.aload_n 0, 1) := by decide +kernel
theorem dX8_records_1 : decode cX8_records 1 = .ok (.getfield 39, 3) := by decide +kernel
theorem dX8_records_4 : decode cX8_records 4 = .ok (.iconst 4, 1) := by decide +kernel
theorem dX8_records_5 : decode cX8_records 5 = .ok (.if_icmp .ne 43, 3) := by decide +kernel
theorem dX8_records_8 : decode cX8_records 8 = .ok (.iconst 0, 1) := by decide +kernel
theorem dX8_records_9 : decode cX8_records 9 = .ok (.istore_n 1, 1) := by decide +kernel
theorem dX8_records_10 : decode cX8_records 10 = .ok (.iload_n 1, 1) := by decide +kernel
theorem dX8_records_11 : decode cX8_records 11 = .ok (.sipush 324, 3) := by decide +kernel
theorem dX8_records_14 : decode cX8_records 14 = .ok (.if_icmp .ge 24, 3) := by decide +kernel
theorem dX8_records_17 : decode cX8_records 17 = .ok (.aload_n 0, 1) := by decide +kernel
theorem dX8_records_18 : decode cX8_records 18 = .ok (.getfield 16, 3) := by decide +kernel
theorem dX8_records_21 : decode cX8_records 21 = .ok (.iload_n 1, 1) := by decide +kernel
theorem dX8_records_22 : decode cX8_records 22 = .ok (.aload_n 0, 1) := by decide +kernel
theorem dX8_records_23 : decode cX8_records 23 = .ok (.getfield 16, 3) := by decide +kernel
theorem dX8_records_26 : decode cX8_records 26 = .ok (.iload_n 1, 1) := by decide +kernel
theorem dX8_records_27 : decode cX8_records 27 = .ok (.bipush 108, 2) := by decide +kernel
theorem dX8_records_29 : decode cX8_records 29 = .ok (.iadd, 1) := by decide +kernel
theorem dX8_records_30 : decode cX8_records 30 = .ok (.iaload, 1) := by decide +kernel
theorem dX8_records_31 : decode cX8_records 31 = .ok (.iastore, 1) := by decide +kernel
theorem dX8_records_32 : decode cX8_records 32 = .ok (.iinc 1 1, 3) := by decide +kernel
theorem dX8_records_35 : decode cX8_records 35 = .ok (.goto (-25), 3) := by decide +kernel
theorem dX8_records_38 : decode cX8_records 38 = .ok (.aload_n 0, 1) := by decide +kernel
theorem dX8_records_39 : decode cX8_records 39 = .ok (.dup, 1) := by decide +kernel
theorem dX8_records_40 : decode cX8_records 40 = .ok (.getfield 39, 3) := by decide +kernel
theorem dX8_records_43 : decode cX8_records 43 = .ok (.iconst 1, 1) := by decide +kernel
theorem dX8_records_44 : decode cX8_records 44 = .ok (.isub, 1) := by decide +kernel
theorem dX8_records_45 : decode cX8_records 45 = .ok (.putfield 39, 3) := by decide +kernel
theorem dX8_records_48 : decode cX8_records 48 = .ok (.iconst 0, 1) := by decide +kernel
theorem dX8_records_49 : decode cX8_records 49 = .ok (.istore_n 1, 1) := by decide +kernel
theorem dX8_records_50 : decode cX8_records 50 = .ok (.iload_n 1, 1) := by decide +kernel
theorem dX8_records_51 : decode cX8_records 51 = .ok (.bipush 108, 2) := by decide +kernel
theorem dX8_records_53 : decode cX8_records 53 = .ok (.if_icmp .ge 29, 3) := by decide +kernel
theorem dX8_records_56 : decode cX8_records 56 = .ok (.aload_n 0, 1) := by decide +kernel
theorem dX8_records_57 : decode cX8_records 57 = .ok (.getfield 16, 3) := by decide +kernel
theorem dX8_records_60 : decode cX8_records 60 = .ok (.bipush 108, 2) := by decide +kernel
theorem dX8_records_62 : decode cX8_records 62 = .ok (.aload_n 0, 1) := by decide +kernel
theorem dX8_records_63 : decode cX8_records 63 = .ok (.getfield 39, 3) := by decide +kernel
theorem dX8_records_66 : decode cX8_records 66 = .ok (.imul, 1) := by decide +kernel
theorem dX8_records_67 : decode cX8_records 67 = .ok (.iload_n 1, 1) := by decide +kernel
theorem dX8_records_68 : decode cX8_records 68 = .ok (.iadd, 1) := by decide +kernel
theorem dX8_records_69 : decode cX8_records 69 = .ok (.aload_n 0, 1) := by decide +kernel
theorem dX8_records_70 : decode cX8_records 70 = .ok (.getfield 7, 3) := by decide +kernel
theorem dX8_records_73 : decode cX8_records 73 = .ok (.iload_n 1, 1) := by decide +kernel
theorem dX8_records_74 : decode cX8_records 74 = .ok (.iaload, 1) := by decide +kernel
theorem dX8_records_75 : decode cX8_records 75 = .ok (.iastore, 1) := by decide +kernel
theorem dX8_records_76 : decode cX8_records 76 = .ok (.iinc 1 1, 3) := by decide +kernel
theorem dX8_records_79 : decode cX8_records 79 = .ok (.goto (-29), 3) := by decide +kernel
theorem dX8_records_82 : decode cX8_records 82 = .ok (.aload_n 0, 1) := by decide +kernel
theorem dX8_records_83 : decode cX8_records 83 = .ok (.dup, 1) := by decide +kernel
theorem dX8_records_84 : decode cX8_records 84 = .ok (.getfield 39, 3) := by decide +kernel
theorem dX8_records_87 : decode cX8_records 87 = .ok (.iconst 1, 1) := by decide +kernel
theorem dX8_records_88 : decode cX8_records 88 = .ok (.iadd, 1) := by decide +kernel
theorem dX8_records_89 : decode cX8_records 89 = .ok (.putfield 39, 3) := by decide +kernel
theorem dX8_records_92 : decode cX8_records 92 = .ok (.return_, 1) := by decide +kernel
theorem dX8_putAside_0 : decode cX8_putAside 0 = .ok (.iconst 0, 1) := by decide +kernel
theorem dX8_putAside_1 : decode cX8_putAside 1 = .ok (.istore_n 1, 1) := by decide +kernel
theorem dX8_putAside_2 : decode cX8_putAside 2 = .ok (.iload_n 1, 1) := by decide +kernel
theorem dX8_putAside_3 : decode cX8_putAside 3 = .ok (.bipush 108, 2) := by decide +kernel
theorem dX8_putAside_5 : decode cX8_putAside 5 = .ok (.if_icmp .ge 21, 3) := by decide +kernel
theorem dX8_putAside_8 : decode cX8_putAside 8 = .ok (.aload_n 0, 1) := by decide +kernel
theorem dX8_putAside_9 : decode cX8_putAside 9 = .ok (.getfield 13, 3) := by decide +kernel
theorem dX8_putAside_12 : decode cX8_putAside 12 = .ok (.iload_n 1, 1) := by decide +kernel
theorem dX8_putAside_13 : decode cX8_putAside 13 = .ok (.aload_n 0, 1) := by decide +kernel
theorem dX8_putAside_14 : decode cX8_putAside 14 = .ok (.getfield 7, 3) := by decide +kernel
theorem dX8_putAside_17 : decode cX8_putAside 17 = .ok (.iload_n 1, 1) := by decide +kernel
theorem dX8_putAside_18 : decode cX8_putAside 18 = .ok (.iaload, 1) := by decide +kernel
theorem dX8_putAside_19 : decode cX8_putAside 19 = .ok (.iastore, 1) := by decide +kernel
theorem dX8_putAside_20 : decode cX8_putAside 20 = .ok (.iinc 1 1, 3) := by decide +kernel
theorem dX8_putAside_23 : decode cX8_putAside 23 = .ok (.goto (-21), 3) := by decide +kernel
theorem dX8_putAside_26 : decode cX8_putAside 26 = .ok (.return_, 1) := by decide +kernel
theorem dX8_takeBack_0 : decode cX8_takeBack 0 = .ok (.iconst 0, 1) := by decide +kernel
theorem dX8_takeBack_1 : decode cX8_takeBack 1 = .ok (.istore_n 1, 1) := by decide +kernel
theorem dX8_takeBack_2 : decode cX8_takeBack 2 = .ok (.iload_n 1, 1) := by decide +kernel
theorem dX8_takeBack_3 : decode cX8_takeBack 3 = .ok (.bipush 108, 2) := by decide +kernel
theorem dX8_takeBack_5 : decode cX8_takeBack 5 = .ok (.if_icmp .ge 21, 3) := by decide +kernel
theorem dX8_takeBack_8 : decode cX8_takeBack 8 = .ok (.aload_n 0, 1) := by decide +kernel
theorem dX8_takeBack_9 : decode cX8_takeBack 9 = .ok (.getfield 7, 3) := by decide +kernel
theorem dX8_takeBack_12 : decode cX8_takeBack 12 = .ok (.iload_n 1, 1) := by decide +kernel
theorem dX8_takeBack_13 : decode cX8_takeBack 13 = .ok (.aload_n 0, 1) := by decide +kernel
theorem dX8_takeBack_14 : decode cX8_takeBack 14 = .ok (.getfield 13, 3) := by decide +kernel
theorem dX8_takeBack_17 : decode cX8_takeBack 17 = .ok (.iload_n 1, 1) := by decide +kernel
theorem dX8_takeBack_18 : decode cX8_takeBack 18 = .ok (.iaload, 1) := by decide +kernel
theorem dX8_takeBack_19 : decode cX8_takeBack 19 = .ok (.iastore, 1) := by decide +kernel
theorem dX8_takeBack_20 : decode cX8_takeBack 20 = .ok (.iinc 1 1, 3) := by decide +kernel
theorem dX8_takeBack_23 : decode cX8_takeBack 23 = .ok (.goto (-21), 3) := by decide +kernel
theorem dX8_takeBack_26 : decode cX8_takeBack 26 = .ok (.return_, 1) := by decide +kernel
theorem dX8_choose_0 : decode cX8_choose 0 = .ok (.iload_n 0, 1) := by decide +kernel
theorem dX8_choose_1 : decode cX8_choose 1 = .ok (.ifCond .ne 7, 3) := by decide +kernel
theorem dX8_choose_4 : decode cX8_choose 4 = .ok (.iload_n 1, 1) := by decide +kernel
theorem dX8_choose_5 : decode cX8_choose 5 = .ok (.goto 13, 3) := by decide +kernel
theorem dX8_choose_8 : decode cX8_choose 8 = .ok (.iload_n 0, 1) := by decide +kernel
theorem dX8_choose_9 : decode cX8_choose 9 = .ok (.iconst 1, 1) := by decide +kernel
theorem dX8_choose_10 : decode cX8_choose 10 = .ok (.if_icmp .ne 7, 3) := by decide +kernel
theorem dX8_choose_13 : decode cX8_choose 13 = .ok (.iload_n 2, 1) := by decide +kernel
theorem dX8_choose_14 : decode cX8_choose 14 = .ok (.goto 4, 3) := by decide +kernel
theorem dX8_choose_17 : decode cX8_choose 17 = .ok (.iload_n 3, 1) := by decide +kernel
theorem dX8_choose_18 : decode cX8_choose 18 = .ok (.ireturn, 1) := by decide +kernel
set_option maxRecDepth 20000 in
theorem ggX8_flow_X8_choose : GoodIn wsX8_flow wsX8_choose := goodIn_r _ [4] (by decide +kernel) (by decide +kernel)
set_option maxRecDepth 20000 in
theorem gX8_flow_X8_choose : GoodIn wsX8_flow (va_wsS RX8 42 yX8_choose wsX8_choose) := goodIn_app (goodIn_of _ (by decide +kernel)) ggX8_flow_X8_choose
theorem dX8_flow_0 : decode cX8_flow 0 = .ok (.iload_n 1, 1) := by decide +kernel
theorem dX8_flow_1 : decode cX8_flow 1 = .ok (.iconst 1, 1) := by decide +kernel
theorem dX8_flow_2 : decode cX8_flow 2 = .ok (.if_icmp .ne 14, 3) := by decide +kernel
theorem dX8_flow_5 : decode cX8_flow 5 = .ok (.iload_n 0, 1) := by decide +kernel
theorem dX8_flow_6 : decode cX8_flow 6 = .ok (.iconst 2, 1) := by decide +kernel
theorem dX8_flow_7 : decode cX8_flow 7 = .ok (.iconst 4, 1) := by decide +kernel
theorem dX8_flow_8 : decode cX8_flow 8 = .ok (.bipush 6, 2) := by decide +kernel
theorem dX8_flow_10 : decode cX8_flow 10 = .ok (.invokestatic 42, 3) := by decide +kernel
theorem dX8_flow_13 : decode cX8_flow 13 = .ok (.goto 12, 3) := by decide +kernel
theorem dX8_flow_16 : decode cX8_flow 16 = .ok (.iload_n 0, 1) := by decide +kernel
theorem dX8_flow_17 : decode cX8_flow 17 = .ok (.iconst 4, 1) := by decide +kernel
theorem dX8_flow_18 : decode cX8_flow 18 = .ok (.bipush 9, 2) := by decide +kernel
theorem dX8_flow_20 : decode cX8_flow 20 = .ok (.bipush 14, 2) := by decide +kernel
theorem dX8_flow_22 : decode cX8_flow 22 = .ok (.invokestatic 42, 3) := by decide +kernel
theorem dX8_flow_25 : decode cX8_flow 25 = .ok (.ireturn, 1) := by decide +kernel
set_option maxRecDepth 20000 in
theorem ggX8_heat_X8_choose : GoodIn wsX8_heat wsX8_choose := goodIn_r _ [4] (by decide +kernel) (by decide +kernel)
set_option maxRecDepth 20000 in
theorem gX8_heat_X8_choose : GoodIn wsX8_heat (va_wsS RX8 42 yX8_choose wsX8_choose) := goodIn_app (goodIn_of _ (by decide +kernel)) ggX8_heat_X8_choose
theorem dX8_heat_0 : decode cX8_heat 0 = .ok (.iload_n 1, 1) := by decide +kernel
theorem dX8_heat_1 : decode cX8_heat 1 = .ok (.iconst 1, 1) := by decide +kernel
theorem dX8_heat_2 : decode cX8_heat 2 = .ok (.if_icmp .ne 19, 3) := by decide +kernel
theorem dX8_heat_5 : decode cX8_heat 5 = .ok (.iload_n 0, 1) := by decide +kernel
theorem dX8_heat_6 : decode cX8_heat 6 = .ok (.sipush 500, 3) := by decide +kernel
theorem dX8_heat_9 : decode cX8_heat 9 = .ok (.sipush 600, 3) := by decide +kernel
theorem dX8_heat_12 : decode cX8_heat 12 = .ok (.sipush 550, 3) := by decide +kernel
theorem dX8_heat_15 : decode cX8_heat 15 = .ok (.invokestatic 42, 3) := by decide +kernel
theorem dX8_heat_18 : decode cX8_heat 18 = .ok (.goto 16, 3) := by decide +kernel
theorem dX8_heat_21 : decode cX8_heat 21 = .ok (.iload_n 0, 1) := by decide +kernel
theorem dX8_heat_22 : decode cX8_heat 22 = .ok (.sipush 700, 3) := by decide +kernel
theorem dX8_heat_25 : decode cX8_heat 25 = .ok (.sipush 850, 3) := by decide +kernel
theorem dX8_heat_28 : decode cX8_heat 28 = .ok (.sipush 900, 3) := by decide +kernel
theorem dX8_heat_31 : decode cX8_heat 31 = .ok (.invokestatic 42, 3) := by decide +kernel
theorem dX8_heat_34 : decode cX8_heat 34 = .ok (.ireturn, 1) := by decide +kernel
set_option maxRecDepth 20000 in
theorem ggX8_strengthOf_X8_choose : GoodIn wsX8_strengthOf wsX8_choose := goodIn_r _ [4] (by decide +kernel) (by decide +kernel)
set_option maxRecDepth 20000 in
theorem gX8_strengthOf_X8_choose : GoodIn wsX8_strengthOf (va_wsS RX8 42 yX8_choose wsX8_choose) := goodIn_app (goodIn_of _ (by decide +kernel)) ggX8_strengthOf_X8_choose
theorem dX8_strengthOf_0 : decode cX8_strengthOf 0 = .ok (.iload_n 1, 1) := by decide +kernel
theorem dX8_strengthOf_1 : decode cX8_strengthOf 1 = .ok (.ifCond .ne 7, 3) := by decide +kernel
theorem dX8_strengthOf_4 : decode cX8_strengthOf 4 = .ok (.iconst 0, 1) := by decide +kernel
theorem dX8_strengthOf_5 : decode cX8_strengthOf 5 = .ok (.goto 26, 3) := by decide +kernel
theorem dX8_strengthOf_8 : decode cX8_strengthOf 8 = .ok (.iload_n 1, 1) := by decide +kernel
theorem dX8_strengthOf_9 : decode cX8_strengthOf 9 = .ok (.iconst 1, 1) := by decide +kernel
theorem dX8_strengthOf_10 : decode cX8_strengthOf 10 = .ok (.if_icmp .ne 13, 3) := by decide +kernel
theorem dX8_strengthOf_13 : decode cX8_strengthOf 13 = .ok (.iload_n 0, 1) := by decide +kernel
theorem dX8_strengthOf_14 : decode cX8_strengthOf 14 = .ok (.iconst 2, 1) := by decide +kernel
theorem dX8_strengthOf_15 : decode cX8_strengthOf 15 = .ok (.iconst 3, 1) := by decide +kernel
theorem dX8_strengthOf_16 : decode cX8_strengthOf 16 = .ok (.iconst 1, 1) := by decide +kernel
theorem dX8_strengthOf_17 : decode cX8_strengthOf 17 = .ok (.invokestatic 42, 3) := by decide +kernel
theorem dX8_strengthOf_20 : decode cX8_strengthOf 20 = .ok (.goto 11, 3) := by decide +kernel
theorem dX8_strengthOf_23 : decode cX8_strengthOf 23 = .ok (.iload_n 0, 1) := by decide +kernel
theorem dX8_strengthOf_24 : decode cX8_strengthOf 24 = .ok (.iconst 4, 1) := by decide +kernel
theorem dX8_strengthOf_25 : decode cX8_strengthOf 25 = .ok (.bipush 6, 2) := by decide +kernel
theorem dX8_strengthOf_27 : decode cX8_strengthOf 27 = .ok (.iconst 5, 1) := by decide +kernel
theorem dX8_strengthOf_28 : decode cX8_strengthOf 28 = .ok (.invokestatic 42, 3) := by decide +kernel
theorem dX8_strengthOf_31 : decode cX8_strengthOf 31 = .ok (.ireturn, 1) := by decide +kernel
set_option maxRecDepth 20000 in
theorem ggX8_cooled_X8_choose : GoodIn wsX8_cooled wsX8_choose := goodIn_r _ [4] (by decide +kernel) (by decide +kernel)
set_option maxRecDepth 20000 in
theorem gX8_cooled_X8_choose : GoodIn wsX8_cooled (va_wsS RX8 42 yX8_choose wsX8_choose) := goodIn_app (goodIn_of _ (by decide +kernel)) ggX8_cooled_X8_choose
theorem dX8_cooled_0 : decode cX8_cooled 0 = .ok (.iload_n 1, 1) := by decide +kernel
theorem dX8_cooled_1 : decode cX8_cooled 1 = .ok (.iload_n 1, 1) := by decide +kernel
theorem dX8_cooled_2 : decode cX8_cooled 2 = .ok (.iload_n 0, 1) := by decide +kernel
theorem dX8_cooled_3 : decode cX8_cooled 3 = .ok (.bipush 10, 2) := by decide +kernel
theorem dX8_cooled_5 : decode cX8_cooled 5 = .ok (.bipush 14, 2) := by decide +kernel
theorem dX8_cooled_7 : decode cX8_cooled 7 = .ok (.bipush 20, 2) := by decide +kernel
theorem dX8_cooled_9 : decode cX8_cooled 9 = .ok (.invokestatic 42, 3) := by decide +kernel
theorem dX8_cooled_12 : decode cX8_cooled 12 = .ok (.idiv, 1) := by decide +kernel
theorem dX8_cooled_13 : decode cX8_cooled 13 = .ok (.isub, 1) := by decide +kernel
theorem dX8_cooled_14 : decode cX8_cooled 14 = .ok (.iconst 1, 1) := by decide +kernel
theorem dX8_cooled_15 : decode cX8_cooled 15 = .ok (.isub, 1) := by decide +kernel
theorem dX8_cooled_16 : decode cX8_cooled 16 = .ok (.istore_n 3, 1) := by decide +kernel
theorem dX8_cooled_17 : decode cX8_cooled 17 = .ok (.iload_n 3, 1) := by decide +kernel
theorem dX8_cooled_18 : decode cX8_cooled 18 = .ok (.iload_n 2, 1) := by decide +kernel
theorem dX8_cooled_19 : decode cX8_cooled 19 = .ok (.if_icmp .ge 7, 3) := by decide +kernel
theorem dX8_cooled_22 : decode cX8_cooled 22 = .ok (.iload_n 2, 1) := by decide +kernel
theorem dX8_cooled_23 : decode cX8_cooled 23 = .ok (.goto 4, 3) := by decide +kernel
theorem dX8_cooled_26 : decode cX8_cooled 26 = .ok (.iload_n 3, 1) := by decide +kernel
theorem dX8_cooled_27 : decode cX8_cooled 27 = .ok (.ireturn, 1) := by decide +kernel
set_option maxRecDepth 20000 in
theorem ggX8_warmed_X8_choose : GoodIn wsX8_warmed wsX8_choose := goodIn_r _ [4] (by decide +kernel) (by decide +kernel)
set_option maxRecDepth 20000 in
theorem gX8_warmed_X8_choose : GoodIn wsX8_warmed (va_wsS RX8 42 yX8_choose wsX8_choose) := goodIn_app (goodIn_of _ (by decide +kernel)) ggX8_warmed_X8_choose
theorem dX8_warmed_0 : decode cX8_warmed 0 = .ok (.iload_n 1, 1) := by decide +kernel
theorem dX8_warmed_1 : decode cX8_warmed 1 = .ok (.iload_n 2, 1) := by decide +kernel
theorem dX8_warmed_2 : decode cX8_warmed 2 = .ok (.iload_n 1, 1) := by decide +kernel
theorem dX8_warmed_3 : decode cX8_warmed 3 = .ok (.isub, 1) := by decide +kernel
theorem dX8_warmed_4 : decode cX8_warmed 4 = .ok (.iload_n 0, 1) := by decide +kernel
theorem dX8_warmed_5 : decode cX8_warmed 5 = .ok (.bipush 8, 2) := by decide +kernel
theorem dX8_warmed_7 : decode cX8_warmed 7 = .ok (.bipush 6, 2) := by decide +kernel
theorem dX8_warmed_9 : decode cX8_warmed 9 = .ok (.bipush 10, 2) := by decide +kernel
theorem dX8_warmed_11 : decode cX8_warmed 11 = .ok (.invokestatic 42, 3) := by decide +kernel
theorem dX8_warmed_14 : decode cX8_warmed 14 = .ok (.idiv, 1) := by decide +kernel
theorem dX8_warmed_15 : decode cX8_warmed 15 = .ok (.iadd, 1) := by decide +kernel
theorem dX8_warmed_16 : decode cX8_warmed 16 = .ok (.iconst 1, 1) := by decide +kernel
theorem dX8_warmed_17 : decode cX8_warmed 17 = .ok (.iadd, 1) := by decide +kernel
theorem dX8_warmed_18 : decode cX8_warmed 18 = .ok (.istore_n 3, 1) := by decide +kernel
theorem dX8_warmed_19 : decode cX8_warmed 19 = .ok (.iload_n 3, 1) := by decide +kernel
theorem dX8_warmed_20 : decode cX8_warmed 20 = .ok (.iload_n 2, 1) := by decide +kernel
theorem dX8_warmed_21 : decode cX8_warmed 21 = .ok (.if_icmp .le 7, 3) := by decide +kernel
theorem dX8_warmed_24 : decode cX8_warmed 24 = .ok (.iload_n 2, 1) := by decide +kernel
theorem dX8_warmed_25 : decode cX8_warmed 25 = .ok (.goto 4, 3) := by decide +kernel
theorem dX8_warmed_28 : decode cX8_warmed 28 = .ok (.iload_n 3, 1) := by decide +kernel
theorem dX8_warmed_29 : decode cX8_warmed 29 = .ok (.ireturn, 1) := by decide +kernel
set_option maxRecDepth 20000 in
theorem ggX8_byFlame_X8_warmed : GoodIn wsX8_byFlame wsX8_warmed := goodIn_r _ [4, 5, 6, 3, 7] (by decide +kernel) (by decide +kernel)
set_option maxRecDepth 20000 in
theorem gX8_byFlame_X8_warmed : GoodIn wsX8_byFlame (va_wsS RX8 46 yX8_warmed wsX8_warmed) := goodIn_app (goodIn_of _ (by decide +kernel)) ggX8_byFlame_X8_warmed
set_option maxRecDepth 20000 in
theorem ggX8_byFlame_X8_cooled : GoodIn wsX8_byFlame wsX8_cooled := goodIn_r _ [10, 5, 6, 3, 7] (by decide +kernel) (by decide +kernel)
set_option maxRecDepth 20000 in
theorem gX8_byFlame_X8_cooled : GoodIn wsX8_byFlame (va_wsS RX8 50 yX8_cooled wsX8_cooled) := goodIn_app (goodIn_of _ (by decide +kernel)) ggX8_byFlame_X8_cooled
theorem dX8_byFlame_0 : decode cX8_byFlame 0 = .ok (.iload_n 1, 1) := by decide +kernel
theorem dX8_byFlame_1 : decode cX8_byFlame 1 = .ok (.iload_n 2, 1) := by decide +kernel
theorem dX8_byFlame_2 : decode cX8_byFlame 2 = .ok (.if_icmp .ge 12, 3) := by decide +kernel
theorem dX8_byFlame_5 : decode cX8_byFlame 5 = .ok (.iload_n 0, 1) := by decide +kernel
theorem dX8_byFlame_6 : decode cX8_byFlame 6 = .ok (.iload_n 1, 1) := by decide +kernel
theorem dX8_byFlame_7 : decode cX8_byFlame 7 = .ok (.iload_n 2, 1) := by decide +kernel
theorem dX8_byFlame_8 : decode cX8_byFlame 8 = .ok (.invokestatic 46, 3) := by decide +kernel
theorem dX8_byFlame_11 : decode cX8_byFlame 11 = .ok (.goto 18, 3) := by decide +kernel
theorem dX8_byFlame_14 : decode cX8_byFlame 14 = .ok (.iload_n 1, 1) := by decide +kernel
theorem dX8_byFlame_15 : decode cX8_byFlame 15 = .ok (.iload_n 2, 1) := by decide +kernel
theorem dX8_byFlame_16 : decode cX8_byFlame 16 = .ok (.if_icmp .le 12, 3) := by decide +kernel
theorem dX8_byFlame_19 : decode cX8_byFlame 19 = .ok (.iload_n 0, 1) := by decide +kernel
theorem dX8_byFlame_20 : decode cX8_byFlame 20 = .ok (.iload_n 1, 1) := by decide +kernel
theorem dX8_byFlame_21 : decode cX8_byFlame 21 = .ok (.iload_n 2, 1) := by decide +kernel
theorem dX8_byFlame_22 : decode cX8_byFlame 22 = .ok (.invokestatic 50, 3) := by decide +kernel
theorem dX8_byFlame_25 : decode cX8_byFlame 25 = .ok (.goto 4, 3) := by decide +kernel
theorem dX8_byFlame_28 : decode cX8_byFlame 28 = .ok (.iload_n 1, 1) := by decide +kernel
theorem dX8_byFlame_29 : decode cX8_byFlame 29 = .ok (.ireturn, 1) := by decide +kernel
set_option maxRecDepth 20000 in
theorem ggX8_strength_X8_get : GoodIn wsX8_strength wsX8_get := goodIn_r _ [5, 6, 13, 14, 15, 16, 17, 18, 19, 20, 21, 22, 23, 24, 25, 26] (by decide +kernel) (by decide +kernel)
set_option maxRecDepth 20000 in
theorem gX8_strength_X8_get : GoodIn wsX8_strength (wsV RX8 53 RX8 yX8_get wsX8_get) := goodIn_app (goodIn_of _ (by decide +kernel)) ggX8_strength_X8_get
set_option maxRecDepth 20000 in
theorem ggX8_strength_X8_strengthOf : GoodIn wsX8_strength wsX8_strengthOf := goodIn_r _ [9, 10, 11, 4, 12] (by decide +kernel) (by decide +kernel)
set_option maxRecDepth 20000 in
theorem gX8_strength_X8_strengthOf : GoodIn wsX8_strength (va_wsS RX8 57 yX8_strengthOf wsX8_strengthOf) := goodIn_app (goodIn_of _ (by decide +kernel)) ggX8_strength_X8_strengthOf
theorem dX8_strength_0 : decode cX8_strength 0 = .ok (.aload_n 0, 1) := by decide +kernel
theorem dX8_strength_1 : decode cX8_strength 1 = .ok (.iload_n 1, 1) := by decide +kernel
theorem dX8_strength_2 : decode cX8_strength 2 = .ok (.iconst 0, 1) := by decide +kernel
theorem dX8_strength_3 : decode cX8_strength 3 = .ok (.invokevirtual 53, 3) := by decide +kernel
theorem dX8_strength_6 : decode cX8_strength 6 = .ok (.aload_n 0, 1) := by decide +kernel
theorem dX8_strength_7 : decode cX8_strength 7 = .ok (.iload_n 1, 1) := by decide +kernel
theorem dX8_strength_8 : decode cX8_strength 8 = .ok (.iconst 1, 1) := by decide +kernel
theorem dX8_strength_9 : decode cX8_strength 9 = .ok (.invokevirtual 53, 3) := by decide +kernel
theorem dX8_strength_12 : decode cX8_strength 12 = .ok (.invokestatic 57, 3) := by decide +kernel
theorem dX8_strength_15 : decode cX8_strength 15 = .ok (.ireturn, 1) := by decide +kernel
set_option maxRecDepth 20000 in
theorem ggX8_isOpen_X8_get : GoodIn wsX8_isOpen wsX8_get := goodIn_r _ [6, 1, 7, 8, 9, 10, 11, 12, 13, 14, 15, 16, 17, 18, 19, 20] (by decide +kernel) (by decide +kernel)
set_option maxRecDepth 20000 in
theorem gX8_isOpen_X8_get : GoodIn wsX8_isOpen (wsV RX8 53 RX8 yX8_get wsX8_get) := goodIn_app (goodIn_of _ (by decide +kernel)) ggX8_isOpen_X8_get
theorem dX8_isOpen_0 : decode cX8_isOpen 0 = .ok (.aload_n 0, 1) := by decide +kernel
theorem dX8_isOpen_1 : decode cX8_isOpen 1 = .ok (.iload_n 1, 1) := by decide +kernel
theorem dX8_isOpen_2 : decode cX8_isOpen 2 = .ok (.bipush 6, 2) := by decide +kernel
theorem dX8_isOpen_4 : decode cX8_isOpen 4 = .ok (.invokevirtual 53, 3) := by decide +kernel
theorem dX8_isOpen_7 : decode cX8_isOpen 7 = .ok (.ifCond .ne 41, 3) := by decide +kernel
theorem dX8_isOpen_10 : decode cX8_isOpen 10 = .ok (.aload_n 0, 1) := by decide +kernel
theorem dX8_isOpen_11 : decode cX8_isOpen 11 = .ok (.iload_n 1, 1) := by decide +kernel
theorem dX8_isOpen_12 : decode cX8_isOpen 12 = .ok (.iconst 1, 1) := by decide +kernel
theorem dX8_isOpen_13 : decode cX8_isOpen 13 = .ok (.invokevirtual 53, 3) := by decide +kernel
theorem dX8_isOpen_16 : decode cX8_isOpen 16 = .ok (.ifCond .le 32, 3) := by decide +kernel
theorem dX8_isOpen_19 : decode cX8_isOpen 19 = .ok (.aload_n 0, 1) := by decide +kernel
theorem dX8_isOpen_20 : decode cX8_isOpen 20 = .ok (.iload_n 1, 1) := by decide +kernel
theorem dX8_isOpen_21 : decode cX8_isOpen 21 = .ok (.iconst 2, 1) := by decide +kernel
theorem dX8_isOpen_22 : decode cX8_isOpen 22 = .ok (.invokevirtual 53, 3) := by decide +kernel
theorem dX8_isOpen_25 : decode cX8_isOpen 25 = .ok (.iconst 1, 1) := by decide +kernel
theorem dX8_isOpen_26 : decode cX8_isOpen 26 = .ok (.if_icmp .eq 18, 3) := by decide +kernel
theorem dX8_isOpen_29 : decode cX8_isOpen 29 = .ok (.aload_n 0, 1) := by decide +kernel
theorem dX8_isOpen_30 : decode cX8_isOpen 30 = .ok (.iload_n 1, 1) := by decide +kernel
theorem dX8_isOpen_31 : decode cX8_isOpen 31 = .ok (.iconst 5, 1) := by decide +kernel
theorem dX8_isOpen_32 : decode cX8_isOpen 32 = .ok (.invokevirtual 53, 3) := by decide +kernel
theorem dX8_isOpen_35 : decode cX8_isOpen 35 = .ok (.aload_n 0, 1) := by decide +kernel
theorem dX8_isOpen_36 : decode cX8_isOpen 36 = .ok (.getfield 7, 3) := by decide +kernel
theorem dX8_isOpen_39 : decode cX8_isOpen 39 = .ok (.iconst 0, 1) := by decide +kernel
theorem dX8_isOpen_40 : decode cX8_isOpen 40 = .ok (.iaload, 1) := by decide +kernel
theorem dX8_isOpen_41 : decode cX8_isOpen 41 = .ok (.if_icmp .lt 7, 3) := by decide +kernel
theorem dX8_isOpen_44 : decode cX8_isOpen 44 = .ok (.iconst 1, 1) := by decide +kernel
theorem dX8_isOpen_45 : decode cX8_isOpen 45 = .ok (.goto 4, 3) := by decide +kernel
theorem dX8_isOpen_48 : decode cX8_isOpen 48 = .ok (.iconst 0, 1) := by decide +kernel
theorem dX8_isOpen_49 : decode cX8_isOpen 49 = .ok (.ireturn, 1) := by decide +kernel
theorem dX8_draftAt_0 : decode cX8_draftAt 0 = .ok (.iconst 0, 1) := by decide +kernel
theorem dX8_draftAt_1 : decode cX8_draftAt 1 = .ok (.istore_n 2, 1) := by decide +kernel
theorem dX8_draftAt_2 : decode cX8_draftAt 2 = .ok (.iconst 0, 1) := by decide +kernel
theorem dX8_draftAt_3 : decode cX8_draftAt 3 = .ok (.istore_n 3, 1) := by decide +kernel
theorem dX8_draftAt_4 : decode cX8_draftAt 4 = .ok (.iload_n 3, 1) := by decide +kernel
theorem dX8_draftAt_5 : decode cX8_draftAt 5 = .ok (.aload_n 0, 1) := by decide +kernel
theorem dX8_draftAt_6 : decode cX8_draftAt 6 = .ok (.getfield 7, 3) := by decide +kernel
theorem dX8_draftAt_9 : decode cX8_draftAt 9 = .ok (.bipush 43, 2) := by decide +kernel
theorem dX8_draftAt_11 : decode cX8_draftAt 11 = .ok (.iaload, 1) := by decide +kernel
theorem dX8_draftAt_12 : decode cX8_draftAt 12 = .ok (.if_icmp .ge 42, 3) := by decide +kernel
theorem dX8_draftAt_15 : decode cX8_draftAt 15 = .ok (.aload_n 0, 1) := by decide +kernel
theorem dX8_draftAt_16 : decode cX8_draftAt 16 = .ok (.getfield 7, 3) := by decide +kernel
theorem dX8_draftAt_19 : decode cX8_draftAt 19 = .ok (.bipush 44, 2) := by decide +kernel
theorem dX8_draftAt_21 : decode cX8_draftAt 21 = .ok (.iconst 2, 1) := by decide +kernel
theorem dX8_draftAt_22 : decode cX8_draftAt 22 = .ok (.iload_n 3, 1) := by decide +kernel
theorem dX8_draftAt_23 : decode cX8_draftAt 23 = .ok (.imul, 1) := by decide +kernel
theorem dX8_draftAt_24 : decode cX8_draftAt 24 = .ok (.iadd, 1) := by decide +kernel
theorem dX8_draftAt_25 : decode cX8_draftAt 25 = .ok (.iaload, 1) := by decide +kernel
theorem dX8_draftAt_26 : decode cX8_draftAt 26 = .ok (.iload_n 1, 1) := by decide +kernel
theorem dX8_draftAt_27 : decode cX8_draftAt 27 = .ok (.if_icmp .gt 19, 3) := by decide +kernel
theorem dX8_draftAt_30 : decode cX8_draftAt 30 = .ok (.aload_n 0, 1) := by decide +kernel
theorem dX8_draftAt_31 : decode cX8_draftAt 31 = .ok (.getfield 7, 3) := by decide +kernel
theorem dX8_draftAt_34 : decode cX8_draftAt 34 = .ok (.bipush 44, 2) := by decide +kernel
theorem dX8_draftAt_36 : decode cX8_draftAt 36 = .ok (.iconst 2, 1) := by decide +kernel
theorem dX8_draftAt_37 : decode cX8_draftAt 37 = .ok (.iload_n 3, 1) := by decide +kernel
theorem dX8_draftAt_38 : decode cX8_draftAt 38 = .ok (.imul, 1) := by decide +kernel
theorem dX8_draftAt_39 : decode cX8_draftAt 39 = .ok (.iadd, 1) := by decide +kernel
theorem dX8_draftAt_40 : decode cX8_draftAt 40 = .ok (.iconst 1, 1) := by decide +kernel
theorem dX8_draftAt_41 : decode cX8_draftAt 41 = .ok (.iadd, 1) := by decide +kernel
theorem dX8_draftAt_42 : decode cX8_draftAt 42 = .ok (.iaload, 1) := by decide +kernel
theorem dX8_draftAt_43 : decode cX8_draftAt 43 = .ok (.goto 4, 3) := by decide +kernel
theorem dX8_draftAt_46 : decode cX8_draftAt 46 = .ok (.iload_n 2, 1) := by decide +kernel
theorem dX8_draftAt_47 : decode cX8_draftAt 47 = .ok (.istore_n 2, 1) := by decide +kernel
theorem dX8_draftAt_48 : decode cX8_draftAt 48 = .ok (.iinc 3 1, 3) := by decide +kernel
theorem dX8_draftAt_51 : decode cX8_draftAt 51 = .ok (.goto (-47), 3) := by decide +kernel
theorem dX8_draftAt_54 : decode cX8_draftAt 54 = .ok (.iload_n 2, 1) := by decide +kernel
theorem dX8_draftAt_55 : decode cX8_draftAt 55 = .ok (.ireturn, 1) := by decide +kernel
theorem dX8_tells_0 : decode cX8_tells 0 = .ok (.aload_n 0, 1) := by decide +kernel
theorem dX8_tells_1 : decode cX8_tells 1 = .ok (.getfield 7, 3) := by decide +kernel
theorem dX8_tells_4 : decode cX8_tells 4 = .ok (.bipush 12, 2) := by decide +kernel
theorem dX8_tells_6 : decode cX8_tells 6 = .ok (.iaload, 1) := by decide +kernel
theorem dX8_tells_7 : decode cX8_tells 7 = .ok (.bipush 10, 2) := by decide +kernel
theorem dX8_tells_9 : decode cX8_tells 9 = .ok (.if_icmp .ne 48, 3) := by decide +kernel
theorem dX8_tells_12 : decode cX8_tells 12 = .ok (.iconst 0, 1) := by decide +kernel
theorem dX8_tells_13 : decode cX8_tells 13 = .ok (.istore_n 3, 1) := by decide +kernel
theorem dX8_tells_14 : decode cX8_tells 14 = .ok (.iload_n 3, 1) := by decide +kernel
theorem dX8_tells_15 : decode cX8_tells 15 = .ok (.bipush 27, 2) := by decide +kernel
theorem dX8_tells_17 : decode cX8_tells 17 = .ok (.if_icmp .ge 29, 3) := by decide +kernel
theorem dX8_tells_20 : decode cX8_tells 20 = .ok (.aload_n 0, 1) := by decide +kernel
theorem dX8_tells_21 : decode cX8_tells 21 = .ok (.getfield 7, 3) := by decide +kernel
theorem dX8_tells_24 : decode cX8_tells 24 = .ok (.bipush 13, 2) := by decide +kernel
theorem dX8_tells_26 : decode cX8_tells 26 = .ok (.iload_n 3, 1) := by decide +kernel
theorem dX8_tells_27 : decode cX8_tells 27 = .ok (.iadd, 1) := by decide +kernel
theorem dX8_tells_28 : decode cX8_tells 28 = .ok (.aload_n 0, 1) := by decide +kernel
theorem dX8_tells_29 : decode cX8_tells 29 = .ok (.getfield 7, 3) := by decide +kernel
theorem dX8_tells_32 : decode cX8_tells 32 = .ok (.bipush 13, 2) := by decide +kernel
theorem dX8_tells_34 : decode cX8_tells 34 = .ok (.iload_n 3, 1) := by decide +kernel
theorem dX8_tells_35 : decode cX8_tells 35 = .ok (.iadd, 1) := by decide +kernel
theorem dX8_tells_36 : decode cX8_tells 36 = .ok (.iconst 3, 1) := by decide +kernel
theorem dX8_tells_37 : decode cX8_tells 37 = .ok (.iadd, 1) := by decide +kernel
theorem dX8_tells_38 : decode cX8_tells 38 = .ok (.iaload, 1) := by decide +kernel
theorem dX8_tells_39 : decode cX8_tells 39 = .ok (.iastore, 1) := by decide +kernel
theorem dX8_tells_40 : decode cX8_tells 40 = .ok (.iinc 3 1, 3) := by decide +kernel
theorem dX8_tells_43 : decode cX8_tells 43 = .ok (.goto (-29), 3) := by decide +kernel
theorem dX8_tells_46 : decode cX8_tells 46 = .ok (.aload_n 0, 1) := by decide +kernel
theorem dX8_tells_47 : decode cX8_tells 47 = .ok (.getfield 7, 3) := by decide +kernel
theorem dX8_tells_50 : decode cX8_tells 50 = .ok (.bipush 12, 2) := by decide +kernel
theorem dX8_tells_52 : decode cX8_tells 52 = .ok (.dup2, 1) := by decide +kernel
theorem dX8_tells_53 : decode cX8_tells 53 = .ok (.iaload, 1) := by decide +kernel
theorem dX8_tells_54 : decode cX8_tells 54 = .ok (.iconst 1, 1) := by decide +kernel
theorem dX8_tells_55 : decode cX8_tells 55 = .ok (.isub, 1) := by decide +kernel
theorem dX8_tells_56 : decode cX8_tells 56 = .ok (.iastore, 1) := by decide +kernel
theorem dX8_tells_57 : decode cX8_tells 57 = .ok (.bipush 13, 2) := by decide +kernel
theorem dX8_tells_59 : decode cX8_tells 59 = .ok (.iconst 3, 1) := by decide +kernel
theorem dX8_tells_60 : decode cX8_tells 60 = .ok (.aload_n 0, 1) := by decide +kernel
theorem dX8_tells_61 : decode cX8_tells 61 = .ok (.getfield 7, 3) := by decide +kernel
theorem dX8_tells_64 : decode cX8_tells 64 = .ok (.bipush 12, 2) := by decide +kernel
theorem dX8_tells_66 : decode cX8_tells 66 = .ok (.iaload, 1) := by decide +kernel
theorem dX8_tells_67 : decode cX8_tells 67 = .ok (.imul, 1) := by decide +kernel
theorem dX8_tells_68 : decode cX8_tells 68 = .ok (.iadd, 1) := by decide +kernel
theorem dX8_tells_69 : decode cX8_tells 69 = .ok (.istore_n 3, 1) := by decide +kernel
theorem dX8_tells_70 : decode cX8_tells 70 = .ok (.aload_n 0, 1) := by decide +kernel
theorem dX8_tells_71 : decode cX8_tells 71 = .ok (.getfield 7, 3) := by decide +kernel
theorem dX8_tells_74 : decode cX8_tells 74 = .ok (.iload_n 3, 1) := by decide +kernel
theorem dX8_tells_75 : decode cX8_tells 75 = .ok (.iload_n 1, 1) := by decide +kernel
theorem dX8_tells_76 : decode cX8_tells 76 = .ok (.iastore, 1) := by decide +kernel
theorem dX8_tells_77 : decode cX8_tells 77 = .ok (.aload_n 0, 1) := by decide +kernel
theorem dX8_tells_78 : decode cX8_tells 78 = .ok (.getfield 7, 3) := by decide +kernel
theorem dX8_tells_81 : decode cX8_tells 81 = .ok (.iload_n 3, 1) := by decide +kernel
theorem dX8_tells_82 : decode cX8_tells 82 = .ok (.iconst 1, 1) := by decide +kernel
theorem dX8_tells_83 : decode cX8_tells 83 = .ok (.iadd, 1) := by decide +kernel
theorem dX8_tells_84 : decode cX8_tells 84 = .ok (.iload_n 2, 1) := by decide +kernel
theorem dX8_tells_85 : decode cX8_tells 85 = .ok (.iastore, 1) := by decide +kernel
theorem dX8_tells_86 : decode cX8_tells 86 = .ok (.aload_n 0, 1) := by decide +kernel
theorem dX8_tells_87 : decode cX8_tells 87 = .ok (.getfield 7, 3) := by decide +kernel
theorem dX8_tells_90 : decode cX8_tells 90 = .ok (.iload_n 3, 1) := by decide +kernel
theorem dX8_tells_91 : decode cX8_tells 91 = .ok (.iconst 2, 1) := by decide +kernel
theorem dX8_tells_92 : decode cX8_tells 92 = .ok (.iadd, 1) := by decide +kernel
theorem dX8_tells_93 : decode cX8_tells 93 = .ok (.aload_n 0, 1) := by decide +kernel
theorem dX8_tells_94 : decode cX8_tells 94 = .ok (.getfield 7, 3) := by decide +kernel
theorem dX8_tells_97 : decode cX8_tells 97 = .ok (.iconst 4, 1) := by decide +kernel
theorem dX8_tells_98 : decode cX8_tells 98 = .ok (.iaload, 1) := by decide +kernel
theorem dX8_tells_99 : decode cX8_tells 99 = .ok (.iastore, 1) := by decide +kernel
theorem dX8_tells_100 : decode cX8_tells 100 = .ok (.aload_n 0, 1) := by decide +kernel
theorem dX8_tells_101 : decode cX8_tells 101 = .ok (.getfield 7, 3) := by decide +kernel
theorem dX8_tells_104 : decode cX8_tells 104 = .ok (.bipush 12, 2) := by decide +kernel
theorem dX8_tells_106 : decode cX8_tells 106 = .ok (.dup2, 1) := by decide +kernel
theorem dX8_tells_107 : decode cX8_tells 107 = .ok (.iaload, 1) := by decide +kernel
theorem dX8_tells_108 : decode cX8_tells 108 = .ok (.iconst 1, 1) := by decide +kernel
theorem dX8_tells_109 : decode cX8_tells 109 = .ok (.iadd, 1) := by decide +kernel
theorem dX8_tells_110 : decode cX8_tells 110 = .ok (.iastore, 1) := by decide +kernel
theorem dX8_tells_111 : decode cX8_tells 111 = .ok (.aload_n 0, 1) := by decide +kernel
theorem dX8_tells_112 : decode cX8_tells 112 = .ok (.getfield 7, 3) := by decide +kernel
theorem dX8_tells_115 : decode cX8_tells 115 = .ok (.bipush 8, 2) := by decide +kernel
theorem dX8_tells_117 : decode cX8_tells 117 = .ok (.iload_n 1, 1) := by decide +kernel
theorem dX8_tells_118 : decode cX8_tells 118 = .ok (.iadd, 1) := by decide +kernel
theorem dX8_tells_119 : decode cX8_tells 119 = .ok (.dup2, 1) := by decide +kernel
theorem dX8_tells_120 : decode cX8_tells 120 = .ok (.iaload, 1) := by decide +kernel
theorem dX8_tells_121 : decode cX8_tells 121 = .ok (.iconst 1, 1) := by decide +kernel
theorem dX8_tells_122 : decode cX8_tells 122 = .ok (.iadd, 1) := by decide +kernel
theorem dX8_tells_123 : decode cX8_tells 123 = .ok (.iastore, 1) := by decide +kernel
theorem dX8_tells_124 : decode cX8_tells 124 = .ok (.return_, 1) := by decide +kernel
set_option maxRecDepth 20000 in
theorem ggX8_burns_X8_get : GoodIn wsX8_burns wsX8_get := goodIn_r _ [6, 1, 48, 49, 50, 51, 52, 53, 54, 55, 56, 57, 58, 59, 60, 61] (by decide +kernel) (by decide +kernel)
set_option maxRecDepth 20000 in
theorem gX8_burns_X8_get : GoodIn wsX8_burns (wsV RX8 53 RX8 yX8_get wsX8_get) := goodIn_app (goodIn_of _ (by decide +kernel)) ggX8_burns_X8_get
set_option maxRecDepth 20000 in
theorem ggX8_burns_X8_isOpen : GoodIn wsX8_burns wsX8_isOpen := goodIn_r _ [10, 1, 2, 3, 4, 5, 6, 48, 49, 50, 51, 52, 53, 54, 55, 56, 57, 58, 59, 60, 61] (by decide +kernel) (by decide +kernel)
set_option maxRecDepth 20000 in
theorem gX8_burns_X8_isOpen : GoodIn wsX8_burns (wsV RX8 60 RX8 yX8_isOpen wsX8_isOpen) := goodIn_app (goodIn_of _ (by decide +kernel)) ggX8_burns_X8_isOpen
set_option maxRecDepth 20000 in
theorem ggX8_burns_X8_lay : GoodIn wsX8_burns wsX8_lay := goodIn_r _ [14, 1, 48, 49, 50, 51, 52, 53, 54, 55, 56, 57, 58, 59, 60, 61] (by decide +kernel) (by decide +kernel)
set_option maxRecDepth 20000 in
theorem gX8_burns_X8_lay : GoodIn wsX8_burns (wsV RX8 64 RX8 yX8_lay wsX8_lay) := goodIn_app (goodIn_of _ (by decide +kernel)) ggX8_burns_X8_lay
set_option maxRecDepth 20000 in
theorem ggX8_burns_X8_strength : GoodIn wsX8_burns wsX8_strength := goodIn_r _ [18, 2, 3, 4, 5, 6, 1, 19, 20, 21, 22, 23, 24, 48, 49, 50, 51, 52, 53, 54, 55, 56, 57, 58, 59, 60, 61] (by decide +kernel) (by decide +kernel)
set_option maxRecDepth 20000 in
theorem gX8_burns_X8_strength : GoodIn wsX8_burns (wsV RX8 68 RX8 yX8_strength wsX8_strength) := goodIn_app (goodIn_of _ (by decide +kernel)) ggX8_burns_X8_strength
set_option maxRecDepth 20000 in
theorem ggX8_burns_X8_tells : GoodIn wsX8_burns wsX8_tells := goodIn_r _ [28, 1, 48, 49, 50, 51, 52, 53, 54, 55, 56, 57, 58, 59, 60, 61] (by decide +kernel) (by decide +kernel)
set_option maxRecDepth 20000 in
theorem gX8_burns_X8_tells : GoodIn wsX8_burns (wsV RX8 72 RX8 yX8_tells wsX8_tells) := goodIn_app (goodIn_of _ (by decide +kernel)) ggX8_burns_X8_tells
set_option maxRecDepth 20000 in
theorem ggX8_burns_X8_sparks : GoodIn wsX8_burns wsX8_sparks := goodIn_r _ [32, 1, 2, 3, 4, 5, 6, 11, 12, 13, 14, 15, 16, 17, 18, 19, 20, 21, 22, 23, 24, 25, 26, 27, 28, 48, 49, 50, 51, 52, 53, 54, 55, 56, 57, 58, 59, 60, 61] (by decide +kernel) (by decide +kernel)
set_option maxRecDepth 20000 in
theorem gX8_burns_X8_sparks : GoodIn wsX8_burns (wsV RX8 76 RX8 yX8_sparks wsX8_sparks) := goodIn_app (goodIn_of _ (by decide +kernel)) ggX8_burns_X8_sparks
set_option maxRecDepth 20000 in
theorem ggX8_burns_X8_heat : GoodIn wsX8_burns wsX8_heat := goodIn_r _ [35, 22, 23, 5, 24] (by decide +kernel) (by decide +kernel)
set_option maxRecDepth 20000 in
theorem gX8_burns_X8_heat : GoodIn wsX8_burns (va_wsS RX8 79 yX8_heat wsX8_heat) := goodIn_app (goodIn_of _ (by decide +kernel)) ggX8_burns_X8_heat
set_option maxRecDepth 20000 in
theorem ggX8_burns_X8_byFlame : GoodIn wsX8_burns wsX8_byFlame := goodIn_r _ [38, 39, 40, 5, 41, 22, 23, 24, 42, 43, 44] (by decide +kernel) (by decide +kernel)
set_option maxRecDepth 20000 in
theorem gX8_burns_X8_byFlame : GoodIn wsX8_burns (va_wsS RX8 82 yX8_byFlame wsX8_byFlame) := goodIn_app (goodIn_of _ (by decide +kernel)) ggX8_burns_X8_byFlame
set_option maxRecDepth 20000 in
theorem ggX8_burns_X8_cooled : GoodIn wsX8_burns wsX8_cooled := goodIn_r _ [44, 22, 23, 5, 24] (by decide +kernel) (by decide +kernel)
set_option maxRecDepth 20000 in
theorem gX8_burns_X8_cooled : GoodIn wsX8_burns (va_wsS RX8 50 yX8_cooled wsX8_cooled) := goodIn_app (goodIn_of _ (by decide +kernel)) ggX8_burns_X8_cooled
set_option maxRecDepth 20000 in
theorem ggX8_burns_X8_flow : GoodIn wsX8_burns wsX8_flow := goodIn_r _ [47, 22, 23, 5, 24] (by decide +kernel) (by decide +kernel)
set_option maxRecDepth 20000 in
theorem gX8_burns_X8_flow : GoodIn wsX8_burns (va_wsS RX8 85 yX8_flow wsX8_flow) := goodIn_app (goodIn_of _ (by decide +kernel)) ggX8_burns_X8_flow
theorem dX8_burns_0 : decode cX8_burns 0 = .ok (.aload_n 0, 1) := by decide +kernel
theorem dX8_burns_1 : decode cX8_burns 1 = .ok (.iload_n 1, 1) := by decide +kernel
theorem dX8_burns_2 : decode cX8_burns 2 = .ok (.iconst 4, 1) := by decide +kernel
theorem dX8_burns_3 : decode cX8_burns 3 = .ok (.invokevirtual 53, 3) := by decide +kernel
theorem dX8_burns_6 : decode cX8_burns 6 = .ok (.iconst 1, 1) := by decide +kernel
theorem dX8_burns_7 : decode cX8_burns 7 = .ok (.if_icmp .ne 18, 3) := by decide +kernel
theorem dX8_burns_10 : decode cX8_burns 10 = .ok (.aload_n 0, 1) := by decide +kernel
theorem dX8_burns_11 : decode cX8_burns 11 = .ok (.iload_n 1, 1) := by decide +kernel
theorem dX8_burns_12 : decode cX8_burns 12 = .ok (.invokevirtual 60, 3) := by decide +kernel
theorem dX8_burns_15 : decode cX8_burns 15 = .ok (.ifCond .ne 10, 3) := by decide +kernel
theorem dX8_burns_18 : decode cX8_burns 18 = .ok (.aload_n 0, 1) := by decide +kernel
theorem dX8_burns_19 : decode cX8_burns 19 = .ok (.iload_n 1, 1) := by decide +kernel
theorem dX8_burns_20 : decode cX8_burns 20 = .ok (.iconst 4, 1) := by decide +kernel
theorem dX8_burns_21 : decode cX8_burns 21 = .ok (.iconst 0, 1) := by decide +kernel
theorem dX8_burns_22 : decode cX8_burns 22 = .ok (.invokevirtual 64, 3) := by decide +kernel
theorem dX8_burns_25 : decode cX8_burns 25 = .ok (.aload_n 0, 1) := by decide +kernel
theorem dX8_burns_26 : decode cX8_burns 26 = .ok (.iload_n 1, 1) := by decide +kernel
theorem dX8_burns_27 : decode cX8_burns 27 = .ok (.iconst 4, 1) := by decide +kernel
theorem dX8_burns_28 : decode cX8_burns 28 = .ok (.invokevirtual 53, 3) := by decide +kernel
theorem dX8_burns_31 : decode cX8_burns 31 = .ok (.iconst 1, 1) := by decide +kernel
theorem dX8_burns_32 : decode cX8_burns 32 = .ok (.if_icmp .ne 25, 3) := by decide +kernel
theorem dX8_burns_35 : decode cX8_burns 35 = .ok (.iload_n 2, 1) := by decide +kernel
theorem dX8_burns_36 : decode cX8_burns 36 = .ok (.aload_n 0, 1) := by decide +kernel
theorem dX8_burns_37 : decode cX8_burns 37 = .ok (.iload_n 1, 1) := by decide +kernel
theorem dX8_burns_38 : decode cX8_burns 38 = .ok (.invokevirtual 68, 3) := by decide +kernel
theorem dX8_burns_41 : decode cX8_burns 41 = .ok (.if_icmp .le 16, 3) := by decide +kernel
theorem dX8_burns_44 : decode cX8_burns 44 = .ok (.aload_n 0, 1) := by decide +kernel
theorem dX8_burns_45 : decode cX8_burns 45 = .ok (.iload_n 1, 1) := by decide +kernel
theorem dX8_burns_46 : decode cX8_burns 46 = .ok (.iconst 4, 1) := by decide +kernel
theorem dX8_burns_47 : decode cX8_burns 47 = .ok (.iconst 0, 1) := by decide +kernel
theorem dX8_burns_48 : decode cX8_burns 48 = .ok (.invokevirtual 64, 3) := by decide +kernel
theorem dX8_burns_51 : decode cX8_burns 51 = .ok (.aload_n 0, 1) := by decide +kernel
theorem dX8_burns_52 : decode cX8_burns 52 = .ok (.iconst 1, 1) := by decide +kernel
theorem dX8_burns_53 : decode cX8_burns 53 = .ok (.iload_n 1, 1) := by decide +kernel
theorem dX8_burns_54 : decode cX8_burns 54 = .ok (.invokevirtual 72, 3) := by decide +kernel
theorem dX8_burns_57 : decode cX8_burns 57 = .ok (.aload_n 0, 1) := by decide +kernel
theorem dX8_burns_58 : decode cX8_burns 58 = .ok (.iload_n 1, 1) := by decide +kernel
theorem dX8_burns_59 : decode cX8_burns 59 = .ok (.iconst 4, 1) := by decide +kernel
theorem dX8_burns_60 : decode cX8_burns 60 = .ok (.invokevirtual 53, 3) := by decide +kernel
theorem dX8_burns_63 : decode cX8_burns 63 = .ok (.ifCond .ne 37, 3) := by decide +kernel
theorem dX8_burns_66 : decode cX8_burns 66 = .ok (.aload_n 0, 1) := by decide +kernel
theorem dX8_burns_67 : decode cX8_burns 67 = .ok (.iload_n 1, 1) := by decide +kernel
theorem dX8_burns_68 : decode cX8_burns 68 = .ok (.invokevirtual 60, 3) := by decide +kernel
theorem dX8_burns_71 : decode cX8_burns 71 = .ok (.ifCond .eq 29, 3) := by decide +kernel
theorem dX8_burns_74 : decode cX8_burns 74 = .ok (.aload_n 0, 1) := by decide +kernel
theorem dX8_burns_75 : decode cX8_burns 75 = .ok (.iload_n 1, 1) := by decide +kernel
theorem dX8_burns_76 : decode cX8_burns 76 = .ok (.iconst 3, 1) := by decide +kernel
theorem dX8_burns_77 : decode cX8_burns 77 = .ok (.invokevirtual 53, 3) := by decide +kernel
theorem dX8_burns_80 : decode cX8_burns 80 = .ok (.iconst 1, 1) := by decide +kernel
theorem dX8_burns_81 : decode cX8_burns 81 = .ok (.if_icmp .ne 19, 3) := by decide +kernel
theorem dX8_burns_84 : decode cX8_burns 84 = .ok (.iload_n 3, 1) := by decide +kernel
theorem dX8_burns_85 : decode cX8_burns 85 = .ok (.aload_n 0, 1) := by decide +kernel
theorem dX8_burns_86 : decode cX8_burns 86 = .ok (.getfield 7, 3) := by decide +kernel
theorem dX8_burns_89 : decode cX8_burns 89 = .ok (.iconst 3, 1) := by decide +kernel
theorem dX8_burns_90 : decode cX8_burns 90 = .ok (.iaload, 1) := by decide +kernel
theorem dX8_burns_91 : decode cX8_burns 91 = .ok (.if_icmp .ge 9, 3) := by decide +kernel
theorem dX8_burns_94 : decode cX8_burns 94 = .ok (.aload_n 0, 1) := by decide +kernel
theorem dX8_burns_95 : decode cX8_burns 95 = .ok (.iload_n 1, 1) := by decide +kernel
theorem dX8_burns_96 : decode cX8_burns 96 = .ok (.iload_n 2, 1) := by decide +kernel
theorem dX8_burns_97 : decode cX8_burns 97 = .ok (.invokevirtual 76, 3) := by decide +kernel
theorem dX8_burns_100 : decode cX8_burns 100 = .ok (.aload_n 0, 1) := by decide +kernel
theorem dX8_burns_101 : decode cX8_burns 101 = .ok (.iload_n 1, 1) := by decide +kernel
theorem dX8_burns_102 : decode cX8_burns 102 = .ok (.invokevirtual 60, 3) := by decide +kernel
theorem dX8_burns_105 : decode cX8_burns 105 = .ok (.istore 4, 2) := by decide +kernel
theorem dX8_burns_107 : decode cX8_burns 107 = .ok (.aload_n 0, 1) := by decide +kernel
theorem dX8_burns_108 : decode cX8_burns 108 = .ok (.iload_n 1, 1) := by decide +kernel
theorem dX8_burns_109 : decode cX8_burns 109 = .ok (.iconst 0, 1) := by decide +kernel
theorem dX8_burns_110 : decode cX8_burns 110 = .ok (.invokevirtual 53, 3) := by decide +kernel
theorem dX8_burns_113 : decode cX8_burns 113 = .ok (.istore 5, 2) := by decide +kernel
theorem dX8_burns_115 : decode cX8_burns 115 = .ok (.aload_n 0, 1) := by decide +kernel
theorem dX8_burns_116 : decode cX8_burns 116 = .ok (.iload_n 1, 1) := by decide +kernel
theorem dX8_burns_117 : decode cX8_burns 117 = .ok (.iconst 5, 1) := by decide +kernel
theorem dX8_burns_118 : decode cX8_burns 118 = .ok (.invokevirtual 53, 3) := by decide +kernel
theorem dX8_burns_121 : decode cX8_burns 121 = .ok (.istore 6, 2) := by decide +kernel
theorem dX8_burns_123 : decode cX8_burns 123 = .ok (.aload_n 0, 1) := by decide +kernel
theorem dX8_burns_124 : decode cX8_burns 124 = .ok (.iload_n 1, 1) := by decide +kernel
theorem dX8_burns_125 : decode cX8_burns 125 = .ok (.iconst 5, 1) := by decide +kernel
theorem dX8_burns_126 : decode cX8_burns 126 = .ok (.aload_n 0, 1) := by decide +kernel
theorem dX8_burns_127 : decode cX8_burns 127 = .ok (.iload_n 1, 1) := by decide +kernel
theorem dX8_burns_128 : decode cX8_burns 128 = .ok (.iconst 4, 1) := by decide +kernel
theorem dX8_burns_129 : decode cX8_burns 129 = .ok (.invokevirtual 53, 3) := by decide +kernel
theorem dX8_burns_132 : decode cX8_burns 132 = .ok (.iconst 1, 1) := by decide +kernel
theorem dX8_burns_133 : decode cX8_burns 133 = .ok (.if_icmp .ne 24, 3) := by decide +kernel
theorem dX8_burns_136 : decode cX8_burns 136 = .ok (.iload 5, 2) := by decide +kernel
theorem dX8_burns_138 : decode cX8_burns 138 = .ok (.iload 6, 2) := by decide +kernel
theorem dX8_burns_140 : decode cX8_burns 140 = .ok (.iload 5, 2) := by decide +kernel
theorem dX8_burns_142 : decode cX8_burns 142 = .ok (.aload_n 0, 1) := by decide +kernel
theorem dX8_burns_143 : decode cX8_burns 143 = .ok (.iload_n 1, 1) := by decide +kernel
theorem dX8_burns_144 : decode cX8_burns 144 = .ok (.iconst 1, 1) := by decide +kernel
theorem dX8_burns_145 : decode cX8_burns 145 = .ok (.invokevirtual 53, 3) := by decide +kernel
theorem dX8_burns_148 : decode cX8_burns 148 = .ok (.invokestatic 79, 3) := by decide +kernel
theorem dX8_burns_151 : decode cX8_burns 151 = .ok (.invokestatic 82, 3) := by decide +kernel
theorem dX8_burns_154 : decode cX8_burns 154 = .ok (.goto 11, 3) := by decide +kernel
theorem dX8_burns_157 : decode cX8_burns 157 = .ok (.iload 5, 2) := by decide +kernel
theorem dX8_burns_159 : decode cX8_burns 159 = .ok (.iload 6, 2) := by decide +kernel
theorem dX8_burns_161 : decode cX8_burns 161 = .ok (.iconst 0, 1) := by decide +kernel
theorem dX8_burns_162 : decode cX8_burns 162 = .ok (.invokestatic 50, 3) := by decide +kernel
theorem dX8_burns_165 : decode cX8_burns 165 = .ok (.invokevirtual 64, 3) := by decide +kernel
theorem dX8_burns_168 : decode cX8_burns 168 = .ok (.iload 4, 2) := by decide +kernel
theorem dX8_burns_170 : decode cX8_burns 170 = .ok (.ifCond .eq 24, 3) := by decide +kernel
theorem dX8_burns_173 : decode cX8_burns 173 = .ok (.aload_n 0, 1) := by decide +kernel
theorem dX8_burns_174 : decode cX8_burns 174 = .ok (.iload_n 1, 1) := by decide +kernel
theorem dX8_burns_175 : decode cX8_burns 175 = .ok (.invokevirtual 60, 3) := by decide +kernel
theorem dX8_burns_178 : decode cX8_burns 178 = .ok (.ifCond .ne 16, 3) := by decide +kernel
theorem dX8_burns_181 : decode cX8_burns 181 = .ok (.aload_n 0, 1) := by decide +kernel
theorem dX8_burns_182 : decode cX8_burns 182 = .ok (.iload_n 1, 1) := by decide +kernel
theorem dX8_burns_183 : decode cX8_burns 183 = .ok (.iconst 4, 1) := by decide +kernel
theorem dX8_burns_184 : decode cX8_burns 184 = .ok (.iconst 0, 1) := by decide +kernel
theorem dX8_burns_185 : decode cX8_burns 185 = .ok (.invokevirtual 64, 3) := by decide +kernel
theorem dX8_burns_188 : decode cX8_burns 188 = .ok (.aload_n 0, 1) := by decide +kernel
theorem dX8_burns_189 : decode cX8_burns 189 = .ok (.iconst 2, 1) := by decide +kernel
theorem dX8_burns_190 : decode cX8_burns 190 = .ok (.iload_n 1, 1) := by decide +kernel
theorem dX8_burns_191 : decode cX8_burns 191 = .ok (.invokevirtual 72, 3) := by decide +kernel
theorem dX8_burns_194 : decode cX8_burns 194 = .ok (.aload_n 0, 1) := by decide +kernel
theorem dX8_burns_195 : decode cX8_burns 195 = .ok (.iload_n 1, 1) := by decide +kernel
theorem dX8_burns_196 : decode cX8_burns 196 = .ok (.invokevirtual 60, 3) := by decide +kernel
theorem dX8_burns_199 : decode cX8_burns 199 = .ok (.ifCond .eq 16, 3) := by decide +kernel
theorem dX8_burns_202 : decode cX8_burns 202 = .ok (.aload_n 0, 1) := by decide +kernel
theorem dX8_burns_203 : decode cX8_burns 203 = .ok (.iload_n 1, 1) := by decide +kernel
theorem dX8_burns_204 : decode cX8_burns 204 = .ok (.iconst 4, 1) := by decide +kernel
theorem dX8_burns_205 : decode cX8_burns 205 = .ok (.invokevirtual 53, 3) := by decide +kernel
theorem dX8_burns_208 : decode cX8_burns 208 = .ok (.ifCond .ne 7, 3) := by decide +kernel
theorem dX8_burns_211 : decode cX8_burns 211 = .ok (.iconst 1, 1) := by decide +kernel
theorem dX8_burns_212 : decode cX8_burns 212 = .ok (.goto 4, 3) := by decide +kernel
theorem dX8_burns_215 : decode cX8_burns 215 = .ok (.iconst 0, 1) := by decide +kernel
theorem dX8_burns_216 : decode cX8_burns 216 = .ok (.istore 7, 2) := by decide +kernel
theorem dX8_burns_218 : decode cX8_burns 218 = .ok (.iload 7, 2) := by decide +kernel
theorem dX8_burns_220 : decode cX8_burns 220 = .ok (.ifCond .eq 17, 3) := by decide +kernel
theorem dX8_burns_223 : decode cX8_burns 223 = .ok (.iload 5, 2) := by decide +kernel
theorem dX8_burns_225 : decode cX8_burns 225 = .ok (.aload_n 0, 1) := by decide +kernel
theorem dX8_burns_226 : decode cX8_burns 226 = .ok (.iload_n 1, 1) := by decide +kernel
theorem dX8_burns_227 : decode cX8_burns 227 = .ok (.iconst 1, 1) := by decide +kernel
theorem dX8_burns_228 : decode cX8_burns 228 = .ok (.invokevirtual 53, 3) := by decide +kernel
theorem dX8_burns_231 : decode cX8_burns 231 = .ok (.invokestatic 85, 3) := by decide +kernel
theorem dX8_burns_234 : decode cX8_burns 234 = .ok (.goto 4, 3) := by decide +kernel
theorem dX8_burns_237 : decode cX8_burns 237 = .ok (.iconst 0, 1) := by decide +kernel
theorem dX8_burns_238 : decode cX8_burns 238 = .ok (.istore 8, 2) := by decide +kernel
theorem dX8_burns_240 : decode cX8_burns 240 = .ok (.aload_n 0, 1) := by decide +kernel
theorem dX8_burns_241 : decode cX8_burns 241 = .ok (.getfield 7, 3) := by decide +kernel
theorem dX8_burns_244 : decode cX8_burns 244 = .ok (.iconst 5, 1) := by decide +kernel
theorem dX8_burns_245 : decode cX8_burns 245 = .ok (.dup2, 1) := by decide +kernel
theorem dX8_burns_246 : decode cX8_burns 246 = .ok (.iaload, 1) := by decide +kernel
theorem dX8_burns_247 : decode cX8_burns 247 = .ok (.iload 8, 2) := by decide +kernel
theorem dX8_burns_249 : decode cX8_burns 249 = .ok (.iadd, 1) := by decide +kernel
theorem dX8_burns_250 : decode cX8_burns 250 = .ok (.iastore, 1) := by decide +kernel
theorem dX8_burns_251 : decode cX8_burns 251 = .ok (.aload_n 0, 1) := by decide +kernel
theorem dX8_burns_252 : decode cX8_burns 252 = .ok (.iload_n 1, 1) := by decide +kernel
theorem dX8_burns_253 : decode cX8_burns 253 = .ok (.bipush 9, 2) := by decide +kernel
theorem dX8_burns_255 : decode cX8_burns 255 = .ok (.aload_n 0, 1) := by decide +kernel
theorem dX8_burns_256 : decode cX8_burns 256 = .ok (.iload_n 1, 1) := by decide +kernel
theorem dX8_burns_257 : decode cX8_burns 257 = .ok (.bipush 9, 2) := by decide +kernel
theorem dX8_burns_259 : decode cX8_burns 259 = .ok (.invokevirtual 53, 3) := by decide +kernel
theorem dX8_burns_262 : decode cX8_burns 262 = .ok (.iload 8, 2) := by decide +kernel
theorem dX8_burns_264 : decode cX8_burns 264 = .ok (.iadd, 1) := by decide +kernel
theorem dX8_burns_265 : decode cX8_burns 265 = .ok (.invokevirtual 64, 3) := by decide +kernel
theorem dX8_burns_268 : decode cX8_burns 268 = .ok (.aload_n 0, 1) := by decide +kernel
theorem dX8_burns_269 : decode cX8_burns 269 = .ok (.iload_n 1, 1) := by decide +kernel
theorem dX8_burns_270 : decode cX8_burns 270 = .ok (.bipush 8, 2) := by decide +kernel
theorem dX8_burns_272 : decode cX8_burns 272 = .ok (.iload 7, 2) := by decide +kernel
theorem dX8_burns_274 : decode cX8_burns 274 = .ok (.ifCond .eq 15, 3) := by decide +kernel
theorem dX8_burns_277 : decode cX8_burns 277 = .ok (.aload_n 0, 1) := by decide +kernel
theorem dX8_burns_278 : decode cX8_burns 278 = .ok (.iload_n 1, 1) := by decide +kernel
theorem dX8_burns_279 : decode cX8_burns 279 = .ok (.bipush 8, 2) := by decide +kernel
theorem dX8_burns_281 : decode cX8_burns 281 = .ok (.invokevirtual 53, 3) := by decide +kernel
theorem dX8_burns_284 : decode cX8_burns 284 = .ok (.iconst 1, 1) := by decide +kernel
theorem dX8_burns_285 : decode cX8_burns 285 = .ok (.iadd, 1) := by decide +kernel
theorem dX8_burns_286 : decode cX8_burns 286 = .ok (.goto 4, 3) := by decide +kernel
theorem dX8_burns_289 : decode cX8_burns 289 = .ok (.iconst 0, 1) := by decide +kernel
theorem dX8_burns_290 : decode cX8_burns 290 = .ok (.invokevirtual 64, 3) := by decide +kernel
theorem dX8_burns_293 : decode cX8_burns 293 = .ok (.aload_n 0, 1) := by decide +kernel
theorem dX8_burns_294 : decode cX8_burns 294 = .ok (.getfield 7, 3) := by decide +kernel
theorem dX8_burns_297 : decode cX8_burns 297 = .ok (.bipush 7, 2) := by decide +kernel
theorem dX8_burns_299 : decode cX8_burns 299 = .ok (.aload_n 0, 1) := by decide +kernel
theorem dX8_burns_300 : decode cX8_burns 300 = .ok (.iload_n 1, 1) := by decide +kernel
theorem dX8_burns_301 : decode cX8_burns 301 = .ok (.bipush 8, 2) := by decide +kernel
theorem dX8_burns_303 : decode cX8_burns 303 = .ok (.invokevirtual 53, 3) := by decide +kernel
theorem dX8_burns_306 : decode cX8_burns 306 = .ok (.aload_n 0, 1) := by decide +kernel
theorem dX8_burns_307 : decode cX8_burns 307 = .ok (.getfield 7, 3) := by decide +kernel
theorem dX8_burns_310 : decode cX8_burns 310 = .ok (.bipush 7, 2) := by decide +kernel
theorem dX8_burns_312 : decode cX8_burns 312 = .ok (.iaload, 1) := by decide +kernel
theorem dX8_burns_313 : decode cX8_burns 313 = .ok (.if_icmp .le 13, 3) := by decide +kernel
theorem dX8_burns_316 : decode cX8_burns 316 = .ok (.aload_n 0, 1) := by decide +kernel
theorem dX8_burns_317 : decode cX8_burns 317 = .ok (.iload_n 1, 1) := by decide +kernel
theorem dX8_burns_318 : decode cX8_burns 318 = .ok (.bipush 8, 2) := by decide +kernel
theorem dX8_burns_320 : decode cX8_burns 320 = .ok (.invokevirtual 53, 3) := by decide +kernel
theorem dX8_burns_323 : decode cX8_burns 323 = .ok (.goto 10, 3) := by decide +kernel
theorem dX8_burns_326 : decode cX8_burns 326 = .ok (.aload_n 0, 1) := by decide +kernel
theorem dX8_burns_327 : decode cX8_burns 327 = .ok (.getfield 7, 3) := by decide +kernel
theorem dX8_burns_330 : decode cX8_burns 330 = .ok (.bipush 7, 2) := by decide +kernel
theorem dX8_burns_332 : decode cX8_burns 332 = .ok (.iaload, 1) := by decide +kernel
theorem dX8_burns_333 : decode cX8_burns 333 = .ok (.iastore, 1) := by decide +kernel
theorem dX8_burns_334 : decode cX8_burns 334 = .ok (.return_, 1) := by decide +kernel
set_option maxRecDepth 20000 in
theorem ggX8_sparks_X8_get : GoodIn wsX8_sparks wsX8_get := goodIn_r _ [6, 1, 25, 26, 27, 28, 29, 30, 31, 32, 33, 34, 35, 36, 37, 38] (by decide +kernel) (by decide +kernel)
set_option maxRecDepth 20000 in
theorem gX8_sparks_X8_get : GoodIn wsX8_sparks (wsV RX8 53 RX8 yX8_get wsX8_get) := goodIn_app (goodIn_of _ (by decide +kernel)) ggX8_sparks_X8_get
set_option maxRecDepth 20000 in
theorem ggX8_sparks_X8_lay : GoodIn wsX8_sparks wsX8_lay := goodIn_r _ [10, 1, 25, 26, 27, 28, 29, 30, 31, 32, 33, 34, 35, 36, 37, 38] (by decide +kernel) (by decide +kernel)
set_option maxRecDepth 20000 in
theorem gX8_sparks_X8_lay : GoodIn wsX8_sparks (wsV RX8 64 RX8 yX8_lay wsX8_lay) := goodIn_app (goodIn_of _ (by decide +kernel)) ggX8_sparks_X8_lay
set_option maxRecDepth 20000 in
theorem ggX8_sparks_X8_strength : GoodIn wsX8_sparks wsX8_strength := goodIn_r _ [14, 2, 3, 4, 5, 6, 1, 15, 16, 17, 18, 19, 20, 25, 26, 27, 28, 29, 30, 31, 32, 33, 34, 35, 36, 37, 38] (by decide +kernel) (by decide +kernel)
set_option maxRecDepth 20000 in
theorem gX8_sparks_X8_strength : GoodIn wsX8_sparks (wsV RX8 68 RX8 yX8_strength wsX8_strength) := goodIn_app (goodIn_of _ (by decide +kernel)) ggX8_sparks_X8_strength
set_option maxRecDepth 20000 in
theorem ggX8_sparks_X8_tells : GoodIn wsX8_sparks wsX8_tells := goodIn_r _ [24, 1, 25, 26, 27, 28, 29, 30, 31, 32, 33, 34, 35, 36, 37, 38] (by decide +kernel) (by decide +kernel)
set_option maxRecDepth 20000 in
theorem gX8_sparks_X8_tells : GoodIn wsX8_sparks (wsV RX8 72 RX8 yX8_tells wsX8_tells) := goodIn_app (goodIn_of _ (by decide +kernel)) ggX8_sparks_X8_tells
theorem dX8_sparks_0 : decode cX8_sparks 0 = .ok (.aload_n 0, 1) := by decide +kernel
theorem dX8_sparks_1 : decode cX8_sparks 1 = .ok (.iload_n 1, 1) := by decide +kernel
theorem dX8_sparks_2 : decode cX8_sparks 2 = .ok (.bipush 7, 2) := by decide +kernel
theorem dX8_sparks_4 : decode cX8_sparks 4 = .ok (.aload_n 0, 1) := by decide +kernel
theorem dX8_sparks_5 : decode cX8_sparks 5 = .ok (.iload_n 1, 1) := by decide +kernel
theorem dX8_sparks_6 : decode cX8_sparks 6 = .ok (.bipush 7, 2) := by decide +kernel
theorem dX8_sparks_8 : decode cX8_sparks 8 = .ok (.invokevirtual 53, 3) := by decide +kernel
theorem dX8_sparks_11 : decode cX8_sparks 11 = .ok (.iconst 1, 1) := by decide +kernel
theorem dX8_sparks_12 : decode cX8_sparks 12 = .ok (.iadd, 1) := by decide +kernel
theorem dX8_sparks_13 : decode cX8_sparks 13 = .ok (.invokevirtual 64, 3) := by decide +kernel
theorem dX8_sparks_16 : decode cX8_sparks 16 = .ok (.iload_n 2, 1) := by decide +kernel
theorem dX8_sparks_17 : decode cX8_sparks 17 = .ok (.aload_n 0, 1) := by decide +kernel
theorem dX8_sparks_18 : decode cX8_sparks 18 = .ok (.iload_n 1, 1) := by decide +kernel
theorem dX8_sparks_19 : decode cX8_sparks 19 = .ok (.invokevirtual 68, 3) := by decide +kernel
theorem dX8_sparks_22 : decode cX8_sparks 22 = .ok (.if_icmp .gt 27, 3) := by decide +kernel
theorem dX8_sparks_25 : decode cX8_sparks 25 = .ok (.aload_n 0, 1) := by decide +kernel
theorem dX8_sparks_26 : decode cX8_sparks 26 = .ok (.iload_n 1, 1) := by decide +kernel
theorem dX8_sparks_27 : decode cX8_sparks 27 = .ok (.iconst 4, 1) := by decide +kernel
theorem dX8_sparks_28 : decode cX8_sparks 28 = .ok (.iconst 1, 1) := by decide +kernel
theorem dX8_sparks_29 : decode cX8_sparks 29 = .ok (.invokevirtual 64, 3) := by decide +kernel
theorem dX8_sparks_32 : decode cX8_sparks 32 = .ok (.aload_n 0, 1) := by decide +kernel
theorem dX8_sparks_33 : decode cX8_sparks 33 = .ok (.iload_n 1, 1) := by decide +kernel
theorem dX8_sparks_34 : decode cX8_sparks 34 = .ok (.bipush 7, 2) := by decide +kernel
theorem dX8_sparks_36 : decode cX8_sparks 36 = .ok (.iconst 0, 1) := by decide +kernel
theorem dX8_sparks_37 : decode cX8_sparks 37 = .ok (.invokevirtual 64, 3) := by decide +kernel
theorem dX8_sparks_40 : decode cX8_sparks 40 = .ok (.aload_n 0, 1) := by decide +kernel
theorem dX8_sparks_41 : decode cX8_sparks 41 = .ok (.iconst 0, 1) := by decide +kernel
theorem dX8_sparks_42 : decode cX8_sparks 42 = .ok (.iload_n 1, 1) := by decide +kernel
theorem dX8_sparks_43 : decode cX8_sparks 43 = .ok (.invokevirtual 72, 3) := by decide +kernel
theorem dX8_sparks_46 : decode cX8_sparks 46 = .ok (.goto 33, 3) := by decide +kernel
theorem dX8_sparks_49 : decode cX8_sparks 49 = .ok (.aload_n 0, 1) := by decide +kernel
theorem dX8_sparks_50 : decode cX8_sparks 50 = .ok (.iload_n 1, 1) := by decide +kernel
theorem dX8_sparks_51 : decode cX8_sparks 51 = .ok (.bipush 7, 2) := by decide +kernel
theorem dX8_sparks_53 : decode cX8_sparks 53 = .ok (.invokevirtual 53, 3) := by decide +kernel
theorem dX8_sparks_56 : decode cX8_sparks 56 = .ok (.aload_n 0, 1) := by decide +kernel
theorem dX8_sparks_57 : decode cX8_sparks 57 = .ok (.getfield 7, 3) := by decide +kernel
theorem dX8_sparks_60 : decode cX8_sparks 60 = .ok (.iconst 1, 1) := by decide +kernel
theorem dX8_sparks_61 : decode cX8_sparks 61 = .ok (.iaload, 1) := by decide +kernel
theorem dX8_sparks_62 : decode cX8_sparks 62 = .ok (.if_icmp .lt 17, 3) := by decide +kernel
theorem dX8_sparks_65 : decode cX8_sparks 65 = .ok (.aload_n 0, 1) := by decide +kernel
theorem dX8_sparks_66 : decode cX8_sparks 66 = .ok (.iload_n 1, 1) := by decide +kernel
theorem dX8_sparks_67 : decode cX8_sparks 67 = .ok (.bipush 6, 2) := by decide +kernel
theorem dX8_sparks_69 : decode cX8_sparks 69 = .ok (.iconst 1, 1) := by decide +kernel
theorem dX8_sparks_70 : decode cX8_sparks 70 = .ok (.invokevirtual 64, 3) := by decide +kernel
theorem dX8_sparks_73 : decode cX8_sparks 73 = .ok (.aload_n 0, 1) := by decide +kernel
theorem dX8_sparks_74 : decode cX8_sparks 74 = .ok (.iconst 3, 1) := by decide +kernel
theorem dX8_sparks_75 : decode cX8_sparks 75 = .ok (.iload_n 1, 1) := by decide +kernel
theorem dX8_sparks_76 : decode cX8_sparks 76 = .ok (.invokevirtual 72, 3) := by decide +kernel
theorem dX8_sparks_79 : decode cX8_sparks 79 = .ok (.return_, 1) := by decide +kernel
set_option maxRecDepth 20000 in
theorem ggX8_ticks_X8_draftAt : GoodIn wsX8_ticks wsX8_draftAt := goodIn_r _ [6, 1, 56, 57, 58, 59, 60, 61, 62, 63, 64, 65, 66, 67, 68, 69] (by decide +kernel) (by decide +kernel)
set_option maxRecDepth 20000 in
theorem gX8_ticks_X8_draftAt : GoodIn wsX8_ticks (wsV RX8 88 RX8 yX8_draftAt wsX8_draftAt) := goodIn_app (goodIn_of _ (by decide +kernel)) ggX8_ticks_X8_draftAt
set_option maxRecDepth 20000 in
theorem ggX8_ticks_X8_burns : GoodIn wsX8_ticks wsX8_burns := goodIn_r _ [10, 1, 11, 12, 13, 5, 14, 15, 16, 17, 18, 19, 20, 21, 22, 23, 24, 25, 26, 27, 28, 29, 30, 31, 32, 33, 34, 35, 36, 37, 38, 39, 40, 41, 42, 43, 44, 45, 46, 47, 48, 49, 50, 51, 52, 53, 54, 55, 56, 57, 58, 59, 60, 61, 62, 63, 64, 65, 66, 67, 68, 69] (by decide +kernel) (by decide +kernel)
set_option maxRecDepth 20000 in
theorem gX8_ticks_X8_burns : GoodIn wsX8_ticks (wsV RX8 91 RX8 yX8_burns wsX8_burns) := goodIn_app (goodIn_of _ (by decide +kernel)) ggX8_ticks_X8_burns
theorem dX8_ticks_0 : decode cX8_ticks 0 = .ok (.aload_n 0, 1) := by decide +kernel
theorem dX8_ticks_1 : decode cX8_ticks 1 = .ok (.aload_n 0, 1) := by decide +kernel
theorem dX8_ticks_2 : decode cX8_ticks 2 = .ok (.getfield 7, 3) := by decide +kernel
theorem dX8_ticks_5 : decode cX8_ticks 5 = .ok (.iconst 4, 1) := by decide +kernel
theorem dX8_ticks_6 : decode cX8_ticks 6 = .ok (.iaload, 1) := by decide +kernel
theorem dX8_ticks_7 : decode cX8_ticks 7 = .ok (.invokevirtual 88, 3) := by decide +kernel
theorem dX8_ticks_10 : decode cX8_ticks 10 = .ok (.istore_n 1, 1) := by decide +kernel
theorem dX8_ticks_11 : decode cX8_ticks 11 = .ok (.aload_n 0, 1) := by decide +kernel
theorem dX8_ticks_12 : decode cX8_ticks 12 = .ok (.getfield 7, 3) := by decide +kernel
theorem dX8_ticks_15 : decode cX8_ticks 15 = .ok (.iconst 5, 1) := by decide +kernel
theorem dX8_ticks_16 : decode cX8_ticks 16 = .ok (.iaload, 1) := by decide +kernel
theorem dX8_ticks_17 : decode cX8_ticks 17 = .ok (.istore_n 2, 1) := by decide +kernel
theorem dX8_ticks_18 : decode cX8_ticks 18 = .ok (.iconst 0, 1) := by decide +kernel
theorem dX8_ticks_19 : decode cX8_ticks 19 = .ok (.istore_n 3, 1) := by decide +kernel
theorem dX8_ticks_20 : decode cX8_ticks 20 = .ok (.iload_n 3, 1) := by decide +kernel
theorem dX8_ticks_21 : decode cX8_ticks 21 = .ok (.iconst 4, 1) := by decide +kernel
theorem dX8_ticks_22 : decode cX8_ticks 22 = .ok (.if_icmp .ge 16, 3) := by decide +kernel
theorem dX8_ticks_25 : decode cX8_ticks 25 = .ok (.aload_n 0, 1) := by decide +kernel
theorem dX8_ticks_26 : decode cX8_ticks 26 = .ok (.iload_n 3, 1) := by decide +kernel
theorem dX8_ticks_27 : decode cX8_ticks 27 = .ok (.iload_n 1, 1) := by decide +kernel
theorem dX8_ticks_28 : decode cX8_ticks 28 = .ok (.iload_n 2, 1) := by decide +kernel
theorem dX8_ticks_29 : decode cX8_ticks 29 = .ok (.invokevirtual 91, 3) := by decide +kernel
theorem dX8_ticks_32 : decode cX8_ticks 32 = .ok (.iinc 3 1, 3) := by decide +kernel
theorem dX8_ticks_35 : decode cX8_ticks 35 = .ok (.goto (-15), 3) := by decide +kernel
theorem dX8_ticks_38 : decode cX8_ticks 38 = .ok (.aload_n 0, 1) := by decide +kernel
theorem dX8_ticks_39 : decode cX8_ticks 39 = .ok (.getfield 7, 3) := by decide +kernel
theorem dX8_ticks_42 : decode cX8_ticks 42 = .ok (.bipush 6, 2) := by decide +kernel
theorem dX8_ticks_44 : decode cX8_ticks 44 = .ok (.aload_n 0, 1) := by decide +kernel
theorem dX8_ticks_45 : decode cX8_ticks 45 = .ok (.getfield 7, 3) := by decide +kernel
theorem dX8_ticks_48 : decode cX8_ticks 48 = .ok (.iconst 5, 1) := by decide +kernel
theorem dX8_ticks_49 : decode cX8_ticks 49 = .ok (.iaload, 1) := by decide +kernel
theorem dX8_ticks_50 : decode cX8_ticks 50 = .ok (.aload_n 0, 1) := by decide +kernel
theorem dX8_ticks_51 : decode cX8_ticks 51 = .ok (.getfield 7, 3) := by decide +kernel
theorem dX8_ticks_54 : decode cX8_ticks 54 = .ok (.bipush 6, 2) := by decide +kernel
theorem dX8_ticks_56 : decode cX8_ticks 56 = .ok (.iaload, 1) := by decide +kernel
theorem dX8_ticks_57 : decode cX8_ticks 57 = .ok (.if_icmp .le 12, 3) := by decide +kernel
theorem dX8_ticks_60 : decode cX8_ticks 60 = .ok (.aload_n 0, 1) := by decide +kernel
theorem dX8_ticks_61 : decode cX8_ticks 61 = .ok (.getfield 7, 3) := by decide +kernel
theorem dX8_ticks_64 : decode cX8_ticks 64 = .ok (.iconst 5, 1) := by decide +kernel
theorem dX8_ticks_65 : decode cX8_ticks 65 = .ok (.iaload, 1) := by decide +kernel
theorem dX8_ticks_66 : decode cX8_ticks 66 = .ok (.goto 10, 3) := by decide +kernel
theorem dX8_ticks_69 : decode cX8_ticks 69 = .ok (.aload_n 0, 1) := by decide +kernel
theorem dX8_ticks_70 : decode cX8_ticks 70 = .ok (.getfield 7, 3) := by decide +kernel
theorem dX8_ticks_73 : decode cX8_ticks 73 = .ok (.bipush 6, 2) := by decide +kernel
theorem dX8_ticks_75 : decode cX8_ticks 75 = .ok (.iaload, 1) := by decide +kernel
theorem dX8_ticks_76 : decode cX8_ticks 76 = .ok (.iastore, 1) := by decide +kernel
theorem dX8_ticks_77 : decode cX8_ticks 77 = .ok (.aload_n 0, 1) := by decide +kernel
theorem dX8_ticks_78 : decode cX8_ticks 78 = .ok (.getfield 7, 3) := by decide +kernel
theorem dX8_ticks_81 : decode cX8_ticks 81 = .ok (.iconst 5, 1) := by decide +kernel
theorem dX8_ticks_82 : decode cX8_ticks 82 = .ok (.aload_n 0, 1) := by decide +kernel
theorem dX8_ticks_83 : decode cX8_ticks 83 = .ok (.getfield 7, 3) := by decide +kernel
theorem dX8_ticks_86 : decode cX8_ticks 86 = .ok (.iconst 5, 1) := by decide +kernel
theorem dX8_ticks_87 : decode cX8_ticks 87 = .ok (.iaload, 1) := by decide +kernel
theorem dX8_ticks_88 : decode cX8_ticks 88 = .ok (.aload_n 0, 1) := by decide +kernel
theorem dX8_ticks_89 : decode cX8_ticks 89 = .ok (.getfield 7, 3) := by decide +kernel
theorem dX8_ticks_92 : decode cX8_ticks 92 = .ok (.iconst 2, 1) := by decide +kernel
theorem dX8_ticks_93 : decode cX8_ticks 93 = .ok (.iaload, 1) := by decide +kernel
theorem dX8_ticks_94 : decode cX8_ticks 94 = .ok (.iload_n 1, 1) := by decide +kernel
theorem dX8_ticks_95 : decode cX8_ticks 95 = .ok (.iadd, 1) := by decide +kernel
theorem dX8_ticks_96 : decode cX8_ticks 96 = .ok (.if_icmp .ge 7, 3) := by decide +kernel
theorem dX8_ticks_99 : decode cX8_ticks 99 = .ok (.iconst 0, 1) := by decide +kernel
theorem dX8_ticks_100 : decode cX8_ticks 100 = .ok (.goto 18, 3) := by decide +kernel
theorem dX8_ticks_103 : decode cX8_ticks 103 = .ok (.aload_n 0, 1) := by decide +kernel
theorem dX8_ticks_104 : decode cX8_ticks 104 = .ok (.getfield 7, 3) := by decide +kernel
theorem dX8_ticks_107 : decode cX8_ticks 107 = .ok (.iconst 5, 1) := by decide +kernel
theorem dX8_ticks_108 : decode cX8_ticks 108 = .ok (.iaload, 1) := by decide +kernel
theorem dX8_ticks_109 : decode cX8_ticks 109 = .ok (.aload_n 0, 1) := by decide +kernel
theorem dX8_ticks_110 : decode cX8_ticks 110 = .ok (.getfield 7, 3) := by decide +kernel
theorem dX8_ticks_113 : decode cX8_ticks 113 = .ok (.iconst 2, 1) := by decide +kernel
theorem dX8_ticks_114 : decode cX8_ticks 114 = .ok (.iaload, 1) := by decide +kernel
theorem dX8_ticks_115 : decode cX8_ticks 115 = .ok (.isub, 1) := by decide +kernel
theorem dX8_ticks_116 : decode cX8_ticks 116 = .ok (.iload_n 1, 1) := by decide +kernel
theorem dX8_ticks_117 : decode cX8_ticks 117 = .ok (.isub, 1) := by decide +kernel
theorem dX8_ticks_118 : decode cX8_ticks 118 = .ok (.iastore, 1) := by decide +kernel
theorem dX8_ticks_119 : decode cX8_ticks 119 = .ok (.aload_n 0, 1) := by decide +kernel
theorem dX8_ticks_120 : decode cX8_ticks 120 = .ok (.getfield 7, 3) := by decide +kernel
theorem dX8_ticks_123 : decode cX8_ticks 123 = .ok (.iconst 4, 1) := by decide +kernel
theorem dX8_ticks_124 : decode cX8_ticks 124 = .ok (.dup2, 1) := by decide +kernel
theorem dX8_ticks_125 : decode cX8_ticks 125 = .ok (.iaload, 1) := by decide +kernel
theorem dX8_ticks_126 : decode cX8_ticks 126 = .ok (.iconst 1, 1) := by decide +kernel
theorem dX8_ticks_127 : decode cX8_ticks 127 = .ok (.iadd, 1) := by decide +kernel
theorem dX8_ticks_128 : decode cX8_ticks 128 = .ok (.iastore, 1) := by decide +kernel
theorem dX8_ticks_129 : decode cX8_ticks 129 = .ok (.return_, 1) := by decide +kernel
theorem dX8_totals_0 : decode cX8_totals 0 = .ok (.aload_n 0, 1) := by decide +kernel
theorem dX8_totals_1 : decode cX8_totals 1 = .ok (.getfield 7, 3) := by decide +kernel
theorem dX8_totals_4 : decode cX8_totals 4 = .ok (.bipush 8, 2) := by decide +kernel
theorem dX8_totals_6 : decode cX8_totals 6 = .ok (.iaload, 1) := by decide +kernel
theorem dX8_totals_7 : decode cX8_totals 7 = .ok (.aload_n 0, 1) := by decide +kernel
theorem dX8_totals_8 : decode cX8_totals 8 = .ok (.getfield 7, 3) := by decide +kernel
theorem dX8_totals_11 : decode cX8_totals 11 = .ok (.bipush 9, 2) := by decide +kernel
theorem dX8_totals_13 : decode cX8_totals 13 = .ok (.iaload, 1) := by decide +kernel
theorem dX8_totals_14 : decode cX8_totals 14 = .ok (.iadd, 1) := by decide +kernel
theorem dX8_totals_15 : decode cX8_totals 15 = .ok (.aload_n 0, 1) := by decide +kernel
theorem dX8_totals_16 : decode cX8_totals 16 = .ok (.getfield 7, 3) := by decide +kernel
theorem dX8_totals_19 : decode cX8_totals 19 = .ok (.bipush 10, 2) := by decide +kernel
theorem dX8_totals_21 : decode cX8_totals 21 = .ok (.iaload, 1) := by decide +kernel
theorem dX8_totals_22 : decode cX8_totals 22 = .ok (.iadd, 1) := by decide +kernel
theorem dX8_totals_23 : decode cX8_totals 23 = .ok (.aload_n 0, 1) := by decide +kernel
theorem dX8_totals_24 : decode cX8_totals 24 = .ok (.getfield 7, 3) := by decide +kernel
theorem dX8_totals_27 : decode cX8_totals 27 = .ok (.bipush 11, 2) := by decide +kernel
theorem dX8_totals_29 : decode cX8_totals 29 = .ok (.iaload, 1) := by decide +kernel
theorem dX8_totals_30 : decode cX8_totals 30 = .ok (.iadd, 1) := by decide +kernel
theorem dX8_totals_31 : decode cX8_totals 31 = .ok (.ireturn, 1) := by decide +kernel
set_option maxRecDepth 20000 in
theorem ggX8_isSetting_X8_in : GoodIn wsX8_isSetting wsX8_in := goodIn_r _ [4] (by decide +kernel) (by decide +kernel)
set_option maxRecDepth 20000 in
theorem gX8_isSetting_X8_in : GoodIn wsX8_isSetting (va_wsS RX8 35 yX8_in wsX8_in) := goodIn_app (goodIn_of _ (by decide +kernel)) ggX8_isSetting_X8_in
theorem dX8_isSetting_0 : decode cX8_isSetting 0 = .ok (.iload_n 0, 1) := by decide +kernel
theorem dX8_isSetting_1 : decode cX8_isSetting 1 = .ok (.tableswitch 53 0 2 #[27, 37, 45], 27) := by decide +kernel
theorem dX8_isSetting_28 : decode cX8_isSetting 28 = .ok (.iload_n 1, 1) := by decide +kernel
theorem dX8_isSetting_29 : decode cX8_isSetting 29 = .ok (.bipush 100, 2) := by decide +kernel
theorem dX8_isSetting_31 : decode cX8_isSetting 31 = .ok (.sipush 450, 3) := by decide +kernel
theorem dX8_isSetting_34 : decode cX8_isSetting 34 = .ok (.invokestatic 35, 3) := by decide +kernel
theorem dX8_isSetting_37 : decode cX8_isSetting 37 = .ok (.ireturn, 1) := by decide +kernel
theorem dX8_isSetting_38 : decode cX8_isSetting 38 = .ok (.iload_n 1, 1) := by decide +kernel
theorem dX8_isSetting_39 : decode cX8_isSetting 39 = .ok (.iconst 1, 1) := by decide +kernel
theorem dX8_isSetting_40 : decode cX8_isSetting 40 = .ok (.bipush 20, 2) := by decide +kernel
theorem dX8_isSetting_42 : decode cX8_isSetting 42 = .ok (.invokestatic 35, 3) := by decide +kernel
theorem dX8_isSetting_45 : decode cX8_isSetting 45 = .ok (.ireturn, 1) := by decide +kernel
theorem dX8_isSetting_46 : decode cX8_isSetting 46 = .ok (.iload_n 1, 1) := by decide +kernel
theorem dX8_isSetting_47 : decode cX8_isSetting 47 = .ok (.iconst 0, 1) := by decide +kernel
theorem dX8_isSetting_48 : decode cX8_isSetting 48 = .ok (.bipush 50, 2) := by decide +kernel
theorem dX8_isSetting_50 : decode cX8_isSetting 50 = .ok (.invokestatic 35, 3) := by decide +kernel
theorem dX8_isSetting_53 : decode cX8_isSetting 53 = .ok (.ireturn, 1) := by decide +kernel
theorem dX8_isSetting_54 : decode cX8_isSetting 54 = .ok (.iload_n 1, 1) := by decide +kernel
theorem dX8_isSetting_55 : decode cX8_isSetting 55 = .ok (.bipush 50, 2) := by decide +kernel
theorem dX8_isSetting_57 : decode cX8_isSetting 57 = .ok (.sipush 1000, 3) := by decide +kernel
theorem dX8_isSetting_60 : decode cX8_isSetting 60 = .ok (.invokestatic 35, 3) := by decide +kernel
theorem dX8_isSetting_63 : decode cX8_isSetting 63 = .ok (.ireturn, 1) := by decide +kernel
set_option maxRecDepth 20000 in
theorem ggX8_set_X8_in : GoodIn wsX8_set wsX8_in := goodIn_r _ [6] (by decide +kernel) (by decide +kernel)
set_option maxRecDepth 20000 in
theorem gX8_set_X8_in : GoodIn wsX8_set (va_wsS RX8 35 yX8_in wsX8_in) := goodIn_app (goodIn_of _ (by decide +kernel)) ggX8_set_X8_in
set_option maxRecDepth 20000 in
theorem ggX8_set_X8_isSetting : GoodIn wsX8_set wsX8_isSetting := goodIn_r _ [9, 3, 4, 5, 6] (by decide +kernel) (by decide +kernel)
set_option maxRecDepth 20000 in
theorem gX8_set_X8_isSetting : GoodIn wsX8_set (va_wsS RX8 94 yX8_isSetting wsX8_isSetting) := goodIn_app (goodIn_of _ (by decide +kernel)) ggX8_set_X8_isSetting
set_option maxRecDepth 20000 in
theorem ggX8_set_X8_records : GoodIn wsX8_set wsX8_records := goodIn_r _ [13, 14, 15, 2, 16, 17, 18, 19, 20, 21, 22, 23, 24, 25, 26, 27, 28, 29] (by decide +kernel) (by decide +kernel)
set_option maxRecDepth 20000 in
theorem gX8_set_X8_records : GoodIn wsX8_set (wsV RX8 98 RX8 yX8_records wsX8_records) := goodIn_app (goodIn_of _ (by decide +kernel)) ggX8_set_X8_records
theorem dX8_set_0 : decode cX8_set 0 = .ok (.aload_n 0, 1) := by decide +kernel
theorem dX8_set_1 : decode cX8_set 1 = .ok (.iconst 0, 1) := by decide +kernel
theorem dX8_set_2 : decode cX8_set 2 = .ok (.putfield 31, 3) := by decide +kernel
theorem dX8_set_5 : decode cX8_set 5 = .ok (.iload_n 1, 1) := by decide +kernel
theorem dX8_set_6 : decode cX8_set 6 = .ok (.iconst 0, 1) := by decide +kernel
theorem dX8_set_7 : decode cX8_set 7 = .ok (.iconst 3, 1) := by decide +kernel
theorem dX8_set_8 : decode cX8_set 8 = .ok (.invokestatic 35, 3) := by decide +kernel
theorem dX8_set_11 : decode cX8_set 11 = .ok (.ifCond .ne 5, 3) := by decide +kernel
theorem dX8_set_14 : decode cX8_set 14 = .ok (.iconst (-1), 1) := by decide +kernel
theorem dX8_set_15 : decode cX8_set 15 = .ok (.ireturn, 1) := by decide +kernel
theorem dX8_set_16 : decode cX8_set 16 = .ok (.iload_n 1, 1) := by decide +kernel
theorem dX8_set_17 : decode cX8_set 17 = .ok (.iload_n 2, 1) := by decide +kernel
theorem dX8_set_18 : decode cX8_set 18 = .ok (.invokestatic 94, 3) := by decide +kernel
theorem dX8_set_21 : decode cX8_set 21 = .ok (.ifCond .ne 6, 3) := by decide +kernel
theorem dX8_set_24 : decode cX8_set 24 = .ok (.bipush (-2), 2) := by decide +kernel
theorem dX8_set_26 : decode cX8_set 26 = .ok (.ireturn, 1) := by decide +kernel
end
section
theorem dX8_set_27 : decode cX8_set 27 = .ok (.aload_n 0, 1) := by decide +kernel
theorem dX8_set_28 : decode cX8_set 28 = .ok (.getfield 7, 3) := by decide +kernel
theorem dX8_set_31 : decode cX8_set 31 = .ok (.iload_n 1, 1) := by decide +kernel
theorem dX8_set_32 : decode cX8_set 32 = .ok (.iaload, 1) := by decide +kernel
theorem dX8_set_33 : decode cX8_set 33 = .ok (.istore_n 3, 1) := by decide +kernel
theorem dX8_set_34 : decode cX8_set 34 = .ok (.iload_n 3, 1) := by decide +kernel
theorem dX8_set_35 : decode cX8_set 35 = .ok (.iload_n 2, 1) := by decide +kernel
theorem dX8_set_36 : decode cX8_set 36 = .ok (.if_icmp .ne 6, 3) := by decide +kernel
theorem dX8_set_39 : decode cX8_set 39 = .ok (.bipush (-5), 2) := by decide +kernel
theorem dX8_set_41 : decode cX8_set 41 = .ok (.ireturn, 1) := by decide +kernel
theorem dX8_set_42 : decode cX8_set 42 = .ok (.aload_n 0, 1) := by decide +kernel
theorem dX8_set_43 : decode cX8_set 43 = .ok (.invokevirtual 98, 3) := by decide +kernel
theorem dX8_set_46 : decode cX8_set 46 = .ok (.aload_n 0, 1) := by decide +kernel
theorem dX8_set_47 : decode cX8_set 47 = .ok (.getfield 7, 3) := by decide +kernel
theorem dX8_set_50 : decode cX8_set 50 = .ok (.iload_n 1, 1) := by decide +kernel
theorem dX8_set_51 : decode cX8_set 51 = .ok (.iload_n 2, 1) := by decide +kernel
theorem dX8_set_52 : decode cX8_set 52 = .ok (.iastore, 1) := by decide +kernel
theorem dX8_set_53 : decode cX8_set 53 = .ok (.iload_n 3, 1) := by decide +kernel
theorem dX8_set_54 : decode cX8_set 54 = .ok (.ireturn, 1) := by decide +kernel
set_option maxRecDepth 20000 in
theorem ggX8_setKind_X8_isBurner : GoodIn wsX8_setKind wsX8_isBurner := goodIn_r _ [5, 6, 7, 4, 8] (by decide +kernel) (by decide +kernel)
set_option maxRecDepth 20000 in
theorem gX8_setKind_X8_isBurner : GoodIn wsX8_setKind (va_wsS RX8 101 yX8_isBurner wsX8_isBurner) := goodIn_app (goodIn_of _ (by decide +kernel)) ggX8_setKind_X8_isBurner
set_option maxRecDepth 20000 in
theorem ggX8_setKind_X8_in : GoodIn wsX8_setKind wsX8_in := goodIn_r _ [8] (by decide +kernel) (by decide +kernel)
set_option maxRecDepth 20000 in
theorem gX8_setKind_X8_in : GoodIn wsX8_setKind (va_wsS RX8 35 yX8_in wsX8_in) := goodIn_app (goodIn_of _ (by decide +kernel)) ggX8_setKind_X8_in
set_option maxRecDepth 20000 in
theorem ggX8_setKind_X8_get : GoodIn wsX8_setKind wsX8_get := goodIn_r _ [12, 13, 24, 25, 26, 27, 28, 29, 30, 31, 32, 33, 34, 35, 36, 37] (by decide +kernel) (by decide +kernel)
set_option maxRecDepth 20000 in
theorem gX8_setKind_X8_get : GoodIn wsX8_setKind (wsV RX8 53 RX8 yX8_get wsX8_get) := goodIn_app (goodIn_of _ (by decide +kernel)) ggX8_setKind_X8_get
set_option maxRecDepth 20000 in
theorem ggX8_setKind_X8_records : GoodIn wsX8_setKind wsX8_records := goodIn_r _ [17, 18, 19, 13, 24, 25, 26, 27, 28, 29, 30, 31, 32, 33, 34, 35, 36, 37] (by decide +kernel) (by decide +kernel)
set_option maxRecDepth 20000 in
theorem gX8_setKind_X8_records : GoodIn wsX8_setKind (wsV RX8 98 RX8 yX8_records wsX8_records) := goodIn_app (goodIn_of _ (by decide +kernel)) ggX8_setKind_X8_records
set_option maxRecDepth 20000 in
theorem ggX8_setKind_X8_lay : GoodIn wsX8_setKind wsX8_lay := goodIn_r _ [23, 13, 24, 25, 26, 27, 28, 29, 30, 31, 32, 33, 34, 35, 36, 37] (by decide +kernel) (by decide +kernel)
set_option maxRecDepth 20000 in
theorem gX8_setKind_X8_lay : GoodIn wsX8_setKind (wsV RX8 64 RX8 yX8_lay wsX8_lay) := goodIn_app (goodIn_of _ (by decide +kernel)) ggX8_setKind_X8_lay
theorem dX8_setKind_0 : decode cX8_setKind 0 = .ok (.aload_n 0, 1) := by decide +kernel
theorem dX8_setKind_1 : decode cX8_setKind 1 = .ok (.iconst 0, 1) := by decide +kernel
theorem dX8_setKind_2 : decode cX8_setKind 2 = .ok (.putfield 31, 3) := by decide +kernel
theorem dX8_setKind_5 : decode cX8_setKind 5 = .ok (.iload_n 1, 1) := by decide +kernel
theorem dX8_setKind_6 : decode cX8_setKind 6 = .ok (.invokestatic 101, 3) := by decide +kernel
theorem dX8_setKind_9 : decode cX8_setKind 9 = .ok (.ifCond .ne 5, 3) := by decide +kernel
theorem dX8_setKind_12 : decode cX8_setKind 12 = .ok (.iconst (-1), 1) := by decide +kernel
theorem dX8_setKind_13 : decode cX8_setKind 13 = .ok (.ireturn, 1) := by decide +kernel
theorem dX8_setKind_14 : decode cX8_setKind 14 = .ok (.iload_n 2, 1) := by decide +kernel
theorem dX8_setKind_15 : decode cX8_setKind 15 = .ok (.iconst 0, 1) := by decide +kernel
theorem dX8_setKind_16 : decode cX8_setKind 16 = .ok (.iconst 2, 1) := by decide +kernel
theorem dX8_setKind_17 : decode cX8_setKind 17 = .ok (.invokestatic 35, 3) := by decide +kernel
theorem dX8_setKind_20 : decode cX8_setKind 20 = .ok (.ifCond .ne 6, 3) := by decide +kernel
theorem dX8_setKind_23 : decode cX8_setKind 23 = .ok (.bipush (-2), 2) := by decide +kernel
theorem dX8_setKind_25 : decode cX8_setKind 25 = .ok (.ireturn, 1) := by decide +kernel
theorem dX8_setKind_26 : decode cX8_setKind 26 = .ok (.aload_n 0, 1) := by decide +kernel
theorem dX8_setKind_27 : decode cX8_setKind 27 = .ok (.iload_n 1, 1) := by decide +kernel
theorem dX8_setKind_28 : decode cX8_setKind 28 = .ok (.iconst 1, 1) := by decide +kernel
theorem dX8_setKind_29 : decode cX8_setKind 29 = .ok (.invokevirtual 53, 3) := by decide +kernel
theorem dX8_setKind_32 : decode cX8_setKind 32 = .ok (.ifCond .eq 6, 3) := by decide +kernel
theorem dX8_setKind_35 : decode cX8_setKind 35 = .ok (.bipush (-4), 2) := by decide +kernel
theorem dX8_setKind_37 : decode cX8_setKind 37 = .ok (.ireturn, 1) := by decide +kernel
theorem dX8_setKind_38 : decode cX8_setKind 38 = .ok (.aload_n 0, 1) := by decide +kernel
theorem dX8_setKind_39 : decode cX8_setKind 39 = .ok (.iload_n 1, 1) := by decide +kernel
theorem dX8_setKind_40 : decode cX8_setKind 40 = .ok (.iconst 0, 1) := by decide +kernel
theorem dX8_setKind_41 : decode cX8_setKind 41 = .ok (.invokevirtual 53, 3) := by decide +kernel
theorem dX8_setKind_44 : decode cX8_setKind 44 = .ok (.istore_n 3, 1) := by decide +kernel
theorem dX8_setKind_45 : decode cX8_setKind 45 = .ok (.iload_n 3, 1) := by decide +kernel
theorem dX8_setKind_46 : decode cX8_setKind 46 = .ok (.iload_n 2, 1) := by decide +kernel
theorem dX8_setKind_47 : decode cX8_setKind 47 = .ok (.if_icmp .ne 6, 3) := by decide +kernel
theorem dX8_setKind_50 : decode cX8_setKind 50 = .ok (.bipush (-5), 2) := by decide +kernel
theorem dX8_setKind_52 : decode cX8_setKind 52 = .ok (.ireturn, 1) := by decide +kernel
theorem dX8_setKind_53 : decode cX8_setKind 53 = .ok (.aload_n 0, 1) := by decide +kernel
theorem dX8_setKind_54 : decode cX8_setKind 54 = .ok (.invokevirtual 98, 3) := by decide +kernel
theorem dX8_setKind_57 : decode cX8_setKind 57 = .ok (.aload_n 0, 1) := by decide +kernel
theorem dX8_setKind_58 : decode cX8_setKind 58 = .ok (.iload_n 1, 1) := by decide +kernel
theorem dX8_setKind_59 : decode cX8_setKind 59 = .ok (.iconst 0, 1) := by decide +kernel
theorem dX8_setKind_60 : decode cX8_setKind 60 = .ok (.iload_n 2, 1) := by decide +kernel
theorem dX8_setKind_61 : decode cX8_setKind 61 = .ok (.invokevirtual 64, 3) := by decide +kernel
theorem dX8_setKind_64 : decode cX8_setKind 64 = .ok (.iload_n 3, 1) := by decide +kernel
theorem dX8_setKind_65 : decode cX8_setKind 65 = .ok (.ireturn, 1) := by decide +kernel
theorem dX8_entryAt_0 : decode cX8_entryAt 0 = .ok (.iconst 0, 1) := by decide +kernel
theorem dX8_entryAt_1 : decode cX8_entryAt 1 = .ok (.istore_n 2, 1) := by decide +kernel
theorem dX8_entryAt_2 : decode cX8_entryAt 2 = .ok (.iload_n 2, 1) := by decide +kernel
theorem dX8_entryAt_3 : decode cX8_entryAt 3 = .ok (.aload_n 0, 1) := by decide +kernel
theorem dX8_entryAt_4 : decode cX8_entryAt 4 = .ok (.getfield 7, 3) := by decide +kernel
theorem dX8_entryAt_7 : decode cX8_entryAt 7 = .ok (.bipush 43, 2) := by decide +kernel
theorem dX8_entryAt_9 : decode cX8_entryAt 9 = .ok (.iaload, 1) := by decide +kernel
theorem dX8_entryAt_10 : decode cX8_entryAt 10 = .ok (.if_icmp .ge 26, 3) := by decide +kernel
theorem dX8_entryAt_13 : decode cX8_entryAt 13 = .ok (.aload_n 0, 1) := by decide +kernel
theorem dX8_entryAt_14 : decode cX8_entryAt 14 = .ok (.getfield 7, 3) := by decide +kernel
theorem dX8_entryAt_17 : decode cX8_entryAt 17 = .ok (.bipush 44, 2) := by decide +kernel
theorem dX8_entryAt_19 : decode cX8_entryAt 19 = .ok (.iconst 2, 1) := by decide +kernel
theorem dX8_entryAt_20 : decode cX8_entryAt 20 = .ok (.iload_n 2, 1) := by decide +kernel
theorem dX8_entryAt_21 : decode cX8_entryAt 21 = .ok (.imul, 1) := by decide +kernel
theorem dX8_entryAt_22 : decode cX8_entryAt 22 = .ok (.iadd, 1) := by decide +kernel
theorem dX8_entryAt_23 : decode cX8_entryAt 23 = .ok (.iaload, 1) := by decide +kernel
theorem dX8_entryAt_24 : decode cX8_entryAt 24 = .ok (.iload_n 1, 1) := by decide +kernel
theorem dX8_entryAt_25 : decode cX8_entryAt 25 = .ok (.if_icmp .ne 5, 3) := by decide +kernel
theorem dX8_entryAt_28 : decode cX8_entryAt 28 = .ok (.iload_n 2, 1) := by decide +kernel
theorem dX8_entryAt_29 : decode cX8_entryAt 29 = .ok (.ireturn, 1) := by decide +kernel
theorem dX8_entryAt_30 : decode cX8_entryAt 30 = .ok (.iinc 2 1, 3) := by decide +kernel
theorem dX8_entryAt_33 : decode cX8_entryAt 33 = .ok (.goto (-31), 3) := by decide +kernel
theorem dX8_entryAt_36 : decode cX8_entryAt 36 = .ok (.bipush (-5), 2) := by decide +kernel
theorem dX8_entryAt_38 : decode cX8_entryAt 38 = .ok (.ireturn, 1) := by decide +kernel
set_option maxRecDepth 20000 in
theorem ggX8_plans_X8_entryAt : GoodIn wsX8_plans wsX8_entryAt := goodIn_r _ [6, 1, 7, 8, 9, 10, 11, 12, 13, 14, 15, 16, 17, 18, 19, 20] (by decide +kernel) (by decide +kernel)
set_option maxRecDepth 20000 in
theorem gX8_plans_X8_entryAt : GoodIn wsX8_plans (wsV RX8 104 RX8 yX8_entryAt wsX8_entryAt) := goodIn_app (goodIn_of _ (by decide +kernel)) ggX8_plans_X8_entryAt
theorem dX8_plans_0 : decode cX8_plans 0 = .ok (.aload_n 0, 1) := by decide +kernel
theorem dX8_plans_1 : decode cX8_plans 1 = .ok (.iload_n 1, 1) := by decide +kernel
theorem dX8_plans_2 : decode cX8_plans 2 = .ok (.invokevirtual 104, 3) := by decide +kernel
theorem dX8_plans_5 : decode cX8_plans 5 = .ok (.istore_n 3, 1) := by decide +kernel
theorem dX8_plans_6 : decode cX8_plans 6 = .ok (.iload_n 3, 1) := by decide +kernel
theorem dX8_plans_7 : decode cX8_plans 7 = .ok (.bipush (-5), 2) := by decide +kernel
theorem dX8_plans_9 : decode cX8_plans 9 = .ok (.if_icmp .ne 99, 3) := by decide +kernel
theorem dX8_plans_12 : decode cX8_plans 12 = .ok (.aload_n 0, 1) := by decide +kernel
theorem dX8_plans_13 : decode cX8_plans 13 = .ok (.getfield 7, 3) := by decide +kernel
theorem dX8_plans_16 : decode cX8_plans 16 = .ok (.bipush 43, 2) := by decide +kernel
theorem dX8_plans_18 : decode cX8_plans 18 = .ok (.iaload, 1) := by decide +kernel
theorem dX8_plans_19 : decode cX8_plans 19 = .ok (.istore_n 3, 1) := by decide +kernel
theorem dX8_plans_20 : decode cX8_plans 20 = .ok (.iload_n 3, 1) := by decide +kernel
theorem dX8_plans_21 : decode cX8_plans 21 = .ok (.ifCond .le 76, 3) := by decide +kernel
theorem dX8_plans_24 : decode cX8_plans 24 = .ok (.aload_n 0, 1) := by decide +kernel
theorem dX8_plans_25 : decode cX8_plans 25 = .ok (.getfield 7, 3) := by decide +kernel
theorem dX8_plans_28 : decode cX8_plans 28 = .ok (.bipush 44, 2) := by decide +kernel
theorem dX8_plans_30 : decode cX8_plans 30 = .ok (.iconst 2, 1) := by decide +kernel
theorem dX8_plans_31 : decode cX8_plans 31 = .ok (.iload_n 3, 1) := by decide +kernel
theorem dX8_plans_32 : decode cX8_plans 32 = .ok (.imul, 1) := by decide +kernel
theorem dX8_plans_33 : decode cX8_plans 33 = .ok (.iadd, 1) := by decide +kernel
theorem dX8_plans_34 : decode cX8_plans 34 = .ok (.iconst 2, 1) := by decide +kernel
theorem dX8_plans_35 : decode cX8_plans 35 = .ok (.isub, 1) := by decide +kernel
theorem dX8_plans_36 : decode cX8_plans 36 = .ok (.iaload, 1) := by decide +kernel
theorem dX8_plans_37 : decode cX8_plans 37 = .ok (.iload_n 1, 1) := by decide +kernel
theorem dX8_plans_38 : decode cX8_plans 38 = .ok (.if_icmp .le 59, 3) := by decide +kernel
theorem dX8_plans_41 : decode cX8_plans 41 = .ok (.aload_n 0, 1) := by decide +kernel
theorem dX8_plans_42 : decode cX8_plans 42 = .ok (.getfield 7, 3) := by decide +kernel
theorem dX8_plans_45 : decode cX8_plans 45 = .ok (.bipush 44, 2) := by decide +kernel
theorem dX8_plans_47 : decode cX8_plans 47 = .ok (.iconst 2, 1) := by decide +kernel
theorem dX8_plans_48 : decode cX8_plans 48 = .ok (.iload_n 3, 1) := by decide +kernel
theorem dX8_plans_49 : decode cX8_plans 49 = .ok (.imul, 1) := by decide +kernel
theorem dX8_plans_50 : decode cX8_plans 50 = .ok (.iadd, 1) := by decide +kernel
theorem dX8_plans_51 : decode cX8_plans 51 = .ok (.aload_n 0, 1) := by decide +kernel
theorem dX8_plans_52 : decode cX8_plans 52 = .ok (.getfield 7, 3) := by decide +kernel
theorem dX8_plans_55 : decode cX8_plans 55 = .ok (.bipush 44, 2) := by decide +kernel
theorem dX8_plans_57 : decode cX8_plans 57 = .ok (.iconst 2, 1) := by decide +kernel
theorem dX8_plans_58 : decode cX8_plans 58 = .ok (.iload_n 3, 1) := by decide +kernel
theorem dX8_plans_59 : decode cX8_plans 59 = .ok (.imul, 1) := by decide +kernel
theorem dX8_plans_60 : decode cX8_plans 60 = .ok (.iadd, 1) := by decide +kernel
theorem dX8_plans_61 : decode cX8_plans 61 = .ok (.iconst 2, 1) := by decide +kernel
theorem dX8_plans_62 : decode cX8_plans 62 = .ok (.isub, 1) := by decide +kernel
theorem dX8_plans_63 : decode cX8_plans 63 = .ok (.iaload, 1) := by decide +kernel
theorem dX8_plans_64 : decode cX8_plans 64 = .ok (.iastore, 1) := by decide +kernel
theorem dX8_plans_65 : decode cX8_plans 65 = .ok (.aload_n 0, 1) := by decide +kernel
theorem dX8_plans_66 : decode cX8_plans 66 = .ok (.getfield 7, 3) := by decide +kernel
theorem dX8_plans_69 : decode cX8_plans 69 = .ok (.bipush 44, 2) := by decide +kernel
theorem dX8_plans_71 : decode cX8_plans 71 = .ok (.iconst 2, 1) := by decide +kernel
theorem dX8_plans_72 : decode cX8_plans 72 = .ok (.iload_n 3, 1) := by decide +kernel
theorem dX8_plans_73 : decode cX8_plans 73 = .ok (.imul, 1) := by decide +kernel
theorem dX8_plans_74 : decode cX8_plans 74 = .ok (.iadd, 1) := by decide +kernel
theorem dX8_plans_75 : decode cX8_plans 75 = .ok (.iconst 1, 1) := by decide +kernel
theorem dX8_plans_76 : decode cX8_plans 76 = .ok (.iadd, 1) := by decide +kernel
theorem dX8_plans_77 : decode cX8_plans 77 = .ok (.aload_n 0, 1) := by decide +kernel
theorem dX8_plans_78 : decode cX8_plans 78 = .ok (.getfield 7, 3) := by decide +kernel
theorem dX8_plans_81 : decode cX8_plans 81 = .ok (.bipush 44, 2) := by decide +kernel
theorem dX8_plans_83 : decode cX8_plans 83 = .ok (.iconst 2, 1) := by decide +kernel
theorem dX8_plans_84 : decode cX8_plans 84 = .ok (.iload_n 3, 1) := by decide +kernel
theorem dX8_plans_85 : decode cX8_plans 85 = .ok (.imul, 1) := by decide +kernel
theorem dX8_plans_86 : decode cX8_plans 86 = .ok (.iadd, 1) := by decide +kernel
theorem dX8_plans_87 : decode cX8_plans 87 = .ok (.iconst 1, 1) := by decide +kernel
theorem dX8_plans_88 : decode cX8_plans 88 = .ok (.isub, 1) := by decide +kernel
theorem dX8_plans_89 : decode cX8_plans 89 = .ok (.iaload, 1) := by decide +kernel
theorem dX8_plans_90 : decode cX8_plans 90 = .ok (.iastore, 1) := by decide +kernel
theorem dX8_plans_91 : decode cX8_plans 91 = .ok (.iinc 3 (-1), 3) := by decide +kernel
theorem dX8_plans_94 : decode cX8_plans 94 = .ok (.goto (-74), 3) := by decide +kernel
theorem dX8_plans_97 : decode cX8_plans 97 = .ok (.aload_n 0, 1) := by decide +kernel
theorem dX8_plans_98 : decode cX8_plans 98 = .ok (.getfield 7, 3) := by decide +kernel
theorem dX8_plans_101 : decode cX8_plans 101 = .ok (.bipush 43, 2) := by decide +kernel
theorem dX8_plans_103 : decode cX8_plans 103 = .ok (.dup2, 1) := by decide +kernel
theorem dX8_plans_104 : decode cX8_plans 104 = .ok (.iaload, 1) := by decide +kernel
theorem dX8_plans_105 : decode cX8_plans 105 = .ok (.iconst 1, 1) := by decide +kernel
theorem dX8_plans_106 : decode cX8_plans 106 = .ok (.iadd, 1) := by decide +kernel
theorem dX8_plans_107 : decode cX8_plans 107 = .ok (.iastore, 1) := by decide +kernel
theorem dX8_plans_108 : decode cX8_plans 108 = .ok (.aload_n 0, 1) := by decide +kernel
theorem dX8_plans_109 : decode cX8_plans 109 = .ok (.getfield 7, 3) := by decide +kernel
theorem dX8_plans_112 : decode cX8_plans 112 = .ok (.bipush 44, 2) := by decide +kernel
theorem dX8_plans_114 : decode cX8_plans 114 = .ok (.iconst 2, 1) := by decide +kernel
theorem dX8_plans_115 : decode cX8_plans 115 = .ok (.iload_n 3, 1) := by decide +kernel
theorem dX8_plans_116 : decode cX8_plans 116 = .ok (.imul, 1) := by decide +kernel
theorem dX8_plans_117 : decode cX8_plans 117 = .ok (.iadd, 1) := by decide +kernel
theorem dX8_plans_118 : decode cX8_plans 118 = .ok (.iload_n 1, 1) := by decide +kernel
theorem dX8_plans_119 : decode cX8_plans 119 = .ok (.iastore, 1) := by decide +kernel
theorem dX8_plans_120 : decode cX8_plans 120 = .ok (.aload_n 0, 1) := by decide +kernel
theorem dX8_plans_121 : decode cX8_plans 121 = .ok (.getfield 7, 3) := by decide +kernel
theorem dX8_plans_124 : decode cX8_plans 124 = .ok (.bipush 44, 2) := by decide +kernel
theorem dX8_plans_126 : decode cX8_plans 126 = .ok (.iconst 2, 1) := by decide +kernel
theorem dX8_plans_127 : decode cX8_plans 127 = .ok (.iload_n 3, 1) := by decide +kernel
theorem dX8_plans_128 : decode cX8_plans 128 = .ok (.imul, 1) := by decide +kernel
theorem dX8_plans_129 : decode cX8_plans 129 = .ok (.iadd, 1) := by decide +kernel
theorem dX8_plans_130 : decode cX8_plans 130 = .ok (.iconst 1, 1) := by decide +kernel
theorem dX8_plans_131 : decode cX8_plans 131 = .ok (.iadd, 1) := by decide +kernel
theorem dX8_plans_132 : decode cX8_plans 132 = .ok (.iload_n 2, 1) := by decide +kernel
theorem dX8_plans_133 : decode cX8_plans 133 = .ok (.iastore, 1) := by decide +kernel
theorem dX8_plans_134 : decode cX8_plans 134 = .ok (.return_, 1) := by decide +kernel
set_option maxRecDepth 20000 in
theorem ggX8_plan_X8_in : GoodIn wsX8_plan wsX8_in := goodIn_r _ [6] (by decide +kernel) (by decide +kernel)
set_option maxRecDepth 20000 in
theorem gX8_plan_X8_in : GoodIn wsX8_plan (va_wsS RX8 35 yX8_in wsX8_in) := goodIn_app (goodIn_of _ (by decide +kernel)) ggX8_plan_X8_in
set_option maxRecDepth 20000 in
theorem ggX8_plan_X8_entryAt : GoodIn wsX8_plan wsX8_entryAt := goodIn_r _ [10, 2, 21, 22, 23, 24, 25, 26, 27, 28, 29, 30, 31, 32, 33, 34] (by decide +kernel) (by decide +kernel)
set_option maxRecDepth 20000 in
theorem gX8_plan_X8_entryAt : GoodIn wsX8_plan (wsV RX8 104 RX8 yX8_entryAt wsX8_entryAt) := goodIn_app (goodIn_of _ (by decide +kernel)) ggX8_plan_X8_entryAt
set_option maxRecDepth 20000 in
theorem ggX8_plan_X8_records : GoodIn wsX8_plan wsX8_records := goodIn_r _ [14, 15, 16, 2, 21, 22, 23, 24, 25, 26, 27, 28, 29, 30, 31, 32, 33, 34] (by decide +kernel) (by decide +kernel)
set_option maxRecDepth 20000 in
theorem gX8_plan_X8_records : GoodIn wsX8_plan (wsV RX8 98 RX8 yX8_records wsX8_records) := goodIn_app (goodIn_of _ (by decide +kernel)) ggX8_plan_X8_records
set_option maxRecDepth 20000 in
theorem ggX8_plan_X8_plans : GoodIn wsX8_plan wsX8_plans := goodIn_r _ [20, 2, 7, 8, 9, 5, 10, 21, 22, 23, 24, 25, 26, 27, 28, 29, 30, 31, 32, 33, 34] (by decide +kernel) (by decide +kernel)
set_option maxRecDepth 20000 in
theorem gX8_plan_X8_plans : GoodIn wsX8_plan (wsV RX8 107 RX8 yX8_plans wsX8_plans) := goodIn_app (goodIn_of _ (by decide +kernel)) ggX8_plan_X8_plans
theorem dX8_plan_0 : decode cX8_plan 0 = .ok (.aload_n 0, 1) := by decide +kernel
theorem dX8_plan_1 : decode cX8_plan 1 = .ok (.iconst 0, 1) := by decide +kernel
theorem dX8_plan_2 : decode cX8_plan 2 = .ok (.putfield 31, 3) := by decide +kernel
theorem dX8_plan_5 : decode cX8_plan 5 = .ok (.iload_n 1, 1) := by decide +kernel
theorem dX8_plan_6 : decode cX8_plan 6 = .ok (.iconst 0, 1) := by decide +kernel
theorem dX8_plan_7 : decode cX8_plan 7 = .ok (.sipush 9999, 3) := by decide +kernel
theorem dX8_plan_10 : decode cX8_plan 10 = .ok (.invokestatic 35, 3) := by decide +kernel
theorem dX8_plan_13 : decode cX8_plan 13 = .ok (.ifCond .eq 13, 3) := by decide +kernel
theorem dX8_plan_16 : decode cX8_plan 16 = .ok (.iload_n 2, 1) := by decide +kernel
theorem dX8_plan_17 : decode cX8_plan 17 = .ok (.iconst 0, 1) := by decide +kernel
theorem dX8_plan_18 : decode cX8_plan 18 = .ok (.bipush 9, 2) := by decide +kernel
theorem dX8_plan_20 : decode cX8_plan 20 = .ok (.invokestatic 35, 3) := by decide +kernel
theorem dX8_plan_23 : decode cX8_plan 23 = .ok (.ifCond .ne 6, 3) := by decide +kernel
theorem dX8_plan_26 : decode cX8_plan 26 = .ok (.bipush (-2), 2) := by decide +kernel
theorem dX8_plan_28 : decode cX8_plan 28 = .ok (.ireturn, 1) := by decide +kernel
theorem dX8_plan_29 : decode cX8_plan 29 = .ok (.aload_n 0, 1) := by decide +kernel
theorem dX8_plan_30 : decode cX8_plan 30 = .ok (.iload_n 1, 1) := by decide +kernel
theorem dX8_plan_31 : decode cX8_plan 31 = .ok (.invokevirtual 104, 3) := by decide +kernel
theorem dX8_plan_34 : decode cX8_plan 34 = .ok (.istore_n 3, 1) := by decide +kernel
theorem dX8_plan_35 : decode cX8_plan 35 = .ok (.iload_n 3, 1) := by decide +kernel
theorem dX8_plan_36 : decode cX8_plan 36 = .ok (.bipush (-5), 2) := by decide +kernel
theorem dX8_plan_38 : decode cX8_plan 38 = .ok (.if_icmp .ne 18, 3) := by decide +kernel
theorem dX8_plan_41 : decode cX8_plan 41 = .ok (.aload_n 0, 1) := by decide +kernel
theorem dX8_plan_42 : decode cX8_plan 42 = .ok (.getfield 7, 3) := by decide +kernel
theorem dX8_plan_45 : decode cX8_plan 45 = .ok (.bipush 43, 2) := by decide +kernel
theorem dX8_plan_47 : decode cX8_plan 47 = .ok (.iaload, 1) := by decide +kernel
theorem dX8_plan_48 : decode cX8_plan 48 = .ok (.bipush 12, 2) := by decide +kernel
theorem dX8_plan_50 : decode cX8_plan 50 = .ok (.if_icmp .ne 6, 3) := by decide +kernel
theorem dX8_plan_53 : decode cX8_plan 53 = .ok (.bipush (-3), 2) := by decide +kernel
theorem dX8_plan_55 : decode cX8_plan 55 = .ok (.ireturn, 1) := by decide +kernel
theorem dX8_plan_56 : decode cX8_plan 56 = .ok (.iload_n 3, 1) := by decide +kernel
theorem dX8_plan_57 : decode cX8_plan 57 = .ok (.bipush (-5), 2) := by decide +kernel
theorem dX8_plan_59 : decode cX8_plan 59 = .ok (.if_icmp .eq 23, 3) := by decide +kernel
theorem dX8_plan_62 : decode cX8_plan 62 = .ok (.aload_n 0, 1) := by decide +kernel
theorem dX8_plan_63 : decode cX8_plan 63 = .ok (.getfield 7, 3) := by decide +kernel
theorem dX8_plan_66 : decode cX8_plan 66 = .ok (.bipush 44, 2) := by decide +kernel
theorem dX8_plan_68 : decode cX8_plan 68 = .ok (.iconst 2, 1) := by decide +kernel
theorem dX8_plan_69 : decode cX8_plan 69 = .ok (.iload_n 3, 1) := by decide +kernel
theorem dX8_plan_70 : decode cX8_plan 70 = .ok (.imul, 1) := by decide +kernel
theorem dX8_plan_71 : decode cX8_plan 71 = .ok (.iadd, 1) := by decide +kernel
theorem dX8_plan_72 : decode cX8_plan 72 = .ok (.iconst 1, 1) := by decide +kernel
theorem dX8_plan_73 : decode cX8_plan 73 = .ok (.iadd, 1) := by decide +kernel
theorem dX8_plan_74 : decode cX8_plan 74 = .ok (.iaload, 1) := by decide +kernel
theorem dX8_plan_75 : decode cX8_plan 75 = .ok (.iload_n 2, 1) := by decide +kernel
theorem dX8_plan_76 : decode cX8_plan 76 = .ok (.if_icmp .ne 6, 3) := by decide +kernel
theorem dX8_plan_79 : decode cX8_plan 79 = .ok (.bipush (-5), 2) := by decide +kernel
theorem dX8_plan_81 : decode cX8_plan 81 = .ok (.ireturn, 1) := by decide +kernel
theorem dX8_plan_82 : decode cX8_plan 82 = .ok (.aload_n 0, 1) := by decide +kernel
theorem dX8_plan_83 : decode cX8_plan 83 = .ok (.invokevirtual 98, 3) := by decide +kernel
theorem dX8_plan_86 : decode cX8_plan 86 = .ok (.aload_n 0, 1) := by decide +kernel
theorem dX8_plan_87 : decode cX8_plan 87 = .ok (.iload_n 1, 1) := by decide +kernel
theorem dX8_plan_88 : decode cX8_plan 88 = .ok (.iload_n 2, 1) := by decide +kernel
theorem dX8_plan_89 : decode cX8_plan 89 = .ok (.invokevirtual 107, 3) := by decide +kernel
theorem dX8_plan_92 : decode cX8_plan 92 = .ok (.aload_n 0, 1) := by decide +kernel
theorem dX8_plan_93 : decode cX8_plan 93 = .ok (.getfield 7, 3) := by decide +kernel
theorem dX8_plan_96 : decode cX8_plan 96 = .ok (.bipush 43, 2) := by decide +kernel
theorem dX8_plan_98 : decode cX8_plan 98 = .ok (.iaload, 1) := by decide +kernel
theorem dX8_plan_99 : decode cX8_plan 99 = .ok (.ireturn, 1) := by decide +kernel
theorem dX8_sign_0 : decode cX8_sign 0 = .ok (.aload_n 0, 1) := by decide +kernel
theorem dX8_sign_1 : decode cX8_sign 1 = .ok (.getfield 110, 3) := by decide +kernel
theorem dX8_sign_4 : decode cX8_sign 4 = .ok (.aload_n 0, 1) := by decide +kernel
theorem dX8_sign_5 : decode cX8_sign 5 = .ok (.getfield 113, 3) := by decide +kernel
theorem dX8_sign_8 : decode cX8_sign 8 = .ok (.if_icmp .ge 15, 3) := by decide +kernel
theorem dX8_sign_11 : decode cX8_sign 11 = .ok (.aload_n 0, 1) := by decide +kernel
theorem dX8_sign_12 : decode cX8_sign 12 = .ok (.getfield 22, 3) := by decide +kernel
theorem dX8_sign_15 : decode cX8_sign 15 = .ok (.aload_n 0, 1) := by decide +kernel
theorem dX8_sign_16 : decode cX8_sign 16 = .ok (.getfield 110, 3) := by decide +kernel
theorem dX8_sign_19 : decode cX8_sign 19 = .ok (.iaload, 1) := by decide +kernel
theorem dX8_sign_20 : decode cX8_sign 20 = .ok (.goto 4, 3) := by decide +kernel
theorem dX8_sign_23 : decode cX8_sign 23 = .ok (.iconst 0, 1) := by decide +kernel
theorem dX8_sign_24 : decode cX8_sign 24 = .ok (.ireturn, 1) := by decide +kernel
set_option maxRecDepth 20000 in
theorem ggX8_takes_X8_sign : GoodIn wsX8_takes wsX8_sign := goodIn_r _ [7, 2, 8, 9, 13, 14, 15, 16, 17, 18, 19, 20, 21, 22, 23, 24, 25, 26] (by decide +kernel) (by decide +kernel)
set_option maxRecDepth 20000 in
theorem gX8_takes_X8_sign : GoodIn wsX8_takes (wsV RX8 120 RX8 yX8_sign wsX8_sign) := goodIn_app (goodIn_of _ (by decide +kernel)) ggX8_takes_X8_sign
set_option maxRecDepth 20000 in
theorem ggX8_takes_X8_in : GoodIn wsX8_takes wsX8_in := goodIn_r _ [12] (by decide +kernel) (by decide +kernel)
set_option maxRecDepth 20000 in
theorem gX8_takes_X8_in : GoodIn wsX8_takes (va_wsS RX8 35 yX8_in wsX8_in) := goodIn_app (goodIn_of _ (by decide +kernel)) ggX8_takes_X8_in
theorem dX8_takes_0 : decode cX8_takes 0 = .ok (.aload_n 0, 1) := by decide +kernel
theorem dX8_takes_1 : decode cX8_takes 1 = .ok (.aload_n 0, 1) := by decide +kernel
theorem dX8_takes_2 : decode cX8_takes 2 = .ok (.getfield 116, 3) := by decide +kernel
theorem dX8_takes_5 : decode cX8_takes 5 = .ok (.ifCond .eq 19, 3) := by decide +kernel
theorem dX8_takes_8 : decode cX8_takes 8 = .ok (.aload_n 0, 1) := by decide +kernel
theorem dX8_takes_9 : decode cX8_takes 9 = .ok (.invokevirtual 120, 3) := by decide +kernel
theorem dX8_takes_12 : decode cX8_takes 12 = .ok (.iload_n 1, 1) := by decide +kernel
theorem dX8_takes_13 : decode cX8_takes 13 = .ok (.iload_n 2, 1) := by decide +kernel
theorem dX8_takes_14 : decode cX8_takes 14 = .ok (.invokestatic 35, 3) := by decide +kernel
theorem dX8_takes_17 : decode cX8_takes 17 = .ok (.ifCond .eq 7, 3) := by decide +kernel
theorem dX8_takes_20 : decode cX8_takes 20 = .ok (.iconst 1, 1) := by decide +kernel
theorem dX8_takes_21 : decode cX8_takes 21 = .ok (.goto 4, 3) := by decide +kernel
theorem dX8_takes_24 : decode cX8_takes 24 = .ok (.iconst 0, 1) := by decide +kernel
theorem dX8_takes_25 : decode cX8_takes 25 = .ok (.putfield 116, 3) := by decide +kernel
theorem dX8_takes_28 : decode cX8_takes 28 = .ok (.aload_n 0, 1) := by decide +kernel
theorem dX8_takes_29 : decode cX8_takes 29 = .ok (.invokevirtual 120, 3) := by decide +kernel
theorem dX8_takes_32 : decode cX8_takes 32 = .ok (.iload_n 1, 1) := by decide +kernel
theorem dX8_takes_33 : decode cX8_takes 33 = .ok (.isub, 1) := by decide +kernel
theorem dX8_takes_34 : decode cX8_takes 34 = .ok (.istore_n 3, 1) := by decide +kernel
theorem dX8_takes_35 : decode cX8_takes 35 = .ok (.aload_n 0, 1) := by decide +kernel
theorem dX8_takes_36 : decode cX8_takes 36 = .ok (.dup, 1) := by decide +kernel
theorem dX8_takes_37 : decode cX8_takes 37 = .ok (.getfield 110, 3) := by decide +kernel
theorem dX8_takes_40 : decode cX8_takes 40 = .ok (.aload_n 0, 1) := by decide +kernel
theorem dX8_takes_41 : decode cX8_takes 41 = .ok (.getfield 116, 3) := by decide +kernel
theorem dX8_takes_44 : decode cX8_takes 44 = .ok (.ifCond .eq 7, 3) := by decide +kernel
theorem dX8_takes_47 : decode cX8_takes 47 = .ok (.iconst 1, 1) := by decide +kernel
theorem dX8_takes_48 : decode cX8_takes 48 = .ok (.goto 4, 3) := by decide +kernel
theorem dX8_takes_51 : decode cX8_takes 51 = .ok (.iconst 0, 1) := by decide +kernel
theorem dX8_takes_52 : decode cX8_takes 52 = .ok (.iadd, 1) := by decide +kernel
theorem dX8_takes_53 : decode cX8_takes 53 = .ok (.putfield 110, 3) := by decide +kernel
theorem dX8_takes_56 : decode cX8_takes 56 = .ok (.iload_n 3, 1) := by decide +kernel
theorem dX8_takes_57 : decode cX8_takes 57 = .ok (.ireturn, 1) := by decide +kernel
set_option maxRecDepth 20000 in
theorem ggX8_readsEntry_X8_takes : GoodIn wsX8_readsEntry wsX8_takes := goodIn_r _ [9, 1, 10, 11, 12, 13, 8, 14, 15, 16, 17, 18, 19, 20, 21, 22, 23, 24, 25, 26, 27, 28, 29, 30, 31, 32, 33] (by decide +kernel) (by decide +kernel)
set_option maxRecDepth 20000 in
theorem gX8_readsEntry_X8_takes : GoodIn wsX8_readsEntry (wsV RX8 124 RX8 yX8_takes wsX8_takes) := goodIn_app (goodIn_of _ (by decide +kernel)) ggX8_readsEntry_X8_takes
set_option maxRecDepth 20000 in
theorem ggX8_readsEntry_X8_sign : GoodIn wsX8_readsEntry wsX8_sign := goodIn_r _ [14, 10, 15, 16, 20, 21, 22, 23, 24, 25, 26, 27, 28, 29, 30, 31, 32, 33] (by decide +kernel) (by decide +kernel)
set_option maxRecDepth 20000 in
theorem gX8_readsEntry_X8_sign : GoodIn wsX8_readsEntry (wsV RX8 120 RX8 yX8_sign wsX8_sign) := goodIn_app (goodIn_of _ (by decide +kernel)) ggX8_readsEntry_X8_sign
set_option maxRecDepth 20000 in
theorem ggX8_readsEntry_X8_in : GoodIn wsX8_readsEntry wsX8_in := goodIn_r _ [19] (by decide +kernel) (by decide +kernel)
set_option maxRecDepth 20000 in
theorem gX8_readsEntry_X8_in : GoodIn wsX8_readsEntry (va_wsS RX8 35 yX8_in wsX8_in) := goodIn_app (goodIn_of _ (by decide +kernel)) ggX8_readsEntry_X8_in
theorem dX8_readsEntry_0 : decode cX8_readsEntry 0 = .ok (.aload_n 0, 1) := by decide +kernel
theorem dX8_readsEntry_1 : decode cX8_readsEntry 1 = .ok (.bipush 48, 2) := by decide +kernel
theorem dX8_readsEntry_3 : decode cX8_readsEntry 3 = .ok (.bipush 57, 2) := by decide +kernel
theorem dX8_readsEntry_5 : decode cX8_readsEntry 5 = .ok (.invokevirtual 124, 3) := by decide +kernel
theorem dX8_readsEntry_8 : decode cX8_readsEntry 8 = .ok (.istore_n 1, 1) := by decide +kernel
theorem dX8_readsEntry_9 : decode cX8_readsEntry 9 = .ok (.iconst 1, 1) := by decide +kernel
theorem dX8_readsEntry_10 : decode cX8_readsEntry 10 = .ok (.istore_n 2, 1) := by decide +kernel
theorem dX8_readsEntry_11 : decode cX8_readsEntry 11 = .ok (.iload_n 2, 1) := by decide +kernel
theorem dX8_readsEntry_12 : decode cX8_readsEntry 12 = .ok (.iconst 4, 1) := by decide +kernel
theorem dX8_readsEntry_13 : decode cX8_readsEntry 13 = .ok (.if_icmp .ge 48, 3) := by decide +kernel
theorem dX8_readsEntry_16 : decode cX8_readsEntry 16 = .ok (.aload_n 0, 1) := by decide +kernel
theorem dX8_readsEntry_17 : decode cX8_readsEntry 17 = .ok (.getfield 116, 3) := by decide +kernel
theorem dX8_readsEntry_20 : decode cX8_readsEntry 20 = .ok (.ifCond .eq 41, 3) := by decide +kernel
theorem dX8_readsEntry_23 : decode cX8_readsEntry 23 = .ok (.iload_n 1, 1) := by decide +kernel
theorem dX8_readsEntry_24 : decode cX8_readsEntry 24 = .ok (.ifCond .le 37, 3) := by decide +kernel
theorem dX8_readsEntry_27 : decode cX8_readsEntry 27 = .ok (.aload_n 0, 1) := by decide +kernel
theorem dX8_readsEntry_28 : decode cX8_readsEntry 28 = .ok (.invokevirtual 120, 3) := by decide +kernel
theorem dX8_readsEntry_31 : decode cX8_readsEntry 31 = .ok (.bipush 48, 2) := by decide +kernel
theorem dX8_readsEntry_33 : decode cX8_readsEntry 33 = .ok (.bipush 57, 2) := by decide +kernel
theorem dX8_readsEntry_35 : decode cX8_readsEntry 35 = .ok (.invokestatic 35, 3) := by decide +kernel
theorem dX8_readsEntry_38 : decode cX8_readsEntry 38 = .ok (.ifCond .eq 23, 3) := by decide +kernel
theorem dX8_readsEntry_41 : decode cX8_readsEntry 41 = .ok (.bipush 10, 2) := by decide +kernel
theorem dX8_readsEntry_43 : decode cX8_readsEntry 43 = .ok (.iload_n 1, 1) := by decide +kernel
theorem dX8_readsEntry_44 : decode cX8_readsEntry 44 = .ok (.imul, 1) := by decide +kernel
theorem dX8_readsEntry_45 : decode cX8_readsEntry 45 = .ok (.aload_n 0, 1) := by decide +kernel
theorem dX8_readsEntry_46 : decode cX8_readsEntry 46 = .ok (.bipush 48, 2) := by decide +kernel
theorem dX8_readsEntry_48 : decode cX8_readsEntry 48 = .ok (.bipush 57, 2) := by decide +kernel
theorem dX8_readsEntry_50 : decode cX8_readsEntry 50 = .ok (.invokevirtual 124, 3) := by decide +kernel
theorem dX8_readsEntry_53 : decode cX8_readsEntry 53 = .ok (.iadd, 1) := by decide +kernel
theorem dX8_readsEntry_54 : decode cX8_readsEntry 54 = .ok (.istore_n 1, 1) := by decide +kernel
theorem dX8_readsEntry_55 : decode cX8_readsEntry 55 = .ok (.iinc 2 1, 3) := by decide +kernel
theorem dX8_readsEntry_58 : decode cX8_readsEntry 58 = .ok (.goto (-47), 3) := by decide +kernel
theorem dX8_readsEntry_61 : decode cX8_readsEntry 61 = .ok (.aload_n 0, 1) := by decide +kernel
theorem dX8_readsEntry_62 : decode cX8_readsEntry 62 = .ok (.bipush 58, 2) := by decide +kernel
theorem dX8_readsEntry_64 : decode cX8_readsEntry 64 = .ok (.bipush 58, 2) := by decide +kernel
theorem dX8_readsEntry_66 : decode cX8_readsEntry 66 = .ok (.invokevirtual 124, 3) := by decide +kernel
theorem dX8_readsEntry_69 : decode cX8_readsEntry 69 = .ok (.pop, 1) := by decide +kernel
theorem dX8_readsEntry_70 : decode cX8_readsEntry 70 = .ok (.aload_n 0, 1) := by decide +kernel
theorem dX8_readsEntry_71 : decode cX8_readsEntry 71 = .ok (.bipush 48, 2) := by decide +kernel
theorem dX8_readsEntry_73 : decode cX8_readsEntry 73 = .ok (.bipush 57, 2) := by decide +kernel
theorem dX8_readsEntry_75 : decode cX8_readsEntry 75 = .ok (.invokevirtual 124, 3) := by decide +kernel
theorem dX8_readsEntry_78 : decode cX8_readsEntry 78 = .ok (.istore_n 2, 1) := by decide +kernel
theorem dX8_readsEntry_79 : decode cX8_readsEntry 79 = .ok (.aload_n 0, 1) := by decide +kernel
theorem dX8_readsEntry_80 : decode cX8_readsEntry 80 = .ok (.getfield 116, 3) := by decide +kernel
theorem dX8_readsEntry_83 : decode cX8_readsEntry 83 = .ok (.ifCond .eq 33, 3) := by decide +kernel
theorem dX8_readsEntry_86 : decode cX8_readsEntry 86 = .ok (.aload_n 0, 1) := by decide +kernel
theorem dX8_readsEntry_87 : decode cX8_readsEntry 87 = .ok (.getfield 25, 3) := by decide +kernel
theorem dX8_readsEntry_90 : decode cX8_readsEntry 90 = .ok (.aload_n 0, 1) := by decide +kernel
theorem dX8_readsEntry_91 : decode cX8_readsEntry 91 = .ok (.getfield 127, 3) := by decide +kernel
theorem dX8_readsEntry_94 : decode cX8_readsEntry 94 = .ok (.iload_n 1, 1) := by decide +kernel
theorem dX8_readsEntry_95 : decode cX8_readsEntry 95 = .ok (.iastore, 1) := by decide +kernel
theorem dX8_readsEntry_96 : decode cX8_readsEntry 96 = .ok (.aload_n 0, 1) := by decide +kernel
theorem dX8_readsEntry_97 : decode cX8_readsEntry 97 = .ok (.getfield 28, 3) := by decide +kernel
theorem dX8_readsEntry_100 : decode cX8_readsEntry 100 = .ok (.aload_n 0, 1) := by decide +kernel
theorem dX8_readsEntry_101 : decode cX8_readsEntry 101 = .ok (.getfield 127, 3) := by decide +kernel
theorem dX8_readsEntry_104 : decode cX8_readsEntry 104 = .ok (.iload_n 2, 1) := by decide +kernel
theorem dX8_readsEntry_105 : decode cX8_readsEntry 105 = .ok (.iastore, 1) := by decide +kernel
theorem dX8_readsEntry_106 : decode cX8_readsEntry 106 = .ok (.aload_n 0, 1) := by decide +kernel
theorem dX8_readsEntry_107 : decode cX8_readsEntry 107 = .ok (.dup, 1) := by decide +kernel
theorem dX8_readsEntry_108 : decode cX8_readsEntry 108 = .ok (.getfield 127, 3) := by decide +kernel
theorem dX8_readsEntry_111 : decode cX8_readsEntry 111 = .ok (.iconst 1, 1) := by decide +kernel
theorem dX8_readsEntry_112 : decode cX8_readsEntry 112 = .ok (.iadd, 1) := by decide +kernel
theorem dX8_readsEntry_113 : decode cX8_readsEntry 113 = .ok (.putfield 127, 3) := by decide +kernel
theorem dX8_readsEntry_116 : decode cX8_readsEntry 116 = .ok (.return_, 1) := by decide +kernel
set_option maxRecDepth 20000 in
theorem ggX8_reads_X8_readsEntry : GoodIn wsX8_reads wsX8_readsEntry := goodIn_r _ [9, 2, 10, 3, 11, 12, 13, 14, 8, 15, 1, 16, 17, 18, 19, 4, 20, 21, 22, 23, 24, 25, 26, 27, 28, 29, 30, 31, 32, 33, 34, 35, 36, 37] (by decide +kernel) (by decide +kernel)
set_option maxRecDepth 20000 in
theorem gX8_reads_X8_readsEntry : GoodIn wsX8_reads (wsV RX8 130 RX8 yX8_readsEntry wsX8_readsEntry) := goodIn_app (goodIn_of _ (by decide +kernel)) ggX8_reads_X8_readsEntry
set_option maxRecDepth 20000 in
theorem ggX8_reads_X8_takes : GoodIn wsX8_reads wsX8_takes := goodIn_r _ [15, 2, 1, 16, 17, 18, 8, 19, 4, 20, 21, 22, 23, 24, 25, 26, 27, 28, 29, 30, 31, 32, 33, 34, 35, 36, 37] (by decide +kernel) (by decide +kernel)
set_option maxRecDepth 20000 in
theorem gX8_reads_X8_takes : GoodIn wsX8_reads (wsV RX8 124 RX8 yX8_takes wsX8_takes) := goodIn_app (goodIn_of _ (by decide +kernel)) ggX8_reads_X8_takes
theorem dX8_reads_0 : decode cX8_reads 0 = .ok (.aload_n 0, 1) := by decide +kernel
theorem dX8_reads_1 : decode cX8_reads 1 = .ok (.iconst 0, 1) := by decide +kernel
theorem dX8_reads_2 : decode cX8_reads 2 = .ok (.putfield 110, 3) := by decide +kernel
theorem dX8_reads_5 : decode cX8_reads 5 = .ok (.aload_n 0, 1) := by decide +kernel
theorem dX8_reads_6 : decode cX8_reads 6 = .ok (.iconst 1, 1) := by decide +kernel
theorem dX8_reads_7 : decode cX8_reads 7 = .ok (.putfield 116, 3) := by decide +kernel
theorem dX8_reads_10 : decode cX8_reads 10 = .ok (.aload_n 0, 1) := by decide +kernel
theorem dX8_reads_11 : decode cX8_reads 11 = .ok (.iconst 0, 1) := by decide +kernel
theorem dX8_reads_12 : decode cX8_reads 12 = .ok (.putfield 127, 3) := by decide +kernel
theorem dX8_reads_15 : decode cX8_reads 15 = .ok (.aload_n 0, 1) := by decide +kernel
theorem dX8_reads_16 : decode cX8_reads 16 = .ok (.invokevirtual 130, 3) := by decide +kernel
theorem dX8_reads_19 : decode cX8_reads 19 = .ok (.aload_n 0, 1) := by decide +kernel
theorem dX8_reads_20 : decode cX8_reads 20 = .ok (.getfield 116, 3) := by decide +kernel
theorem dX8_reads_23 : decode cX8_reads 23 = .ok (.ifCond .eq 37, 3) := by decide +kernel
theorem dX8_reads_26 : decode cX8_reads 26 = .ok (.aload_n 0, 1) := by decide +kernel
theorem dX8_reads_27 : decode cX8_reads 27 = .ok (.getfield 110, 3) := by decide +kernel
theorem dX8_reads_30 : decode cX8_reads 30 = .ok (.aload_n 0, 1) := by decide +kernel
theorem dX8_reads_31 : decode cX8_reads 31 = .ok (.getfield 113, 3) := by decide +kernel
theorem dX8_reads_34 : decode cX8_reads 34 = .ok (.if_icmp .ge 26, 3) := by decide +kernel
theorem dX8_reads_37 : decode cX8_reads 37 = .ok (.aload_n 0, 1) := by decide +kernel
theorem dX8_reads_38 : decode cX8_reads 38 = .ok (.bipush 44, 2) := by decide +kernel
theorem dX8_reads_40 : decode cX8_reads 40 = .ok (.bipush 44, 2) := by decide +kernel
theorem dX8_reads_42 : decode cX8_reads 42 = .ok (.invokevirtual 124, 3) := by decide +kernel
theorem dX8_reads_45 : decode cX8_reads 45 = .ok (.pop, 1) := by decide +kernel
theorem dX8_reads_46 : decode cX8_reads 46 = .ok (.aload_n 0, 1) := by decide +kernel
theorem dX8_reads_47 : decode cX8_reads 47 = .ok (.getfield 116, 3) := by decide +kernel
theorem dX8_reads_50 : decode cX8_reads 50 = .ok (.ifCond .eq (-31), 3) := by decide +kernel
theorem dX8_reads_53 : decode cX8_reads 53 = .ok (.aload_n 0, 1) := by decide +kernel
theorem dX8_reads_54 : decode cX8_reads 54 = .ok (.invokevirtual 130, 3) := by decide +kernel
theorem dX8_reads_57 : decode cX8_reads 57 = .ok (.goto (-38), 3) := by decide +kernel
theorem dX8_reads_60 : decode cX8_reads 60 = .ok (.aload_n 0, 1) := by decide +kernel
theorem dX8_reads_61 : decode cX8_reads 61 = .ok (.getfield 116, 3) := by decide +kernel
theorem dX8_reads_64 : decode cX8_reads 64 = .ok (.ifCond .eq 8, 3) := by decide +kernel
theorem dX8_reads_67 : decode cX8_reads 67 = .ok (.bipush (-5), 2) := by decide +kernel
theorem dX8_reads_69 : decode cX8_reads 69 = .ok (.goto 7, 3) := by decide +kernel
theorem dX8_reads_72 : decode cX8_reads 72 = .ok (.aload_n 0, 1) := by decide +kernel
theorem dX8_reads_73 : decode cX8_reads 73 = .ok (.getfield 110, 3) := by decide +kernel
theorem dX8_reads_76 : decode cX8_reads 76 = .ok (.ireturn, 1) := by decide +kernel
theorem dX8_unlikeTicks_0 : decode cX8_unlikeTicks 0 = .ok (.iconst 0, 1) := by decide +kernel
theorem dX8_unlikeTicks_1 : decode cX8_unlikeTicks 1 = .ok (.istore_n 1, 1) := by decide +kernel
theorem dX8_unlikeTicks_2 : decode cX8_unlikeTicks 2 = .ok (.iconst 0, 1) := by decide +kernel
theorem dX8_unlikeTicks_3 : decode cX8_unlikeTicks 3 = .ok (.istore_n 2, 1) := by decide +kernel
theorem dX8_unlikeTicks_4 : decode cX8_unlikeTicks 4 = .ok (.iload_n 2, 1) := by decide +kernel
theorem dX8_unlikeTicks_5 : decode cX8_unlikeTicks 5 = .ok (.aload_n 0, 1) := by decide +kernel
theorem dX8_unlikeTicks_6 : decode cX8_unlikeTicks 6 = .ok (.getfield 127, 3) := by decide +kernel
theorem dX8_unlikeTicks_9 : decode cX8_unlikeTicks 9 = .ok (.if_icmp .ge 64, 3) := by decide +kernel
theorem dX8_unlikeTicks_12 : decode cX8_unlikeTicks 12 = .ok (.iconst 1, 1) := by decide +kernel
theorem dX8_unlikeTicks_13 : decode cX8_unlikeTicks 13 = .ok (.istore_n 3, 1) := by decide +kernel
theorem dX8_unlikeTicks_14 : decode cX8_unlikeTicks 14 = .ok (.iconst 0, 1) := by decide +kernel
theorem dX8_unlikeTicks_15 : decode cX8_unlikeTicks 15 = .ok (.istore 4, 2) := by decide +kernel
theorem dX8_unlikeTicks_17 : decode cX8_unlikeTicks 17 = .ok (.iload 4, 2) := by decide +kernel
theorem dX8_unlikeTicks_19 : decode cX8_unlikeTicks 19 = .ok (.iload_n 2, 1) := by decide +kernel
theorem dX8_unlikeTicks_20 : decode cX8_unlikeTicks 20 = .ok (.if_icmp .ge 35, 3) := by decide +kernel
theorem dX8_unlikeTicks_23 : decode cX8_unlikeTicks 23 = .ok (.iload_n 3, 1) := by decide +kernel
theorem dX8_unlikeTicks_24 : decode cX8_unlikeTicks 24 = .ok (.ifCond .eq 23, 3) := by decide +kernel
theorem dX8_unlikeTicks_27 : decode cX8_unlikeTicks 27 = .ok (.aload_n 0, 1) := by decide +kernel
theorem dX8_unlikeTicks_28 : decode cX8_unlikeTicks 28 = .ok (.getfield 25, 3) := by decide +kernel
theorem dX8_unlikeTicks_31 : decode cX8_unlikeTicks 31 = .ok (.iload 4, 2) := by decide +kernel
theorem dX8_unlikeTicks_33 : decode cX8_unlikeTicks 33 = .ok (.iaload, 1) := by decide +kernel
theorem dX8_unlikeTicks_34 : decode cX8_unlikeTicks 34 = .ok (.aload_n 0, 1) := by decide +kernel
theorem dX8_unlikeTicks_35 : decode cX8_unlikeTicks 35 = .ok (.getfield 25, 3) := by decide +kernel
theorem dX8_unlikeTicks_38 : decode cX8_unlikeTicks 38 = .ok (.iload_n 2, 1) := by decide +kernel
theorem dX8_unlikeTicks_39 : decode cX8_unlikeTicks 39 = .ok (.iaload, 1) := by decide +kernel
theorem dX8_unlikeTicks_40 : decode cX8_unlikeTicks 40 = .ok (.if_icmp .eq 7, 3) := by decide +kernel
theorem dX8_unlikeTicks_43 : decode cX8_unlikeTicks 43 = .ok (.iconst 1, 1) := by decide +kernel
theorem dX8_unlikeTicks_44 : decode cX8_unlikeTicks 44 = .ok (.goto 4, 3) := by decide +kernel
theorem dX8_unlikeTicks_47 : decode cX8_unlikeTicks 47 = .ok (.iconst 0, 1) := by decide +kernel
theorem dX8_unlikeTicks_48 : decode cX8_unlikeTicks 48 = .ok (.istore_n 3, 1) := by decide +kernel
theorem dX8_unlikeTicks_49 : decode cX8_unlikeTicks 49 = .ok (.iinc 4 1, 3) := by decide +kernel
theorem dX8_unlikeTicks_52 : decode cX8_unlikeTicks 52 = .ok (.goto (-35), 3) := by decide +kernel
theorem dX8_unlikeTicks_55 : decode cX8_unlikeTicks 55 = .ok (.iload_n 1, 1) := by decide +kernel
theorem dX8_unlikeTicks_56 : decode cX8_unlikeTicks 56 = .ok (.iload_n 3, 1) := by decide +kernel
theorem dX8_unlikeTicks_57 : decode cX8_unlikeTicks 57 = .ok (.ifCond .eq 7, 3) := by decide +kernel
theorem dX8_unlikeTicks_60 : decode cX8_unlikeTicks 60 = .ok (.iconst 1, 1) := by decide +kernel
theorem dX8_unlikeTicks_61 : decode cX8_unlikeTicks 61 = .ok (.goto 4, 3) := by decide +kernel
theorem dX8_unlikeTicks_64 : decode cX8_unlikeTicks 64 = .ok (.iconst 0, 1) := by decide +kernel
theorem dX8_unlikeTicks_65 : decode cX8_unlikeTicks 65 = .ok (.iadd, 1) := by decide +kernel
theorem dX8_unlikeTicks_66 : decode cX8_unlikeTicks 66 = .ok (.istore_n 1, 1) := by decide +kernel
theorem dX8_unlikeTicks_67 : decode cX8_unlikeTicks 67 = .ok (.iinc 2 1, 3) := by decide +kernel
theorem dX8_unlikeTicks_70 : decode cX8_unlikeTicks 70 = .ok (.goto (-66), 3) := by decide +kernel
theorem dX8_unlikeTicks_73 : decode cX8_unlikeTicks 73 = .ok (.iload_n 1, 1) := by decide +kernel
theorem dX8_unlikeTicks_74 : decode cX8_unlikeTicks 74 = .ok (.ireturn, 1) := by decide +kernel
set_option maxRecDepth 20000 in
theorem ggX8_readPlan_X8_reads : GoodIn wsX8_readPlan wsX8_reads := goodIn_r _ [10, 11, 12, 3, 13, 14, 15, 16, 9, 17, 4, 5, 18, 19, 20, 21, 22, 23, 24, 25, 26, 27, 28, 29, 48, 49, 50, 51, 52, 53, 54, 55, 56, 57, 58, 59, 60, 61] (by decide +kernel) (by decide +kernel)
set_option maxRecDepth 20000 in
theorem gX8_readPlan_X8_reads : GoodIn wsX8_readPlan (wsV RX8 133 RX8 yX8_reads wsX8_reads) := goodIn_app (goodIn_of _ (by decide +kernel)) ggX8_readPlan_X8_reads
set_option maxRecDepth 20000 in
theorem ggX8_readPlan_X8_unlikeTicks : GoodIn wsX8_readPlan wsX8_unlikeTicks := goodIn_r _ [33, 3, 4, 48, 49, 50, 51, 52, 53, 54, 55, 56, 57, 58, 59, 60, 61] (by decide +kernel) (by decide +kernel)
set_option maxRecDepth 20000 in
theorem gX8_readPlan_X8_unlikeTicks : GoodIn wsX8_readPlan (wsV RX8 136 RX8 yX8_unlikeTicks wsX8_unlikeTicks) := goodIn_app (goodIn_of _ (by decide +kernel)) ggX8_readPlan_X8_unlikeTicks
set_option maxRecDepth 20000 in
theorem ggX8_readPlan_X8_records : GoodIn wsX8_readPlan wsX8_records := goodIn_r _ [37, 38, 39, 2, 48, 49, 50, 51, 52, 53, 54, 55, 56, 57, 58, 59, 60, 61] (by decide +kernel) (by decide +kernel)
set_option maxRecDepth 20000 in
theorem gX8_readPlan_X8_records : GoodIn wsX8_readPlan (wsV RX8 98 RX8 yX8_records wsX8_records) := goodIn_app (goodIn_of _ (by decide +kernel)) ggX8_readPlan_X8_records
set_option maxRecDepth 20000 in
theorem ggX8_readPlan_X8_plans : GoodIn wsX8_readPlan wsX8_plans := goodIn_r _ [43, 2, 44, 45, 46, 9, 47, 48, 49, 50, 51, 52, 53, 54, 55, 56, 57, 58, 59, 60, 61] (by decide +kernel) (by decide +kernel)
set_option maxRecDepth 20000 in
theorem gX8_readPlan_X8_plans : GoodIn wsX8_readPlan (wsV RX8 107 RX8 yX8_plans wsX8_plans) := goodIn_app (goodIn_of _ (by decide +kernel)) ggX8_readPlan_X8_plans
theorem dX8_readPlan_0 : decode cX8_readPlan 0 = .ok (.aload_n 0, 1) := by decide +kernel
theorem dX8_readPlan_1 : decode cX8_readPlan 1 = .ok (.iconst 0, 1) := by decide +kernel
theorem dX8_readPlan_2 : decode cX8_readPlan 2 = .ok (.putfield 31, 3) := by decide +kernel
theorem dX8_readPlan_5 : decode cX8_readPlan 5 = .ok (.aload_n 0, 1) := by decide +kernel
theorem dX8_readPlan_6 : decode cX8_readPlan 6 = .ok (.invokevirtual 133, 3) := by decide +kernel
theorem dX8_readPlan_9 : decode cX8_readPlan 9 = .ok (.istore_n 1, 1) := by decide +kernel
theorem dX8_readPlan_10 : decode cX8_readPlan 10 = .ok (.iload_n 1, 1) := by decide +kernel
theorem dX8_readPlan_11 : decode cX8_readPlan 11 = .ok (.bipush (-5), 2) := by decide +kernel
theorem dX8_readPlan_13 : decode cX8_readPlan 13 = .ok (.if_icmp .eq 8, 3) := by decide +kernel
theorem dX8_readPlan_16 : decode cX8_readPlan 16 = .ok (.bipush (-100), 2) := by decide +kernel
theorem dX8_readPlan_18 : decode cX8_readPlan 18 = .ok (.iload_n 1, 1) := by decide +kernel
theorem dX8_readPlan_19 : decode cX8_readPlan 19 = .ok (.isub, 1) := by decide +kernel
theorem dX8_readPlan_20 : decode cX8_readPlan 20 = .ok (.ireturn, 1) := by decide +kernel
theorem dX8_readPlan_21 : decode cX8_readPlan 21 = .ok (.aload_n 0, 1) := by decide +kernel
theorem dX8_readPlan_22 : decode cX8_readPlan 22 = .ok (.invokevirtual 136, 3) := by decide +kernel
theorem dX8_readPlan_25 : decode cX8_readPlan 25 = .ok (.bipush 12, 2) := by decide +kernel
theorem dX8_readPlan_27 : decode cX8_readPlan 27 = .ok (.if_icmp .le 6, 3) := by decide +kernel
theorem dX8_readPlan_30 : decode cX8_readPlan 30 = .ok (.bipush (-3), 2) := by decide +kernel
theorem dX8_readPlan_32 : decode cX8_readPlan 32 = .ok (.ireturn, 1) := by decide +kernel
theorem dX8_readPlan_33 : decode cX8_readPlan 33 = .ok (.aload_n 0, 1) := by decide +kernel
theorem dX8_readPlan_34 : decode cX8_readPlan 34 = .ok (.invokevirtual 98, 3) := by decide +kernel
theorem dX8_readPlan_37 : decode cX8_readPlan 37 = .ok (.iconst 0, 1) := by decide +kernel
theorem dX8_readPlan_38 : decode cX8_readPlan 38 = .ok (.istore_n 2, 1) := by decide +kernel
theorem dX8_readPlan_39 : decode cX8_readPlan 39 = .ok (.iload_n 2, 1) := by decide +kernel
theorem dX8_readPlan_40 : decode cX8_readPlan 40 = .ok (.bipush 24, 2) := by decide +kernel
theorem dX8_readPlan_42 : decode cX8_readPlan 42 = .ok (.if_icmp .ge 19, 3) := by decide +kernel
theorem dX8_readPlan_45 : decode cX8_readPlan 45 = .ok (.aload_n 0, 1) := by decide +kernel
theorem dX8_readPlan_46 : decode cX8_readPlan 46 = .ok (.getfield 7, 3) := by decide +kernel
theorem dX8_readPlan_49 : decode cX8_readPlan 49 = .ok (.bipush 44, 2) := by decide +kernel
theorem dX8_readPlan_51 : decode cX8_readPlan 51 = .ok (.iload_n 2, 1) := by decide +kernel
theorem dX8_readPlan_52 : decode cX8_readPlan 52 = .ok (.iadd, 1) := by decide +kernel
theorem dX8_readPlan_53 : decode cX8_readPlan 53 = .ok (.iconst 0, 1) := by decide +kernel
theorem dX8_readPlan_54 : decode cX8_readPlan 54 = .ok (.iastore, 1) := by decide +kernel
theorem dX8_readPlan_55 : decode cX8_readPlan 55 = .ok (.iinc 2 1, 3) := by decide +kernel
theorem dX8_readPlan_58 : decode cX8_readPlan 58 = .ok (.goto (-19), 3) := by decide +kernel
theorem dX8_readPlan_61 : decode cX8_readPlan 61 = .ok (.aload_n 0, 1) := by decide +kernel
theorem dX8_readPlan_62 : decode cX8_readPlan 62 = .ok (.getfield 7, 3) := by decide +kernel
theorem dX8_readPlan_65 : decode cX8_readPlan 65 = .ok (.bipush 43, 2) := by decide +kernel
theorem dX8_readPlan_67 : decode cX8_readPlan 67 = .ok (.iconst 0, 1) := by decide +kernel
theorem dX8_readPlan_68 : decode cX8_readPlan 68 = .ok (.iastore, 1) := by decide +kernel
theorem dX8_readPlan_69 : decode cX8_readPlan 69 = .ok (.iconst 0, 1) := by decide +kernel
theorem dX8_readPlan_70 : decode cX8_readPlan 70 = .ok (.istore_n 2, 1) := by decide +kernel
theorem dX8_readPlan_71 : decode cX8_readPlan 71 = .ok (.iload_n 2, 1) := by decide +kernel
theorem dX8_readPlan_72 : decode cX8_readPlan 72 = .ok (.aload_n 0, 1) := by decide +kernel
theorem dX8_readPlan_73 : decode cX8_readPlan 73 = .ok (.getfield 127, 3) := by decide +kernel
theorem dX8_readPlan_76 : decode cX8_readPlan 76 = .ok (.if_icmp .ge 25, 3) := by decide +kernel
theorem dX8_readPlan_79 : decode cX8_readPlan 79 = .ok (.aload_n 0, 1) := by decide +kernel
theorem dX8_readPlan_80 : decode cX8_readPlan 80 = .ok (.aload_n 0, 1) := by decide +kernel
theorem dX8_readPlan_81 : decode cX8_readPlan 81 = .ok (.getfield 25, 3) := by decide +kernel
theorem dX8_readPlan_84 : decode cX8_readPlan 84 = .ok (.iload_n 2, 1) := by decide +kernel
theorem dX8_readPlan_85 : decode cX8_readPlan 85 = .ok (.iaload, 1) := by decide +kernel
theorem dX8_readPlan_86 : decode cX8_readPlan 86 = .ok (.aload_n 0, 1) := by decide +kernel
theorem dX8_readPlan_87 : decode cX8_readPlan 87 = .ok (.getfield 28, 3) := by decide +kernel
theorem dX8_readPlan_90 : decode cX8_readPlan 90 = .ok (.iload_n 2, 1) := by decide +kernel
theorem dX8_readPlan_91 : decode cX8_readPlan 91 = .ok (.iaload, 1) := by decide +kernel
theorem dX8_readPlan_92 : decode cX8_readPlan 92 = .ok (.invokevirtual 107, 3) := by decide +kernel
theorem dX8_readPlan_95 : decode cX8_readPlan 95 = .ok (.iinc 2 1, 3) := by decide +kernel
theorem dX8_readPlan_98 : decode cX8_readPlan 98 = .ok (.goto (-27), 3) := by decide +kernel
theorem dX8_readPlan_101 : decode cX8_readPlan 101 = .ok (.aload_n 0, 1) := by decide +kernel
theorem dX8_readPlan_102 : decode cX8_readPlan 102 = .ok (.getfield 7, 3) := by decide +kernel
theorem dX8_readPlan_105 : decode cX8_readPlan 105 = .ok (.bipush 43, 2) := by decide +kernel
theorem dX8_readPlan_107 : decode cX8_readPlan 107 = .ok (.iaload, 1) := by decide +kernel
theorem dX8_readPlan_108 : decode cX8_readPlan 108 = .ok (.ireturn, 1) := by decide +kernel
set_option maxRecDepth 20000 in
theorem ggX8_turn_X8_isBurner : GoodIn wsX8_turn wsX8_isBurner := goodIn_r _ [5, 6, 7, 4, 8] (by decide +kernel) (by decide +kernel)
set_option maxRecDepth 20000 in
theorem gX8_turn_X8_isBurner : GoodIn wsX8_turn (va_wsS RX8 101 yX8_isBurner wsX8_isBurner) := goodIn_app (goodIn_of _ (by decide +kernel)) ggX8_turn_X8_isBurner
set_option maxRecDepth 20000 in
theorem ggX8_turn_X8_in : GoodIn wsX8_turn wsX8_in := goodIn_r _ [8] (by decide +kernel) (by decide +kernel)
set_option maxRecDepth 20000 in
theorem gX8_turn_X8_in : GoodIn wsX8_turn (va_wsS RX8 35 yX8_in wsX8_in) := goodIn_app (goodIn_of _ (by decide +kernel)) ggX8_turn_X8_in
set_option maxRecDepth 20000 in
theorem ggX8_turn_X8_get : GoodIn wsX8_turn wsX8_get := goodIn_r _ [12, 13, 24, 25, 26, 27, 28, 29, 30, 31, 32, 33, 34, 35, 36, 37] (by decide +kernel) (by decide +kernel)
set_option maxRecDepth 20000 in
theorem gX8_turn_X8_get : GoodIn wsX8_turn (wsV RX8 53 RX8 yX8_get wsX8_get) := goodIn_app (goodIn_of _ (by decide +kernel)) ggX8_turn_X8_get
set_option maxRecDepth 20000 in
theorem ggX8_turn_X8_records : GoodIn wsX8_turn wsX8_records := goodIn_r _ [17, 18, 19, 13, 24, 25, 26, 27, 28, 29, 30, 31, 32, 33, 34, 35, 36, 37] (by decide +kernel) (by decide +kernel)
set_option maxRecDepth 20000 in
theorem gX8_turn_X8_records : GoodIn wsX8_turn (wsV RX8 98 RX8 yX8_records wsX8_records) := goodIn_app (goodIn_of _ (by decide +kernel)) ggX8_turn_X8_records
set_option maxRecDepth 20000 in
theorem ggX8_turn_X8_lay : GoodIn wsX8_turn wsX8_lay := goodIn_r _ [23, 13, 24, 25, 26, 27, 28, 29, 30, 31, 32, 33, 34, 35, 36, 37] (by decide +kernel) (by decide +kernel)
set_option maxRecDepth 20000 in
theorem gX8_turn_X8_lay : GoodIn wsX8_turn (wsV RX8 64 RX8 yX8_lay wsX8_lay) := goodIn_app (goodIn_of _ (by decide +kernel)) ggX8_turn_X8_lay
theorem dX8_turn_0 : decode cX8_turn 0 = .ok (.aload_n 0, 1) := by decide +kernel
theorem dX8_turn_1 : decode cX8_turn 1 = .ok (.iconst 0, 1) := by decide +kernel
theorem dX8_turn_2 : decode cX8_turn 2 = .ok (.putfield 31, 3) := by decide +kernel
theorem dX8_turn_5 : decode cX8_turn 5 = .ok (.iload_n 1, 1) := by decide +kernel
theorem dX8_turn_6 : decode cX8_turn 6 = .ok (.invokestatic 101, 3) := by decide +kernel
theorem dX8_turn_9 : decode cX8_turn 9 = .ok (.ifCond .ne 5, 3) := by decide +kernel
theorem dX8_turn_12 : decode cX8_turn 12 = .ok (.iconst (-1), 1) := by decide +kernel
theorem dX8_turn_13 : decode cX8_turn 13 = .ok (.ireturn, 1) := by decide +kernel
theorem dX8_turn_14 : decode cX8_turn 14 = .ok (.iload_n 2, 1) := by decide +kernel
theorem dX8_turn_15 : decode cX8_turn 15 = .ok (.iconst 0, 1) := by decide +kernel
theorem dX8_turn_16 : decode cX8_turn 16 = .ok (.iconst 2, 1) := by decide +kernel
theorem dX8_turn_17 : decode cX8_turn 17 = .ok (.invokestatic 35, 3) := by decide +kernel
theorem dX8_turn_20 : decode cX8_turn 20 = .ok (.ifCond .ne 6, 3) := by decide +kernel
theorem dX8_turn_23 : decode cX8_turn 23 = .ok (.bipush (-2), 2) := by decide +kernel
theorem dX8_turn_25 : decode cX8_turn 25 = .ok (.ireturn, 1) := by decide +kernel
theorem dX8_turn_26 : decode cX8_turn 26 = .ok (.aload_n 0, 1) := by decide +kernel
theorem dX8_turn_27 : decode cX8_turn 27 = .ok (.iload_n 1, 1) := by decide +kernel
theorem dX8_turn_28 : decode cX8_turn 28 = .ok (.iconst 1, 1) := by decide +kernel
theorem dX8_turn_29 : decode cX8_turn 29 = .ok (.invokevirtual 53, 3) := by decide +kernel
theorem dX8_turn_32 : decode cX8_turn 32 = .ok (.istore_n 3, 1) := by decide +kernel
theorem dX8_turn_33 : decode cX8_turn 33 = .ok (.iload_n 3, 1) := by decide +kernel
theorem dX8_turn_34 : decode cX8_turn 34 = .ok (.iload_n 2, 1) := by decide +kernel
theorem dX8_turn_35 : decode cX8_turn 35 = .ok (.if_icmp .ne 6, 3) := by decide +kernel
theorem dX8_turn_38 : decode cX8_turn 38 = .ok (.bipush (-5), 2) := by decide +kernel
theorem dX8_turn_40 : decode cX8_turn 40 = .ok (.ireturn, 1) := by decide +kernel
theorem dX8_turn_41 : decode cX8_turn 41 = .ok (.aload_n 0, 1) := by decide +kernel
theorem dX8_turn_42 : decode cX8_turn 42 = .ok (.invokevirtual 98, 3) := by decide +kernel
theorem dX8_turn_45 : decode cX8_turn 45 = .ok (.aload_n 0, 1) := by decide +kernel
theorem dX8_turn_46 : decode cX8_turn 46 = .ok (.iload_n 1, 1) := by decide +kernel
theorem dX8_turn_47 : decode cX8_turn 47 = .ok (.iconst 1, 1) := by decide +kernel
theorem dX8_turn_48 : decode cX8_turn 48 = .ok (.iload_n 2, 1) := by decide +kernel
theorem dX8_turn_49 : decode cX8_turn 49 = .ok (.invokevirtual 64, 3) := by decide +kernel
theorem dX8_turn_52 : decode cX8_turn 52 = .ok (.aload_n 0, 1) := by decide +kernel
theorem dX8_turn_53 : decode cX8_turn 53 = .ok (.iload_n 1, 1) := by decide +kernel
theorem dX8_turn_54 : decode cX8_turn 54 = .ok (.iconst 4, 1) := by decide +kernel
theorem dX8_turn_55 : decode cX8_turn 55 = .ok (.iload_n 2, 1) := by decide +kernel
theorem dX8_turn_56 : decode cX8_turn 56 = .ok (.ifCond .ne 7, 3) := by decide +kernel
theorem dX8_turn_59 : decode cX8_turn 59 = .ok (.iconst 0, 1) := by decide +kernel
theorem dX8_turn_60 : decode cX8_turn 60 = .ok (.goto 9, 3) := by decide +kernel
theorem dX8_turn_63 : decode cX8_turn 63 = .ok (.aload_n 0, 1) := by decide +kernel
theorem dX8_turn_64 : decode cX8_turn 64 = .ok (.iload_n 1, 1) := by decide +kernel
theorem dX8_turn_65 : decode cX8_turn 65 = .ok (.iconst 4, 1) := by decide +kernel
theorem dX8_turn_66 : decode cX8_turn 66 = .ok (.invokevirtual 53, 3) := by decide +kernel
theorem dX8_turn_69 : decode cX8_turn 69 = .ok (.invokevirtual 64, 3) := by decide +kernel
theorem dX8_turn_72 : decode cX8_turn 72 = .ok (.iload_n 3, 1) := by decide +kernel
theorem dX8_turn_73 : decode cX8_turn 73 = .ok (.ireturn, 1) := by decide +kernel
set_option maxRecDepth 20000 in
theorem ggX8_press_X8_isBurner : GoodIn wsX8_press wsX8_isBurner := goodIn_r _ [5, 6, 7, 4, 8] (by decide +kernel) (by decide +kernel)
set_option maxRecDepth 20000 in
theorem gX8_press_X8_isBurner : GoodIn wsX8_press (va_wsS RX8 101 yX8_isBurner wsX8_isBurner) := goodIn_app (goodIn_of _ (by decide +kernel)) ggX8_press_X8_isBurner
set_option maxRecDepth 20000 in
theorem ggX8_press_X8_get : GoodIn wsX8_press wsX8_get := goodIn_r _ [12, 13, 28, 29, 30, 31, 32, 33, 34, 35, 36, 37, 38, 39, 40, 41] (by decide +kernel) (by decide +kernel)
set_option maxRecDepth 20000 in
theorem gX8_press_X8_get : GoodIn wsX8_press (wsV RX8 53 RX8 yX8_get wsX8_get) := goodIn_app (goodIn_of _ (by decide +kernel)) ggX8_press_X8_get
set_option maxRecDepth 20000 in
theorem ggX8_press_X8_records : GoodIn wsX8_press wsX8_records := goodIn_r _ [17, 18, 19, 13, 28, 29, 30, 31, 32, 33, 34, 35, 36, 37, 38, 39, 40, 41] (by decide +kernel) (by decide +kernel)
set_option maxRecDepth 20000 in
theorem gX8_press_X8_records : GoodIn wsX8_press (wsV RX8 98 RX8 yX8_records wsX8_records) := goodIn_app (goodIn_of _ (by decide +kernel)) ggX8_press_X8_records
set_option maxRecDepth 20000 in
theorem ggX8_press_X8_lay : GoodIn wsX8_press wsX8_lay := goodIn_r _ [23, 13, 28, 29, 30, 31, 32, 33, 34, 35, 36, 37, 38, 39, 40, 41] (by decide +kernel) (by decide +kernel)
set_option maxRecDepth 20000 in
theorem gX8_press_X8_lay : GoodIn wsX8_press (wsV RX8 64 RX8 yX8_lay wsX8_lay) := goodIn_app (goodIn_of _ (by decide +kernel)) ggX8_press_X8_lay
set_option maxRecDepth 20000 in
theorem ggX8_press_X8_isOpen : GoodIn wsX8_press wsX8_isOpen := goodIn_r _ [27, 13, 9, 10, 11, 4, 12, 28, 29, 30, 31, 32, 33, 34, 35, 36, 37, 38, 39, 40, 41] (by decide +kernel) (by decide +kernel)
set_option maxRecDepth 20000 in
theorem gX8_press_X8_isOpen : GoodIn wsX8_press (wsV RX8 60 RX8 yX8_isOpen wsX8_isOpen) := goodIn_app (goodIn_of _ (by decide +kernel)) ggX8_press_X8_isOpen
theorem dX8_press_0 : decode cX8_press 0 = .ok (.aload_n 0, 1) := by decide +kernel
theorem dX8_press_1 : decode cX8_press 1 = .ok (.iconst 0, 1) := by decide +kernel
theorem dX8_press_2 : decode cX8_press 2 = .ok (.putfield 31, 3) := by decide +kernel
theorem dX8_press_5 : decode cX8_press 5 = .ok (.iload_n 1, 1) := by decide +kernel
theorem dX8_press_6 : decode cX8_press 6 = .ok (.invokestatic 101, 3) := by decide +kernel
theorem dX8_press_9 : decode cX8_press 9 = .ok (.ifCond .ne 5, 3) := by decide +kernel
theorem dX8_press_12 : decode cX8_press 12 = .ok (.iconst (-1), 1) := by decide +kernel
theorem dX8_press_13 : decode cX8_press 13 = .ok (.ireturn, 1) := by decide +kernel
theorem dX8_press_14 : decode cX8_press 14 = .ok (.aload_n 0, 1) := by decide +kernel
theorem dX8_press_15 : decode cX8_press 15 = .ok (.iload_n 1, 1) := by decide +kernel
theorem dX8_press_16 : decode cX8_press 16 = .ok (.iconst 2, 1) := by decide +kernel
theorem dX8_press_17 : decode cX8_press 17 = .ok (.invokevirtual 53, 3) := by decide +kernel
theorem dX8_press_20 : decode cX8_press 20 = .ok (.iload_n 2, 1) := by decide +kernel
theorem dX8_press_21 : decode cX8_press 21 = .ok (.ifCond .eq 7, 3) := by decide +kernel
theorem dX8_press_24 : decode cX8_press 24 = .ok (.iconst 1, 1) := by decide +kernel
theorem dX8_press_25 : decode cX8_press 25 = .ok (.goto 4, 3) := by decide +kernel
theorem dX8_press_28 : decode cX8_press 28 = .ok (.iconst 0, 1) := by decide +kernel
theorem dX8_press_29 : decode cX8_press 29 = .ok (.if_icmp .ne 6, 3) := by decide +kernel
theorem dX8_press_32 : decode cX8_press 32 = .ok (.bipush (-5), 2) := by decide +kernel
theorem dX8_press_34 : decode cX8_press 34 = .ok (.ireturn, 1) := by decide +kernel
theorem dX8_press_35 : decode cX8_press 35 = .ok (.aload_n 0, 1) := by decide +kernel
theorem dX8_press_36 : decode cX8_press 36 = .ok (.invokevirtual 98, 3) := by decide +kernel
theorem dX8_press_39 : decode cX8_press 39 = .ok (.aload_n 0, 1) := by decide +kernel
theorem dX8_press_40 : decode cX8_press 40 = .ok (.iload_n 1, 1) := by decide +kernel
theorem dX8_press_41 : decode cX8_press 41 = .ok (.iconst 2, 1) := by decide +kernel
theorem dX8_press_42 : decode cX8_press 42 = .ok (.iload_n 2, 1) := by decide +kernel
theorem dX8_press_43 : decode cX8_press 43 = .ok (.ifCond .eq 7, 3) := by decide +kernel
theorem dX8_press_46 : decode cX8_press 46 = .ok (.iconst 1, 1) := by decide +kernel
theorem dX8_press_47 : decode cX8_press 47 = .ok (.goto 4, 3) := by decide +kernel
theorem dX8_press_50 : decode cX8_press 50 = .ok (.iconst 0, 1) := by decide +kernel
theorem dX8_press_51 : decode cX8_press 51 = .ok (.invokevirtual 64, 3) := by decide +kernel
theorem dX8_press_54 : decode cX8_press 54 = .ok (.aload_n 0, 1) := by decide +kernel
theorem dX8_press_55 : decode cX8_press 55 = .ok (.iload_n 1, 1) := by decide +kernel
theorem dX8_press_56 : decode cX8_press 56 = .ok (.invokevirtual 60, 3) := by decide +kernel
theorem dX8_press_59 : decode cX8_press 59 = .ok (.ifCond .eq 7, 3) := by decide +kernel
theorem dX8_press_62 : decode cX8_press 62 = .ok (.iconst 1, 1) := by decide +kernel
theorem dX8_press_63 : decode cX8_press 63 = .ok (.goto 4, 3) := by decide +kernel
theorem dX8_press_66 : decode cX8_press 66 = .ok (.iconst 0, 1) := by decide +kernel
theorem dX8_press_67 : decode cX8_press 67 = .ok (.ireturn, 1) := by decide +kernel
set_option maxRecDepth 20000 in
theorem ggX8_sumOver_X8_get : GoodIn wsX8_sumOver wsX8_get := goodIn_r _ [5, 6, 7, 8, 9, 10, 11, 12, 13, 14, 15, 16, 17, 18, 19, 20] (by decide +kernel) (by decide +kernel)
set_option maxRecDepth 20000 in
theorem gX8_sumOver_X8_get : GoodIn wsX8_sumOver (wsV RX8 53 RX8 yX8_get wsX8_get) := goodIn_app (goodIn_of _ (by decide +kernel)) ggX8_sumOver_X8_get
theorem dX8_sumOver_0 : decode cX8_sumOver 0 = .ok (.iconst 0, 1) := by decide +kernel
theorem dX8_sumOver_1 : decode cX8_sumOver 1 = .ok (.istore_n 2, 1) := by decide +kernel
theorem dX8_sumOver_2 : decode cX8_sumOver 2 = .ok (.iconst 0, 1) := by decide +kernel
theorem dX8_sumOver_3 : decode cX8_sumOver 3 = .ok (.istore_n 3, 1) := by decide +kernel
theorem dX8_sumOver_4 : decode cX8_sumOver 4 = .ok (.iload_n 3, 1) := by decide +kernel
theorem dX8_sumOver_5 : decode cX8_sumOver 5 = .ok (.iconst 4, 1) := by decide +kernel
theorem dX8_sumOver_6 : decode cX8_sumOver 6 = .ok (.if_icmp .ge 18, 3) := by decide +kernel
theorem dX8_sumOver_9 : decode cX8_sumOver 9 = .ok (.iload_n 2, 1) := by decide +kernel
theorem dX8_sumOver_10 : decode cX8_sumOver 10 = .ok (.aload_n 0, 1) := by decide +kernel
theorem dX8_sumOver_11 : decode cX8_sumOver 11 = .ok (.iload_n 3, 1) := by decide +kernel
theorem dX8_sumOver_12 : decode cX8_sumOver 12 = .ok (.iload_n 1, 1) := by decide +kernel
theorem dX8_sumOver_13 : decode cX8_sumOver 13 = .ok (.invokevirtual 53, 3) := by decide +kernel
theorem dX8_sumOver_16 : decode cX8_sumOver 16 = .ok (.iadd, 1) := by decide +kernel
theorem dX8_sumOver_17 : decode cX8_sumOver 17 = .ok (.istore_n 2, 1) := by decide +kernel
theorem dX8_sumOver_18 : decode cX8_sumOver 18 = .ok (.iinc 3 1, 3) := by decide +kernel
theorem dX8_sumOver_21 : decode cX8_sumOver 21 = .ok (.goto (-17), 3) := by decide +kernel
theorem dX8_sumOver_24 : decode cX8_sumOver 24 = .ok (.iload_n 2, 1) := by decide +kernel
theorem dX8_sumOver_25 : decode cX8_sumOver 25 = .ok (.ireturn, 1) := by decide +kernel
set_option maxRecDepth 20000 in
theorem ggX8_igniter_X8_isBurner : GoodIn wsX8_igniter wsX8_isBurner := goodIn_r _ [5, 6, 7, 4, 8] (by decide +kernel) (by decide +kernel)
set_option maxRecDepth 20000 in
theorem gX8_igniter_X8_isBurner : GoodIn wsX8_igniter (va_wsS RX8 101 yX8_isBurner wsX8_isBurner) := goodIn_app (goodIn_of _ (by decide +kernel)) ggX8_igniter_X8_isBurner
set_option maxRecDepth 20000 in
theorem ggX8_igniter_X8_get : GoodIn wsX8_igniter wsX8_get := goodIn_r _ [12, 13, 28, 29, 30, 31, 32, 33, 34, 35, 36, 37, 38, 39, 40, 41] (by decide +kernel) (by decide +kernel)
set_option maxRecDepth 20000 in
theorem gX8_igniter_X8_get : GoodIn wsX8_igniter (wsV RX8 53 RX8 yX8_get wsX8_get) := goodIn_app (goodIn_of _ (by decide +kernel)) ggX8_igniter_X8_get
set_option maxRecDepth 20000 in
theorem ggX8_igniter_X8_records : GoodIn wsX8_igniter wsX8_records := goodIn_r _ [17, 18, 19, 13, 28, 29, 30, 31, 32, 33, 34, 35, 36, 37, 38, 39, 40, 41] (by decide +kernel) (by decide +kernel)
set_option maxRecDepth 20000 in
theorem gX8_igniter_X8_records : GoodIn wsX8_igniter (wsV RX8 98 RX8 yX8_records wsX8_records) := goodIn_app (goodIn_of _ (by decide +kernel)) ggX8_igniter_X8_records
set_option maxRecDepth 20000 in
theorem ggX8_igniter_X8_lay : GoodIn wsX8_igniter wsX8_lay := goodIn_r _ [23, 13, 28, 29, 30, 31, 32, 33, 34, 35, 36, 37, 38, 39, 40, 41] (by decide +kernel) (by decide +kernel)
set_option maxRecDepth 20000 in
theorem gX8_igniter_X8_lay : GoodIn wsX8_igniter (wsV RX8 64 RX8 yX8_lay wsX8_lay) := goodIn_app (goodIn_of _ (by decide +kernel)) ggX8_igniter_X8_lay
set_option maxRecDepth 20000 in
theorem ggX8_igniter_X8_sumOver : GoodIn wsX8_igniter wsX8_sumOver := goodIn_r _ [27, 9, 10, 11, 4, 12, 13, 28, 29, 30, 31, 32, 33, 34, 35, 36, 37, 38, 39, 40, 41] (by decide +kernel) (by decide +kernel)
set_option maxRecDepth 20000 in
theorem gX8_igniter_X8_sumOver : GoodIn wsX8_igniter (wsV RX8 139 RX8 yX8_sumOver wsX8_sumOver) := goodIn_app (goodIn_of _ (by decide +kernel)) ggX8_igniter_X8_sumOver
theorem dX8_igniter_0 : decode cX8_igniter 0 = .ok (.aload_n 0, 1) := by decide +kernel
theorem dX8_igniter_1 : decode cX8_igniter 1 = .ok (.iconst 0, 1) := by decide +kernel
theorem dX8_igniter_2 : decode cX8_igniter 2 = .ok (.putfield 31, 3) := by decide +kernel
theorem dX8_igniter_5 : decode cX8_igniter 5 = .ok (.iload_n 1, 1) := by decide +kernel
theorem dX8_igniter_6 : decode cX8_igniter 6 = .ok (.invokestatic 101, 3) := by decide +kernel
theorem dX8_igniter_9 : decode cX8_igniter 9 = .ok (.ifCond .ne 5, 3) := by decide +kernel
theorem dX8_igniter_12 : decode cX8_igniter 12 = .ok (.iconst (-1), 1) := by decide +kernel
theorem dX8_igniter_13 : decode cX8_igniter 13 = .ok (.ireturn, 1) := by decide +kernel
theorem dX8_igniter_14 : decode cX8_igniter 14 = .ok (.aload_n 0, 1) := by decide +kernel
theorem dX8_igniter_15 : decode cX8_igniter 15 = .ok (.iload_n 1, 1) := by decide +kernel
theorem dX8_igniter_16 : decode cX8_igniter 16 = .ok (.iconst 3, 1) := by decide +kernel
theorem dX8_igniter_17 : decode cX8_igniter 17 = .ok (.invokevirtual 53, 3) := by decide +kernel
theorem dX8_igniter_20 : decode cX8_igniter 20 = .ok (.iload_n 2, 1) := by decide +kernel
theorem dX8_igniter_21 : decode cX8_igniter 21 = .ok (.ifCond .eq 7, 3) := by decide +kernel
theorem dX8_igniter_24 : decode cX8_igniter 24 = .ok (.iconst 1, 1) := by decide +kernel
theorem dX8_igniter_25 : decode cX8_igniter 25 = .ok (.goto 4, 3) := by decide +kernel
theorem dX8_igniter_28 : decode cX8_igniter 28 = .ok (.iconst 0, 1) := by decide +kernel
theorem dX8_igniter_29 : decode cX8_igniter 29 = .ok (.if_icmp .ne 6, 3) := by decide +kernel
theorem dX8_igniter_32 : decode cX8_igniter 32 = .ok (.bipush (-5), 2) := by decide +kernel
theorem dX8_igniter_34 : decode cX8_igniter 34 = .ok (.ireturn, 1) := by decide +kernel
theorem dX8_igniter_35 : decode cX8_igniter 35 = .ok (.aload_n 0, 1) := by decide +kernel
theorem dX8_igniter_36 : decode cX8_igniter 36 = .ok (.invokevirtual 98, 3) := by decide +kernel
theorem dX8_igniter_39 : decode cX8_igniter 39 = .ok (.aload_n 0, 1) := by decide +kernel
theorem dX8_igniter_40 : decode cX8_igniter 40 = .ok (.iload_n 1, 1) := by decide +kernel
theorem dX8_igniter_41 : decode cX8_igniter 41 = .ok (.iconst 3, 1) := by decide +kernel
theorem dX8_igniter_42 : decode cX8_igniter 42 = .ok (.iload_n 2, 1) := by decide +kernel
theorem dX8_igniter_43 : decode cX8_igniter 43 = .ok (.ifCond .eq 7, 3) := by decide +kernel
theorem dX8_igniter_46 : decode cX8_igniter 46 = .ok (.iconst 1, 1) := by decide +kernel
theorem dX8_igniter_47 : decode cX8_igniter 47 = .ok (.goto 4, 3) := by decide +kernel
theorem dX8_igniter_50 : decode cX8_igniter 50 = .ok (.iconst 0, 1) := by decide +kernel
theorem dX8_igniter_51 : decode cX8_igniter 51 = .ok (.invokevirtual 64, 3) := by decide +kernel
theorem dX8_igniter_54 : decode cX8_igniter 54 = .ok (.aload_n 0, 1) := by decide +kernel
theorem dX8_igniter_55 : decode cX8_igniter 55 = .ok (.iconst 3, 1) := by decide +kernel
theorem dX8_igniter_56 : decode cX8_igniter 56 = .ok (.invokevirtual 139, 3) := by decide +kernel
theorem dX8_igniter_59 : decode cX8_igniter 59 = .ok (.ireturn, 1) := by decide +kernel
set_option maxRecDepth 20000 in
theorem ggX8_light_X8_isBurner : GoodIn wsX8_light wsX8_isBurner := goodIn_r _ [6, 7, 8, 5, 9] (by decide +kernel) (by decide +kernel)
set_option maxRecDepth 20000 in
theorem gX8_light_X8_isBurner : GoodIn wsX8_light (va_wsS RX8 101 yX8_isBurner wsX8_isBurner) := goodIn_app (goodIn_of _ (by decide +kernel)) ggX8_light_X8_isBurner
set_option maxRecDepth 20000 in
theorem ggX8_light_X8_isOpen : GoodIn wsX8_light wsX8_isOpen := goodIn_r _ [13, 2, 14, 15, 16, 5, 17, 46, 47, 48, 49, 50, 51, 52, 53, 54, 55, 56, 57, 58, 59] (by decide +kernel) (by decide +kernel)
set_option maxRecDepth 20000 in
theorem gX8_light_X8_isOpen : GoodIn wsX8_light (wsV RX8 60 RX8 yX8_isOpen wsX8_isOpen) := goodIn_app (goodIn_of _ (by decide +kernel)) ggX8_light_X8_isOpen
set_option maxRecDepth 20000 in
theorem ggX8_light_X8_get : GoodIn wsX8_light wsX8_get := goodIn_r _ [17, 2, 46, 47, 48, 49, 50, 51, 52, 53, 54, 55, 56, 57, 58, 59] (by decide +kernel) (by decide +kernel)
set_option maxRecDepth 20000 in
theorem gX8_light_X8_get : GoodIn wsX8_light (wsV RX8 53 RX8 yX8_get wsX8_get) := goodIn_app (goodIn_of _ (by decide +kernel)) ggX8_light_X8_get
set_option maxRecDepth 20000 in
theorem ggX8_light_X8_records : GoodIn wsX8_light wsX8_records := goodIn_r _ [21, 22, 23, 2, 46, 47, 48, 49, 50, 51, 52, 53, 54, 55, 56, 57, 58, 59] (by decide +kernel) (by decide +kernel)
set_option maxRecDepth 20000 in
theorem gX8_light_X8_records : GoodIn wsX8_light (wsV RX8 98 RX8 yX8_records wsX8_records) := goodIn_app (goodIn_of _ (by decide +kernel)) ggX8_light_X8_records
set_option maxRecDepth 20000 in
theorem ggX8_light_X8_draftAt : GoodIn wsX8_light wsX8_draftAt := goodIn_r _ [27, 2, 46, 47, 48, 49, 50, 51, 52, 53, 54, 55, 56, 57, 58, 59] (by decide +kernel) (by decide +kernel)
set_option maxRecDepth 20000 in
theorem gX8_light_X8_draftAt : GoodIn wsX8_light (wsV RX8 88 RX8 yX8_draftAt wsX8_draftAt) := goodIn_app (goodIn_of _ (by decide +kernel)) ggX8_light_X8_draftAt
set_option maxRecDepth 20000 in
theorem ggX8_light_X8_strength : GoodIn wsX8_light wsX8_strength := goodIn_r _ [31, 14, 15, 16, 5, 17, 2, 32, 33, 34, 35, 36, 37, 46, 47, 48, 49, 50, 51, 52, 53, 54, 55, 56, 57, 58, 59] (by decide +kernel) (by decide +kernel)
set_option maxRecDepth 20000 in
theorem gX8_light_X8_strength : GoodIn wsX8_light (wsV RX8 68 RX8 yX8_strength wsX8_strength) := goodIn_app (goodIn_of _ (by decide +kernel)) ggX8_light_X8_strength
set_option maxRecDepth 20000 in
theorem ggX8_light_X8_lay : GoodIn wsX8_light wsX8_lay := goodIn_r _ [41, 2, 46, 47, 48, 49, 50, 51, 52, 53, 54, 55, 56, 57, 58, 59] (by decide +kernel) (by decide +kernel)
set_option maxRecDepth 20000 in
theorem gX8_light_X8_lay : GoodIn wsX8_light (wsV RX8 64 RX8 yX8_lay wsX8_lay) := goodIn_app (goodIn_of _ (by decide +kernel)) ggX8_light_X8_lay
set_option maxRecDepth 20000 in
theorem ggX8_light_X8_tells : GoodIn wsX8_light wsX8_tells := goodIn_r _ [45, 2, 46, 47, 48, 49, 50, 51, 52, 53, 54, 55, 56, 57, 58, 59] (by decide +kernel) (by decide +kernel)
set_option maxRecDepth 20000 in
theorem gX8_light_X8_tells : GoodIn wsX8_light (wsV RX8 72 RX8 yX8_tells wsX8_tells) := goodIn_app (goodIn_of _ (by decide +kernel)) ggX8_light_X8_tells
theorem dX8_light_0 : decode cX8_light 0 = .ok (.aload_n 0, 1) := by decide +kernel
theorem dX8_light_1 : decode cX8_light 1 = .ok (.iconst 0, 1) := by decide +kernel
theorem dX8_light_2 : decode cX8_light 2 = .ok (.putfield 31, 3) := by decide +kernel
theorem dX8_light_5 : decode cX8_light 5 = .ok (.iload_n 1, 1) := by decide +kernel
theorem dX8_light_6 : decode cX8_light 6 = .ok (.invokestatic 101, 3) := by decide +kernel
theorem dX8_light_9 : decode cX8_light 9 = .ok (.ifCond .ne 5, 3) := by decide +kernel
theorem dX8_light_12 : decode cX8_light 12 = .ok (.iconst (-1), 1) := by decide +kernel
theorem dX8_light_13 : decode cX8_light 13 = .ok (.ireturn, 1) := by decide +kernel
theorem dX8_light_14 : decode cX8_light 14 = .ok (.aload_n 0, 1) := by decide +kernel
theorem dX8_light_15 : decode cX8_light 15 = .ok (.iload_n 1, 1) := by decide +kernel
theorem dX8_light_16 : decode cX8_light 16 = .ok (.invokevirtual 60, 3) := by decide +kernel
theorem dX8_light_19 : decode cX8_light 19 = .ok (.ifCond .eq 28, 3) := by decide +kernel
theorem dX8_light_22 : decode cX8_light 22 = .ok (.aload_n 0, 1) := by decide +kernel
theorem dX8_light_23 : decode cX8_light 23 = .ok (.iload_n 1, 1) := by decide +kernel
theorem dX8_light_24 : decode cX8_light 24 = .ok (.iconst 4, 1) := by decide +kernel
theorem dX8_light_25 : decode cX8_light 25 = .ok (.invokevirtual 53, 3) := by decide +kernel
theorem dX8_light_28 : decode cX8_light 28 = .ok (.iconst 1, 1) := by decide +kernel
theorem dX8_light_29 : decode cX8_light 29 = .ok (.if_icmp .eq 18, 3) := by decide +kernel
theorem dX8_light_32 : decode cX8_light 32 = .ok (.aload_n 0, 1) := by decide +kernel
theorem dX8_light_33 : decode cX8_light 33 = .ok (.getfield 7, 3) := by decide +kernel
theorem dX8_light_36 : decode cX8_light 36 = .ok (.iconst 5, 1) := by decide +kernel
theorem dX8_light_37 : decode cX8_light 37 = .ok (.iaload, 1) := by decide +kernel
theorem dX8_light_38 : decode cX8_light 38 = .ok (.aload_n 0, 1) := by decide +kernel
theorem dX8_light_39 : decode cX8_light 39 = .ok (.getfield 7, 3) := by decide +kernel
theorem dX8_light_42 : decode cX8_light 42 = .ok (.iconst 3, 1) := by decide +kernel
theorem dX8_light_43 : decode cX8_light 43 = .ok (.iaload, 1) := by decide +kernel
theorem dX8_light_44 : decode cX8_light 44 = .ok (.if_icmp .lt 6, 3) := by decide +kernel
theorem dX8_light_47 : decode cX8_light 47 = .ok (.bipush (-4), 2) := by decide +kernel
theorem dX8_light_49 : decode cX8_light 49 = .ok (.ireturn, 1) := by decide +kernel
theorem dX8_light_50 : decode cX8_light 50 = .ok (.aload_n 0, 1) := by decide +kernel
theorem dX8_light_51 : decode cX8_light 51 = .ok (.invokevirtual 98, 3) := by decide +kernel
theorem dX8_light_54 : decode cX8_light 54 = .ok (.aload_n 0, 1) := by decide +kernel
theorem dX8_light_55 : decode cX8_light 55 = .ok (.aload_n 0, 1) := by decide +kernel
theorem dX8_light_56 : decode cX8_light 56 = .ok (.getfield 7, 3) := by decide +kernel
theorem dX8_light_59 : decode cX8_light 59 = .ok (.iconst 4, 1) := by decide +kernel
theorem dX8_light_60 : decode cX8_light 60 = .ok (.iaload, 1) := by decide +kernel
theorem dX8_light_61 : decode cX8_light 61 = .ok (.invokevirtual 88, 3) := by decide +kernel
theorem dX8_light_64 : decode cX8_light 64 = .ok (.aload_n 0, 1) := by decide +kernel
theorem dX8_light_65 : decode cX8_light 65 = .ok (.iload_n 1, 1) := by decide +kernel
theorem dX8_light_66 : decode cX8_light 66 = .ok (.invokevirtual 68, 3) := by decide +kernel
theorem dX8_light_69 : decode cX8_light 69 = .ok (.if_icmp .le 5, 3) := by decide +kernel
theorem dX8_light_72 : decode cX8_light 72 = .ok (.iconst 0, 1) := by decide +kernel
theorem dX8_light_73 : decode cX8_light 73 = .ok (.ireturn, 1) := by decide +kernel
theorem dX8_light_74 : decode cX8_light 74 = .ok (.aload_n 0, 1) := by decide +kernel
theorem dX8_light_75 : decode cX8_light 75 = .ok (.iload_n 1, 1) := by decide +kernel
theorem dX8_light_76 : decode cX8_light 76 = .ok (.iconst 4, 1) := by decide +kernel
theorem dX8_light_77 : decode cX8_light 77 = .ok (.iconst 1, 1) := by decide +kernel
theorem dX8_light_78 : decode cX8_light 78 = .ok (.invokevirtual 64, 3) := by decide +kernel
theorem dX8_light_81 : decode cX8_light 81 = .ok (.aload_n 0, 1) := by decide +kernel
theorem dX8_light_82 : decode cX8_light 82 = .ok (.iload_n 1, 1) := by decide +kernel
theorem dX8_light_83 : decode cX8_light 83 = .ok (.bipush 7, 2) := by decide +kernel
theorem dX8_light_85 : decode cX8_light 85 = .ok (.iconst 0, 1) := by decide +kernel
theorem dX8_light_86 : decode cX8_light 86 = .ok (.invokevirtual 64, 3) := by decide +kernel
theorem dX8_light_89 : decode cX8_light 89 = .ok (.aload_n 0, 1) := by decide +kernel
theorem dX8_light_90 : decode cX8_light 90 = .ok (.iconst 0, 1) := by decide +kernel
theorem dX8_light_91 : decode cX8_light 91 = .ok (.iload_n 1, 1) := by decide +kernel
theorem dX8_light_92 : decode cX8_light 92 = .ok (.invokevirtual 72, 3) := by decide +kernel
theorem dX8_light_95 : decode cX8_light 95 = .ok (.iconst 1, 1) := by decide +kernel
theorem dX8_light_96 : decode cX8_light 96 = .ok (.ireturn, 1) := by decide +kernel
set_option maxRecDepth 20000 in
theorem ggX8_unlock_X8_isBurner : GoodIn wsX8_unlock wsX8_isBurner := goodIn_r _ [5, 6, 7, 4, 8] (by decide +kernel) (by decide +kernel)
set_option maxRecDepth 20000 in
theorem gX8_unlock_X8_isBurner : GoodIn wsX8_unlock (va_wsS RX8 101 yX8_isBurner wsX8_isBurner) := goodIn_app (goodIn_of _ (by decide +kernel)) ggX8_unlock_X8_isBurner
set_option maxRecDepth 20000 in
theorem ggX8_unlock_X8_get : GoodIn wsX8_unlock wsX8_get := goodIn_r _ [12, 13, 28, 29, 30, 31, 32, 33, 34, 35, 36, 37, 38, 39, 40, 41] (by decide +kernel) (by decide +kernel)
set_option maxRecDepth 20000 in
theorem gX8_unlock_X8_get : GoodIn wsX8_unlock (wsV RX8 53 RX8 yX8_get wsX8_get) := goodIn_app (goodIn_of _ (by decide +kernel)) ggX8_unlock_X8_get
set_option maxRecDepth 20000 in
theorem ggX8_unlock_X8_records : GoodIn wsX8_unlock wsX8_records := goodIn_r _ [17, 18, 19, 13, 28, 29, 30, 31, 32, 33, 34, 35, 36, 37, 38, 39, 40, 41] (by decide +kernel) (by decide +kernel)
set_option maxRecDepth 20000 in
theorem gX8_unlock_X8_records : GoodIn wsX8_unlock (wsV RX8 98 RX8 yX8_records wsX8_records) := goodIn_app (goodIn_of _ (by decide +kernel)) ggX8_unlock_X8_records
set_option maxRecDepth 20000 in
theorem ggX8_unlock_X8_lay : GoodIn wsX8_unlock wsX8_lay := goodIn_r _ [23, 13, 28, 29, 30, 31, 32, 33, 34, 35, 36, 37, 38, 39, 40, 41] (by decide +kernel) (by decide +kernel)
set_option maxRecDepth 20000 in
theorem gX8_unlock_X8_lay : GoodIn wsX8_unlock (wsV RX8 64 RX8 yX8_lay wsX8_lay) := goodIn_app (goodIn_of _ (by decide +kernel)) ggX8_unlock_X8_lay
set_option maxRecDepth 20000 in
theorem ggX8_unlock_X8_sumOver : GoodIn wsX8_unlock wsX8_sumOver := goodIn_r _ [27, 9, 10, 11, 4, 12, 13, 28, 29, 30, 31, 32, 33, 34, 35, 36, 37, 38, 39, 40, 41] (by decide +kernel) (by decide +kernel)
set_option maxRecDepth 20000 in
theorem gX8_unlock_X8_sumOver : GoodIn wsX8_unlock (wsV RX8 139 RX8 yX8_sumOver wsX8_sumOver) := goodIn_app (goodIn_of _ (by decide +kernel)) ggX8_unlock_X8_sumOver
theorem dX8_unlock_0 : decode cX8_unlock 0 = .ok (.aload_n 0, 1) := by decide +kernel
theorem dX8_unlock_1 : decode cX8_unlock 1 = .ok (.iconst 0, 1) := by decide +kernel
theorem dX8_unlock_2 : decode cX8_unlock 2 = .ok (.putfield 31, 3) := by decide +kernel
theorem dX8_unlock_5 : decode cX8_unlock 5 = .ok (.iload_n 1, 1) := by decide +kernel
theorem dX8_unlock_6 : decode cX8_unlock 6 = .ok (.invokestatic 101, 3) := by decide +kernel
theorem dX8_unlock_9 : decode cX8_unlock 9 = .ok (.ifCond .ne 5, 3) := by decide +kernel
theorem dX8_unlock_12 : decode cX8_unlock 12 = .ok (.iconst (-1), 1) := by decide +kernel
theorem dX8_unlock_13 : decode cX8_unlock 13 = .ok (.ireturn, 1) := by decide +kernel
theorem dX8_unlock_14 : decode cX8_unlock 14 = .ok (.aload_n 0, 1) := by decide +kernel
theorem dX8_unlock_15 : decode cX8_unlock 15 = .ok (.iload_n 1, 1) := by decide +kernel
theorem dX8_unlock_16 : decode cX8_unlock 16 = .ok (.bipush 6, 2) := by decide +kernel
theorem dX8_unlock_18 : decode cX8_unlock 18 = .ok (.invokevirtual 53, 3) := by decide +kernel
theorem dX8_unlock_21 : decode cX8_unlock 21 = .ok (.ifCond .eq 12, 3) := by decide +kernel
theorem dX8_unlock_24 : decode cX8_unlock 24 = .ok (.aload_n 0, 1) := by decide +kernel
theorem dX8_unlock_25 : decode cX8_unlock 25 = .ok (.iload_n 1, 1) := by decide +kernel
theorem dX8_unlock_26 : decode cX8_unlock 26 = .ok (.iconst 1, 1) := by decide +kernel
theorem dX8_unlock_27 : decode cX8_unlock 27 = .ok (.invokevirtual 53, 3) := by decide +kernel
theorem dX8_unlock_30 : decode cX8_unlock 30 = .ok (.ifCond .eq 6, 3) := by decide +kernel
theorem dX8_unlock_33 : decode cX8_unlock 33 = .ok (.bipush (-4), 2) := by decide +kernel
theorem dX8_unlock_35 : decode cX8_unlock 35 = .ok (.ireturn, 1) := by decide +kernel
theorem dX8_unlock_36 : decode cX8_unlock 36 = .ok (.aload_n 0, 1) := by decide +kernel
theorem dX8_unlock_37 : decode cX8_unlock 37 = .ok (.invokevirtual 98, 3) := by decide +kernel
theorem dX8_unlock_40 : decode cX8_unlock 40 = .ok (.aload_n 0, 1) := by decide +kernel
theorem dX8_unlock_41 : decode cX8_unlock 41 = .ok (.iload_n 1, 1) := by decide +kernel
theorem dX8_unlock_42 : decode cX8_unlock 42 = .ok (.bipush 6, 2) := by decide +kernel
theorem dX8_unlock_44 : decode cX8_unlock 44 = .ok (.iconst 0, 1) := by decide +kernel
theorem dX8_unlock_45 : decode cX8_unlock 45 = .ok (.invokevirtual 64, 3) := by decide +kernel
theorem dX8_unlock_48 : decode cX8_unlock 48 = .ok (.aload_n 0, 1) := by decide +kernel
theorem dX8_unlock_49 : decode cX8_unlock 49 = .ok (.iload_n 1, 1) := by decide +kernel
theorem dX8_unlock_50 : decode cX8_unlock 50 = .ok (.bipush 7, 2) := by decide +kernel
theorem dX8_unlock_52 : decode cX8_unlock 52 = .ok (.iconst 0, 1) := by decide +kernel
theorem dX8_unlock_53 : decode cX8_unlock 53 = .ok (.invokevirtual 64, 3) := by decide +kernel
theorem dX8_unlock_56 : decode cX8_unlock 56 = .ok (.aload_n 0, 1) := by decide +kernel
theorem dX8_unlock_57 : decode cX8_unlock 57 = .ok (.bipush 6, 2) := by decide +kernel
theorem dX8_unlock_59 : decode cX8_unlock 59 = .ok (.invokevirtual 139, 3) := by decide +kernel
theorem dX8_unlock_62 : decode cX8_unlock 62 = .ok (.ireturn, 1) := by decide +kernel
set_option maxRecDepth 20000 in
theorem ggX8_pass_X8_in : GoodIn wsX8_pass wsX8_in := goodIn_r _ [7] (by decide +kernel) (by decide +kernel)
set_option maxRecDepth 20000 in
theorem gX8_pass_X8_in : GoodIn wsX8_pass (va_wsS RX8 35 yX8_in wsX8_in) := goodIn_app (goodIn_of _ (by decide +kernel)) ggX8_pass_X8_in
set_option maxRecDepth 20000 in
theorem ggX8_pass_X8_records : GoodIn wsX8_pass wsX8_records := goodIn_r _ [11, 12, 13, 2, 75, 76, 77, 78, 79, 80, 81, 82, 83, 84, 85, 86, 87, 88] (by decide +kernel) (by decide +kernel)
set_option maxRecDepth 20000 in
theorem gX8_pass_X8_records : GoodIn wsX8_pass (wsV RX8 98 RX8 yX8_records wsX8_records) := goodIn_app (goodIn_of _ (by decide +kernel)) ggX8_pass_X8_records
set_option maxRecDepth 20000 in
theorem ggX8_pass_X8_totals : GoodIn wsX8_pass wsX8_totals := goodIn_r _ [17, 2, 75, 76, 77, 78, 79, 80, 81, 82, 83, 84, 85, 86, 87, 88] (by decide +kernel) (by decide +kernel)
set_option maxRecDepth 20000 in
theorem gX8_pass_X8_totals : GoodIn wsX8_pass (wsV RX8 143 RX8 yX8_totals wsX8_totals) := goodIn_app (goodIn_of _ (by decide +kernel)) ggX8_pass_X8_totals
set_option maxRecDepth 20000 in
theorem ggX8_pass_X8_ticks : GoodIn wsX8_pass wsX8_ticks := goodIn_r _ [21, 2, 22, 23, 24, 6, 25, 26, 27, 28, 29, 30, 31, 32, 33, 34, 35, 36, 37, 38, 39, 40, 41, 42, 43, 44, 45, 46, 47, 48, 49, 50, 51, 52, 53, 54, 55, 56, 57, 58, 59, 60, 61, 62, 63, 64, 65, 66, 67, 68, 69, 70, 71, 72, 73, 74, 75, 76, 77, 78, 79, 80, 81, 82, 83, 84, 85, 86, 87, 88] (by decide +kernel) (by decide +kernel)
set_option maxRecDepth 20000 in
theorem gX8_pass_X8_ticks : GoodIn wsX8_pass (wsV RX8 146 RX8 yX8_ticks wsX8_ticks) := goodIn_app (goodIn_of _ (by decide +kernel)) ggX8_pass_X8_ticks
theorem dX8_pass_0 : decode cX8_pass 0 = .ok (.aload_n 0, 1) := by decide +kernel
theorem dX8_pass_1 : decode cX8_pass 1 = .ok (.iconst 0, 1) := by decide +kernel
theorem dX8_pass_2 : decode cX8_pass 2 = .ok (.putfield 31, 3) := by decide +kernel
theorem dX8_pass_5 : decode cX8_pass 5 = .ok (.iload_n 1, 1) := by decide +kernel
theorem dX8_pass_6 : decode cX8_pass 6 = .ok (.iconst 1, 1) := by decide +kernel
theorem dX8_pass_7 : decode cX8_pass 7 = .ok (.sipush 200, 3) := by decide +kernel
theorem dX8_pass_10 : decode cX8_pass 10 = .ok (.invokestatic 35, 3) := by decide +kernel
theorem dX8_pass_13 : decode cX8_pass 13 = .ok (.ifCond .ne 6, 3) := by decide +kernel
theorem dX8_pass_16 : decode cX8_pass 16 = .ok (.bipush (-2), 2) := by decide +kernel
theorem dX8_pass_18 : decode cX8_pass 18 = .ok (.ireturn, 1) := by decide +kernel
theorem dX8_pass_19 : decode cX8_pass 19 = .ok (.aload_n 0, 1) := by decide +kernel
theorem dX8_pass_20 : decode cX8_pass 20 = .ok (.getfield 7, 3) := by decide +kernel
theorem dX8_pass_23 : decode cX8_pass 23 = .ok (.iconst 4, 1) := by decide +kernel
theorem dX8_pass_24 : decode cX8_pass 24 = .ok (.iaload, 1) := by decide +kernel
theorem dX8_pass_25 : decode cX8_pass 25 = .ok (.iload_n 1, 1) := by decide +kernel
theorem dX8_pass_26 : decode cX8_pass 26 = .ok (.iadd, 1) := by decide +kernel
theorem dX8_pass_27 : decode cX8_pass 27 = .ok (.ldc 142, 2) := by decide +kernel
theorem dX8_pass_29 : decode cX8_pass 29 = .ok (.if_icmp .le 6, 3) := by decide +kernel
theorem dX8_pass_32 : decode cX8_pass 32 = .ok (.bipush (-3), 2) := by decide +kernel
theorem dX8_pass_34 : decode cX8_pass 34 = .ok (.ireturn, 1) := by decide +kernel
theorem dX8_pass_35 : decode cX8_pass 35 = .ok (.aload_n 0, 1) := by decide +kernel
theorem dX8_pass_36 : decode cX8_pass 36 = .ok (.invokevirtual 98, 3) := by decide +kernel
theorem dX8_pass_39 : decode cX8_pass 39 = .ok (.aload_n 0, 1) := by decide +kernel
theorem dX8_pass_40 : decode cX8_pass 40 = .ok (.invokevirtual 143, 3) := by decide +kernel
theorem dX8_pass_43 : decode cX8_pass 43 = .ok (.istore_n 2, 1) := by decide +kernel
theorem dX8_pass_44 : decode cX8_pass 44 = .ok (.iconst 0, 1) := by decide +kernel
theorem dX8_pass_45 : decode cX8_pass 45 = .ok (.istore_n 3, 1) := by decide +kernel
theorem dX8_pass_46 : decode cX8_pass 46 = .ok (.iload_n 3, 1) := by decide +kernel
theorem dX8_pass_47 : decode cX8_pass 47 = .ok (.iload_n 1, 1) := by decide +kernel
theorem dX8_pass_48 : decode cX8_pass 48 = .ok (.if_icmp .ge 13, 3) := by decide +kernel
theorem dX8_pass_51 : decode cX8_pass 51 = .ok (.aload_n 0, 1) := by decide +kernel
theorem dX8_pass_52 : decode cX8_pass 52 = .ok (.invokevirtual 146, 3) := by decide +kernel
theorem dX8_pass_55 : decode cX8_pass 55 = .ok (.iinc 3 1, 3) := by decide +kernel
theorem dX8_pass_58 : decode cX8_pass 58 = .ok (.goto (-12), 3) := by decide +kernel
theorem dX8_pass_61 : decode cX8_pass 61 = .ok (.aload_n 0, 1) := by decide +kernel
theorem dX8_pass_62 : decode cX8_pass 62 = .ok (.invokevirtual 143, 3) := by decide +kernel
theorem dX8_pass_65 : decode cX8_pass 65 = .ok (.iload_n 2, 1) := by decide +kernel
theorem dX8_pass_66 : decode cX8_pass 66 = .ok (.isub, 1) := by decide +kernel
theorem dX8_pass_67 : decode cX8_pass 67 = .ok (.ireturn, 1) := by decide +kernel
theorem dX8_type_0 : decode cX8_type 0 = .ok (.aload_n 0, 1) := by decide +kernel
theorem dX8_type_1 : decode cX8_type 1 = .ok (.iconst 0, 1) := by decide +kernel
theorem dX8_type_2 : decode cX8_type 2 = .ok (.putfield 31, 3) := by decide +kernel
theorem dX8_type_5 : decode cX8_type 5 = .ok (.aload_n 0, 1) := by decide +kernel
theorem dX8_type_6 : decode cX8_type 6 = .ok (.getfield 113, 3) := by decide +kernel
theorem dX8_type_9 : decode cX8_type 9 = .ok (.bipush 60, 2) := by decide +kernel
theorem dX8_type_11 : decode cX8_type 11 = .ok (.if_icmp .ne 6, 3) := by decide +kernel
theorem dX8_type_14 : decode cX8_type 14 = .ok (.bipush (-3), 2) := by decide +kernel
theorem dX8_type_16 : decode cX8_type 16 = .ok (.ireturn, 1) := by decide +kernel
theorem dX8_type_17 : decode cX8_type 17 = .ok (.aload_n 0, 1) := by decide +kernel
theorem dX8_type_18 : decode cX8_type 18 = .ok (.getfield 22, 3) := by decide +kernel
theorem dX8_type_21 : decode cX8_type 21 = .ok (.aload_n 0, 1) := by decide +kernel
theorem dX8_type_22 : decode cX8_type 22 = .ok (.getfield 113, 3) := by decide +kernel
theorem dX8_type_25 : decode cX8_type 25 = .ok (.iload_n 1, 1) := by decide +kernel
theorem dX8_type_26 : decode cX8_type 26 = .ok (.iastore, 1) := by decide +kernel
theorem dX8_type_27 : decode cX8_type 27 = .ok (.aload_n 0, 1) := by decide +kernel
theorem dX8_type_28 : decode cX8_type 28 = .ok (.dup, 1) := by decide +kernel
theorem dX8_type_29 : decode cX8_type 29 = .ok (.getfield 113, 3) := by decide +kernel
theorem dX8_type_32 : decode cX8_type 32 = .ok (.iconst 1, 1) := by decide +kernel
theorem dX8_type_33 : decode cX8_type 33 = .ok (.iadd, 1) := by decide +kernel
theorem dX8_type_34 : decode cX8_type 34 = .ok (.putfield 113, 3) := by decide +kernel
theorem dX8_type_37 : decode cX8_type 37 = .ok (.aload_n 0, 1) := by decide +kernel
theorem dX8_type_38 : decode cX8_type 38 = .ok (.getfield 113, 3) := by decide +kernel
theorem dX8_type_41 : decode cX8_type 41 = .ok (.ireturn, 1) := by decide +kernel
theorem dX8_clearText_0 : decode cX8_clearText 0 = .ok (.aload_n 0, 1) := by decide +kernel
theorem dX8_clearText_1 : decode cX8_clearText 1 = .ok (.iconst 0, 1) := by decide +kernel
theorem dX8_clearText_2 : decode cX8_clearText 2 = .ok (.putfield 31, 3) := by decide +kernel
theorem dX8_clearText_5 : decode cX8_clearText 5 = .ok (.aload_n 0, 1) := by decide +kernel
theorem dX8_clearText_6 : decode cX8_clearText 6 = .ok (.getfield 113, 3) := by decide +kernel
theorem dX8_clearText_9 : decode cX8_clearText 9 = .ok (.istore_n 1, 1) := by decide +kernel
theorem dX8_clearText_10 : decode cX8_clearText 10 = .ok (.aload_n 0, 1) := by decide +kernel
theorem dX8_clearText_11 : decode cX8_clearText 11 = .ok (.iconst 0, 1) := by decide +kernel
theorem dX8_clearText_12 : decode cX8_clearText 12 = .ok (.putfield 113, 3) := by decide +kernel
theorem dX8_clearText_15 : decode cX8_clearText 15 = .ok (.iload_n 1, 1) := by decide +kernel
theorem dX8_clearText_16 : decode cX8_clearText 16 = .ok (.ireturn, 1) := by decide +kernel
theorem dX8_undo_0 : decode cX8_undo 0 = .ok (.aload_n 0, 1) := by decide +kernel
theorem dX8_undo_1 : decode cX8_undo 1 = .ok (.iconst 0, 1) := by decide +kernel
theorem dX8_undo_2 : decode cX8_undo 2 = .ok (.putfield 31, 3) := by decide +kernel
theorem dX8_undo_5 : decode cX8_undo 5 = .ok (.aload_n 0, 1) := by decide +kernel
theorem dX8_undo_6 : decode cX8_undo 6 = .ok (.getfield 39, 3) := by decide +kernel
theorem dX8_undo_9 : decode cX8_undo 9 = .ok (.ifCond .ne 6, 3) := by decide +kernel
theorem dX8_undo_12 : decode cX8_undo 12 = .ok (.bipush (-5), 2) := by decide +kernel
theorem dX8_undo_14 : decode cX8_undo 14 = .ok (.ireturn, 1) := by decide +kernel
theorem dX8_undo_15 : decode cX8_undo 15 = .ok (.aload_n 0, 1) := by decide +kernel
theorem dX8_undo_16 : decode cX8_undo 16 = .ok (.dup, 1) := by decide +kernel
theorem dX8_undo_17 : decode cX8_undo 17 = .ok (.getfield 39, 3) := by decide +kernel
theorem dX8_undo_20 : decode cX8_undo 20 = .ok (.iconst 1, 1) := by decide +kernel
theorem dX8_undo_21 : decode cX8_undo 21 = .ok (.isub, 1) := by decide +kernel
theorem dX8_undo_22 : decode cX8_undo 22 = .ok (.putfield 39, 3) := by decide +kernel
theorem dX8_undo_25 : decode cX8_undo 25 = .ok (.iconst 0, 1) := by decide +kernel
theorem dX8_undo_26 : decode cX8_undo 26 = .ok (.istore_n 1, 1) := by decide +kernel
theorem dX8_undo_27 : decode cX8_undo 27 = .ok (.iload_n 1, 1) := by decide +kernel
theorem dX8_undo_28 : decode cX8_undo 28 = .ok (.bipush 108, 2) := by decide +kernel
theorem dX8_undo_30 : decode cX8_undo 30 = .ok (.if_icmp .ge 29, 3) := by decide +kernel
theorem dX8_undo_33 : decode cX8_undo 33 = .ok (.aload_n 0, 1) := by decide +kernel
theorem dX8_undo_34 : decode cX8_undo 34 = .ok (.getfield 7, 3) := by decide +kernel
theorem dX8_undo_37 : decode cX8_undo 37 = .ok (.iload_n 1, 1) := by decide +kernel
theorem dX8_undo_38 : decode cX8_undo 38 = .ok (.aload_n 0, 1) := by decide +kernel
theorem dX8_undo_39 : decode cX8_undo 39 = .ok (.getfield 16, 3) := by decide +kernel
theorem dX8_undo_42 : decode cX8_undo 42 = .ok (.bipush 108, 2) := by decide +kernel
theorem dX8_undo_44 : decode cX8_undo 44 = .ok (.aload_n 0, 1) := by decide +kernel
theorem dX8_undo_45 : decode cX8_undo 45 = .ok (.getfield 39, 3) := by decide +kernel
theorem dX8_undo_48 : decode cX8_undo 48 = .ok (.imul, 1) := by decide +kernel
theorem dX8_undo_49 : decode cX8_undo 49 = .ok (.iload_n 1, 1) := by decide +kernel
theorem dX8_undo_50 : decode cX8_undo 50 = .ok (.iadd, 1) := by decide +kernel
theorem dX8_undo_51 : decode cX8_undo 51 = .ok (.iaload, 1) := by decide +kernel
theorem dX8_undo_52 : decode cX8_undo 52 = .ok (.iastore, 1) := by decide +kernel
theorem dX8_undo_53 : decode cX8_undo 53 = .ok (.iinc 1 1, 3) := by decide +kernel
theorem dX8_undo_56 : decode cX8_undo 56 = .ok (.goto (-29), 3) := by decide +kernel
theorem dX8_undo_59 : decode cX8_undo 59 = .ok (.aload_n 0, 1) := by decide +kernel
theorem dX8_undo_60 : decode cX8_undo 60 = .ok (.getfield 39, 3) := by decide +kernel
theorem dX8_undo_63 : decode cX8_undo 63 = .ok (.ireturn, 1) := by decide +kernel
theorem dX8_keep_0 : decode cX8_keep 0 = .ok (.aload_n 0, 1) := by decide +kernel
theorem dX8_keep_1 : decode cX8_keep 1 = .ok (.iconst 0, 1) := by decide +kernel
theorem dX8_keep_2 : decode cX8_keep 2 = .ok (.putfield 31, 3) := by decide +kernel
theorem dX8_keep_5 : decode cX8_keep 5 = .ok (.iconst 0, 1) := by decide +kernel
theorem dX8_keep_6 : decode cX8_keep 6 = .ok (.istore_n 1, 1) := by decide +kernel
theorem dX8_keep_7 : decode cX8_keep 7 = .ok (.iload_n 1, 1) := by decide +kernel
theorem dX8_keep_8 : decode cX8_keep 8 = .ok (.bipush 108, 2) := by decide +kernel
theorem dX8_keep_10 : decode cX8_keep 10 = .ok (.if_icmp .ge 21, 3) := by decide +kernel
theorem dX8_keep_13 : decode cX8_keep 13 = .ok (.aload_n 0, 1) := by decide +kernel
theorem dX8_keep_14 : decode cX8_keep 14 = .ok (.getfield 19, 3) := by decide +kernel
theorem dX8_keep_17 : decode cX8_keep 17 = .ok (.iload_n 1, 1) := by decide +kernel
theorem dX8_keep_18 : decode cX8_keep 18 = .ok (.aload_n 0, 1) := by decide +kernel
theorem dX8_keep_19 : decode cX8_keep 19 = .ok (.getfield 7, 3) := by decide +kernel
theorem dX8_keep_22 : decode cX8_keep 22 = .ok (.iload_n 1, 1) := by decide +kernel
theorem dX8_keep_23 : decode cX8_keep 23 = .ok (.iaload, 1) := by decide +kernel
theorem dX8_keep_24 : decode cX8_keep 24 = .ok (.iastore, 1) := by decide +kernel
theorem dX8_keep_25 : decode cX8_keep 25 = .ok (.iinc 1 1, 3) := by decide +kernel
theorem dX8_keep_28 : decode cX8_keep 28 = .ok (.goto (-21), 3) := by decide +kernel
theorem dX8_keep_31 : decode cX8_keep 31 = .ok (.aload_n 0, 1) := by decide +kernel
theorem dX8_keep_32 : decode cX8_keep 32 = .ok (.iconst 1, 1) := by decide +kernel
theorem dX8_keep_33 : decode cX8_keep 33 = .ok (.putfield 149, 3) := by decide +kernel
theorem dX8_keep_36 : decode cX8_keep 36 = .ok (.aload_n 0, 1) := by decide +kernel
theorem dX8_keep_37 : decode cX8_keep 37 = .ok (.getfield 7, 3) := by decide +kernel
theorem dX8_keep_40 : decode cX8_keep 40 = .ok (.iconst 4, 1) := by decide +kernel
theorem dX8_keep_41 : decode cX8_keep 41 = .ok (.iaload, 1) := by decide +kernel
theorem dX8_keep_42 : decode cX8_keep 42 = .ok (.ireturn, 1) := by decide +kernel
set_option maxRecDepth 20000 in
theorem ggX8_restore_X8_records : GoodIn wsX8_restore wsX8_records := goodIn_r _ [9, 10, 11, 3, 12, 13, 14, 15, 16, 17, 18, 19, 20, 21, 22, 23, 24, 25] (by decide +kernel) (by decide +kernel)
set_option maxRecDepth 20000 in
theorem gX8_restore_X8_records : GoodIn wsX8_restore (wsV RX8 98 RX8 yX8_records wsX8_records) := goodIn_app (goodIn_of _ (by decide +kernel)) ggX8_restore_X8_records
theorem dX8_restore_0 : decode cX8_restore 0 = .ok (.aload_n 0, 1) := by decide +kernel
theorem dX8_restore_1 : decode cX8_restore 1 = .ok (.iconst 0, 1) := by decide +kernel
theorem dX8_restore_2 : decode cX8_restore 2 = .ok (.putfield 31, 3) := by decide +kernel
theorem dX8_restore_5 : decode cX8_restore 5 = .ok (.aload_n 0, 1) := by decide +kernel
theorem dX8_restore_6 : decode cX8_restore 6 = .ok (.getfield 149, 3) := by decide +kernel
theorem dX8_restore_9 : decode cX8_restore 9 = .ok (.ifCond .ne 6, 3) := by decide +kernel
theorem dX8_restore_12 : decode cX8_restore 12 = .ok (.bipush (-5), 2) := by decide +kernel
theorem dX8_restore_14 : decode cX8_restore 14 = .ok (.ireturn, 1) := by decide +kernel
theorem dX8_restore_15 : decode cX8_restore 15 = .ok (.aload_n 0, 1) := by decide +kernel
theorem dX8_restore_16 : decode cX8_restore 16 = .ok (.invokevirtual 98, 3) := by decide +kernel
theorem dX8_restore_19 : decode cX8_restore 19 = .ok (.iconst 0, 1) := by decide +kernel
theorem dX8_restore_20 : decode cX8_restore 20 = .ok (.istore_n 1, 1) := by decide +kernel
theorem dX8_restore_21 : decode cX8_restore 21 = .ok (.iload_n 1, 1) := by decide +kernel
theorem dX8_restore_22 : decode cX8_restore 22 = .ok (.bipush 108, 2) := by decide +kernel
theorem dX8_restore_24 : decode cX8_restore 24 = .ok (.if_icmp .ge 21, 3) := by decide +kernel
theorem dX8_restore_27 : decode cX8_restore 27 = .ok (.aload_n 0, 1) := by decide +kernel
theorem dX8_restore_28 : decode cX8_restore 28 = .ok (.getfield 7, 3) := by decide +kernel
theorem dX8_restore_31 : decode cX8_restore 31 = .ok (.iload_n 1, 1) := by decide +kernel
theorem dX8_restore_32 : decode cX8_restore 32 = .ok (.aload_n 0, 1) := by decide +kernel
theorem dX8_restore_33 : decode cX8_restore 33 = .ok (.getfield 19, 3) := by decide +kernel
theorem dX8_restore_36 : decode cX8_restore 36 = .ok (.iload_n 1, 1) := by decide +kernel
theorem dX8_restore_37 : decode cX8_restore 37 = .ok (.iaload, 1) := by decide +kernel
theorem dX8_restore_38 : decode cX8_restore 38 = .ok (.iastore, 1) := by decide +kernel
theorem dX8_restore_39 : decode cX8_restore 39 = .ok (.iinc 1 1, 3) := by decide +kernel
theorem dX8_restore_42 : decode cX8_restore 42 = .ok (.goto (-21), 3) := by decide +kernel
theorem dX8_restore_45 : decode cX8_restore 45 = .ok (.aload_n 0, 1) := by decide +kernel
theorem dX8_restore_46 : decode cX8_restore 46 = .ok (.getfield 7, 3) := by decide +kernel
theorem dX8_restore_49 : decode cX8_restore 49 = .ok (.iconst 4, 1) := by decide +kernel
theorem dX8_restore_50 : decode cX8_restore 50 = .ok (.iaload, 1) := by decide +kernel
theorem dX8_restore_51 : decode cX8_restore 51 = .ok (.ireturn, 1) := by decide +kernel
set_option maxRecDepth 20000 in
theorem ggX8_burner_X8_isBurner : GoodIn wsX8_burner wsX8_isBurner := goodIn_r _ [5, 6, 7, 4, 8] (by decide +kernel) (by decide +kernel)
set_option maxRecDepth 20000 in
theorem gX8_burner_X8_isBurner : GoodIn wsX8_burner (va_wsS RX8 101 yX8_isBurner wsX8_isBurner) := goodIn_app (goodIn_of _ (by decide +kernel)) ggX8_burner_X8_isBurner
set_option maxRecDepth 20000 in
theorem ggX8_burner_X8_isOpen : GoodIn wsX8_burner wsX8_isOpen := goodIn_r _ [12, 13, 14, 15, 16, 4, 17, 28, 29, 30, 31, 32, 33, 34, 35, 36, 37, 38, 39, 40, 41] (by decide +kernel) (by decide +kernel)
set_option maxRecDepth 20000 in
theorem gX8_burner_X8_isOpen : GoodIn wsX8_burner (wsV RX8 60 RX8 yX8_isOpen wsX8_isOpen) := goodIn_app (goodIn_of _ (by decide +kernel)) ggX8_burner_X8_isOpen
set_option maxRecDepth 20000 in
theorem ggX8_burner_X8_get : GoodIn wsX8_burner wsX8_get := goodIn_r _ [17, 13, 28, 29, 30, 31, 32, 33, 34, 35, 36, 37, 38, 39, 40, 41] (by decide +kernel) (by decide +kernel)
set_option maxRecDepth 20000 in
theorem gX8_burner_X8_get : GoodIn wsX8_burner (wsV RX8 53 RX8 yX8_get wsX8_get) := goodIn_app (goodIn_of _ (by decide +kernel)) ggX8_burner_X8_get
set_option maxRecDepth 20000 in
theorem ggX8_burner_X8_strength : GoodIn wsX8_burner wsX8_strength := goodIn_r _ [21, 14, 15, 16, 4, 17, 13, 22, 23, 24, 25, 26, 27, 28, 29, 30, 31, 32, 33, 34, 35, 36, 37, 38, 39, 40, 41] (by decide +kernel) (by decide +kernel)
set_option maxRecDepth 20000 in
theorem gX8_burner_X8_strength : GoodIn wsX8_burner (wsV RX8 68 RX8 yX8_strength wsX8_strength) := goodIn_app (goodIn_of _ (by decide +kernel)) ggX8_burner_X8_strength
set_option maxRecDepth 20000 in
theorem ggX8_burner_X8_in : GoodIn wsX8_burner wsX8_in := goodIn_r _ [8] (by decide +kernel) (by decide +kernel)
set_option maxRecDepth 20000 in
theorem gX8_burner_X8_in : GoodIn wsX8_burner (va_wsS RX8 35 yX8_in wsX8_in) := goodIn_app (goodIn_of _ (by decide +kernel)) ggX8_burner_X8_in
theorem dX8_burner_0 : decode cX8_burner 0 = .ok (.aload_n 0, 1) := by decide +kernel
theorem dX8_burner_1 : decode cX8_burner 1 = .ok (.iconst 0, 1) := by decide +kernel
theorem dX8_burner_2 : decode cX8_burner 2 = .ok (.putfield 31, 3) := by decide +kernel
theorem dX8_burner_5 : decode cX8_burner 5 = .ok (.iload_n 1, 1) := by decide +kernel
theorem dX8_burner_6 : decode cX8_burner 6 = .ok (.invokestatic 101, 3) := by decide +kernel
theorem dX8_burner_9 : decode cX8_burner 9 = .ok (.ifCond .ne 5, 3) := by decide +kernel
theorem dX8_burner_12 : decode cX8_burner 12 = .ok (.iconst (-1), 1) := by decide +kernel
theorem dX8_burner_13 : decode cX8_burner 13 = .ok (.ireturn, 1) := by decide +kernel
theorem dX8_burner_14 : decode cX8_burner 14 = .ok (.iload_n 2, 1) := by decide +kernel
theorem dX8_burner_15 : decode cX8_burner 15 = .ok (.tableswitch 89 6 11 #[37, 51, 59, 67, 75, 83], 37) := by decide +kernel
theorem dX8_burner_52 : decode cX8_burner 52 = .ok (.aload_n 0, 1) := by decide +kernel
theorem dX8_burner_53 : decode cX8_burner 53 = .ok (.iload_n 1, 1) := by decide +kernel
theorem dX8_burner_54 : decode cX8_burner 54 = .ok (.invokevirtual 60, 3) := by decide +kernel
theorem dX8_burner_57 : decode cX8_burner 57 = .ok (.ifCond .eq 7, 3) := by decide +kernel
theorem dX8_burner_60 : decode cX8_burner 60 = .ok (.iconst 1, 1) := by decide +kernel
theorem dX8_burner_61 : decode cX8_burner 61 = .ok (.goto 4, 3) := by decide +kernel
theorem dX8_burner_64 : decode cX8_burner 64 = .ok (.iconst 0, 1) := by decide +kernel
theorem dX8_burner_65 : decode cX8_burner 65 = .ok (.ireturn, 1) := by decide +kernel
theorem dX8_burner_66 : decode cX8_burner 66 = .ok (.aload_n 0, 1) := by decide +kernel
theorem dX8_burner_67 : decode cX8_burner 67 = .ok (.iload_n 1, 1) := by decide +kernel
theorem dX8_burner_68 : decode cX8_burner 68 = .ok (.bipush 6, 2) := by decide +kernel
theorem dX8_burner_70 : decode cX8_burner 70 = .ok (.invokevirtual 53, 3) := by decide +kernel
theorem dX8_burner_73 : decode cX8_burner 73 = .ok (.ireturn, 1) := by decide +kernel
theorem dX8_burner_74 : decode cX8_burner 74 = .ok (.aload_n 0, 1) := by decide +kernel
theorem dX8_burner_75 : decode cX8_burner 75 = .ok (.iload_n 1, 1) := by decide +kernel
theorem dX8_burner_76 : decode cX8_burner 76 = .ok (.bipush 7, 2) := by decide +kernel
theorem dX8_burner_78 : decode cX8_burner 78 = .ok (.invokevirtual 53, 3) := by decide +kernel
theorem dX8_burner_81 : decode cX8_burner 81 = .ok (.ireturn, 1) := by decide +kernel
theorem dX8_burner_82 : decode cX8_burner 82 = .ok (.aload_n 0, 1) := by decide +kernel
theorem dX8_burner_83 : decode cX8_burner 83 = .ok (.iload_n 1, 1) := by decide +kernel
theorem dX8_burner_84 : decode cX8_burner 84 = .ok (.bipush 8, 2) := by decide +kernel
theorem dX8_burner_86 : decode cX8_burner 86 = .ok (.invokevirtual 53, 3) := by decide +kernel
theorem dX8_burner_89 : decode cX8_burner 89 = .ok (.ireturn, 1) := by decide +kernel
theorem dX8_burner_90 : decode cX8_burner 90 = .ok (.aload_n 0, 1) := by decide +kernel
theorem dX8_burner_91 : decode cX8_burner 91 = .ok (.iload_n 1, 1) := by decide +kernel
theorem dX8_burner_92 : decode cX8_burner 92 = .ok (.bipush 9, 2) := by decide +kernel
theorem dX8_burner_94 : decode cX8_burner 94 = .ok (.invokevirtual 53, 3) := by decide +kernel
theorem dX8_burner_97 : decode cX8_burner 97 = .ok (.ireturn, 1) := by decide +kernel
theorem dX8_burner_98 : decode cX8_burner 98 = .ok (.aload_n 0, 1) := by decide +kernel
theorem dX8_burner_99 : decode cX8_burner 99 = .ok (.iload_n 1, 1) := by decide +kernel
theorem dX8_burner_100 : decode cX8_burner 100 = .ok (.invokevirtual 68, 3) := by decide +kernel
theorem dX8_burner_103 : decode cX8_burner 103 = .ok (.ireturn, 1) := by decide +kernel
theorem dX8_burner_104 : decode cX8_burner 104 = .ok (.iload_n 2, 1) := by decide +kernel
theorem dX8_burner_105 : decode cX8_burner 105 = .ok (.iconst 0, 1) := by decide +kernel
theorem dX8_burner_106 : decode cX8_burner 106 = .ok (.iconst 5, 1) := by decide +kernel
theorem dX8_burner_107 : decode cX8_burner 107 = .ok (.invokestatic 35, 3) := by decide +kernel
theorem dX8_burner_110 : decode cX8_burner 110 = .ok (.ifCond .eq 12, 3) := by decide +kernel
theorem dX8_burner_113 : decode cX8_burner 113 = .ok (.aload_n 0, 1) := by decide +kernel
theorem dX8_burner_114 : decode cX8_burner 114 = .ok (.iload_n 1, 1) := by decide +kernel
theorem dX8_burner_115 : decode cX8_burner 115 = .ok (.iload_n 2, 1) := by decide +kernel
theorem dX8_burner_116 : decode cX8_burner 116 = .ok (.invokevirtual 53, 3) := by decide +kernel
theorem dX8_burner_119 : decode cX8_burner 119 = .ok (.goto 5, 3) := by decide +kernel
theorem dX8_burner_122 : decode cX8_burner 122 = .ok (.bipush (-2), 2) := by decide +kernel
theorem dX8_burner_124 : decode cX8_burner 124 = .ok (.ireturn, 1) := by decide +kernel
set_option maxRecDepth 20000 in
theorem ggX8_staysOpen_X8_isBurner : GoodIn wsX8_staysOpen wsX8_isBurner := goodIn_r _ [6, 7, 8, 5, 9] (by decide +kernel) (by decide +kernel)
set_option maxRecDepth 20000 in
theorem gX8_staysOpen_X8_isBurner : GoodIn wsX8_staysOpen (va_wsS RX8 101 yX8_isBurner wsX8_isBurner) := goodIn_app (goodIn_of _ (by decide +kernel)) ggX8_staysOpen_X8_isBurner
set_option maxRecDepth 20000 in
theorem ggX8_staysOpen_X8_get : GoodIn wsX8_staysOpen wsX8_get := goodIn_r _ [13, 2, 20, 21, 22, 23, 24, 25, 26, 27, 28, 29, 30, 31, 32, 33] (by decide +kernel) (by decide +kernel)
set_option maxRecDepth 20000 in
theorem gX8_staysOpen_X8_get : GoodIn wsX8_staysOpen (wsV RX8 53 RX8 yX8_get wsX8_get) := goodIn_app (goodIn_of _ (by decide +kernel)) ggX8_staysOpen_X8_get
set_option maxRecDepth 20000 in
theorem ggX8_staysOpen_X8_cooled : GoodIn wsX8_staysOpen wsX8_cooled := goodIn_r _ [16, 17, 18, 5, 19] (by decide +kernel) (by decide +kernel)
set_option maxRecDepth 20000 in
theorem gX8_staysOpen_X8_cooled : GoodIn wsX8_staysOpen (va_wsS RX8 50 yX8_cooled wsX8_cooled) := goodIn_app (goodIn_of _ (by decide +kernel)) ggX8_staysOpen_X8_cooled
theorem dX8_staysOpen_0 : decode cX8_staysOpen 0 = .ok (.aload_n 0, 1) := by decide +kernel
theorem dX8_staysOpen_1 : decode cX8_staysOpen 1 = .ok (.iconst 0, 1) := by decide +kernel
theorem dX8_staysOpen_2 : decode cX8_staysOpen 2 = .ok (.putfield 31, 3) := by decide +kernel
theorem dX8_staysOpen_5 : decode cX8_staysOpen 5 = .ok (.iload_n 1, 1) := by decide +kernel
theorem dX8_staysOpen_6 : decode cX8_staysOpen 6 = .ok (.invokestatic 101, 3) := by decide +kernel
theorem dX8_staysOpen_9 : decode cX8_staysOpen 9 = .ok (.ifCond .ne 5, 3) := by decide +kernel
theorem dX8_staysOpen_12 : decode cX8_staysOpen 12 = .ok (.iconst (-1), 1) := by decide +kernel
theorem dX8_staysOpen_13 : decode cX8_staysOpen 13 = .ok (.ireturn, 1) := by decide +kernel
theorem dX8_staysOpen_14 : decode cX8_staysOpen 14 = .ok (.aload_n 0, 1) := by decide +kernel
theorem dX8_staysOpen_15 : decode cX8_staysOpen 15 = .ok (.iload_n 1, 1) := by decide +kernel
theorem dX8_staysOpen_16 : decode cX8_staysOpen 16 = .ok (.iconst 1, 1) := by decide +kernel
theorem dX8_staysOpen_17 : decode cX8_staysOpen 17 = .ok (.invokevirtual 53, 3) := by decide +kernel
theorem dX8_staysOpen_20 : decode cX8_staysOpen 20 = .ok (.ifCond .eq 14, 3) := by decide +kernel
theorem dX8_staysOpen_23 : decode cX8_staysOpen 23 = .ok (.aload_n 0, 1) := by decide +kernel
theorem dX8_staysOpen_24 : decode cX8_staysOpen 24 = .ok (.iload_n 1, 1) := by decide +kernel
theorem dX8_staysOpen_25 : decode cX8_staysOpen 25 = .ok (.bipush 6, 2) := by decide +kernel
theorem dX8_staysOpen_27 : decode cX8_staysOpen 27 = .ok (.invokevirtual 53, 3) := by decide +kernel
theorem dX8_staysOpen_30 : decode cX8_staysOpen 30 = .ok (.iconst 1, 1) := by decide +kernel
theorem dX8_staysOpen_31 : decode cX8_staysOpen 31 = .ok (.if_icmp .ne 6, 3) := by decide +kernel
theorem dX8_staysOpen_34 : decode cX8_staysOpen 34 = .ok (.bipush (-4), 2) := by decide +kernel
theorem dX8_staysOpen_36 : decode cX8_staysOpen 36 = .ok (.ireturn, 1) := by decide +kernel
theorem dX8_staysOpen_37 : decode cX8_staysOpen 37 = .ok (.iconst 0, 1) := by decide +kernel
theorem dX8_staysOpen_38 : decode cX8_staysOpen 38 = .ok (.istore_n 2, 1) := by decide +kernel
theorem dX8_staysOpen_39 : decode cX8_staysOpen 39 = .ok (.aload_n 0, 1) := by decide +kernel
theorem dX8_staysOpen_40 : decode cX8_staysOpen 40 = .ok (.iload_n 1, 1) := by decide +kernel
theorem dX8_staysOpen_41 : decode cX8_staysOpen 41 = .ok (.iconst 5, 1) := by decide +kernel
theorem dX8_staysOpen_42 : decode cX8_staysOpen 42 = .ok (.invokevirtual 53, 3) := by decide +kernel
theorem dX8_staysOpen_45 : decode cX8_staysOpen 45 = .ok (.istore_n 3, 1) := by decide +kernel
theorem dX8_staysOpen_46 : decode cX8_staysOpen 46 = .ok (.iload_n 3, 1) := by decide +kernel
theorem dX8_staysOpen_47 : decode cX8_staysOpen 47 = .ok (.aload_n 0, 1) := by decide +kernel
theorem dX8_staysOpen_48 : decode cX8_staysOpen 48 = .ok (.getfield 7, 3) := by decide +kernel
theorem dX8_staysOpen_51 : decode cX8_staysOpen 51 = .ok (.iconst 0, 1) := by decide +kernel
theorem dX8_staysOpen_52 : decode cX8_staysOpen 52 = .ok (.iaload, 1) := by decide +kernel
theorem dX8_staysOpen_53 : decode cX8_staysOpen 53 = .ok (.if_icmp .lt 21, 3) := by decide +kernel
theorem dX8_staysOpen_56 : decode cX8_staysOpen 56 = .ok (.aload_n 0, 1) := by decide +kernel
theorem dX8_staysOpen_57 : decode cX8_staysOpen 57 = .ok (.iload_n 1, 1) := by decide +kernel
theorem dX8_staysOpen_58 : decode cX8_staysOpen 58 = .ok (.iconst 0, 1) := by decide +kernel
theorem dX8_staysOpen_59 : decode cX8_staysOpen 59 = .ok (.invokevirtual 53, 3) := by decide +kernel
theorem dX8_staysOpen_62 : decode cX8_staysOpen 62 = .ok (.iload_n 3, 1) := by decide +kernel
theorem dX8_staysOpen_63 : decode cX8_staysOpen 63 = .ok (.iconst 0, 1) := by decide +kernel
theorem dX8_staysOpen_64 : decode cX8_staysOpen 64 = .ok (.invokestatic 50, 3) := by decide +kernel
theorem dX8_staysOpen_67 : decode cX8_staysOpen 67 = .ok (.istore_n 3, 1) := by decide +kernel
theorem dX8_staysOpen_68 : decode cX8_staysOpen 68 = .ok (.iinc 2 1, 3) := by decide +kernel
theorem dX8_staysOpen_71 : decode cX8_staysOpen 71 = .ok (.goto (-25), 3) := by decide +kernel
theorem dX8_staysOpen_74 : decode cX8_staysOpen 74 = .ok (.iload_n 2, 1) := by decide +kernel
theorem dX8_staysOpen_75 : decode cX8_staysOpen 75 = .ok (.ireturn, 1) := by decide +kernel
set_option maxRecDepth 20000 in
theorem ggX8_toPress_X8_isBurner : GoodIn wsX8_toPress wsX8_isBurner := goodIn_r _ [6, 7, 8, 5, 9] (by decide +kernel) (by decide +kernel)
set_option maxRecDepth 20000 in
theorem gX8_toPress_X8_isBurner : GoodIn wsX8_toPress (va_wsS RX8 101 yX8_isBurner wsX8_isBurner) := goodIn_app (goodIn_of _ (by decide +kernel)) ggX8_toPress_X8_isBurner
set_option maxRecDepth 20000 in
theorem ggX8_toPress_X8_in : GoodIn wsX8_toPress wsX8_in := goodIn_r _ [9] (by decide +kernel) (by decide +kernel)
end
section
set_option maxRecDepth 20000 in
theorem gX8_toPress_X8_in : GoodIn wsX8_toPress (va_wsS RX8 35 yX8_in wsX8_in) := goodIn_app (goodIn_of _ (by decide +kernel)) ggX8_toPress_X8_in
set_option maxRecDepth 20000 in
theorem ggX8_toPress_X8_get : GoodIn wsX8_toPress wsX8_get := goodIn_r _ [13, 2, 29, 30, 31, 32, 33, 34, 35, 36, 37, 38, 39, 40, 41, 42] (by decide +kernel) (by decide +kernel)
set_option maxRecDepth 20000 in
theorem gX8_toPress_X8_get : GoodIn wsX8_toPress (wsV RX8 53 RX8 yX8_get wsX8_get) := goodIn_app (goodIn_of _ (by decide +kernel)) ggX8_toPress_X8_get
set_option maxRecDepth 20000 in
theorem ggX8_toPress_X8_heat : GoodIn wsX8_toPress wsX8_heat := goodIn_r _ [16, 17, 18, 5, 19] (by decide +kernel) (by decide +kernel)
set_option maxRecDepth 20000 in
theorem gX8_toPress_X8_heat : GoodIn wsX8_toPress (va_wsS RX8 79 yX8_heat wsX8_heat) := goodIn_app (goodIn_of _ (by decide +kernel)) ggX8_toPress_X8_heat
set_option maxRecDepth 20000 in
theorem ggX8_toPress_X8_byFlame : GoodIn wsX8_toPress wsX8_byFlame := goodIn_r _ [22, 23, 24, 5, 25, 17, 18, 19, 26, 27, 28] (by decide +kernel) (by decide +kernel)
set_option maxRecDepth 20000 in
theorem gX8_toPress_X8_byFlame : GoodIn wsX8_toPress (va_wsS RX8 82 yX8_byFlame wsX8_byFlame) := goodIn_app (goodIn_of _ (by decide +kernel)) ggX8_toPress_X8_byFlame
theorem dX8_toPress_0 : decode cX8_toPress 0 = .ok (.aload_n 0, 1) := by decide +kernel
theorem dX8_toPress_1 : decode cX8_toPress 1 = .ok (.iconst 0, 1) := by decide +kernel
theorem dX8_toPress_2 : decode cX8_toPress 2 = .ok (.putfield 31, 3) := by decide +kernel
theorem dX8_toPress_5 : decode cX8_toPress 5 = .ok (.iload_n 1, 1) := by decide +kernel
theorem dX8_toPress_6 : decode cX8_toPress 6 = .ok (.invokestatic 101, 3) := by decide +kernel
theorem dX8_toPress_9 : decode cX8_toPress 9 = .ok (.ifCond .ne 5, 3) := by decide +kernel
theorem dX8_toPress_12 : decode cX8_toPress 12 = .ok (.iconst (-1), 1) := by decide +kernel
theorem dX8_toPress_13 : decode cX8_toPress 13 = .ok (.ireturn, 1) := by decide +kernel
theorem dX8_toPress_14 : decode cX8_toPress 14 = .ok (.iload_n 2, 1) := by decide +kernel
theorem dX8_toPress_15 : decode cX8_toPress 15 = .ok (.iconst 1, 1) := by decide +kernel
theorem dX8_toPress_16 : decode cX8_toPress 16 = .ok (.iconst 2, 1) := by decide +kernel
theorem dX8_toPress_17 : decode cX8_toPress 17 = .ok (.invokestatic 35, 3) := by decide +kernel
theorem dX8_toPress_20 : decode cX8_toPress 20 = .ok (.ifCond .ne 6, 3) := by decide +kernel
theorem dX8_toPress_23 : decode cX8_toPress 23 = .ok (.bipush (-2), 2) := by decide +kernel
theorem dX8_toPress_25 : decode cX8_toPress 25 = .ok (.ireturn, 1) := by decide +kernel
theorem dX8_toPress_26 : decode cX8_toPress 26 = .ok (.aload_n 0, 1) := by decide +kernel
theorem dX8_toPress_27 : decode cX8_toPress 27 = .ok (.iload_n 1, 1) := by decide +kernel
theorem dX8_toPress_28 : decode cX8_toPress 28 = .ok (.iconst 0, 1) := by decide +kernel
theorem dX8_toPress_29 : decode cX8_toPress 29 = .ok (.invokevirtual 53, 3) := by decide +kernel
theorem dX8_toPress_32 : decode cX8_toPress 32 = .ok (.istore_n 3, 1) := by decide +kernel
theorem dX8_toPress_33 : decode cX8_toPress 33 = .ok (.iconst 0, 1) := by decide +kernel
theorem dX8_toPress_34 : decode cX8_toPress 34 = .ok (.istore 4, 2) := by decide +kernel
theorem dX8_toPress_36 : decode cX8_toPress 36 = .ok (.aload_n 0, 1) := by decide +kernel
theorem dX8_toPress_37 : decode cX8_toPress 37 = .ok (.iload_n 1, 1) := by decide +kernel
theorem dX8_toPress_38 : decode cX8_toPress 38 = .ok (.iconst 5, 1) := by decide +kernel
theorem dX8_toPress_39 : decode cX8_toPress 39 = .ok (.invokevirtual 53, 3) := by decide +kernel
theorem dX8_toPress_42 : decode cX8_toPress 42 = .ok (.istore 5, 2) := by decide +kernel
theorem dX8_toPress_44 : decode cX8_toPress 44 = .ok (.iload 5, 2) := by decide +kernel
theorem dX8_toPress_46 : decode cX8_toPress 46 = .ok (.aload_n 0, 1) := by decide +kernel
theorem dX8_toPress_47 : decode cX8_toPress 47 = .ok (.getfield 7, 3) := by decide +kernel
theorem dX8_toPress_50 : decode cX8_toPress 50 = .ok (.iconst 0, 1) := by decide +kernel
theorem dX8_toPress_51 : decode cX8_toPress 51 = .ok (.iaload, 1) := by decide +kernel
theorem dX8_toPress_52 : decode cX8_toPress 52 = .ok (.if_icmp .ge 22, 3) := by decide +kernel
theorem dX8_toPress_55 : decode cX8_toPress 55 = .ok (.iload_n 3, 1) := by decide +kernel
theorem dX8_toPress_56 : decode cX8_toPress 56 = .ok (.iload 5, 2) := by decide +kernel
theorem dX8_toPress_58 : decode cX8_toPress 58 = .ok (.iload_n 3, 1) := by decide +kernel
theorem dX8_toPress_59 : decode cX8_toPress 59 = .ok (.iload_n 2, 1) := by decide +kernel
theorem dX8_toPress_60 : decode cX8_toPress 60 = .ok (.invokestatic 79, 3) := by decide +kernel
theorem dX8_toPress_63 : decode cX8_toPress 63 = .ok (.invokestatic 82, 3) := by decide +kernel
theorem dX8_toPress_66 : decode cX8_toPress 66 = .ok (.istore 5, 2) := by decide +kernel
theorem dX8_toPress_68 : decode cX8_toPress 68 = .ok (.iinc 4 1, 3) := by decide +kernel
theorem dX8_toPress_71 : decode cX8_toPress 71 = .ok (.goto (-27), 3) := by decide +kernel
theorem dX8_toPress_74 : decode cX8_toPress 74 = .ok (.iload 4, 2) := by decide +kernel
theorem dX8_toPress_76 : decode cX8_toPress 76 = .ok (.ireturn, 1) := by decide +kernel
set_option maxRecDepth 20000 in
theorem ggX8_isClear_X8_isOpen : GoodIn wsX8_isClear wsX8_isOpen := goodIn_r _ [6, 1, 7, 8, 9, 5, 10, 11, 12, 13, 14, 15, 16, 17, 18, 19, 20, 21, 22, 23, 24] (by decide +kernel) (by decide +kernel)
set_option maxRecDepth 20000 in
theorem gX8_isClear_X8_isOpen : GoodIn wsX8_isClear (wsV RX8 60 RX8 yX8_isOpen wsX8_isOpen) := goodIn_app (goodIn_of _ (by decide +kernel)) ggX8_isClear_X8_isOpen
set_option maxRecDepth 20000 in
theorem ggX8_isClear_X8_get : GoodIn wsX8_isClear wsX8_get := goodIn_r _ [10, 1, 11, 12, 13, 14, 15, 16, 17, 18, 19, 20, 21, 22, 23, 24] (by decide +kernel) (by decide +kernel)
set_option maxRecDepth 20000 in
theorem gX8_isClear_X8_get : GoodIn wsX8_isClear (wsV RX8 53 RX8 yX8_get wsX8_get) := goodIn_app (goodIn_of _ (by decide +kernel)) ggX8_isClear_X8_get
theorem dX8_isClear_0 : decode cX8_isClear 0 = .ok (.aload_n 0, 1) := by decide +kernel
theorem dX8_isClear_1 : decode cX8_isClear 1 = .ok (.getfield 7, 3) := by decide +kernel
theorem dX8_isClear_4 : decode cX8_isClear 4 = .ok (.iconst 5, 1) := by decide +kernel
theorem dX8_isClear_5 : decode cX8_isClear 5 = .ok (.iaload, 1) := by decide +kernel
theorem dX8_isClear_6 : decode cX8_isClear 6 = .ok (.ifCond .ne 7, 3) := by decide +kernel
theorem dX8_isClear_9 : decode cX8_isClear 9 = .ok (.iconst 1, 1) := by decide +kernel
theorem dX8_isClear_10 : decode cX8_isClear 10 = .ok (.goto 4, 3) := by decide +kernel
theorem dX8_isClear_13 : decode cX8_isClear 13 = .ok (.iconst 0, 1) := by decide +kernel
theorem dX8_isClear_14 : decode cX8_isClear 14 = .ok (.istore_n 1, 1) := by decide +kernel
theorem dX8_isClear_15 : decode cX8_isClear 15 = .ok (.iconst 0, 1) := by decide +kernel
theorem dX8_isClear_16 : decode cX8_isClear 16 = .ok (.istore_n 2, 1) := by decide +kernel
theorem dX8_isClear_17 : decode cX8_isClear 17 = .ok (.iload_n 2, 1) := by decide +kernel
theorem dX8_isClear_18 : decode cX8_isClear 18 = .ok (.iconst 4, 1) := by decide +kernel
theorem dX8_isClear_19 : decode cX8_isClear 19 = .ok (.if_icmp .ge 36, 3) := by decide +kernel
theorem dX8_isClear_22 : decode cX8_isClear 22 = .ok (.iload_n 1, 1) := by decide +kernel
theorem dX8_isClear_23 : decode cX8_isClear 23 = .ok (.ifCond .eq 24, 3) := by decide +kernel
theorem dX8_isClear_26 : decode cX8_isClear 26 = .ok (.aload_n 0, 1) := by decide +kernel
theorem dX8_isClear_27 : decode cX8_isClear 27 = .ok (.iload_n 2, 1) := by decide +kernel
theorem dX8_isClear_28 : decode cX8_isClear 28 = .ok (.invokevirtual 60, 3) := by decide +kernel
theorem dX8_isClear_31 : decode cX8_isClear 31 = .ok (.ifCond .eq 12, 3) := by decide +kernel
theorem dX8_isClear_34 : decode cX8_isClear 34 = .ok (.aload_n 0, 1) := by decide +kernel
theorem dX8_isClear_35 : decode cX8_isClear 35 = .ok (.iload_n 2, 1) := by decide +kernel
theorem dX8_isClear_36 : decode cX8_isClear 36 = .ok (.iconst 4, 1) := by decide +kernel
theorem dX8_isClear_37 : decode cX8_isClear 37 = .ok (.invokevirtual 53, 3) := by decide +kernel
theorem dX8_isClear_40 : decode cX8_isClear 40 = .ok (.ifCond .eq 7, 3) := by decide +kernel
theorem dX8_isClear_43 : decode cX8_isClear 43 = .ok (.iconst 1, 1) := by decide +kernel
theorem dX8_isClear_44 : decode cX8_isClear 44 = .ok (.goto 4, 3) := by decide +kernel
theorem dX8_isClear_47 : decode cX8_isClear 47 = .ok (.iconst 0, 1) := by decide +kernel
theorem dX8_isClear_48 : decode cX8_isClear 48 = .ok (.istore_n 1, 1) := by decide +kernel
theorem dX8_isClear_49 : decode cX8_isClear 49 = .ok (.iinc 2 1, 3) := by decide +kernel
theorem dX8_isClear_52 : decode cX8_isClear 52 = .ok (.goto (-35), 3) := by decide +kernel
theorem dX8_isClear_55 : decode cX8_isClear 55 = .ok (.iload_n 1, 1) := by decide +kernel
theorem dX8_isClear_56 : decode cX8_isClear 56 = .ok (.ireturn, 1) := by decide +kernel
set_option maxRecDepth 20000 in
theorem ggX8_clearIn_X8_putAside : GoodIn wsX8_clearIn wsX8_putAside := goodIn_r _ [6, 7, 8, 74, 75, 76, 77, 78, 79, 80, 81, 82, 83, 84, 85, 86, 87] (by decide +kernel) (by decide +kernel)
set_option maxRecDepth 20000 in
theorem gX8_clearIn_X8_putAside : GoodIn wsX8_clearIn (wsV RX8 152 RX8 yX8_putAside wsX8_putAside) := goodIn_app (goodIn_of _ (by decide +kernel)) ggX8_clearIn_X8_putAside
set_option maxRecDepth 20000 in
theorem ggX8_clearIn_X8_isClear : GoodIn wsX8_clearIn wsX8_isClear := goodIn_r _ [12, 8, 13, 14, 15, 5, 16, 17, 18, 19, 20, 74, 75, 76, 77, 78, 79, 80, 81, 82, 83, 84, 85, 86, 87] (by decide +kernel) (by decide +kernel)
set_option maxRecDepth 20000 in
theorem gX8_clearIn_X8_isClear : GoodIn wsX8_clearIn (wsV RX8 155 RX8 yX8_isClear wsX8_isClear) := goodIn_app (goodIn_of _ (by decide +kernel)) ggX8_clearIn_X8_isClear
set_option maxRecDepth 20000 in
theorem ggX8_clearIn_X8_ticks : GoodIn wsX8_clearIn wsX8_ticks := goodIn_r _ [24, 8, 25, 26, 27, 5, 28, 29, 30, 31, 32, 17, 18, 19, 20, 13, 14, 15, 16, 33, 34, 35, 36, 37, 38, 39, 40, 41, 42, 43, 44, 45, 46, 47, 48, 49, 50, 51, 52, 53, 54, 55, 56, 57, 58, 59, 60, 61, 62, 63, 64, 65, 66, 67, 68, 69, 74, 75, 76, 77, 78, 79, 80, 81, 82, 83, 84, 85, 86, 87] (by decide +kernel) (by decide +kernel)
set_option maxRecDepth 20000 in
theorem gX8_clearIn_X8_ticks : GoodIn wsX8_clearIn (wsV RX8 146 RX8 yX8_ticks wsX8_ticks) := goodIn_app (goodIn_of _ (by decide +kernel)) ggX8_clearIn_X8_ticks
set_option maxRecDepth 20000 in
theorem ggX8_clearIn_X8_takeBack : GoodIn wsX8_clearIn wsX8_takeBack := goodIn_r _ [73, 8, 7, 74, 75, 76, 77, 78, 79, 80, 81, 82, 83, 84, 85, 86, 87] (by decide +kernel) (by decide +kernel)
set_option maxRecDepth 20000 in
theorem gX8_clearIn_X8_takeBack : GoodIn wsX8_clearIn (wsV RX8 159 RX8 yX8_takeBack wsX8_takeBack) := goodIn_app (goodIn_of _ (by decide +kernel)) ggX8_clearIn_X8_takeBack
theorem dX8_clearIn_0 : decode cX8_clearIn 0 = .ok (.aload_n 0, 1) := by decide +kernel
theorem dX8_clearIn_1 : decode cX8_clearIn 1 = .ok (.iconst 0, 1) := by decide +kernel
theorem dX8_clearIn_2 : decode cX8_clearIn 2 = .ok (.putfield 31, 3) := by decide +kernel
theorem dX8_clearIn_5 : decode cX8_clearIn 5 = .ok (.aload_n 0, 1) := by decide +kernel
theorem dX8_clearIn_6 : decode cX8_clearIn 6 = .ok (.invokevirtual 152, 3) := by decide +kernel
theorem dX8_clearIn_9 : decode cX8_clearIn 9 = .ok (.iconst 0, 1) := by decide +kernel
theorem dX8_clearIn_10 : decode cX8_clearIn 10 = .ok (.istore_n 1, 1) := by decide +kernel
theorem dX8_clearIn_11 : decode cX8_clearIn 11 = .ok (.iload_n 1, 1) := by decide +kernel
theorem dX8_clearIn_12 : decode cX8_clearIn 12 = .ok (.sipush 500, 3) := by decide +kernel
theorem dX8_clearIn_15 : decode cX8_clearIn 15 = .ok (.if_icmp .gt 20, 3) := by decide +kernel
theorem dX8_clearIn_18 : decode cX8_clearIn 18 = .ok (.aload_n 0, 1) := by decide +kernel
theorem dX8_clearIn_19 : decode cX8_clearIn 19 = .ok (.invokevirtual 155, 3) := by decide +kernel
theorem dX8_clearIn_22 : decode cX8_clearIn 22 = .ok (.ifCond .ne 13, 3) := by decide +kernel
theorem dX8_clearIn_25 : decode cX8_clearIn 25 = .ok (.aload_n 0, 1) := by decide +kernel
theorem dX8_clearIn_26 : decode cX8_clearIn 26 = .ok (.invokevirtual 146, 3) := by decide +kernel
theorem dX8_clearIn_29 : decode cX8_clearIn 29 = .ok (.iinc 1 1, 3) := by decide +kernel
theorem dX8_clearIn_32 : decode cX8_clearIn 32 = .ok (.goto (-21), 3) := by decide +kernel
theorem dX8_clearIn_35 : decode cX8_clearIn 35 = .ok (.aload_n 0, 1) := by decide +kernel
theorem dX8_clearIn_36 : decode cX8_clearIn 36 = .ok (.invokevirtual 159, 3) := by decide +kernel
theorem dX8_clearIn_39 : decode cX8_clearIn 39 = .ok (.iload_n 1, 1) := by decide +kernel
theorem dX8_clearIn_40 : decode cX8_clearIn 40 = .ok (.sipush 500, 3) := by decide +kernel
theorem dX8_clearIn_43 : decode cX8_clearIn 43 = .ok (.if_icmp .le 8, 3) := by decide +kernel
theorem dX8_clearIn_46 : decode cX8_clearIn 46 = .ok (.bipush (-5), 2) := by decide +kernel
theorem dX8_clearIn_48 : decode cX8_clearIn 48 = .ok (.goto 4, 3) := by decide +kernel
theorem dX8_clearIn_51 : decode cX8_clearIn 51 = .ok (.iload_n 1, 1) := by decide +kernel
theorem dX8_clearIn_52 : decode cX8_clearIn 52 = .ok (.ireturn, 1) := by decide +kernel
set_option maxRecDepth 20000 in
theorem ggX8_blownIn_X8_isBurner : GoodIn wsX8_blownIn wsX8_isBurner := goodIn_r _ [6, 7, 8, 5, 9] (by decide +kernel) (by decide +kernel)
set_option maxRecDepth 20000 in
theorem gX8_blownIn_X8_isBurner : GoodIn wsX8_blownIn (va_wsS RX8 101 yX8_isBurner wsX8_isBurner) := goodIn_app (goodIn_of _ (by decide +kernel)) ggX8_blownIn_X8_isBurner
set_option maxRecDepth 20000 in
theorem ggX8_blownIn_X8_get : GoodIn wsX8_blownIn wsX8_get := goodIn_r _ [13, 2, 28, 29, 30, 31, 32, 33, 34, 35, 36, 37, 38, 39, 40, 41] (by decide +kernel) (by decide +kernel)
set_option maxRecDepth 20000 in
theorem gX8_blownIn_X8_get : GoodIn wsX8_blownIn (wsV RX8 53 RX8 yX8_get wsX8_get) := goodIn_app (goodIn_of _ (by decide +kernel)) ggX8_blownIn_X8_get
set_option maxRecDepth 20000 in
theorem ggX8_blownIn_X8_draftAt : GoodIn wsX8_blownIn wsX8_draftAt := goodIn_r _ [17, 2, 28, 29, 30, 31, 32, 33, 34, 35, 36, 37, 38, 39, 40, 41] (by decide +kernel) (by decide +kernel)
set_option maxRecDepth 20000 in
theorem gX8_blownIn_X8_draftAt : GoodIn wsX8_blownIn (wsV RX8 88 RX8 yX8_draftAt wsX8_draftAt) := goodIn_app (goodIn_of _ (by decide +kernel)) ggX8_blownIn_X8_draftAt
set_option maxRecDepth 20000 in
theorem ggX8_blownIn_X8_strength : GoodIn wsX8_blownIn wsX8_strength := goodIn_r _ [21, 10, 11, 12, 5, 13, 2, 22, 23, 24, 25, 26, 27, 28, 29, 30, 31, 32, 33, 34, 35, 36, 37, 38, 39, 40, 41] (by decide +kernel) (by decide +kernel)
set_option maxRecDepth 20000 in
theorem gX8_blownIn_X8_strength : GoodIn wsX8_blownIn (wsV RX8 68 RX8 yX8_strength wsX8_strength) := goodIn_app (goodIn_of _ (by decide +kernel)) ggX8_blownIn_X8_strength
theorem dX8_blownIn_0 : decode cX8_blownIn 0 = .ok (.aload_n 0, 1) := by decide +kernel
theorem dX8_blownIn_1 : decode cX8_blownIn 1 = .ok (.iconst 0, 1) := by decide +kernel
theorem dX8_blownIn_2 : decode cX8_blownIn 2 = .ok (.putfield 31, 3) := by decide +kernel
theorem dX8_blownIn_5 : decode cX8_blownIn 5 = .ok (.iload_n 1, 1) := by decide +kernel
theorem dX8_blownIn_6 : decode cX8_blownIn 6 = .ok (.invokestatic 101, 3) := by decide +kernel
theorem dX8_blownIn_9 : decode cX8_blownIn 9 = .ok (.ifCond .ne 5, 3) := by decide +kernel
theorem dX8_blownIn_12 : decode cX8_blownIn 12 = .ok (.iconst (-1), 1) := by decide +kernel
theorem dX8_blownIn_13 : decode cX8_blownIn 13 = .ok (.ireturn, 1) := by decide +kernel
theorem dX8_blownIn_14 : decode cX8_blownIn 14 = .ok (.aload_n 0, 1) := by decide +kernel
theorem dX8_blownIn_15 : decode cX8_blownIn 15 = .ok (.iload_n 1, 1) := by decide +kernel
theorem dX8_blownIn_16 : decode cX8_blownIn 16 = .ok (.iconst 1, 1) := by decide +kernel
theorem dX8_blownIn_17 : decode cX8_blownIn 17 = .ok (.invokevirtual 53, 3) := by decide +kernel
theorem dX8_blownIn_20 : decode cX8_blownIn 20 = .ok (.ifCond .ne 6, 3) := by decide +kernel
theorem dX8_blownIn_23 : decode cX8_blownIn 23 = .ok (.bipush (-4), 2) := by decide +kernel
theorem dX8_blownIn_25 : decode cX8_blownIn 25 = .ok (.ireturn, 1) := by decide +kernel
theorem dX8_blownIn_26 : decode cX8_blownIn 26 = .ok (.iconst 0, 1) := by decide +kernel
theorem dX8_blownIn_27 : decode cX8_blownIn 27 = .ok (.istore_n 2, 1) := by decide +kernel
theorem dX8_blownIn_28 : decode cX8_blownIn 28 = .ok (.iload_n 2, 1) := by decide +kernel
theorem dX8_blownIn_29 : decode cX8_blownIn 29 = .ok (.sipush 500, 3) := by decide +kernel
theorem dX8_blownIn_32 : decode cX8_blownIn 32 = .ok (.if_icmp .gt 31, 3) := by decide +kernel
theorem dX8_blownIn_35 : decode cX8_blownIn 35 = .ok (.aload_n 0, 1) := by decide +kernel
theorem dX8_blownIn_36 : decode cX8_blownIn 36 = .ok (.aload_n 0, 1) := by decide +kernel
theorem dX8_blownIn_37 : decode cX8_blownIn 37 = .ok (.getfield 7, 3) := by decide +kernel
theorem dX8_blownIn_40 : decode cX8_blownIn 40 = .ok (.iconst 4, 1) := by decide +kernel
theorem dX8_blownIn_41 : decode cX8_blownIn 41 = .ok (.iaload, 1) := by decide +kernel
theorem dX8_blownIn_42 : decode cX8_blownIn 42 = .ok (.iload_n 2, 1) := by decide +kernel
theorem dX8_blownIn_43 : decode cX8_blownIn 43 = .ok (.iadd, 1) := by decide +kernel
theorem dX8_blownIn_44 : decode cX8_blownIn 44 = .ok (.invokevirtual 88, 3) := by decide +kernel
theorem dX8_blownIn_47 : decode cX8_blownIn 47 = .ok (.aload_n 0, 1) := by decide +kernel
theorem dX8_blownIn_48 : decode cX8_blownIn 48 = .ok (.iload_n 1, 1) := by decide +kernel
theorem dX8_blownIn_49 : decode cX8_blownIn 49 = .ok (.invokevirtual 68, 3) := by decide +kernel
theorem dX8_blownIn_52 : decode cX8_blownIn 52 = .ok (.if_icmp .le 5, 3) := by decide +kernel
theorem dX8_blownIn_55 : decode cX8_blownIn 55 = .ok (.iload_n 2, 1) := by decide +kernel
theorem dX8_blownIn_56 : decode cX8_blownIn 56 = .ok (.ireturn, 1) := by decide +kernel
theorem dX8_blownIn_57 : decode cX8_blownIn 57 = .ok (.iinc 2 1, 3) := by decide +kernel
theorem dX8_blownIn_60 : decode cX8_blownIn 60 = .ok (.goto (-32), 3) := by decide +kernel
theorem dX8_blownIn_63 : decode cX8_blownIn 63 = .ok (.bipush (-5), 2) := by decide +kernel
theorem dX8_blownIn_65 : decode cX8_blownIn 65 = .ok (.ireturn, 1) := by decide +kernel
set_option maxRecDepth 20000 in
theorem ggX8_entry_X8_in : GoodIn wsX8_entry wsX8_in := goodIn_r _ [6] (by decide +kernel) (by decide +kernel)
set_option maxRecDepth 20000 in
theorem gX8_entry_X8_in : GoodIn wsX8_entry (va_wsS RX8 35 yX8_in wsX8_in) := goodIn_app (goodIn_of _ (by decide +kernel)) ggX8_entry_X8_in
theorem dX8_entry_0 : decode cX8_entry 0 = .ok (.aload_n 0, 1) := by decide +kernel
theorem dX8_entry_1 : decode cX8_entry 1 = .ok (.iconst 0, 1) := by decide +kernel
theorem dX8_entry_2 : decode cX8_entry 2 = .ok (.putfield 31, 3) := by decide +kernel
theorem dX8_entry_5 : decode cX8_entry 5 = .ok (.iload_n 1, 1) := by decide +kernel
theorem dX8_entry_6 : decode cX8_entry 6 = .ok (.ifCond .lt 12, 3) := by decide +kernel
theorem dX8_entry_9 : decode cX8_entry 9 = .ok (.iload_n 2, 1) := by decide +kernel
theorem dX8_entry_10 : decode cX8_entry 10 = .ok (.iconst 0, 1) := by decide +kernel
theorem dX8_entry_11 : decode cX8_entry 11 = .ok (.iconst 1, 1) := by decide +kernel
theorem dX8_entry_12 : decode cX8_entry 12 = .ok (.invokestatic 35, 3) := by decide +kernel
theorem dX8_entry_15 : decode cX8_entry 15 = .ok (.ifCond .ne 6, 3) := by decide +kernel
theorem dX8_entry_18 : decode cX8_entry 18 = .ok (.bipush (-2), 2) := by decide +kernel
theorem dX8_entry_20 : decode cX8_entry 20 = .ok (.ireturn, 1) := by decide +kernel
theorem dX8_entry_21 : decode cX8_entry 21 = .ok (.iload_n 1, 1) := by decide +kernel
theorem dX8_entry_22 : decode cX8_entry 22 = .ok (.aload_n 0, 1) := by decide +kernel
theorem dX8_entry_23 : decode cX8_entry 23 = .ok (.getfield 7, 3) := by decide +kernel
theorem dX8_entry_26 : decode cX8_entry 26 = .ok (.bipush 43, 2) := by decide +kernel
theorem dX8_entry_28 : decode cX8_entry 28 = .ok (.iaload, 1) := by decide +kernel
theorem dX8_entry_29 : decode cX8_entry 29 = .ok (.if_icmp .ge 19, 3) := by decide +kernel
theorem dX8_entry_32 : decode cX8_entry 32 = .ok (.aload_n 0, 1) := by decide +kernel
theorem dX8_entry_33 : decode cX8_entry 33 = .ok (.getfield 7, 3) := by decide +kernel
theorem dX8_entry_36 : decode cX8_entry 36 = .ok (.bipush 44, 2) := by decide +kernel
theorem dX8_entry_38 : decode cX8_entry 38 = .ok (.iconst 2, 1) := by decide +kernel
theorem dX8_entry_39 : decode cX8_entry 39 = .ok (.iload_n 1, 1) := by decide +kernel
theorem dX8_entry_40 : decode cX8_entry 40 = .ok (.imul, 1) := by decide +kernel
theorem dX8_entry_41 : decode cX8_entry 41 = .ok (.iadd, 1) := by decide +kernel
theorem dX8_entry_42 : decode cX8_entry 42 = .ok (.iload_n 2, 1) := by decide +kernel
theorem dX8_entry_43 : decode cX8_entry 43 = .ok (.iadd, 1) := by decide +kernel
theorem dX8_entry_44 : decode cX8_entry 44 = .ok (.iaload, 1) := by decide +kernel
theorem dX8_entry_45 : decode cX8_entry 45 = .ok (.goto 5, 3) := by decide +kernel
theorem dX8_entry_48 : decode cX8_entry 48 = .ok (.bipush (-5), 2) := by decide +kernel
theorem dX8_entry_50 : decode cX8_entry 50 = .ok (.ireturn, 1) := by decide +kernel
set_option maxRecDepth 20000 in
theorem ggX8_event_X8_in : GoodIn wsX8_event wsX8_in := goodIn_r _ [6] (by decide +kernel) (by decide +kernel)
set_option maxRecDepth 20000 in
theorem gX8_event_X8_in : GoodIn wsX8_event (va_wsS RX8 35 yX8_in wsX8_in) := goodIn_app (goodIn_of _ (by decide +kernel)) ggX8_event_X8_in
theorem dX8_event_0 : decode cX8_event 0 = .ok (.aload_n 0, 1) := by decide +kernel
theorem dX8_event_1 : decode cX8_event 1 = .ok (.iconst 0, 1) := by decide +kernel
theorem dX8_event_2 : decode cX8_event 2 = .ok (.putfield 31, 3) := by decide +kernel
theorem dX8_event_5 : decode cX8_event 5 = .ok (.iload_n 1, 1) := by decide +kernel
theorem dX8_event_6 : decode cX8_event 6 = .ok (.ifCond .lt 12, 3) := by decide +kernel
theorem dX8_event_9 : decode cX8_event 9 = .ok (.iload_n 2, 1) := by decide +kernel
theorem dX8_event_10 : decode cX8_event 10 = .ok (.iconst 0, 1) := by decide +kernel
theorem dX8_event_11 : decode cX8_event 11 = .ok (.iconst 2, 1) := by decide +kernel
theorem dX8_event_12 : decode cX8_event 12 = .ok (.invokestatic 35, 3) := by decide +kernel
theorem dX8_event_15 : decode cX8_event 15 = .ok (.ifCond .ne 6, 3) := by decide +kernel
theorem dX8_event_18 : decode cX8_event 18 = .ok (.bipush (-2), 2) := by decide +kernel
theorem dX8_event_20 : decode cX8_event 20 = .ok (.ireturn, 1) := by decide +kernel
theorem dX8_event_21 : decode cX8_event 21 = .ok (.iload_n 1, 1) := by decide +kernel
theorem dX8_event_22 : decode cX8_event 22 = .ok (.aload_n 0, 1) := by decide +kernel
theorem dX8_event_23 : decode cX8_event 23 = .ok (.getfield 7, 3) := by decide +kernel
theorem dX8_event_26 : decode cX8_event 26 = .ok (.bipush 12, 2) := by decide +kernel
theorem dX8_event_28 : decode cX8_event 28 = .ok (.iaload, 1) := by decide +kernel
theorem dX8_event_29 : decode cX8_event 29 = .ok (.if_icmp .ge 29, 3) := by decide +kernel
theorem dX8_event_32 : decode cX8_event 32 = .ok (.aload_n 0, 1) := by decide +kernel
theorem dX8_event_33 : decode cX8_event 33 = .ok (.getfield 7, 3) := by decide +kernel
theorem dX8_event_36 : decode cX8_event 36 = .ok (.bipush 13, 2) := by decide +kernel
theorem dX8_event_38 : decode cX8_event 38 = .ok (.iconst 3, 1) := by decide +kernel
theorem dX8_event_39 : decode cX8_event 39 = .ok (.aload_n 0, 1) := by decide +kernel
theorem dX8_event_40 : decode cX8_event 40 = .ok (.getfield 7, 3) := by decide +kernel
theorem dX8_event_43 : decode cX8_event 43 = .ok (.bipush 12, 2) := by decide +kernel
theorem dX8_event_45 : decode cX8_event 45 = .ok (.iaload, 1) := by decide +kernel
theorem dX8_event_46 : decode cX8_event 46 = .ok (.iconst 1, 1) := by decide +kernel
theorem dX8_event_47 : decode cX8_event 47 = .ok (.isub, 1) := by decide +kernel
theorem dX8_event_48 : decode cX8_event 48 = .ok (.iload_n 1, 1) := by decide +kernel
theorem dX8_event_49 : decode cX8_event 49 = .ok (.isub, 1) := by decide +kernel
theorem dX8_event_50 : decode cX8_event 50 = .ok (.imul, 1) := by decide +kernel
theorem dX8_event_51 : decode cX8_event 51 = .ok (.iadd, 1) := by decide +kernel
theorem dX8_event_52 : decode cX8_event 52 = .ok (.iload_n 2, 1) := by decide +kernel
theorem dX8_event_53 : decode cX8_event 53 = .ok (.iadd, 1) := by decide +kernel
theorem dX8_event_54 : decode cX8_event 54 = .ok (.iaload, 1) := by decide +kernel
theorem dX8_event_55 : decode cX8_event 55 = .ok (.goto 5, 3) := by decide +kernel
theorem dX8_event_58 : decode cX8_event 58 = .ok (.bipush (-5), 2) := by decide +kernel
theorem dX8_event_60 : decode cX8_event 60 = .ok (.ireturn, 1) := by decide +kernel
set_option maxRecDepth 20000 in
theorem ggX8_openValves_X8_isOpen : GoodIn wsX8_openValves wsX8_isOpen := goodIn_r _ [5, 6, 7, 8, 9, 4, 10, 11, 12, 13, 14, 15, 16, 17, 18, 19, 20, 21, 22, 23, 24] (by decide +kernel) (by decide +kernel)
set_option maxRecDepth 20000 in
theorem gX8_openValves_X8_isOpen : GoodIn wsX8_openValves (wsV RX8 60 RX8 yX8_isOpen wsX8_isOpen) := goodIn_app (goodIn_of _ (by decide +kernel)) ggX8_openValves_X8_isOpen
theorem dX8_openValves_0 : decode cX8_openValves 0 = .ok (.iconst 0, 1) := by decide +kernel
theorem dX8_openValves_1 : decode cX8_openValves 1 = .ok (.istore_n 1, 1) := by decide +kernel
theorem dX8_openValves_2 : decode cX8_openValves 2 = .ok (.iconst 0, 1) := by decide +kernel
theorem dX8_openValves_3 : decode cX8_openValves 3 = .ok (.istore_n 2, 1) := by decide +kernel
theorem dX8_openValves_4 : decode cX8_openValves 4 = .ok (.iload_n 2, 1) := by decide +kernel
theorem dX8_openValves_5 : decode cX8_openValves 5 = .ok (.iconst 4, 1) := by decide +kernel
theorem dX8_openValves_6 : decode cX8_openValves 6 = .ok (.if_icmp .ge 25, 3) := by decide +kernel
theorem dX8_openValves_9 : decode cX8_openValves 9 = .ok (.iload_n 1, 1) := by decide +kernel
theorem dX8_openValves_10 : decode cX8_openValves 10 = .ok (.aload_n 0, 1) := by decide +kernel
theorem dX8_openValves_11 : decode cX8_openValves 11 = .ok (.iload_n 2, 1) := by decide +kernel
theorem dX8_openValves_12 : decode cX8_openValves 12 = .ok (.invokevirtual 60, 3) := by decide +kernel
theorem dX8_openValves_15 : decode cX8_openValves 15 = .ok (.ifCond .eq 7, 3) := by decide +kernel
theorem dX8_openValves_18 : decode cX8_openValves 18 = .ok (.iconst 1, 1) := by decide +kernel
theorem dX8_openValves_19 : decode cX8_openValves 19 = .ok (.goto 4, 3) := by decide +kernel
theorem dX8_openValves_22 : decode cX8_openValves 22 = .ok (.iconst 0, 1) := by decide +kernel
theorem dX8_openValves_23 : decode cX8_openValves 23 = .ok (.iadd, 1) := by decide +kernel
theorem dX8_openValves_24 : decode cX8_openValves 24 = .ok (.istore_n 1, 1) := by decide +kernel
theorem dX8_openValves_25 : decode cX8_openValves 25 = .ok (.iinc 2 1, 3) := by decide +kernel
theorem dX8_openValves_28 : decode cX8_openValves 28 = .ok (.goto (-24), 3) := by decide +kernel
theorem dX8_openValves_31 : decode cX8_openValves 31 = .ok (.iload_n 1, 1) := by decide +kernel
theorem dX8_openValves_32 : decode cX8_openValves 32 = .ok (.ireturn, 1) := by decide +kernel
set_option maxRecDepth 20000 in
theorem ggX8_count_X8_draftAt : GoodIn wsX8_count wsX8_draftAt := goodIn_r _ [9, 2, 29, 30, 31, 32, 33, 34, 35, 36, 37, 38, 39, 40, 41, 42] (by decide +kernel) (by decide +kernel)
set_option maxRecDepth 20000 in
theorem gX8_count_X8_draftAt : GoodIn wsX8_count (wsV RX8 88 RX8 yX8_draftAt wsX8_draftAt) := goodIn_app (goodIn_of _ (by decide +kernel)) ggX8_count_X8_draftAt
set_option maxRecDepth 20000 in
theorem ggX8_count_X8_sumOver : GoodIn wsX8_count wsX8_sumOver := goodIn_r _ [13, 14, 15, 16, 8, 17, 2, 29, 30, 31, 32, 33, 34, 35, 36, 37, 38, 39, 40, 41, 42] (by decide +kernel) (by decide +kernel)
set_option maxRecDepth 20000 in
theorem gX8_count_X8_sumOver : GoodIn wsX8_count (wsV RX8 139 RX8 yX8_sumOver wsX8_sumOver) := goodIn_app (goodIn_of _ (by decide +kernel)) ggX8_count_X8_sumOver
set_option maxRecDepth 20000 in
theorem ggX8_count_X8_openValves : GoodIn wsX8_count wsX8_openValves := goodIn_r _ [21, 22, 23, 24, 8, 25, 2, 14, 15, 16, 17, 29, 30, 31, 32, 33, 34, 35, 36, 37, 38, 39, 40, 41, 42] (by decide +kernel) (by decide +kernel)
set_option maxRecDepth 20000 in
theorem gX8_count_X8_openValves : GoodIn wsX8_count (wsV RX8 162 RX8 yX8_openValves wsX8_openValves) := goodIn_app (goodIn_of _ (by decide +kernel)) ggX8_count_X8_openValves
set_option maxRecDepth 20000 in
theorem ggX8_count_X8_in : GoodIn wsX8_count wsX8_in := goodIn_r _ [28] (by decide +kernel) (by decide +kernel)
set_option maxRecDepth 20000 in
theorem gX8_count_X8_in : GoodIn wsX8_count (va_wsS RX8 35 yX8_in wsX8_in) := goodIn_app (goodIn_of _ (by decide +kernel)) ggX8_count_X8_in
theorem dX8_count_0 : decode cX8_count 0 = .ok (.aload_n 0, 1) := by decide +kernel
theorem dX8_count_1 : decode cX8_count 1 = .ok (.iconst 0, 1) := by decide +kernel
theorem dX8_count_2 : decode cX8_count 2 = .ok (.putfield 31, 3) := by decide +kernel
theorem dX8_count_5 : decode cX8_count 5 = .ok (.iload_n 1, 1) := by decide +kernel
theorem dX8_count_6 : decode cX8_count 6 = .ok (.tableswitch 151 0 14 #[74, 81, 88, 99, 151, 151, 151, 151, 107, 113, 118, 125, 133, 141, 146], 74) := by decide +kernel
theorem dX8_count_80 : decode cX8_count 80 = .ok (.aload_n 0, 1) := by decide +kernel
theorem dX8_count_81 : decode cX8_count 81 = .ok (.getfield 7, 3) := by decide +kernel
theorem dX8_count_84 : decode cX8_count 84 = .ok (.iconst 4, 1) := by decide +kernel
theorem dX8_count_85 : decode cX8_count 85 = .ok (.iaload, 1) := by decide +kernel
theorem dX8_count_86 : decode cX8_count 86 = .ok (.ireturn, 1) := by decide +kernel
theorem dX8_count_87 : decode cX8_count 87 = .ok (.aload_n 0, 1) := by decide +kernel
theorem dX8_count_88 : decode cX8_count 88 = .ok (.getfield 7, 3) := by decide +kernel
theorem dX8_count_91 : decode cX8_count 91 = .ok (.iconst 5, 1) := by decide +kernel
theorem dX8_count_92 : decode cX8_count 92 = .ok (.iaload, 1) := by decide +kernel
theorem dX8_count_93 : decode cX8_count 93 = .ok (.ireturn, 1) := by decide +kernel
theorem dX8_count_94 : decode cX8_count 94 = .ok (.aload_n 0, 1) := by decide +kernel
theorem dX8_count_95 : decode cX8_count 95 = .ok (.aload_n 0, 1) := by decide +kernel
theorem dX8_count_96 : decode cX8_count 96 = .ok (.getfield 7, 3) := by decide +kernel
theorem dX8_count_99 : decode cX8_count 99 = .ok (.iconst 4, 1) := by decide +kernel
theorem dX8_count_100 : decode cX8_count 100 = .ok (.iaload, 1) := by decide +kernel
theorem dX8_count_101 : decode cX8_count 101 = .ok (.invokevirtual 88, 3) := by decide +kernel
theorem dX8_count_104 : decode cX8_count 104 = .ok (.ireturn, 1) := by decide +kernel
theorem dX8_count_105 : decode cX8_count 105 = .ok (.aload_n 0, 1) := by decide +kernel
theorem dX8_count_106 : decode cX8_count 106 = .ok (.getfield 7, 3) := by decide +kernel
theorem dX8_count_109 : decode cX8_count 109 = .ok (.bipush 43, 2) := by decide +kernel
theorem dX8_count_111 : decode cX8_count 111 = .ok (.iaload, 1) := by decide +kernel
theorem dX8_count_112 : decode cX8_count 112 = .ok (.ireturn, 1) := by decide +kernel
theorem dX8_count_113 : decode cX8_count 113 = .ok (.aload_n 0, 1) := by decide +kernel
theorem dX8_count_114 : decode cX8_count 114 = .ok (.iconst 4, 1) := by decide +kernel
theorem dX8_count_115 : decode cX8_count 115 = .ok (.invokevirtual 139, 3) := by decide +kernel
theorem dX8_count_118 : decode cX8_count 118 = .ok (.ireturn, 1) := by decide +kernel
theorem dX8_count_119 : decode cX8_count 119 = .ok (.aload_n 0, 1) := by decide +kernel
theorem dX8_count_120 : decode cX8_count 120 = .ok (.invokevirtual 162, 3) := by decide +kernel
theorem dX8_count_123 : decode cX8_count 123 = .ok (.ireturn, 1) := by decide +kernel
theorem dX8_count_124 : decode cX8_count 124 = .ok (.aload_n 0, 1) := by decide +kernel
theorem dX8_count_125 : decode cX8_count 125 = .ok (.bipush 6, 2) := by decide +kernel
theorem dX8_count_127 : decode cX8_count 127 = .ok (.invokevirtual 139, 3) := by decide +kernel
theorem dX8_count_130 : decode cX8_count 130 = .ok (.ireturn, 1) := by decide +kernel
theorem dX8_count_131 : decode cX8_count 131 = .ok (.aload_n 0, 1) := by decide +kernel
theorem dX8_count_132 : decode cX8_count 132 = .ok (.getfield 7, 3) := by decide +kernel
theorem dX8_count_135 : decode cX8_count 135 = .ok (.bipush 6, 2) := by decide +kernel
theorem dX8_count_137 : decode cX8_count 137 = .ok (.iaload, 1) := by decide +kernel
theorem dX8_count_138 : decode cX8_count 138 = .ok (.ireturn, 1) := by decide +kernel
theorem dX8_count_139 : decode cX8_count 139 = .ok (.aload_n 0, 1) := by decide +kernel
theorem dX8_count_140 : decode cX8_count 140 = .ok (.getfield 7, 3) := by decide +kernel
theorem dX8_count_143 : decode cX8_count 143 = .ok (.bipush 7, 2) := by decide +kernel
theorem dX8_count_145 : decode cX8_count 145 = .ok (.iaload, 1) := by decide +kernel
theorem dX8_count_146 : decode cX8_count 146 = .ok (.ireturn, 1) := by decide +kernel
theorem dX8_count_147 : decode cX8_count 147 = .ok (.aload_n 0, 1) := by decide +kernel
theorem dX8_count_148 : decode cX8_count 148 = .ok (.getfield 39, 3) := by decide +kernel
theorem dX8_count_151 : decode cX8_count 151 = .ok (.ireturn, 1) := by decide +kernel
theorem dX8_count_152 : decode cX8_count 152 = .ok (.aload_n 0, 1) := by decide +kernel
theorem dX8_count_153 : decode cX8_count 153 = .ok (.getfield 113, 3) := by decide +kernel
theorem dX8_count_156 : decode cX8_count 156 = .ok (.ireturn, 1) := by decide +kernel
theorem dX8_count_157 : decode cX8_count 157 = .ok (.iload_n 1, 1) := by decide +kernel
theorem dX8_count_158 : decode cX8_count 158 = .ok (.iconst 4, 1) := by decide +kernel
theorem dX8_count_159 : decode cX8_count 159 = .ok (.bipush 7, 2) := by decide +kernel
theorem dX8_count_161 : decode cX8_count 161 = .ok (.invokestatic 35, 3) := by decide +kernel
theorem dX8_count_164 : decode cX8_count 164 = .ok (.ifCond .eq 17, 3) := by decide +kernel
theorem dX8_count_167 : decode cX8_count 167 = .ok (.aload_n 0, 1) := by decide +kernel
theorem dX8_count_168 : decode cX8_count 168 = .ok (.getfield 7, 3) := by decide +kernel
theorem dX8_count_171 : decode cX8_count 171 = .ok (.bipush 8, 2) := by decide +kernel
theorem dX8_count_173 : decode cX8_count 173 = .ok (.iload_n 1, 1) := by decide +kernel
theorem dX8_count_174 : decode cX8_count 174 = .ok (.iadd, 1) := by decide +kernel
theorem dX8_count_175 : decode cX8_count 175 = .ok (.iconst 4, 1) := by decide +kernel
theorem dX8_count_176 : decode cX8_count 176 = .ok (.isub, 1) := by decide +kernel
theorem dX8_count_177 : decode cX8_count 177 = .ok (.iaload, 1) := by decide +kernel
theorem dX8_count_178 : decode cX8_count 178 = .ok (.goto 5, 3) := by decide +kernel
theorem dX8_count_181 : decode cX8_count 181 = .ok (.bipush (-2), 2) := by decide +kernel
theorem dX8_count_183 : decode cX8_count 183 = .ok (.ireturn, 1) := by decide +kernel
set_option maxRecDepth 20000 in
theorem ggX8_setting_X8_in : GoodIn wsX8_setting wsX8_in := goodIn_r _ [6] (by decide +kernel) (by decide +kernel)
set_option maxRecDepth 20000 in
theorem gX8_setting_X8_in : GoodIn wsX8_setting (va_wsS RX8 35 yX8_in wsX8_in) := goodIn_app (goodIn_of _ (by decide +kernel)) ggX8_setting_X8_in
theorem dX8_setting_0 : decode cX8_setting 0 = .ok (.aload_n 0, 1) := by decide +kernel
theorem dX8_setting_1 : decode cX8_setting 1 = .ok (.iconst 0, 1) := by decide +kernel
theorem dX8_setting_2 : decode cX8_setting 2 = .ok (.putfield 31, 3) := by decide +kernel
theorem dX8_setting_5 : decode cX8_setting 5 = .ok (.iload_n 1, 1) := by decide +kernel
theorem dX8_setting_6 : decode cX8_setting 6 = .ok (.iconst 0, 1) := by decide +kernel
theorem dX8_setting_7 : decode cX8_setting 7 = .ok (.iconst 3, 1) := by decide +kernel
theorem dX8_setting_8 : decode cX8_setting 8 = .ok (.invokestatic 35, 3) := by decide +kernel
theorem dX8_setting_11 : decode cX8_setting 11 = .ok (.ifCond .eq 12, 3) := by decide +kernel
theorem dX8_setting_14 : decode cX8_setting 14 = .ok (.aload_n 0, 1) := by decide +kernel
theorem dX8_setting_15 : decode cX8_setting 15 = .ok (.getfield 7, 3) := by decide +kernel
theorem dX8_setting_18 : decode cX8_setting 18 = .ok (.iload_n 1, 1) := by decide +kernel
theorem dX8_setting_19 : decode cX8_setting 19 = .ok (.iaload, 1) := by decide +kernel
theorem dX8_setting_20 : decode cX8_setting 20 = .ok (.goto 4, 3) := by decide +kernel
theorem dX8_setting_23 : decode cX8_setting 23 = .ok (.iconst (-1), 1) := by decide +kernel
theorem dX8_setting_24 : decode cX8_setting 24 = .ok (.ireturn, 1) := by decide +kernel
theorem dJ9_max_7cf53_0 : decode cJ9_max_7cf53 0 = .ok (.iload_n 0, 1) := by decide +kernel
theorem dJ9_max_7cf53_1 : decode cJ9_max_7cf53 1 = .ok (.iload_n 1, 1) := by decide +kernel
theorem dJ9_max_7cf53_2 : decode cJ9_max_7cf53 2 = .ok (.if_icmp .lt 7, 3) := by decide +kernel
theorem dJ9_max_7cf53_5 : decode cJ9_max_7cf53 5 = .ok (.iload_n 0, 1) := by decide +kernel
theorem dJ9_max_7cf53_6 : decode cJ9_max_7cf53 6 = .ok (.goto 4, 3) := by decide +kernel
theorem dJ9_max_7cf53_9 : decode cJ9_max_7cf53 9 = .ok (.iload_n 1, 1) := by decide +kernel
theorem dJ9_max_7cf53_10 : decode cJ9_max_7cf53 10 = .ok (.ireturn, 1) := by decide +kernel
theorem dJ9_min_7cf53_0 : decode cJ9_min_7cf53 0 = .ok (.iload_n 0, 1) := by decide +kernel
theorem dJ9_min_7cf53_1 : decode cJ9_min_7cf53 1 = .ok (.iload_n 1, 1) := by decide +kernel
theorem dJ9_min_7cf53_2 : decode cJ9_min_7cf53 2 = .ok (.if_icmp .gt 7, 3) := by decide +kernel
theorem dJ9_min_7cf53_5 : decode cJ9_min_7cf53 5 = .ok (.iload_n 0, 1) := by decide +kernel
theorem dJ9_min_7cf53_6 : decode cJ9_min_7cf53 6 = .ok (.goto 4, 3) := by decide +kernel
theorem dJ9_min_7cf53_9 : decode cJ9_min_7cf53 9 = .ok (.iload_n 1, 1) := by decide +kernel
theorem dJ9_min_7cf53_10 : decode cJ9_min_7cf53 10 = .ok (.ireturn, 1) := by decide +kernel
abbrev vwCl : List vw_C := [(RX0, TX0, 10), (RX1, TX1, 2), (RX2, TX2, 5), (RX3, TX3, 3), (RX4, TX4, 1), (RX5, TX5, 8), (RX6, TX6, 2), (RX7, TX7, 7), (RX8, TX8, 14)]
end
section
/-! the walk's rows over a world of numbered cells: cell i lies at ad i and holds G i; a goal GV hides heap, locals' array and frame rule -/
def gw (n : Nat) (ad : Nat → Nat) (G : Nat → va_E) : va_W := (List.range n).map (fun i => (ad i, G i))
theorem gw_get {n : Nat} {ad : Nat → Nat} {G : Nat → va_E} {i : Nat} (h : i < n) : (gw n ad G)[i]? = some (ad i, G i) := by simp [gw, h]
theorem gw_at {n : Nat} {ad : Nat → Nat} {G : Nat → va_E} {i : Nat} (h : i < n) {x : va_E} (hx : G i = x) : (gw n ad G)[i]? = some (ad i, x) := by rw [gw_get h, hx]
theorem gw_inv {n : Nat} {ad : Nat → Nat} {G : Nat → va_E} {k : Nat} {q : Nat × va_E} (h : (gw n ad G)[k]? = some q) : k < n ∧ q = (ad k, G k) := by
  by_cases hk : k < n
  · rw [gw_get hk] at h
    exact ⟨hk, (Option.some.inj h).symm⟩
  · rw [List.getElem?_eq_none (by simp [gw]; omega)] at h
    cases h
theorem gw_set {n : Nat} {ad : Nat → Nat} {G : Nat → va_E} {i : Nat} {x : va_E} (h : i < n) : (gw n ad G).set i (ad i, x) = gw n ad (va_up G i x) := by
  apply List.ext_getElem?
  intro k
  rw [List.getElem?_set]
  by_cases hk : i = k
  · subst hk
    rw [gw_get h]
    simp [gw, h, va_up]
  · by_cases hn : k < n
    · rw [gw_get hn, gw_get hn, if_neg hk]
      have : va_up G i x k = G k := if_neg (fun e => hk e.symm)
      rw [this]
    · rw [if_neg hk, List.getElem?_eq_none (by simp [gw]; omega), List.getElem?_eq_none (by simp [gw]; omega)]
theorem gw_push {n : Nat} {ad : Nat → Nat} {G : Nat → va_E} {q : Nat} {x : va_E} : gw n ad G ++ [(q, x)] = gw (n + 1) (va_up ad n q) (va_up G n x) := by
  unfold gw
  rw [List.range_succ, List.map_append]
  congr 1
  · apply List.map_congr_left
    intro i hi
    have h1 : i < n := List.mem_range.mp hi
    have h2 : va_up ad n q i = ad i := if_neg (Nat.ne_of_lt h1)
    have h3 : va_up G n x i = G i := if_neg (Nat.ne_of_lt h1)
    rw [h2, h3]
  · simp [va_up]
theorem gw_D {A : Nat → Prop} {n : Nat} {ad : Nat → Nat} {G G' : Nat → va_E} (h : va_D A (gw n ad G)) : va_D A (gw n ad G') := by
  refine ⟨fun i j p q hp hq he => ?_, fun k q hk => ?_⟩
  · obtain ⟨hi, rfl⟩ := gw_inv hp
    obtain ⟨hj, rfl⟩ := gw_inv hq
    exact h.1 i j _ _ (gw_get hi) (gw_get hj) he
  · obtain ⟨hi, rfl⟩ := gw_inv hk
    exact h.2 k (ad k, G k) (gw_get hi)
theorem gw_congr {n : Nat} {ad ad' : Nat → Nat} {G G' : Nat → va_E} (h : ∀ i, i < n → ad i = ad' i ∧ G i = G' i) : gw n ad G = gw n ad' G' := by
  unfold gw
  apply List.map_congr_left
  intro i hi
  obtain ⟨h1, h2⟩ := h i (List.mem_range.mp hi)
  rw [h1, h2]
/-- the static rows of numbers: class, field, what they hold -/
def svL : List (String × String × List Int32) := [("FlameGuards$Settings", "LEAST", [100, 1, 0, 50]), ("FlameGuards$Settings", "MOST", [450, 20, 50, 1000]), ("FlameGuards$Settings", "FIRST", [300, 5, 5, 300]), ("FlameGuards$Burner", "FLOW", [2, 4, 4, 9, 6, 14]), ("FlameGuards$Burner", "HEAT", [500, 700, 600, 850, 550, 900]), ("FlameGuards$Burner", "STRENGTH", [2, 4, 3, 6, 1, 5]), ("FlameGuards$Burner", "WARMING", [8, 6, 10]), ("FlameGuards$Burner", "COOLING", [10, 14, 20]), ("FlameGuards$State", "FIRST_KINDS", [0, 0, 1, 2])]
def GS (sa : Nat → Nat) (A : Nat → Prop) (U : State) (H : Heap) : Prop := ∀ (k : Nat) (q : String × String × List Int32), svL[k]? = some q → va_Z q.1 q.2.1 "[I" (.ref (sa k)) A U H ∧ va_T .int (sa k) q.2.2.length (fun j => .int (q.2.2.getD j 0)) A U H
theorem GS.moved {sa : Nat → Nat} {A : Nat → Prop} {u U : State} {H : Heap} (hvm : u.vm.Alike U.vm) (h : GS sa A u H) : GS sa A U H := fun k q hq => ⟨(h k q hq).1.moved hvm, (h k q hq).2.moved hvm⟩
theorem GS.kept {sa : Nat → Nat} {A : Nat → Prop} {U : State} {H H1 : Heap} (h : GS sa A U H) (hq : ∀ a : Nat, a < H.size → ¬ A a → H1[a]? = H[a]?) : GS sa A U H1 := fun k q hk => ⟨(h k q hk).1.kept hq, (h k q hk).2.kept hq⟩
theorem GS.narrow {sa : Nat → Nat} {A B : Nat → Prop} {U : State} {H : Heap} (h : GS sa A U H) (hAB : ∀ q, B q → A q) : GS sa B U H := fun k q hk => ⟨(h k q hk).1.narrow hAB, (h k q hk).2.narrow hAB⟩
/-- the nest mates' links -/
def nwL : List (String × Nat × MethodName) := [(RX0, 66, yX7_elementAt), (RX2, 26, yX7_copyRow), (RX2, 42, yX7_isWithin), (RX3, 20, yX7_copyRow), (RX3, 30, yX7_elementAt), (RX4, 16, yX7_copyRow), (RX4, 22, yX7_isWithin), (RX4, 29, yX7_elementAt), (RX5, 126, yX7_oneIf)]
def GN (U : State) : Prop := ∀ q : String × Nat × MethodName, q ∈ nwL → va_Nw (.methodLinkNest q.1 q.2.1 q.2.2 "FlameGuards") U
theorem GN.warm {s U : State} (hW : s.WarmedH U.vm) (h : GN s) : GN U := fun q hq => va_Nw.warmM hW (h q hq)
theorem GN.same {u U : State} (hv : u.vm = U.vm) (h : GN u) : GN U := fun q hq => va_Nw.same rfl hv (h q hq)
theorem nw0 {U : State} (h : GN U) : va_Nw (.methodLinkNest RX0 66 yX7_elementAt "FlameGuards") U := h (RX0, 66, yX7_elementAt) (List.Mem.head _)
theorem nw1 {U : State} (h : GN U) : va_Nw (.methodLinkNest RX2 26 yX7_copyRow "FlameGuards") U := h (RX2, 26, yX7_copyRow) (List.Mem.tail _ (List.Mem.head _))
theorem nw2 {U : State} (h : GN U) : va_Nw (.methodLinkNest RX2 42 yX7_isWithin "FlameGuards") U := h (RX2, 42, yX7_isWithin) (List.Mem.tail _ (List.Mem.tail _ (List.Mem.head _)))
theorem nw3 {U : State} (h : GN U) : va_Nw (.methodLinkNest RX3 20 yX7_copyRow "FlameGuards") U := h (RX3, 20, yX7_copyRow) (List.Mem.tail _ (List.Mem.tail _ (List.Mem.tail _ (List.Mem.head _))))
theorem nw4 {U : State} (h : GN U) : va_Nw (.methodLinkNest RX3 30 yX7_elementAt "FlameGuards") U := h (RX3, 30, yX7_elementAt) (List.Mem.tail _ (List.Mem.tail _ (List.Mem.tail _ (List.Mem.tail _ (List.Mem.head _)))))
theorem nw5 {U : State} (h : GN U) : va_Nw (.methodLinkNest RX4 16 yX7_copyRow "FlameGuards") U := h (RX4, 16, yX7_copyRow) (List.Mem.tail _ (List.Mem.tail _ (List.Mem.tail _ (List.Mem.tail _ (List.Mem.tail _ (List.Mem.head _))))))
theorem nw6 {U : State} (h : GN U) : va_Nw (.methodLinkNest RX4 22 yX7_isWithin "FlameGuards") U := h (RX4, 22, yX7_isWithin) (List.Mem.tail _ (List.Mem.tail _ (List.Mem.tail _ (List.Mem.tail _ (List.Mem.tail _ (List.Mem.tail _ (List.Mem.head _)))))))
theorem nw7 {U : State} (h : GN U) : va_Nw (.methodLinkNest RX4 29 yX7_elementAt "FlameGuards") U := h (RX4, 29, yX7_elementAt) (List.Mem.tail _ (List.Mem.tail _ (List.Mem.tail _ (List.Mem.tail _ (List.Mem.tail _ (List.Mem.tail _ (List.Mem.tail _ (List.Mem.head _))))))))
theorem nw8 {U : State} (h : GN U) : va_Nw (.methodLinkNest RX5 126 yX7_oneIf "FlameGuards") U := h (RX5, 126, yX7_oneIf) (List.Mem.tail _ (List.Mem.tail _ (List.Mem.tail _ (List.Mem.tail _ (List.Mem.tail _ (List.Mem.tail _ (List.Mem.tail _ (List.Mem.tail _ (List.Mem.head _)))))))))
section GK
variable {p : Program} {l : Launch} {e : Env} {R : Room} {s : State} {m : MethodId} {args : Array Value} {below : List Frame} {meth : Method} {c : Code} {cells slots : Nat} {Q : State → Prop}
variable {cc : ByteArray} {nL : Nat} {Ts : List Cond} {own : String} {sa : Nat → Nat} {D : va_G} {tys : List (ClassId × FieldType)} {A : Nat → Prop}
variable {pc n : Nat} {ad : Nat → Nat} {G : Nat → va_E} {lv : List (Nat × Value)} {rest : List Value}
/-- what stays through a walk: the machine, the code, the words, the classes, the statics, what may be written -/
def GC (p : Program) (R : Room) (s : State) (m : MethodId) (args : Array Value) (meth : Method) (c : Code) (cc : ByteArray) (nL : Nat) (Ts : List Cond) (own : String) (sa : Nat → Nat) (D : va_G) (tys : List (ClassId × FieldType)) (A : Nat → Prop) : Prop :=
  p.tables.exec = Jvm.exec ∧ c.code = cc ∧ c.maxLocals = nL ∧ s.vm.findClass own = some m.cls ∧ (∀ w ∈ Ts, w.before args s = true) ∧ va_K D vwCl tys s ∧ GN s ∧ GS sa A s s.heap ∧ (∀ q, s.heap.size ≤ q → A q)
theorem GC.hx (C : GC p R s m args meth c cc nL Ts own sa D tys A) : p.tables.exec = Jvm.exec := C.1
theorem GC.hb (C : GC p R s m args meth c cc nL Ts own sa D tys A) : c.code = cc := C.2.1
theorem GC.hml (C : GC p R s m args meth c cc nL Ts own sa D tys A) : c.maxLocals = nL := C.2.2.1
theorem GC.hown (C : GC p R s m args meth c cc nL Ts own sa D tys A) : s.vm.findClass own = some m.cls := C.2.2.2.1
theorem GC.hts (C : GC p R s m args meth c cc nL Ts own sa D tys A) : ∀ w ∈ Ts, w.before args s = true := C.2.2.2.2.1
theorem GC.hK (C : GC p R s m args meth c cc nL Ts own sa D tys A) : va_K D vwCl tys s := C.2.2.2.2.2.1
theorem GC.hN (C : GC p R s m args meth c cc nL Ts own sa D tys A) : GN s := C.2.2.2.2.2.2.1
theorem GC.hS (C : GC p R s m args meth c cc nL Ts own sa D tys A) : GS sa A s s.heap := C.2.2.2.2.2.2.2.1
theorem GC.hA (C : GC p R s m args meth c cc nL Ts own sa D tys A) : ∀ q, s.heap.size ≤ q → A q := C.2.2.2.2.2.2.2.2
theorem GC.fix (C : GC p R s m args meth c cc nL Ts own sa D tys A) : CallFix p m c cc nL s args Ts own := ⟨C.hx, C.hb, C.hml, C.hown, C.hts⟩
/-- the goal: from pc with the locals lv, the stack st, the world G, the machine comes to Q -/
def GV (p : Program) (l : Launch) (e : Env) (R : Room) (s : State) (m : MethodId) (args : Array Value) (below : List Frame) (meth : Method) (c : Code) (cells slots : Nat) (Q : State → Prop) (D : va_G) (A : Nat → Prop) (nL n : Nat) (ad : Nat → Nat) (G : Nat → va_E) (lv : List (Nat × Value)) (pc : Nat) (st : List Value) : Prop :=
  ∀ (H : Heap) (locs : List Loc) (ls : Array Slot), va_P D vwCl (gw n ad G) H → va_D A (gw n ad G) → va_S A s.heap H locs → lv_has ls nL lv → W p l e R s m args below meth c H locs cells slots Q (F0 m pc ls st)
theorem gv_lv {st : List Value} {lv' : List (Nat × Value)} (ks : List Nat) (hl : lv_pick lv ks = lv') (kk : GV p l e R s m args below meth c cells slots Q D A nL n ad G (lv') (pc) (st)) : GV p l e R s m args below meth c cells slots Q D A nL n ad G (lv) (pc) (st) := fun H locs ls hP hD hS hl0 => kk H locs ls hP hD hS (lv_sub hl0 ks hl)
theorem gv_eqG {st : List Value} {G' : Nat → va_E} (h : G = G') (kk : GV p l e R s m args below meth c cells slots Q D A nL n ad G' (lv) (pc) (st)) : GV p l e R s m args below meth c cells slots Q D A nL n ad G (lv) (pc) (st) := by rw [h]; exact kk
theorem gv_eqS {st st' : List Value} (h : st = st') (kk : GV p l e R s m args below meth c cells slots Q D A nL n ad G (lv) (pc) (st')) : GV p l e R s m args below meth c cells slots Q D A nL n ad G (lv) (pc) (st) := by rw [h]; exact kk
theorem gv_eqL {st : List Value} {lv' : List (Nat × Value)} (h : lv = lv') (kk : GV p l e R s m args below meth c cells slots Q D A nL n ad G (lv') (pc) (st)) : GV p l e R s m args below meth c cells slots Q D A nL n ad G (lv) (pc) (st) := by rw [h]; exact kk
theorem g_iconst (C : GC p R s m args meth c cc nL Ts own sa D tys A) {k : Int} {v : Int32} (hdg : decode cc pc = .ok (.iconst k, 1)) (hv : Int32.ofInt k = v) (kk : GV p l e R s m args below meth c cells slots Q D A nL n ad G (lv) (pc + 1) (.int v :: rest)) : GV p l e R s m args below meth c cells slots Q D A nL n ad G (lv) (pc) (rest) := fun H locs ls hP hD hS hl => lv_iconst C.hx C.hb hdg hv (kk H locs ls hP hD hS hl)
theorem g_bipush (C : GC p R s m args meth c cc nL Ts own sa D tys A) {k : Int} {v : Int32} (hdg : decode cc pc = .ok (.bipush k, 2)) (hv : (Int8.ofInt k).toInt32 = v) (kk : GV p l e R s m args below meth c cells slots Q D A nL n ad G (lv) (pc + 2) (.int v :: rest)) : GV p l e R s m args below meth c cells slots Q D A nL n ad G (lv) (pc) (rest) := fun H locs ls hP hD hS hl => lv_bipush C.hx C.hb hdg hv (kk H locs ls hP hD hS hl)
theorem g_sipush (C : GC p R s m args meth c cc nL Ts own sa D tys A) {k : Int} {v : Int32} (hdg : decode cc pc = .ok (.sipush k, 3)) (hv : (Int16.ofInt k).toInt32 = v) (kk : GV p l e R s m args below meth c cells slots Q D A nL n ad G (lv) (pc + 3) (.int v :: rest)) : GV p l e R s m args below meth c cells slots Q D A nL n ad G (lv) (pc) (rest) := fun H locs ls hP hD hS hl => lv_sipush C.hx C.hb hdg hv (kk H locs ls hP hD hS hl)
theorem g_iload_n (C : GC p R s m args meth c cc nL Ts own sa D tys A) {k : Fin 4} {i : Nat} {x : Int32} (hdg : decode cc pc = .ok (.iload_n k, 1)) (hi : (k : Nat) = i) (q : Nat) (hq : lv[q]? = some (i, .int x)) (kk : GV p l e R s m args below meth c cells slots Q D A nL n ad G (lv) (pc + 1) (.int x :: rest)) : GV p l e R s m args below meth c cells slots Q D A nL n ad G (lv) (pc) (rest) := fun H locs ls hP hD hS hl => lv_iload_n C.hx C.hb hdg hi (lv_at hl q hq) (kk H locs ls hP hD hS hl)
theorem g_iload (C : GC p R s m args meth c cc nL Ts own sa D tys A) {i : Nat} {x : Int32} (hdg : decode cc pc = .ok (.iload i, 2)) (q : Nat) (hq : lv[q]? = some (i, .int x)) (kk : GV p l e R s m args below meth c cells slots Q D A nL n ad G (lv) (pc + 2) (.int x :: rest)) : GV p l e R s m args below meth c cells slots Q D A nL n ad G (lv) (pc) (rest) := fun H locs ls hP hD hS hl => lv_iload C.hx C.hb hdg (lv_at hl q hq) (kk H locs ls hP hD hS hl)
theorem g_aload_n (C : GC p R s m args meth c cc nL Ts own sa D tys A) {k : Fin 4} {i : Nat} {x : Nat} (hdg : decode cc pc = .ok (.aload_n k, 1)) (hi : (k : Nat) = i) (q : Nat) (hq : lv[q]? = some (i, .ref x)) (kk : GV p l e R s m args below meth c cells slots Q D A nL n ad G (lv) (pc + 1) (.ref x :: rest)) : GV p l e R s m args below meth c cells slots Q D A nL n ad G (lv) (pc) (rest) := fun H locs ls hP hD hS hl => lv_aload_n C.hx C.hb hdg hi (lv_at hl q hq) (kk H locs ls hP hD hS hl)
theorem g_aload (C : GC p R s m args meth c cc nL Ts own sa D tys A) {i : Nat} {x : Nat} (hdg : decode cc pc = .ok (.aload i, 2)) (q : Nat) (hq : lv[q]? = some (i, .ref x)) (kk : GV p l e R s m args below meth c cells slots Q D A nL n ad G (lv) (pc + 2) (.ref x :: rest)) : GV p l e R s m args below meth c cells slots Q D A nL n ad G (lv) (pc) (rest) := fun H locs ls hP hD hS hl => lv_aload C.hx C.hb hdg (lv_at hl q hq) (kk H locs ls hP hD hS hl)
theorem g_istore_n (C : GC p R s m args meth c cc nL Ts own sa D tys A) {k : Fin 4} {i : Nat} {x : Int32} {lv' : List (Nat × Value)} (hdg : decode cc pc = .ok (.istore_n k, 1)) (hi : (k : Nat) = i) (hn : i < nL) (hf : (i, Value.int x) :: lv.filter (fun q => !(q.1 == i) && !(q.1 + 1 == i && q.2.category == 2)) = lv') (kk : GV p l e R s m args below meth c cells slots Q D A nL n ad G (lv') (pc + 1) (rest)) : GV p l e R s m args below meth c cells slots Q D A nL n ad G (lv) (pc) (.int x :: rest) := fun H locs ls hP hD hS hl => lv_istore_n C.hx C.hb hdg hi hl hn hf (fun ls2 hl2 => kk H locs ls2 hP hD hS hl2)
theorem g_istore (C : GC p R s m args meth c cc nL Ts own sa D tys A) {i : Nat} {x : Int32} {lv' : List (Nat × Value)} (hdg : decode cc pc = .ok (.istore i, 2)) (hn : i < nL) (hf : (i, Value.int x) :: lv.filter (fun q => !(q.1 == i) && !(q.1 + 1 == i && q.2.category == 2)) = lv') (kk : GV p l e R s m args below meth c cells slots Q D A nL n ad G (lv') (pc + 2) (rest)) : GV p l e R s m args below meth c cells slots Q D A nL n ad G (lv) (pc) (.int x :: rest) := fun H locs ls hP hD hS hl => lv_istore C.hx C.hb hdg hl hn hf (fun ls2 hl2 => kk H locs ls2 hP hD hS hl2)
theorem g_astore_n (C : GC p R s m args meth c cc nL Ts own sa D tys A) {k : Fin 4} {i : Nat} {x : Nat} {lv' : List (Nat × Value)} (hdg : decode cc pc = .ok (.astore_n k, 1)) (hi : (k : Nat) = i) (hn : i < nL) (hf : (i, Value.ref x) :: lv.filter (fun q => !(q.1 == i) && !(q.1 + 1 == i && q.2.category == 2)) = lv') (kk : GV p l e R s m args below meth c cells slots Q D A nL n ad G (lv') (pc + 1) (rest)) : GV p l e R s m args below meth c cells slots Q D A nL n ad G (lv) (pc) (.ref x :: rest) := fun H locs ls hP hD hS hl => lv_astore_n C.hx C.hb hdg hi hl hn hf (fun ls2 hl2 => kk H locs ls2 hP hD hS hl2)
theorem g_astore (C : GC p R s m args meth c cc nL Ts own sa D tys A) {i : Nat} {x : Nat} {lv' : List (Nat × Value)} (hdg : decode cc pc = .ok (.astore i, 2)) (hn : i < nL) (hf : (i, Value.ref x) :: lv.filter (fun q => !(q.1 == i) && !(q.1 + 1 == i && q.2.category == 2)) = lv') (kk : GV p l e R s m args below meth c cells slots Q D A nL n ad G (lv') (pc + 2) (rest)) : GV p l e R s m args below meth c cells slots Q D A nL n ad G (lv) (pc) (.ref x :: rest) := fun H locs ls hP hD hS hl => lv_astore C.hx C.hb hdg hl hn hf (fun ls2 hl2 => kk H locs ls2 hP hD hS hl2)
theorem g_iinc (C : GC p R s m args meth c cc nL Ts own sa D tys A) {i k : Nat} {z : Int} {x v : Int32} {lv' : List (Nat × Value)} (hdg : decode cc pc = .ok (.iinc i z, 3)) (hk : lv[k]? = some (i, .int x)) (hv : x + Int32.ofInt z = v) (hn : i < nL) (hf : (i, Value.int v) :: lv.filter (fun q => !(q.1 == i) && !(q.1 + 1 == i && q.2.category == 2)) = lv') (kk : GV p l e R s m args below meth c cells slots Q D A nL n ad G (lv') (pc + 3) (rest)) : GV p l e R s m args below meth c cells slots Q D A nL n ad G (lv) (pc) (rest) := fun H locs ls hP hD hS hl => lv_iinc C.hx C.hb hdg hl hk hv hn hf (fun ls2 hl2 => kk H locs ls2 hP hD hS hl2)
theorem g_iadd (C : GC p R s m args meth c cc nL Ts own sa D tys A) {x y v : Int32} (hdg : decode cc pc = .ok (.iadd, 1)) (hv : x + y = v) (kk : GV p l e R s m args below meth c cells slots Q D A nL n ad G (lv) (pc + 1) (.int v :: rest)) : GV p l e R s m args below meth c cells slots Q D A nL n ad G (lv) (pc) (.int y :: .int x :: rest) := fun H locs ls hP hD hS hl => lv_iadd C.hx C.hb hdg (by rw [hv]; exact kk H locs ls hP hD hS hl)
theorem g_isub (C : GC p R s m args meth c cc nL Ts own sa D tys A) {x y v : Int32} (hdg : decode cc pc = .ok (.isub, 1)) (hv : x - y = v) (kk : GV p l e R s m args below meth c cells slots Q D A nL n ad G (lv) (pc + 1) (.int v :: rest)) : GV p l e R s m args below meth c cells slots Q D A nL n ad G (lv) (pc) (.int y :: .int x :: rest) := fun H locs ls hP hD hS hl => lv_isub C.hx C.hb hdg (by rw [hv]; exact kk H locs ls hP hD hS hl)
theorem g_imul (C : GC p R s m args meth c cc nL Ts own sa D tys A) {x y v : Int32} (hdg : decode cc pc = .ok (.imul, 1)) (hv : x * y = v) (kk : GV p l e R s m args below meth c cells slots Q D A nL n ad G (lv) (pc + 1) (.int v :: rest)) : GV p l e R s m args below meth c cells slots Q D A nL n ad G (lv) (pc) (.int y :: .int x :: rest) := fun H locs ls hP hD hS hl => lv_imul C.hx C.hb hdg (by rw [hv]; exact kk H locs ls hP hD hS hl)
theorem g_iand (C : GC p R s m args meth c cc nL Ts own sa D tys A) {x y v : Int32} (hdg : decode cc pc = .ok (.iand, 1)) (hv : x &&& y = v) (kk : GV p l e R s m args below meth c cells slots Q D A nL n ad G (lv) (pc + 1) (.int v :: rest)) : GV p l e R s m args below meth c cells slots Q D A nL n ad G (lv) (pc) (.int y :: .int x :: rest) := fun H locs ls hP hD hS hl => lv_iand C.hx C.hb hdg (by rw [hv]; exact kk H locs ls hP hD hS hl)
theorem g_idiv (C : GC p R s m args meth c cc nL Ts own sa D tys A) {x y : Int32} (hdg : decode cc pc = .ok (.idiv, 1)) (hne : ¬ y = 0) (kk : GV p l e R s m args below meth c cells slots Q D A nL n ad G (lv) (pc + 1) (.int (x / y) :: rest)) : GV p l e R s m args below meth c cells slots Q D A nL n ad G (lv) (pc) (.int y :: .int x :: rest) := fun H locs ls hP hD hS hl => lv_idiv C.hx C.hb hdg hne (kk H locs ls hP hD hS hl)
theorem g_i2c (C : GC p R s m args meth c cc nL Ts own sa D tys A) {x : Int32} (hdg : decode cc pc = .ok (.i2c, 1)) (kk : GV p l e R s m args below meth c cells slots Q D A nL n ad G (lv) (pc + 1) (.int (x.toUInt32 % 65536).toInt32 :: rest)) : GV p l e R s m args below meth c cells slots Q D A nL n ad G (lv) (pc) (.int x :: rest) := fun H locs ls hP hD hS hl => lv_i2c C.hx C.hb hdg rfl (kk H locs ls hP hD hS hl)
theorem g_dup (C : GC p R s m args meth c cc nL Ts own sa D tys A) {v : Value} (hdg : decode cc pc = .ok (.dup, 1)) (hv : v.category = 1) (kk : GV p l e R s m args below meth c cells slots Q D A nL n ad G (lv) (pc + 1) (v :: v :: rest)) : GV p l e R s m args below meth c cells slots Q D A nL n ad G (lv) (pc) (v :: rest) := fun H locs ls hP hD hS hl => lv_dup C.hx C.hb hdg hv (kk H locs ls hP hD hS hl)
theorem g_dup2 (C : GC p R s m args meth c cc nL Ts own sa D tys A) {v u : Value} (hdg : decode cc pc = .ok (.dup2, 1)) (hv : v.category = 1) (hu : u.category = 1) (kk : GV p l e R s m args below meth c cells slots Q D A nL n ad G (lv) (pc + 1) (v :: u :: v :: u :: rest)) : GV p l e R s m args below meth c cells slots Q D A nL n ad G (lv) (pc) (v :: u :: rest) := fun H locs ls hP hD hS hl => lv_dup2_11 C.hx C.hb hdg hv hu (kk H locs ls hP hD hS hl)
theorem g_pop (C : GC p R s m args meth c cc nL Ts own sa D tys A) {v : Value} (hdg : decode cc pc = .ok (.pop, 1)) (hv : v.category = 1) (kk : GV p l e R s m args below meth c cells slots Q D A nL n ad G (lv) (pc + 1) (rest)) : GV p l e R s m args below meth c cells slots Q D A nL n ad G (lv) (pc) (v :: rest) := fun H locs ls hP hD hS hl => lv_pop C.hx C.hb hdg hv (kk H locs ls hP hD hS hl)
theorem g_goto (C : GC p R s m args meth c cc nL Ts own sa D tys A) {off : Int} {tgt : Nat} (hdg : decode cc pc = .ok (.goto off, 3)) (ht : (pc : Int) + off = (tgt : Int)) (kk : GV p l e R s m args below meth c cells slots Q D A nL n ad G (lv) (tgt) (rest)) : GV p l e R s m args below meth c cells slots Q D A nL n ad G (lv) (pc) (rest) := fun H locs ls hP hD hS hl => lv_goto C.hx C.hb hdg ht (kk H locs ls hP hD hS hl)
theorem g_ifnonnull (C : GC p R s m args meth c cc nL Ts own sa D tys A) {x : Nat} {off : Int} {tgt : Nat} (hdg : decode cc pc = .ok (.ifnonnull off, 3)) (ht : (pc : Int) + off = (tgt : Int)) (kk : GV p l e R s m args below meth c cells slots Q D A nL n ad G (lv) (tgt) (rest)) : GV p l e R s m args below meth c cells slots Q D A nL n ad G (lv) (pc) (.ref x :: rest) := fun H locs ls hP hD hS hl => lv_ifnonnull C.hx C.hb hdg ht (kk H locs ls hP hD hS hl)
theorem g_ldc (C : GC p R s m args meth c cc nL Ts own sa D tys A) {index : Nat} {v : Int32} (hc : (Jvm.Cond.constant own index v).before args s = true) (hdg : decode cc pc = .ok (.ldc index, 2)) (kk : GV p l e R s m args below meth c cells slots Q D A nL n ad G (lv) (pc + 2) (.int v :: rest)) : GV p l e R s m args below meth c cells slots Q D A nL n ad G (lv) (pc) (rest) := fun H locs ls hP hD hS hl => lv_ldc C.hx C.hb C.hown hc hdg (kk H locs ls hP hD hS hl)
theorem g_icmp_eq (C : GC p R s m args meth c cc nL Ts own sa D tys A) {x y : Int32} {off : Int} {tgt : Nat} (hdg : decode cc pc = .ok (.if_icmp .eq off, 3)) (ht : (pc : Int) + off = (tgt : Int)) (kt : x = y → GV p l e R s m args below meth c cells slots Q D A nL n ad G (lv) (tgt) (rest)) (kf : ¬ x = y → GV p l e R s m args below meth c cells slots Q D A nL n ad G (lv) (pc + 3) (rest)) : GV p l e R s m args below meth c cells slots Q D A nL n ad G (lv) (pc) (.int y :: .int x :: rest) := fun H locs ls hP hD hS hl => lv_icmp_eq C.hx C.hb hdg ht (fun h => kt h H locs ls hP hD hS hl) (fun h => kf h H locs ls hP hD hS hl)
theorem g_if_eq (C : GC p R s m args meth c cc nL Ts own sa D tys A) {x : Int32} {off : Int} {tgt : Nat} (hdg : decode cc pc = .ok (.ifCond .eq off, 3)) (ht : (pc : Int) + off = (tgt : Int)) (kt : x = 0 → GV p l e R s m args below meth c cells slots Q D A nL n ad G (lv) (tgt) (rest)) (kf : ¬ x = 0 → GV p l e R s m args below meth c cells slots Q D A nL n ad G (lv) (pc + 3) (rest)) : GV p l e R s m args below meth c cells slots Q D A nL n ad G (lv) (pc) (.int x :: rest) := fun H locs ls hP hD hS hl => lv_if_eq C.hx C.hb hdg ht (fun h => kt h H locs ls hP hD hS hl) (fun h => kf h H locs ls hP hD hS hl)
theorem g_icmp_ne (C : GC p R s m args meth c cc nL Ts own sa D tys A) {x y : Int32} {off : Int} {tgt : Nat} (hdg : decode cc pc = .ok (.if_icmp .ne off, 3)) (ht : (pc : Int) + off = (tgt : Int)) (kt : ¬ x = y → GV p l e R s m args below meth c cells slots Q D A nL n ad G (lv) (tgt) (rest)) (kf : x = y → GV p l e R s m args below meth c cells slots Q D A nL n ad G (lv) (pc + 3) (rest)) : GV p l e R s m args below meth c cells slots Q D A nL n ad G (lv) (pc) (.int y :: .int x :: rest) := fun H locs ls hP hD hS hl => lv_icmp_ne C.hx C.hb hdg ht (fun h => kt h H locs ls hP hD hS hl) (fun h => kf h H locs ls hP hD hS hl)
theorem g_if_ne (C : GC p R s m args meth c cc nL Ts own sa D tys A) {x : Int32} {off : Int} {tgt : Nat} (hdg : decode cc pc = .ok (.ifCond .ne off, 3)) (ht : (pc : Int) + off = (tgt : Int)) (kt : ¬ x = 0 → GV p l e R s m args below meth c cells slots Q D A nL n ad G (lv) (tgt) (rest)) (kf : x = 0 → GV p l e R s m args below meth c cells slots Q D A nL n ad G (lv) (pc + 3) (rest)) : GV p l e R s m args below meth c cells slots Q D A nL n ad G (lv) (pc) (.int x :: rest) := fun H locs ls hP hD hS hl => lv_if_ne C.hx C.hb hdg ht (fun h => kt h H locs ls hP hD hS hl) (fun h => kf h H locs ls hP hD hS hl)
theorem g_icmp_lt (C : GC p R s m args meth c cc nL Ts own sa D tys A) {x y : Int32} {off : Int} {tgt : Nat} (hdg : decode cc pc = .ok (.if_icmp .lt off, 3)) (ht : (pc : Int) + off = (tgt : Int)) (kt : x < y → GV p l e R s m args below meth c cells slots Q D A nL n ad G (lv) (tgt) (rest)) (kf : ¬ x < y → GV p l e R s m args below meth c cells slots Q D A nL n ad G (lv) (pc + 3) (rest)) : GV p l e R s m args below meth c cells slots Q D A nL n ad G (lv) (pc) (.int y :: .int x :: rest) := fun H locs ls hP hD hS hl => lv_icmp_lt C.hx C.hb hdg ht (fun h => kt h H locs ls hP hD hS hl) (fun h => kf h H locs ls hP hD hS hl)
theorem g_if_lt (C : GC p R s m args meth c cc nL Ts own sa D tys A) {x : Int32} {off : Int} {tgt : Nat} (hdg : decode cc pc = .ok (.ifCond .lt off, 3)) (ht : (pc : Int) + off = (tgt : Int)) (kt : x < 0 → GV p l e R s m args below meth c cells slots Q D A nL n ad G (lv) (tgt) (rest)) (kf : ¬ x < 0 → GV p l e R s m args below meth c cells slots Q D A nL n ad G (lv) (pc + 3) (rest)) : GV p l e R s m args below meth c cells slots Q D A nL n ad G (lv) (pc) (.int x :: rest) := fun H locs ls hP hD hS hl => lv_if_lt C.hx C.hb hdg ht (fun h => kt h H locs ls hP hD hS hl) (fun h => kf h H locs ls hP hD hS hl)
theorem g_icmp_ge (C : GC p R s m args meth c cc nL Ts own sa D tys A) {x y : Int32} {off : Int} {tgt : Nat} (hdg : decode cc pc = .ok (.if_icmp .ge off, 3)) (ht : (pc : Int) + off = (tgt : Int)) (kt : y ≤ x → GV p l e R s m args below meth c cells slots Q D A nL n ad G (lv) (tgt) (rest)) (kf : ¬ y ≤ x → GV p l e R s m args below meth c cells slots Q D A nL n ad G (lv) (pc + 3) (rest)) : GV p l e R s m args below meth c cells slots Q D A nL n ad G (lv) (pc) (.int y :: .int x :: rest) := fun H locs ls hP hD hS hl => lv_icmp_ge C.hx C.hb hdg ht (fun h => kt h H locs ls hP hD hS hl) (fun h => kf h H locs ls hP hD hS hl)
theorem g_if_ge (C : GC p R s m args meth c cc nL Ts own sa D tys A) {x : Int32} {off : Int} {tgt : Nat} (hdg : decode cc pc = .ok (.ifCond .ge off, 3)) (ht : (pc : Int) + off = (tgt : Int)) (kt : 0 ≤ x → GV p l e R s m args below meth c cells slots Q D A nL n ad G (lv) (tgt) (rest)) (kf : ¬ 0 ≤ x → GV p l e R s m args below meth c cells slots Q D A nL n ad G (lv) (pc + 3) (rest)) : GV p l e R s m args below meth c cells slots Q D A nL n ad G (lv) (pc) (.int x :: rest) := fun H locs ls hP hD hS hl => lv_if_ge C.hx C.hb hdg ht (fun h => kt h H locs ls hP hD hS hl) (fun h => kf h H locs ls hP hD hS hl)
theorem g_icmp_gt (C : GC p R s m args meth c cc nL Ts own sa D tys A) {x y : Int32} {off : Int} {tgt : Nat} (hdg : decode cc pc = .ok (.if_icmp .gt off, 3)) (ht : (pc : Int) + off = (tgt : Int)) (kt : y < x → GV p l e R s m args below meth c cells slots Q D A nL n ad G (lv) (tgt) (rest)) (kf : ¬ y < x → GV p l e R s m args below meth c cells slots Q D A nL n ad G (lv) (pc + 3) (rest)) : GV p l e R s m args below meth c cells slots Q D A nL n ad G (lv) (pc) (.int y :: .int x :: rest) := fun H locs ls hP hD hS hl => lv_icmp_gt C.hx C.hb hdg ht (fun h => kt h H locs ls hP hD hS hl) (fun h => kf h H locs ls hP hD hS hl)
theorem g_if_gt (C : GC p R s m args meth c cc nL Ts own sa D tys A) {x : Int32} {off : Int} {tgt : Nat} (hdg : decode cc pc = .ok (.ifCond .gt off, 3)) (ht : (pc : Int) + off = (tgt : Int)) (kt : 0 < x → GV p l e R s m args below meth c cells slots Q D A nL n ad G (lv) (tgt) (rest)) (kf : ¬ 0 < x → GV p l e R s m args below meth c cells slots Q D A nL n ad G (lv) (pc + 3) (rest)) : GV p l e R s m args below meth c cells slots Q D A nL n ad G (lv) (pc) (.int x :: rest) := fun H locs ls hP hD hS hl => lv_if_gt C.hx C.hb hdg ht (fun h => kt h H locs ls hP hD hS hl) (fun h => kf h H locs ls hP hD hS hl)
theorem g_icmp_le (C : GC p R s m args meth c cc nL Ts own sa D tys A) {x y : Int32} {off : Int} {tgt : Nat} (hdg : decode cc pc = .ok (.if_icmp .le off, 3)) (ht : (pc : Int) + off = (tgt : Int)) (kt : x ≤ y → GV p l e R s m args below meth c cells slots Q D A nL n ad G (lv) (tgt) (rest)) (kf : ¬ x ≤ y → GV p l e R s m args below meth c cells slots Q D A nL n ad G (lv) (pc + 3) (rest)) : GV p l e R s m args below meth c cells slots Q D A nL n ad G (lv) (pc) (.int y :: .int x :: rest) := fun H locs ls hP hD hS hl => lv_icmp_le C.hx C.hb hdg ht (fun h => kt h H locs ls hP hD hS hl) (fun h => kf h H locs ls hP hD hS hl)
theorem g_if_le (C : GC p R s m args meth c cc nL Ts own sa D tys A) {x : Int32} {off : Int} {tgt : Nat} (hdg : decode cc pc = .ok (.ifCond .le off, 3)) (ht : (pc : Int) + off = (tgt : Int)) (kt : x ≤ 0 → GV p l e R s m args below meth c cells slots Q D A nL n ad G (lv) (tgt) (rest)) (kf : ¬ x ≤ 0 → GV p l e R s m args below meth c cells slots Q D A nL n ad G (lv) (pc + 3) (rest)) : GV p l e R s m args below meth c cells slots Q D A nL n ad G (lv) (pc) (.int x :: rest) := fun H locs ls hP hD hS hl => lv_if_le C.hx C.hb hdg ht (fun h => kt h H locs ls hP hD hS hl) (fun h => kf h H locs ls hP hD hS hl)
theorem g_tabIn (C : GC p R s m args meth c cc nL Ts own sa D tys A) {dflt lo hi : Int} {offs : Array Int} {len : Nat} {x : Int32} {off : Int} {tgt : Nat} (hdg : decode cc pc = .ok (.tableswitch dflt lo hi offs, len)) (h1 : ¬ x.toInt < lo) (h2 : ¬ hi < x.toInt) (ho : offs[(x.toInt - lo).toNat]? = some off) (ht : (pc : Int) + off = (tgt : Int)) (kk : GV p l e R s m args below meth c cells slots Q D A nL n ad G (lv) (tgt) (rest)) : GV p l e R s m args below meth c cells slots Q D A nL n ad G (lv) (pc) (.int x :: rest) := fun H locs ls hP hD hS hl => lv_tableIn C.hx C.hb hdg h1 h2 ho ht (kk H locs ls hP hD hS hl)
theorem g_tabOut (C : GC p R s m args meth c cc nL Ts own sa D tys A) {dflt lo hi : Int} {offs : Array Int} {len : Nat} {x : Int32} {tgt : Nat} (hdg : decode cc pc = .ok (.tableswitch dflt lo hi offs, len)) (h : x.toInt < lo ∨ hi < x.toInt) (ht : (pc : Int) + dflt = (tgt : Int)) (kk : GV p l e R s m args below meth c cells slots Q D A nL n ad G (lv) (tgt) (rest)) : GV p l e R s m args below meth c cells slots Q D A nL n ad G (lv) (pc) (.int x :: rest) := fun H locs ls hP hD hS hl => lv_tableOut C.hx C.hb hdg h ht (kk H locs ls hP hD hS hl)
theorem g_null (C : GC p R s m args meth c cc nL Ts own sa D tys A) (hdg : decode cc pc = .ok (.aconst_null, 1)) (kk : GV p l e R s m args below meth c cells slots Q D A nL n ad G (lv) (pc + 1) (.null :: rest)) : GV p l e R s m args below meth c cells slots Q D A nL n ad G (lv) (pc) (rest) := fun H locs ls hP hD hS hl => lv_null C.hx C.hb hdg (kk H locs ls hP hD hS hl)
theorem g_ifnonnullN (C : GC p R s m args meth c cc nL Ts own sa D tys A) {off : Int} (hdg : decode cc pc = .ok (.ifnonnull off, 3)) (kk : GV p l e R s m args below meth c cells slots Q D A nL n ad G (lv) (pc + 3) (rest)) : GV p l e R s m args below meth c cells slots Q D A nL n ad G (lv) (pc) (.null :: rest) := fun H locs ls hP hD hS hl => lv_ifnonnullN C.hx C.hb hdg (kk H locs ls hP hD hS hl)
theorem g_aloadN_n (C : GC p R s m args meth c cc nL Ts own sa D tys A) {k : Fin 4} {i : Nat} (hdg : decode cc pc = .ok (.aload_n k, 1)) (hi : (k : Nat) = i) (q : Nat) (hq : lv[q]? = some (i, .null)) (kk : GV p l e R s m args below meth c cells slots Q D A nL n ad G (lv) (pc + 1) (.null :: rest)) : GV p l e R s m args below meth c cells slots Q D A nL n ad G (lv) (pc) (rest) := fun H locs ls hP hD hS hl => lv_aload_nN C.hx C.hb hdg hi (lv_at hl q hq) (kk H locs ls hP hD hS hl)
theorem g_aloadN (C : GC p R s m args meth c cc nL Ts own sa D tys A) {i : Nat} (hdg : decode cc pc = .ok (.aload i, 2)) (q : Nat) (hq : lv[q]? = some (i, .null)) (kk : GV p l e R s m args below meth c cells slots Q D A nL n ad G (lv) (pc + 2) (.null :: rest)) : GV p l e R s m args below meth c cells slots Q D A nL n ad G (lv) (pc) (rest) := fun H locs ls hP hD hS hl => lv_aloadN C.hx C.hb hdg (lv_at hl q hq) (kk H locs ls hP hD hS hl)
theorem g_astoreN_n (C : GC p R s m args meth c cc nL Ts own sa D tys A) {k : Fin 4} {i : Nat} {lv' : List (Nat × Value)} (hdg : decode cc pc = .ok (.astore_n k, 1)) (hi : (k : Nat) = i) (hn : i < nL) (hf : (i, Value.null) :: lv.filter (fun q => !(q.1 == i) && !(q.1 + 1 == i && q.2.category == 2)) = lv') (kk : GV p l e R s m args below meth c cells slots Q D A nL n ad G (lv') (pc + 1) (rest)) : GV p l e R s m args below meth c cells slots Q D A nL n ad G (lv) (pc) (.null :: rest) := fun H locs ls hP hD hS hl => lv_astore_nN C.hx C.hb hdg hi hl hn hf (fun ls2 hl2 => kk H locs ls2 hP hD hS hl2)
theorem g_astoreN (C : GC p R s m args meth c cc nL Ts own sa D tys A) {i : Nat} {lv' : List (Nat × Value)} (hdg : decode cc pc = .ok (.astore i, 2)) (hn : i < nL) (hf : (i, Value.null) :: lv.filter (fun q => !(q.1 == i) && !(q.1 + 1 == i && q.2.category == 2)) = lv') (kk : GV p l e R s m args below meth c cells slots Q D A nL n ad G (lv') (pc + 2) (rest)) : GV p l e R s m args below meth c cells slots Q D A nL n ad G (lv) (pc) (.null :: rest) := fun H locs ls hP hD hS hl => lv_astoreN C.hx C.hb hdg hl hn hf (fun ls2 hl2 => kk H locs ls2 hP hD hS hl2)
theorem g_get (C : GC p R s m args meth c cc nL Ts own sa D tys A) {C0 : String} {T : u_T} {N ci index : Nat} {i : Nat} {fs : List Value} (hin : ∀ w ∈ u_ws C0 T N, w ∈ Ts) (hi : i < n) (hG : G i = .inr (ci, fs)) (hc : vwCl[ci]? = some (C0, T, N)) (k : Nat) (hk : k < N) (hlink : Cond.fieldLink own index (T k).1 (T k).2.1 (T k).2.2.1 ∈ Ts) {v : Value} (hv : fs[k]? = some v) (hdg : decode cc pc = .ok (.getfield index, 3)) (kk : GV p l e R s m args below meth c cells slots Q D A nL n ad G (lv) (pc + 3) (v :: rest)) : GV p l e R s m args below meth c cells slots Q D A nL n ad G (lv) (pc) (.ref (ad i) :: rest) := fun H locs ls hP hD hS hl => va_get C.hx C.hb C.hts hin C.hown C.hK hP i (gw_at hi hG) hc k hk (C.hts _ hlink) (fun _ h => h) hv hdg (kk H locs ls hP hD hS hl)
theorem g_put (C : GC p R s m args meth c cc nL Ts own sa D tys A) {C0 : String} {T : u_T} {N ci index : Nat} {i : Nat} {fs : List Value} (hin : ∀ w ∈ u_ws C0 T N, w ∈ Ts) (ty0 : Nat → FieldType) (hty : ∀ k, k < N → parseFieldDescriptor (T k).2.2.1 = some (ty0 k)) (hnm : ∀ a, a < N → ∀ b, b < N → a ≠ b → (T a).2.1 ≠ (T b).2.1) (hi : i < n) (hG : G i = .inr (ci, fs)) (hc : vwCl[ci]? = some (C0, T, N)) (k : Nat) (hk : k < N) (hlink : Cond.fieldLink own index (T k).1 (T k).2.1 (T k).2.2.1 ∈ Ts) (hfin : (T k).2.2.2 = false) {v : Value} (hn : narrow (ty0 k) v = v) (hfit : fits (ty0 k) v = true) (hl9 : k < fs.length) (hdg : decode cc pc = .ok (.putfield index, 3)) (kk : GV p l e R s m args below meth c cells slots Q D A nL n ad (va_up G i (.inr (ci, fs.set k v))) (lv) (pc + 3) (rest)) : GV p l e R s m args below meth c cells slots Q D A nL n ad G (lv) (pc) (v :: .ref (ad i) :: rest) := fun H locs ls hP hD hS hl => va_put C.hx C.hb C.hts hin ty0 hty hnm C.hown C.hK hP hD hS i (gw_at hi hG) hc k hk (C.hts _ hlink) (fun _ h => h) hfin (hty k hk) hn hfit hl9 hdg (fun H1 locs1 hP1 hD1 hS1 => kk H1 locs1 ls (by rw [← gw_set hi]; exact hP1) (by rw [← gw_set hi]; exact hD1) hS1 hl)
theorem g_putF (C : GC p R s m args meth c cc nL Ts own sa D tys A) {C0 : String} {T : u_T} {N ci index : Nat} {i : Nat} {fs : List Value} (hin : ∀ w ∈ u_ws C0 T N, w ∈ Ts) (ty0 : Nat → FieldType) (hty : ∀ k, k < N → parseFieldDescriptor (T k).2.2.1 = some (ty0 k)) (hnm : ∀ a, a < N → ∀ b, b < N → a ≠ b → (T a).2.1 ≠ (T b).2.1) (hin2 : meth.name = "<init>") (hi : i < n) (hG : G i = .inr (ci, fs)) (hc : vwCl[ci]? = some (C0, T, N)) (k : Nat) (hk : k < N) (hlink : Cond.fieldLink own index (T k).1 (T k).2.1 (T k).2.2.1 ∈ Ts) (hfin : (T k).2.2.2 = true) (hdecl : (T k).1 = own) {v : Value} (hn : narrow (ty0 k) v = v) (hfit : fits (ty0 k) v = true) (hl9 : k < fs.length) (hdg : decode cc pc = .ok (.putfield index, 3)) (kk : GV p l e R s m args below meth c cells slots Q D A nL n ad (va_up G i (.inr (ci, fs.set k v))) (lv) (pc + 3) (rest)) : GV p l e R s m args below meth c cells slots Q D A nL n ad G (lv) (pc) (v :: .ref (ad i) :: rest) := fun H locs ls hP hD hS hl => va_putF C.hx C.hb C.hts hin ty0 hty hnm C.hown C.hK hP hD hS i (gw_at hi hG) hc k hk (C.hts _ hlink) (fun _ h => h) hfin hin2 hdecl (hty k hk) hn hfit hl9 hdg (fun H1 locs1 hP1 hD1 hS1 => kk H1 locs1 ls (by rw [← gw_set hi]; exact hP1) (by rw [← gw_set hi]; exact hD1) hS1 hl)
theorem g_iald (C : GC p R s m args meth c cc nL Ts own sa D tys A) {i N : Nat} {cA : ClassId} {f : Nat → Int32} (t0 : Nat) (hi : i < n) (hG : G i = .inl (cA, N, .inl f)) (ht : tys[t0]? = some (cA, .int)) {x : Int32} (hin : vp_in x N) {k : Nat} (hk : x.toNatClampNeg = k) (hdg : decode cc pc = .ok (.iaload, 1)) (kk : GV p l e R s m args below meth c cells slots Q D A nL n ad G (lv) (pc + 1) (.int (f k) :: rest)) : GV p l e R s m args below meth c cells slots Q D A nL n ad G (lv) (pc) (.int x :: .ref (ad i) :: rest) := fun H locs ls hP hD hS hl => va_iald C.hx C.hb C.hK hP i t0 (gw_at hi hG) ht hin hdg (by rw [hk]; exact kk H locs ls hP hD hS hl)
theorem g_cald (C : GC p R s m args meth c cc nL Ts own sa D tys A) {i N : Nat} {cA : ClassId} {f : Nat → Int32} (t0 : Nat) (hi : i < n) (hG : G i = .inl (cA, N, .inl f)) (ht : tys[t0]? = some (cA, .char)) {x : Int32} (hin : vp_in x N) {k : Nat} (hk : x.toNatClampNeg = k) (hdg : decode cc pc = .ok (.caload, 1)) (kk : GV p l e R s m args below meth c cells slots Q D A nL n ad G (lv) (pc + 1) (.int (f k) :: rest)) : GV p l e R s m args below meth c cells slots Q D A nL n ad G (lv) (pc) (.int x :: .ref (ad i) :: rest) := fun H locs ls hP hD hS hl => va_cald C.hx C.hb C.hK hP i t0 (gw_at hi hG) ht hin hdg (by rw [hk]; exact kk H locs ls hP hD hS hl)
theorem g_iast (C : GC p R s m args meth c cc nL Ts own sa D tys A) {i N : Nat} {cA : ClassId} {f : Nat → Int32} (t0 : Nat) (hi : i < n) (hG : G i = .inl (cA, N, .inl f)) (ht : tys[t0]? = some (cA, .int)) {x v : Int32} (hin : vp_in x N) {k : Nat} (hk : x.toNatClampNeg = k) (hdg : decode cc pc = .ok (.iastore, 1)) (kk : GV p l e R s m args below meth c cells slots Q D A nL n ad (va_up G i (.inl (cA, N, .inl (upd f k v)))) (lv) (pc + 1) (rest)) : GV p l e R s m args below meth c cells slots Q D A nL n ad G (lv) (pc) (.int v :: .int x :: .ref (ad i) :: rest) := fun H locs ls hP hD hS hl => va_iast C.hx C.hb C.hK hP hD hS i t0 (gw_at hi hG) ht hin hdg (fun H1 locs1 hP1 hD1 hS1 => kk H1 locs1 ls (by rw [← gw_set hi, ← hk]; exact hP1) (by rw [← gw_set hi, ← hk]; exact hD1) hS1 hl)
theorem g_cast (C : GC p R s m args meth c cc nL Ts own sa D tys A) {i N : Nat} {cA : ClassId} {f : Nat → Int32} (t0 : Nat) (hi : i < n) (hG : G i = .inl (cA, N, .inl f)) (ht : tys[t0]? = some (cA, .char)) {x v : Int32} (hin : vp_in x N) {k : Nat} (hk : x.toNatClampNeg = k) (hdg : decode cc pc = .ok (.castore, 1)) (kk : GV p l e R s m args below meth c cells slots Q D A nL n ad (va_up G i (.inl (cA, N, .inl (upd f k (vp_nar .char v))))) (lv) (pc + 1) (rest)) : GV p l e R s m args below meth c cells slots Q D A nL n ad G (lv) (pc) (.int v :: .int x :: .ref (ad i) :: rest) := fun H locs ls hP hD hS hl => va_cast C.hx C.hb C.hK hP hD hS i t0 (gw_at hi hG) ht hin hdg (fun H1 locs1 hP1 hD1 hS1 => kk H1 locs1 ls (by rw [← gw_set hi, ← hk]; exact hP1) (by rw [← gw_set hi, ← hk]; exact hD1) hS1 hl)
theorem g_aldq (C : GC p R s m args meth c cc nL Ts own sa D tys A) {i N : Nat} {cA : ClassId} {f : Nat → Option Nat} {C0 : String} (t0 : Nat) (hi : i < n) (hG : G i = .inl (cA, N, .inr (.inr (.inr (.inr f))))) (ht : tys[t0]? = some (cA, .object C0)) {x : Int32} (hin : vp_in x N) {k : Nat} (hk : x.toNatClampNeg = k) {v : Value} (hv : va_rf (f k) = v) (hdg : decode cc pc = .ok (.aaload, 1)) (kk : GV p l e R s m args below meth c cells slots Q D A nL n ad G (lv) (pc + 1) (v :: rest)) : GV p l e R s m args below meth c cells slots Q D A nL n ad G (lv) (pc) (.int x :: .ref (ad i) :: rest) := fun H locs ls hP hD hS hl => va_aldq C.hx C.hb C.hK hP i t0 (gw_at hi hG) ht hin hdg (by rw [hk, hv]; exact kk H locs ls hP hD hS hl)
theorem g_astq (C : GC p R s m args meth c cc nL Ts own sa D tys A) {i j N ci : Nat} {cA : ClassId} {f : Nat → Option Nat} {r : vw_C} {vs : List Value} (t0 : Nat) (hi : i < n) (hG : G i = .inl (cA, N, .inr (.inr (.inr (.inr f))))) (ht : tys[t0]? = some (cA, .object r.1)) (hj : j < n) (hGj : G j = .inr (ci, vs)) (hc : vwCl[ci]? = some r) {x : Int32} (hin : vp_in x N) {k : Nat} (hk : x.toNatClampNeg = k) (hdg : decode cc pc = .ok (.aastore, 1)) (kk : GV p l e R s m args below meth c cells slots Q D A nL n ad (va_up G i (.inl (cA, N, .inr (.inr (.inr (.inr (va_up f k (some (ad j))))))))) (lv) (pc + 1) (rest)) : GV p l e R s m args below meth c cells slots Q D A nL n ad G (lv) (pc) (.ref (ad j) :: .int x :: .ref (ad i) :: rest) := fun H locs ls hP hD hS hl => va_astq C.hx C.hb C.hK hP hD hS i t0 j ci (gw_at hi hG) ht (gw_at hj hGj) hc hin hdg (fun H1 locs1 hP1 hD1 hS1 => kk H1 locs1 ls (by rw [← gw_set hi, ← hk]; exact hP1) (by rw [← gw_set hi, ← hk]; exact hD1) hS1 hl)
theorem g_alen (C : GC p R s m args meth c cc nL Ts own sa D tys A) {i : Nat} {cA : ClassId} {x : vp_A} {ty : FieldType} (t0 : Nat) (hi : i < n) (hG : G i = .inl (cA, x)) (ht : tys[t0]? = some (cA, ty)) {v : Int32} (hv : Int32.ofNat x.1 = v) (hdg : decode cc pc = .ok (.arraylength, 1)) (kk : GV p l e R s m args below meth c cells slots Q D A nL n ad G (lv) (pc + 1) (.int v :: rest)) : GV p l e R s m args below meth c cells slots Q D A nL n ad G (lv) (pc) (.ref (ad i) :: rest) := fun H locs ls hP hD hS hl => va_alen C.hx C.hb C.hK hP i t0 (gw_at hi hG) ht hv hdg (kk H locs ls hP hD hS hl)
theorem g_gets (C : GC p R s m args meth c cc nL Ts own sa D tys A) (k : Nat) {q : String × String × List Int32} {index : Nat} (hk : svL[k]? = some q) (hlink : Cond.fieldLink own index q.1 q.2.1 "[I" ∈ Ts) (hdg : decode cc pc = .ok (.getstatic index, 3)) (kk : GV p l e R s m args below meth c cells slots Q D A nL n ad G (lv) (pc + 3) (.ref (sa k) :: rest)) : GV p l e R s m args below meth c cells slots Q D A nL n ad G (lv) (pc) (rest) := fun H locs ls hP hD hS hl => va_gets C.hx C.hb (C.hS k q hk).1 hS C.hown (C.hts _ hlink) (fun _ h => h) hdg (kk H locs ls hP hD hS hl)
theorem g_tald (C : GC p R s m args meth c cc nL Ts own sa D tys A) (k : Nat) {q : String × String × List Int32} (hk : svL[k]? = some q) {x : Int32} (hin : vp_in x q.2.2.length) {z : Nat} (hz : x.toNatClampNeg = z) (hdg : decode cc pc = .ok (.iaload, 1)) (kk : GV p l e R s m args below meth c cells slots Q D A nL n ad G (lv) (pc + 1) (.int (q.2.2.getD z 0) :: rest)) : GV p l e R s m args below meth c cells slots Q D A nL n ad G (lv) (pc) (.int x :: .ref (sa k) :: rest) := fun H locs ls hP hD hS hl => va_ti C.hx C.hb (C.hS k q hk).2 hS hin rfl hdg (by rw [hz]; exact kk H locs ls hP hD hS hl)
theorem g_tlen (C : GC p R s m args meth c cc nL Ts own sa D tys A) (k : Nat) {q : String × String × List Int32} (hk : svL[k]? = some q) {v : Int32} (hv : Int32.ofNat q.2.2.length = v) (hdg : decode cc pc = .ok (.arraylength, 1)) (kk : GV p l e R s m args below meth c cells slots Q D A nL n ad G (lv) (pc + 1) (.int v :: rest)) : GV p l e R s m args below meth c cells slots Q D A nL n ad G (lv) (pc) (.ref (sa k) :: rest) := fun H locs ls hP hD hS hl => va_tlen C.hx C.hb (C.hS k q hk).2 hS hv hdg (kk H locs ls hP hD hS hl)
theorem g_mmax (C : GC p R s m args meth c cc nL Ts own sa D tys A) {index : Nat} (h1 : Cond.methodLink own index Lib.Math.max.name ∈ Ts) (h2 : Cond.static Lib.Math.max.name ∈ Ts) (h3 : Cond.initialized "java/lang/Math" ∈ Ts) (h4 : Cond.code Lib.Math.max.name Lib.Math.max.code 2 (some .int) ∈ Ts) (hfr : 1 ≤ R.frames) (hlo : (rest.map fun v => v.category).sum + 13 ≤ R.locals) (hce : cells ≤ R.cells) (hsl : slots ≤ R.slots) {x y v : Int32} (hdg : decode cc pc = .ok (.invokestatic index, 3)) (hv : (if x < y then y else x) = v) (kk : GV p l e R s m args below meth c cells slots Q D A nL n ad G (lv) (pc + 3) (.int v :: rest)) : GV p l e R s m args below meth c cells slots Q D A nL n ad G (lv) (pc) (.int y :: .int x :: rest) := fun H locs ls hP hD hS hl => va_mmax C.hx C.hb (C.hml.trans hl.1.symm) C.hown (C.hts _ h1) (C.hts _ h2) (C.hts _ h3) (C.hts _ h4) hfr hlo hce hsl hdg (by rw [hv]; exact kk H locs ls hP hD hS hl)
theorem g_mmin (C : GC p R s m args meth c cc nL Ts own sa D tys A) {index : Nat} (h1 : Cond.methodLink own index Lib.Math.min.name ∈ Ts) (h2 : Cond.static Lib.Math.min.name ∈ Ts) (h3 : Cond.initialized "java/lang/Math" ∈ Ts) (h4 : Cond.code Lib.Math.min.name Lib.Math.min.code 2 (some .int) ∈ Ts) (hfr : 1 ≤ R.frames) (hlo : (rest.map fun v => v.category).sum + 13 ≤ R.locals) (hce : cells ≤ R.cells) (hsl : slots ≤ R.slots) {x y v : Int32} (hdg : decode cc pc = .ok (.invokestatic index, 3)) (hv : (if y < x then y else x) = v) (kk : GV p l e R s m args below meth c cells slots Q D A nL n ad G (lv) (pc + 3) (.int v :: rest)) : GV p l e R s m args below meth c cells slots Q D A nL n ad G (lv) (pc) (.int y :: .int x :: rest) := fun H locs ls hP hD hS hl => va_mmin C.hx C.hb (C.hml.trans hl.1.symm) C.hown (C.hts _ h1) (C.hts _ h2) (C.hts _ h3) (C.hts _ h4) hfr hlo hce hsl hdg (by rw [hv]; exact kk H locs ls hP hD hS hl)
theorem g_copy (C : GC p R s m args meth c cc nL Ts own sa D tys A) {index i j n0 n1 : Nat} {c0 c1 : ClassId} {f g : Nat → Int32} (t0 : Nat) (h1 : Cond.methodLink own index arraycopyName ∈ Ts) (h2 : Cond.native arraycopyName ∈ Ts) (h3 : Cond.static arraycopyName ∈ Ts) (h4 : Cond.initialized "java/lang/System" ∈ Ts) (hi : i < n) (hG : G i = .inl (c0, n0, .inl f)) (hj : j < n) (hGj : G j = .inl (c1, n1, .inl g)) (ht0 : tys[t0]? = some (c0, .int)) (ht1 : tys[t0]? = some (c1, .int)) {sp dp z : Int32} {zs zd zz : Nat} (k1 : ¬ sp < 0) (k2 : ¬ dp < 0) (k3 : ¬ z < 0) (j1 : sp.toNatClampNeg = zs) (j2 : dp.toNatClampNeg = zd) (j3 : z.toNatClampNeg = zz) (k4 : zs + zz ≤ n0) (k5 : zd + zz ≤ n1) (hfr : 1 ≤ R.frames) (hlo : (rest.map fun v => v.category).sum + (nativeFrameWords "java/lang/System" "arraycopy" 5 + 11) ≤ R.locals) (hdg : decode cc pc = .ok (.invokestatic index, 3)) (kk : GV p l e R s m args below meth c cells slots Q D A nL n ad (va_up G j (.inl (c1, n1, .inl (va_cpy f g zs zd zz)))) (lv) (pc + 3) (rest)) : GV p l e R s m args below meth c cells slots Q D A nL n ad G (lv) (pc) (.int z :: .int dp :: .ref (ad j) :: .int sp :: .ref (ad i) :: rest) := fun H locs ls hP hD hS hl => va_copyi C.hx C.hb (C.hml.trans hl.1.symm) C.hown (C.hts _ h1) (C.hts _ h2) (C.hts _ h3) (C.hts _ h4) C.hK hP hD hS i j t0 t0 (gw_at hi hG) (gw_at hj hGj) ht0 ht1 rfl k1 k2 k3 (by rw [j1, j3]; exact k4) (by rw [j2, j3]; exact k5) (fun _ _ => rfl) hfr hlo hdg (fun H1 locs1 hP1 hD1 hS1 => kk H1 locs1 ls (by rw [← gw_set hj, ← j1, ← j2, ← j3]; exact hP1) (by rw [← gw_set hj, ← j1, ← j2, ← j3]; exact hD1) hS1 hl)
/-- a contract's start: the world's n cells are gw n ad G -/
def CTp (sa : Nat → Nat) (D : va_G) (tys : List (ClassId × FieldType)) (n : Nat) (ad : Nat → Nat) (G : Nat → va_E) (av : List Value) (sz : Nat) : Array Value → State → Prop := va_Pc av (fun U => U.heap.size = sz ∧ va_P D vwCl (gw n ad G) U.heap ∧ va_K D vwCl tys U ∧ va_D (fun _ => True) (gw n ad G) ∧ GN U ∧ GS sa (va_A (gw n ad G) sz) U U.heap)
/-- its end: the answer is rv, the world gw n ad G2 -/
def CTq (rv : Option Value) (D : va_G) (n : Nat) (ad : Nat → Nat) (G G2 : Nat → va_E) (sz : Nat) : Array Value → State → Outcome → State → Prop := fun _ st oc t => (oc = .returned rv ∧ va_P D vwCl (gw n ad G2) t.heap) ∧ va_F (va_A (gw n ad G) sz) st t
/-- method y at the arguments av over the world G answers rv and leaves G2 -/
def CT (l : Launch) (y : MethodName) (ws : List Cond) (rm : Room) (sa : Nat → Nat) (D : va_G) (tys : List (ClassId × FieldType)) (n : Nat) (ad : Nat → Nat) (G : Nat → va_E) (av : List Value) (rv : Option Value) (G2 : Nat → va_E) : Prop := ∀ sz : Nat, Met l y ws rm (CTp sa D tys n ad G av sz) (CTq rv D n ad G G2 sz) 0 0 (va_A (gw n ad G) sz)
theorem CTp.blind {sa : Nat → Nat} {D : va_G} {tys : List (ClassId × FieldType)} {n : Nat} {ad : Nat → Nat} {G : Nat → va_E} {av : List Value} {sz : Nat} : FrameBlind (CTp sa D tys n ad G av sz) := fun a U g mk q => by
  obtain ⟨q0, q1, qP, qK, qD, qN, qS⟩ := q
  exact ⟨q0, q1, qP, va_K.moved (u := U) (U := U.calling g mk a) (Vm.Alike.refl U.vm) qK, qD, GN.same (u := U) (U := U.calling g mk a) rfl qN, GS.moved (u := U) (U := U.calling g mk a) (Vm.Alike.refl U.vm) qS⟩
theorem gw_A {A : Nat → Prop} {n : Nat} {ad : Nat → Nat} {G : Nat → va_E} {H0 H : Heap} {locs : List Loc} (hD : va_D A (gw n ad G)) (hS : va_S A H0 H locs) (hA : ∀ q, H0.size ≤ q → A q) : ∀ q, va_A (gw n ad G) H.size q → A q := fun q h => by
  rcases h with ⟨k, x, h⟩ | h
  · exact hD.2 k _ h
  · exact hA q (Nat.le_trans hS.1 h)
theorem g_pre (C : GC p R s m args meth c cc nL Ts own sa D tys A) {av : List Value} {H : Heap} {locs : List Loc} (hP : va_P D vwCl (gw n ad G) H) (hD : va_D A (gw n ad G)) (hS : va_S A s.heap H locs) : ∀ U : State, U.heap = H → s.WarmedH U.vm → CTp sa D tys n ad G av H.size av.toArray U := fun U hU hW =>
  ⟨rfl, by rw [hU], by rw [hU]; exact hP, va_K.moved hW.alike C.hK, hD.weaken (fun _ _ _ _ => trivial), C.hN.warm hW, by
    rw [hU]
    exact ((C.hS.moved hW.alike).kept (H1 := H) (fun a h1 h2 => hS.2.1 a h1 h2)).narrow (gw_A hD hS C.hA)⟩
theorem g_run (C : GC p R s m args meth c cc nL Ts own sa D tys A) {rv : Option Value} {G2 : Nat → va_E} {st0 : List Value} {a : Array Value} (hr : ∀ (H : Heap) (locs : List Loc) (ls : Array Slot), va_P D vwCl (gw n ad G) H → va_D A (gw n ad G) → va_S A s.heap H locs → lv_has ls nL lv → va_Run p l e R s m args below meth c H locs cells slots 0 0 (F0 m pc ls st0) rest (CTq rv D n ad G G2 H.size a) (va_A (gw n ad G) H.size))
    (kk : GV p l e R s m args below meth c cells slots Q D A nL n ad G2 (lv) (pc + 3) (rv.toList ++ rest)) : GV p l e R s m args below meth c cells slots Q D A nL n ad G (lv) (pc) (st0) := by
  intro H locs ls hP hD hS hl T hT X
  obtain ⟨v, st₀, t, T', L, h0, X', hL, e1, e2, ⟨⟨hv, hP'⟩, hz, hk⟩, st⟩ := hr H locs ls hP hD hS hl T hT X
  have hv : v = rv := Outcome.returned.inj hv
  subst hv
  rw [h0] at hz hk
  have hf := gw_A hD hS C.hA
  obtain ⟨t2, a1, b1⟩ := kk T'.heap (locs ++ L) ls (by rw [e1]; exact hP') (gw_D hD) ⟨Nat.le_trans hS.1 (by rw [e1]; exact hz), fun q h1 h2 => by rw [e1, hk q (Nat.lt_of_lt_of_le h1 hS.1) (fun z => h2 (hf q z))]; exact hS.2.1 q h1 h2, fun q hq => by
      rcases List.mem_append.mp hq with h | h
      · exact hS.2.2 q h
      · exact hf _ (hL q h)⟩ hl T' rfl X'
  exact ⟨t2, st t2 a1, b1⟩
theorem g_callV (C : GC p R s m args meth c cc nL Ts own sa D tys A) {y : MethodName} {bytes : ByteArray} {maxL index n0 i ci : Nat} {ret : Option FieldType} {ws : List Cond} {rm : Room} {Cn : String} {As : List Value} {rv : Option Value} {G2 : Nat → va_E} {fs : List Value} {q : vw_C} {st0 st1 : List Value} (hM : CT l y ws rm sa D tys n ad G (.ref (ad i) :: As) rv G2) (cw : CallW R s args own Cn index y bytes maxL ret ws rm 0 0 n0) (hi : i < n) (hG : G i = .inr (ci, fs)) (hc : vwCl[ci]? = some q) (hq : q.1 = Cn) (hn : As.length = n0) (h1 : rv.toList ++ rest = st1) (hst : st0 = As.reverse ++ .ref (ad i) :: rest) (hW : (rest.map fun v => v.category).sum ≤ 8) (hdg : decode cc pc = .ok (.invokevirtual index, 3)) (hce : cells ≤ R.cells) (hsl : slots ≤ R.slots)
    (kk : GV p l e R s m args below meth c cells slots Q D A nL n ad G2 (lv) (pc + 3) (st1)) : GV p l e R s m args below meth c cells slots Q D A nL n ad G (lv) (pc) (st0) :=
  g_run C (fun H locs ls hP hD hS hl => va_runV C.fix (hM H.size) cw ⟨CTp.blind, by obtain ⟨cell, z1, z2, z3⟩ := va_recv C.hK hP hc (gw_at hi hG); exact ⟨cell, z1, z2, by rw [← hq]; exact z3⟩, g_pre C hP hD hS⟩ rfl hn hl.1 hst (lv_room hW) hdg ⟨hce, hsl⟩) (by rw [h1]; exact kk)
theorem g_callS (C : GC p R s m args meth c cc nL Ts own sa D tys A) {y : MethodName} {bytes : ByteArray} {maxL index n0 : Nat} {ret : Option FieldType} {ws : List Cond} {rm : Room} {As : List Value} {rv : Option Value} {G2 : Nat → va_E} {st0 st1 : List Value} (hM : CT l y ws rm sa D tys n ad G As rv G2) (cw : CallB R s args own index y bytes maxL ret ws rm 0 0 n0 ∧ (Cond.static y).before args s = true) (hn : As.length = n0) (h1 : rv.toList ++ rest = st1) (hst : st0 = As.reverse ++ rest) (hW : (rest.map fun v => v.category).sum ≤ 8) (hdg : decode cc pc = .ok (.invokestatic index, 3)) (hce : cells ≤ R.cells) (hsl : slots ≤ R.slots)
    (kk : GV p l e R s m args below meth c cells slots Q D A nL n ad G2 (lv) (pc + 3) (st1)) : GV p l e R s m args below meth c cells slots Q D A nL n ad G (lv) (pc) (st0) :=
  g_run C (fun H locs ls hP hD hS hl => va_runS C.fix (hM H.size) cw ⟨CTp.blind, g_pre C hP hD hS⟩ rfl hn hl.1 hst (lv_room hW) hdg ⟨hce, hsl⟩) (by rw [h1]; exact kk)
theorem g_callSN (C : GC p R s m args meth c cc nL Ts own sa D tys A) {y : MethodName} {bytes : ByteArray} {maxL index n0 : Nat} {host : String} {ret : Option FieldType} {ws : List Cond} {rm : Room} {As : List Value} {rv : Option Value} {G2 : Nat → va_E} {st0 st1 : List Value} (hM : CT l y ws rm sa D tys n ad G As rv G2) (cw : va_CN R s args own index y host bytes maxL ret ws rm 0 0 n0) (hstat : Cond.static y ∈ Ts) (hn : As.length = n0) (h1 : rv.toList ++ rest = st1) (hst : st0 = As.reverse ++ rest) (hW : (rest.map fun v => v.category).sum ≤ 8) (hdg : decode cc pc = .ok (.invokestatic index, 3)) (hce : cells ≤ R.cells) (hsl : slots ≤ R.slots)
    (kk : GV p l e R s m args below meth c cells slots Q D A nL n ad G2 (lv) (pc + 3) (st1)) : GV p l e R s m args below meth c cells slots Q D A nL n ad G (lv) (pc) (st0) :=
  g_run C (fun H locs ls hP hD hS hl => va_runSN C.fix (hM H.size) ⟨cw, C.hts _ hstat, trivial⟩ ⟨CTp.blind, g_pre C hP hD hS⟩ rfl hn hl.1 hst (lv_room hW) hdg ⟨hce, hsl⟩) (by rw [h1]; exact kk)
/-- where a contract's walk is to come -/
def CQ (below : List Frame) (args : Array Value) (s : State) (D : va_G) (n : Nat) (ad : Nat → Nat) (G0 : Nat → va_E) (rv : Option Value) (G2 : Nat → va_E) : State → Prop := MQ below (CTq rv D n ad G0 G2 s.heap.size) args s 0 0 (va_A (gw n ad G0) s.heap.size)
theorem g_iret {G0 G2 : Nat → va_E} {rv : Option Value} (C : GC p R s m args meth c cc nL Ts own sa D tys (va_A (gw n ad G0) s.heap.size)) {v : Int32} (hr : meth.sig.returnType = some .int) (hlk : meth.locks = false) (e1 : rv = some (.int v)) (e2 : G2 = G) (hdg : decode cc pc = .ok (.ireturn, 1)) : GV p l e R s m args below meth c 0 0 (CQ below args s D n ad G0 rv G2) D (va_A (gw n ad G0) s.heap.size) nL n ad G lv pc [.int v] := fun H locs ls hP hD hS hl => W.iret C.hx C.hb hr (fun t ht hW => ⟨⟨by rw [e1], by rw [e2, ht]; exact hP⟩, hS.F ht⟩) hS.2.2 hdg hlk
theorem g_zret {G0 G2 : Nat → va_E} {rv : Option Value} (C : GC p R s m args meth c cc nL Ts own sa D tys (va_A (gw n ad G0) s.heap.size)) {v : Int32} {ty : FieldType} (hr : meth.sig.returnType = some ty) (hlk : meth.locks = false) (hn : narrow ty (.int v) = .int v) (e1 : rv = some (.int v)) (e2 : G2 = G) (hdg : decode cc pc = .ok (.ireturn, 1)) : GV p l e R s m args below meth c 0 0 (CQ below args s D n ad G0 rv G2) D (va_A (gw n ad G0) s.heap.size) nL n ad G lv pc [.int v] := fun H locs ls hP hD hS hl => W.zret C.hx C.hb hr hn (fun t ht hW => ⟨⟨by rw [e1], by rw [e2, ht]; exact hP⟩, hS.F ht⟩) hS.2.2 hdg hlk
theorem g_vret {G0 G2 : Nat → va_E} {rv : Option Value} (C : GC p R s m args meth c cc nL Ts own sa D tys (va_A (gw n ad G0) s.heap.size)) (hr : meth.sig.returnType = none) (hlk : meth.locks = false) (e1 : rv = none) (e2 : G2 = G) (hdg : decode cc pc = .ok (.return_, 1)) : GV p l e R s m args below meth c 0 0 (CQ below args s D n ad G0 rv G2) D (va_A (gw n ad G0) s.heap.size) nL n ad G lv pc [] := fun H locs ls hP hD hS hl => W.vret C.hx C.hb hr (fun t ht hW => ⟨⟨by rw [e1], by rw [e2, ht]; exact hP⟩, hS.F ht⟩) hS.2.2 hdg hlk
theorem g_aret {G0 G2 : Nat → va_E} {rv : Option Value} (C : GC p R s m args meth c cc nL Ts own sa D tys (va_A (gw n ad G0) s.heap.size)) {v : Value} {C0 : String} (hr : meth.sig.returnType = some (.object C0)) (hlk : meth.locks = false) (hv : v = .null ∨ ∃ a, v = .ref a) (e1 : rv = some v) (e2 : G2 = G) (hdg : decode cc pc = .ok (.areturn, 1)) : GV p l e R s m args below meth c 0 0 (CQ below args s D n ad G0 rv G2) D (va_A (gw n ad G0) s.heap.size) nL n ad G lv pc [v] := fun H locs ls hP hD hS hl => W.aret C.hx C.hb hr (Or.inl ⟨C0, rfl⟩) hv (fun t ht hW => ⟨⟨by rw [e1], by rw [e2, ht]; exact hP⟩, hS.F ht⟩) hS.2.2 hdg hlk
end GK
theorem ne_of_nle {y : Int32} (h : ¬ y ≤ 0) : ¬ y = 0 := fun e => h (by rw [e]; decide)
theorem ne_of_lt0 {y : Int32} (h : 0 < y) : ¬ y = 0 := fun e => absurd h (by rw [e]; decide)
theorem nle_of_lt {x y : Int32} (h : x < y) : ¬ y ≤ x := by
  rw [Int32.le_iff_toInt_le]
  rw [Int32.lt_iff_toInt_lt] at h
  omega
theorem nI_min {a b : Nat} (h1 : a < 2 ^ 31) (h2 : b < 2 ^ 31) : (if nI b < nI a then nI b else nI a) = nI (min a b) := by
  by_cases hb : b < a
  · rw [if_pos ((nI_ltI h2 h1).mpr hb), Nat.min_eq_right (Nat.le_of_lt hb)]
  · rw [if_neg (fun z => hb ((nI_ltI h2 h1).mp z)), Nat.min_eq_left (Nat.le_of_not_lt hb)]
/-- a contract out of a walk -/
theorem ct_of {l : Launch} {y : MethodName} {ws ws' : List Cond} {rm : Room} {sa : Nat → Nat} {D : va_G} {tys : List (ClassId × FieldType)} {n : Nat} {ad : Nat → Nat} {G : Nat → va_E} {av : List Value} {rv : Option Value} {G2 : Nat → va_E} {cc : ByteArray} {maxL : Nat} {ret : Option FieldType} {own : String} (lv : List (Nat × Value)) (hy : plainName y.cls = true) (hw : ws = Cond.code y cc maxL ret :: ws') (ho : y.cls = own) (hlen : (lg_sl av).length ≤ maxL) (hlv : lv_args 0 av = lv)
    (body : ∀ (p : Program) (e : Env) (s : State) (m : MethodId) (args : Array Value) (below : List Frame) (meth : Method) (c : Code), GC p rm s m args meth c cc maxL ws own sa D tys (va_A (gw n ad G) s.heap.size) → meth.sig.returnType = ret → meth.locks = false → (y.name = "<init>" → meth.name = "<init>") → GV p l e rm s m args below meth c 0 0 (CQ below args s D n ad G rv G2) D (va_A (gw n ad G) s.heap.size) maxL n ad G lv 0 []) : CT l y ws rm sa D tys n ad G av rv G2 := by
  subst ho
  intro sz
  refine Met.ofW (cc := cc) (maxL := maxL) (ret := ret) hy hw ?_
  intro p e s m args below meth c s₁ B hml hv
  obtain ⟨rfl, hsz, hP, hK, hD0, hN, hS⟩ := hv
  subst hsz
  have hts := atoms_spec (ws := ws) B.pre
  have hown : s.vm.findClass y.cls = some m.cls := findClass_of_methodNamed B.named
  have hin : y.name = "<init>" → meth.name = "<init>" := fun h => (name_of_methodNamed B.named B.method).1.trans h
  have hl := lv_entry av (n := maxL) hlen
  rw [hlv] at hl
  rw [lg_entry_eq]
  exact body p e s m _ below meth c ⟨B.exec, B.bytes, hml, hown, hts, hK, hN, hS, fun q h => Or.inr h⟩ B.returns B.notSynchronized hin s.heap [] _ hP hD0.self va_S.rf hl
end
section
/-! the memory: number of cell, number of slot; the two objects are 128 cells -/
abbrev Mem : Type := Nat → Nat → Int32
def bb (x : Int32) : Int32 := x &&& 1
def kdL : List Nat := [0, 1, 2, 12, 3, 4, 4, 4, 4, 5, 12, 12, 6, 12, 12, 12, 12, 1, 2, 12, 3, 4, 4, 4, 4, 5, 12, 12, 6, 12, 12, 12, 12, 1, 2, 12, 3, 4, 4, 4, 4, 5, 12, 12, 6, 12, 12, 12, 12, 5, 12, 12, 7, 8, 1, 2, 12, 3, 4, 4, 4, 4, 5, 12, 12, 6, 12, 12, 12, 12, 1, 2, 12, 3, 4, 4, 4, 4, 5, 12, 12, 6, 12, 12, 12, 12, 1, 2, 12, 3, 4, 4, 4, 4, 5, 12, 12, 6, 12, 12, 12, 12, 1, 2, 12, 3, 4, 4, 4, 4, 5, 12, 12, 6, 12, 12, 12, 12, 9, 10, 11, 12, 12, 12, 12, 12, 12, 12]
def lnL : List Nat := [0, 0, 0, 4, 0, 0, 0, 0, 0, 0, 12, 12, 0, 10, 10, 10, 4, 0, 0, 4, 0, 0, 0, 0, 0, 0, 12, 12, 0, 10, 10, 10, 4, 0, 0, 4, 0, 0, 0, 0, 0, 0, 12, 12, 0, 10, 10, 10, 4, 0, 12, 12, 0, 4, 0, 0, 4, 0, 0, 0, 0, 0, 0, 12, 12, 0, 10, 10, 10, 4, 0, 0, 4, 0, 0, 0, 0, 0, 0, 12, 12, 0, 10, 10, 10, 4, 0, 0, 4, 0, 0, 0, 0, 0, 0, 12, 12, 0, 10, 10, 10, 4, 0, 0, 4, 0, 0, 0, 0, 0, 0, 12, 12, 0, 10, 10, 10, 4, 0, 60, 0, 108, 108, 432, 108, 60, 32, 32]
def kd (i : Nat) : Nat := kdL.getD i 99
def ln (i : Nat) : Nat := lnL.getD i 0
def st (ω : Mem) (i k : Nat) (v : Int32) : Mem := va_up ω i (upd (ω i) k v)
def mk (X : Nat → ClassId) (ad : Nat → Nat) (ω : Mem) (i : Nat) : va_E := match kd i with
  | 0 => .inr (7, [.ref (ad (1)), .ref (ad (17)), .ref (ad (33)), .ref (ad (49)), .ref (ad (52)), .ref (ad (118)), .int (bb (ω i 6))])
  | 1 => .inr (5, [.ref (ad (i + 1)), .ref (ad (i + 3)), .ref (ad (i + 8)), .ref (ad (i + 11)), .int (ω i 4), .int (ω i 5), .int (ω i 6), .int (ω i 7)])
  | 2 => .inr (4, [.ref (ad (i + 1))])
  | 3 => .inl (X 2, (4, .inr (.inr (.inr (.inr (fun j => some (ad (i + 1 + j))))))))
  | 4 => .inr (0, [.int (ω i 0), .int (ω i 1), .int (bb (ω i 2)), .int (bb (ω i 3)), .int (bb (ω i 4)), .int (ω i 5), .int (bb (ω i 6)), .int (ω i 7), .int (ω i 8), .int (ω i 9)])
  | 5 => .inr (3, [.ref (ad (i + 1)), .ref (ad (i + 2)), .int (ω i 2)])
  | 6 => .inr (2, [.ref (ad (i + 1)), .ref (ad (i + 2)), .ref (ad (i + 3)), .ref (ad (i + 4)), .int (ω i 4)])
  | 7 => .inr (1, [.ref (ad (i + 1)), .int (ω i 1)])
  | 8 => .inl (X 3, (4, .inr (.inr (.inr (.inr (fun j => some (ad (ω i j).toNatClampNeg)))))))
  | 9 => .inr (6, [.ref (ad (i + 1)), .int (ω i 1)])
  | 10 => .inl (X 1, (60, .inl (ω i)))
  | 11 => .inr (8, [.int (ω i 0), .ref (ad (i + 1)), .ref (ad (i + 2)), .ref (ad (i + 3)), .int (ω i 4), .ref (ad (i + 4)), .int (bb (ω i 6)), .ref (ad (i + 5)), .int (ω i 8), .ref (ad (i + 6)), .ref (ad (i + 7)), .int (ω i 11), .int (ω i 12), .int (bb (ω i 13))])
  | _ => .inl (X 0, (ln i, .inl (ω i)))
theorem mk_0 {X : Nat → ClassId} {ad : Nat → Nat} {ω : Mem} {i : Nat} (h : kd i = 0) : mk X ad ω i = .inr (7, [.ref (ad (1)), .ref (ad (17)), .ref (ad (33)), .ref (ad (49)), .ref (ad (52)), .ref (ad (118)), .int (bb (ω i 6))]) := by simp only [mk, h]
theorem mk_1 {X : Nat → ClassId} {ad : Nat → Nat} {ω : Mem} {i : Nat} (h : kd i = 1) : mk X ad ω i = .inr (5, [.ref (ad (i + 1)), .ref (ad (i + 3)), .ref (ad (i + 8)), .ref (ad (i + 11)), .int (ω i 4), .int (ω i 5), .int (ω i 6), .int (ω i 7)]) := by simp only [mk, h]
theorem mk_2 {X : Nat → ClassId} {ad : Nat → Nat} {ω : Mem} {i : Nat} (h : kd i = 2) : mk X ad ω i = .inr (4, [.ref (ad (i + 1))]) := by simp only [mk, h]
theorem mk_3 {X : Nat → ClassId} {ad : Nat → Nat} {ω : Mem} {i : Nat} (h : kd i = 3) : mk X ad ω i = .inl (X 2, (4, .inr (.inr (.inr (.inr (fun j => some (ad (i + 1 + j)))))))) := by simp only [mk, h]
theorem mk_4 {X : Nat → ClassId} {ad : Nat → Nat} {ω : Mem} {i : Nat} (h : kd i = 4) : mk X ad ω i = .inr (0, [.int (ω i 0), .int (ω i 1), .int (bb (ω i 2)), .int (bb (ω i 3)), .int (bb (ω i 4)), .int (ω i 5), .int (bb (ω i 6)), .int (ω i 7), .int (ω i 8), .int (ω i 9)]) := by simp only [mk, h]
theorem mk_5 {X : Nat → ClassId} {ad : Nat → Nat} {ω : Mem} {i : Nat} (h : kd i = 5) : mk X ad ω i = .inr (3, [.ref (ad (i + 1)), .ref (ad (i + 2)), .int (ω i 2)]) := by simp only [mk, h]
theorem mk_6 {X : Nat → ClassId} {ad : Nat → Nat} {ω : Mem} {i : Nat} (h : kd i = 6) : mk X ad ω i = .inr (2, [.ref (ad (i + 1)), .ref (ad (i + 2)), .ref (ad (i + 3)), .ref (ad (i + 4)), .int (ω i 4)]) := by simp only [mk, h]
theorem mk_7 {X : Nat → ClassId} {ad : Nat → Nat} {ω : Mem} {i : Nat} (h : kd i = 7) : mk X ad ω i = .inr (1, [.ref (ad (i + 1)), .int (ω i 1)]) := by simp only [mk, h]
theorem mk_8 {X : Nat → ClassId} {ad : Nat → Nat} {ω : Mem} {i : Nat} (h : kd i = 8) : mk X ad ω i = .inl (X 3, (4, .inr (.inr (.inr (.inr (fun j => some (ad (ω i j).toNatClampNeg))))))) := by simp only [mk, h]
theorem mk_9 {X : Nat → ClassId} {ad : Nat → Nat} {ω : Mem} {i : Nat} (h : kd i = 9) : mk X ad ω i = .inr (6, [.ref (ad (i + 1)), .int (ω i 1)]) := by simp only [mk, h]
theorem mk_10 {X : Nat → ClassId} {ad : Nat → Nat} {ω : Mem} {i : Nat} (h : kd i = 10) : mk X ad ω i = .inl (X 1, (60, .inl (ω i))) := by simp only [mk, h]
theorem mk_11 {X : Nat → ClassId} {ad : Nat → Nat} {ω : Mem} {i : Nat} (h : kd i = 11) : mk X ad ω i = .inr (8, [.int (ω i 0), .ref (ad (i + 1)), .ref (ad (i + 2)), .ref (ad (i + 3)), .int (ω i 4), .ref (ad (i + 4)), .int (bb (ω i 6)), .ref (ad (i + 5)), .int (ω i 8), .ref (ad (i + 6)), .ref (ad (i + 7)), .int (ω i 11), .int (ω i 12), .int (bb (ω i 13))]) := by simp only [mk, h]
theorem mk_12 {X : Nat → ClassId} {ad : Nat → Nat} {ω : Mem} {i : Nat} (h : kd i = 12) : mk X ad ω i = .inl (X 0, (ln i, .inl (ω i))) := by simp only [mk, h]
theorem mk_12n {X : Nat → ClassId} {ad : Nat → Nat} {ω : Mem} {i N : Nat} (h : kd i = 12) (hn : ln i = N) : mk X ad ω i = .inl (X 0, (N, .inl (ω i))) := by rw [mk_12 h, hn]
theorem mk_other {X : Nat → ClassId} {ad : Nat → Nat} {ω : Mem} {i j : Nat} {f : Nat → Int32} (h : j ≠ i) : mk X ad (va_up ω i f) j = mk X ad ω j := by
  have e : va_up ω i f j = ω j := if_neg h
  unfold mk
  rw [e]
theorem mk_upd {X : Nat → ClassId} {ad : Nat → Nat} {ω : Mem} {i : Nat} {f : Nat → Int32} {x : va_E} (h : x = mk X ad (va_up ω i f) i) : va_up (mk X ad ω) i x = mk X ad (va_up ω i f) := by
  funext j
  by_cases hj : j = i
  · subst hj
    exact (if_pos rfl).trans h
  · rw [mk_other hj]
    exact if_neg hj
theorem mk_row {X : Nat → ClassId} {ad : Nat → Nat} {ω : Mem} {i N : Nat} {f : Nat → Int32} (h : kd i = 12) (hn : ln i = N) : va_up (mk X ad ω) i (.inl (X 0, (N, .inl f))) = mk X ad (va_up ω i f) := mk_upd (by rw [mk_12n h hn]; simp [va_up])
theorem mk_chr {X : Nat → ClassId} {ad : Nat → Nat} {ω : Mem} {i : Nat} {f : Nat → Int32} (h : kd i = 10) : va_up (mk X ad ω) i (.inl (X 1, (60, .inl f))) = mk X ad (va_up ω i f) := mk_upd (by rw [mk_10 h]; simp [va_up])
theorem mk_sts {X : Nat → ClassId} {ad : Nat → Nat} {ω : Mem} {i k j : Nat} (h : kd i = 8) (hj : j < 2 ^ 31) : va_up (mk X ad ω) i (.inl (X 3, (4, .inr (.inr (.inr (.inr (va_up (fun j => some (ad (ω i j).toNatClampNeg)) k (some (ad j))))))))) = mk X ad (st ω i k (nI j)) := mk_upd (by
  rw [mk_8 h]
  have hf : va_up (fun j => some (ad (ω i j).toNatClampNeg)) k (some (ad j)) = fun z => some (ad (va_up ω i (upd (ω i) k (nI j)) i z).toNatClampNeg) := by
    funext z
    by_cases hz : z = k
    · subst hz
      simp [va_up, upd, nI_clamp hj]
    · simp [va_up, upd, hz]
  rw [hf])
theorem mkp_0_6 {X : Nat → ClassId} {ad : Nat → Nat} {ω : Mem} {i : Nat} {v : Int32} (h : kd i = 0) (hb : bb v = v) : va_up (mk X ad ω) i (.inr (7, ([.ref (ad (1)), .ref (ad (17)), .ref (ad (33)), .ref (ad (49)), .ref (ad (52)), .ref (ad (118)), .int (bb (ω i 6))] : List Value).set 6 (.int v))) = mk X ad (st ω i 6 v) := mk_upd (by rw [mk_0 h]; simp [va_up, upd, hb])
theorem mkp_1_4 {X : Nat → ClassId} {ad : Nat → Nat} {ω : Mem} {i : Nat} {v : Int32} (h : kd i = 1) : va_up (mk X ad ω) i (.inr (5, ([.ref (ad (i + 1)), .ref (ad (i + 3)), .ref (ad (i + 8)), .ref (ad (i + 11)), .int (ω i 4), .int (ω i 5), .int (ω i 6), .int (ω i 7)] : List Value).set 4 (.int v))) = mk X ad (st ω i 4 v) := mk_upd (by rw [mk_1 h]; simp [va_up, upd])
theorem mkp_1_5 {X : Nat → ClassId} {ad : Nat → Nat} {ω : Mem} {i : Nat} {v : Int32} (h : kd i = 1) : va_up (mk X ad ω) i (.inr (5, ([.ref (ad (i + 1)), .ref (ad (i + 3)), .ref (ad (i + 8)), .ref (ad (i + 11)), .int (ω i 4), .int (ω i 5), .int (ω i 6), .int (ω i 7)] : List Value).set 5 (.int v))) = mk X ad (st ω i 5 v) := mk_upd (by rw [mk_1 h]; simp [va_up, upd])
theorem mkp_1_6 {X : Nat → ClassId} {ad : Nat → Nat} {ω : Mem} {i : Nat} {v : Int32} (h : kd i = 1) : va_up (mk X ad ω) i (.inr (5, ([.ref (ad (i + 1)), .ref (ad (i + 3)), .ref (ad (i + 8)), .ref (ad (i + 11)), .int (ω i 4), .int (ω i 5), .int (ω i 6), .int (ω i 7)] : List Value).set 6 (.int v))) = mk X ad (st ω i 6 v) := mk_upd (by rw [mk_1 h]; simp [va_up, upd])
theorem mkp_1_7 {X : Nat → ClassId} {ad : Nat → Nat} {ω : Mem} {i : Nat} {v : Int32} (h : kd i = 1) : va_up (mk X ad ω) i (.inr (5, ([.ref (ad (i + 1)), .ref (ad (i + 3)), .ref (ad (i + 8)), .ref (ad (i + 11)), .int (ω i 4), .int (ω i 5), .int (ω i 6), .int (ω i 7)] : List Value).set 7 (.int v))) = mk X ad (st ω i 7 v) := mk_upd (by rw [mk_1 h]; simp [va_up, upd])
theorem mkp_4_0 {X : Nat → ClassId} {ad : Nat → Nat} {ω : Mem} {i : Nat} {v : Int32} (h : kd i = 4) : va_up (mk X ad ω) i (.inr (0, ([.int (ω i 0), .int (ω i 1), .int (bb (ω i 2)), .int (bb (ω i 3)), .int (bb (ω i 4)), .int (ω i 5), .int (bb (ω i 6)), .int (ω i 7), .int (ω i 8), .int (ω i 9)] : List Value).set 0 (.int v))) = mk X ad (st ω i 0 v) := mk_upd (by rw [mk_4 h]; simp [va_up, upd])
theorem mkp_4_1 {X : Nat → ClassId} {ad : Nat → Nat} {ω : Mem} {i : Nat} {v : Int32} (h : kd i = 4) : va_up (mk X ad ω) i (.inr (0, ([.int (ω i 0), .int (ω i 1), .int (bb (ω i 2)), .int (bb (ω i 3)), .int (bb (ω i 4)), .int (ω i 5), .int (bb (ω i 6)), .int (ω i 7), .int (ω i 8), .int (ω i 9)] : List Value).set 1 (.int v))) = mk X ad (st ω i 1 v) := mk_upd (by rw [mk_4 h]; simp [va_up, upd])
theorem mkp_4_2 {X : Nat → ClassId} {ad : Nat → Nat} {ω : Mem} {i : Nat} {v : Int32} (h : kd i = 4) (hb : bb v = v) : va_up (mk X ad ω) i (.inr (0, ([.int (ω i 0), .int (ω i 1), .int (bb (ω i 2)), .int (bb (ω i 3)), .int (bb (ω i 4)), .int (ω i 5), .int (bb (ω i 6)), .int (ω i 7), .int (ω i 8), .int (ω i 9)] : List Value).set 2 (.int v))) = mk X ad (st ω i 2 v) := mk_upd (by rw [mk_4 h]; simp [va_up, upd, hb])
theorem mkp_4_3 {X : Nat → ClassId} {ad : Nat → Nat} {ω : Mem} {i : Nat} {v : Int32} (h : kd i = 4) (hb : bb v = v) : va_up (mk X ad ω) i (.inr (0, ([.int (ω i 0), .int (ω i 1), .int (bb (ω i 2)), .int (bb (ω i 3)), .int (bb (ω i 4)), .int (ω i 5), .int (bb (ω i 6)), .int (ω i 7), .int (ω i 8), .int (ω i 9)] : List Value).set 3 (.int v))) = mk X ad (st ω i 3 v) := mk_upd (by rw [mk_4 h]; simp [va_up, upd, hb])
theorem mkp_4_4 {X : Nat → ClassId} {ad : Nat → Nat} {ω : Mem} {i : Nat} {v : Int32} (h : kd i = 4) (hb : bb v = v) : va_up (mk X ad ω) i (.inr (0, ([.int (ω i 0), .int (ω i 1), .int (bb (ω i 2)), .int (bb (ω i 3)), .int (bb (ω i 4)), .int (ω i 5), .int (bb (ω i 6)), .int (ω i 7), .int (ω i 8), .int (ω i 9)] : List Value).set 4 (.int v))) = mk X ad (st ω i 4 v) := mk_upd (by rw [mk_4 h]; simp [va_up, upd, hb])
theorem mkp_4_5 {X : Nat → ClassId} {ad : Nat → Nat} {ω : Mem} {i : Nat} {v : Int32} (h : kd i = 4) : va_up (mk X ad ω) i (.inr (0, ([.int (ω i 0), .int (ω i 1), .int (bb (ω i 2)), .int (bb (ω i 3)), .int (bb (ω i 4)), .int (ω i 5), .int (bb (ω i 6)), .int (ω i 7), .int (ω i 8), .int (ω i 9)] : List Value).set 5 (.int v))) = mk X ad (st ω i 5 v) := mk_upd (by rw [mk_4 h]; simp [va_up, upd])
theorem mkp_4_6 {X : Nat → ClassId} {ad : Nat → Nat} {ω : Mem} {i : Nat} {v : Int32} (h : kd i = 4) (hb : bb v = v) : va_up (mk X ad ω) i (.inr (0, ([.int (ω i 0), .int (ω i 1), .int (bb (ω i 2)), .int (bb (ω i 3)), .int (bb (ω i 4)), .int (ω i 5), .int (bb (ω i 6)), .int (ω i 7), .int (ω i 8), .int (ω i 9)] : List Value).set 6 (.int v))) = mk X ad (st ω i 6 v) := mk_upd (by rw [mk_4 h]; simp [va_up, upd, hb])
theorem mkp_4_7 {X : Nat → ClassId} {ad : Nat → Nat} {ω : Mem} {i : Nat} {v : Int32} (h : kd i = 4) : va_up (mk X ad ω) i (.inr (0, ([.int (ω i 0), .int (ω i 1), .int (bb (ω i 2)), .int (bb (ω i 3)), .int (bb (ω i 4)), .int (ω i 5), .int (bb (ω i 6)), .int (ω i 7), .int (ω i 8), .int (ω i 9)] : List Value).set 7 (.int v))) = mk X ad (st ω i 7 v) := mk_upd (by rw [mk_4 h]; simp [va_up, upd])
theorem mkp_4_8 {X : Nat → ClassId} {ad : Nat → Nat} {ω : Mem} {i : Nat} {v : Int32} (h : kd i = 4) : va_up (mk X ad ω) i (.inr (0, ([.int (ω i 0), .int (ω i 1), .int (bb (ω i 2)), .int (bb (ω i 3)), .int (bb (ω i 4)), .int (ω i 5), .int (bb (ω i 6)), .int (ω i 7), .int (ω i 8), .int (ω i 9)] : List Value).set 8 (.int v))) = mk X ad (st ω i 8 v) := mk_upd (by rw [mk_4 h]; simp [va_up, upd])
theorem mkp_4_9 {X : Nat → ClassId} {ad : Nat → Nat} {ω : Mem} {i : Nat} {v : Int32} (h : kd i = 4) : va_up (mk X ad ω) i (.inr (0, ([.int (ω i 0), .int (ω i 1), .int (bb (ω i 2)), .int (bb (ω i 3)), .int (bb (ω i 4)), .int (ω i 5), .int (bb (ω i 6)), .int (ω i 7), .int (ω i 8), .int (ω i 9)] : List Value).set 9 (.int v))) = mk X ad (st ω i 9 v) := mk_upd (by rw [mk_4 h]; simp [va_up, upd])
theorem mkp_5_2 {X : Nat → ClassId} {ad : Nat → Nat} {ω : Mem} {i : Nat} {v : Int32} (h : kd i = 5) : va_up (mk X ad ω) i (.inr (3, ([.ref (ad (i + 1)), .ref (ad (i + 2)), .int (ω i 2)] : List Value).set 2 (.int v))) = mk X ad (st ω i 2 v) := mk_upd (by rw [mk_5 h]; simp [va_up, upd])
theorem mkp_6_4 {X : Nat → ClassId} {ad : Nat → Nat} {ω : Mem} {i : Nat} {v : Int32} (h : kd i = 6) : va_up (mk X ad ω) i (.inr (2, ([.ref (ad (i + 1)), .ref (ad (i + 2)), .ref (ad (i + 3)), .ref (ad (i + 4)), .int (ω i 4)] : List Value).set 4 (.int v))) = mk X ad (st ω i 4 v) := mk_upd (by rw [mk_6 h]; simp [va_up, upd])
theorem mkp_7_1 {X : Nat → ClassId} {ad : Nat → Nat} {ω : Mem} {i : Nat} {v : Int32} (h : kd i = 7) : va_up (mk X ad ω) i (.inr (1, ([.ref (ad (i + 1)), .int (ω i 1)] : List Value).set 1 (.int v))) = mk X ad (st ω i 1 v) := mk_upd (by rw [mk_7 h]; simp [va_up, upd])
theorem mkp_9_1 {X : Nat → ClassId} {ad : Nat → Nat} {ω : Mem} {i : Nat} {v : Int32} (h : kd i = 9) : va_up (mk X ad ω) i (.inr (6, ([.ref (ad (i + 1)), .int (ω i 1)] : List Value).set 1 (.int v))) = mk X ad (st ω i 1 v) := mk_upd (by rw [mk_9 h]; simp [va_up, upd])
theorem mkp_11_0 {X : Nat → ClassId} {ad : Nat → Nat} {ω : Mem} {i : Nat} {v : Int32} (h : kd i = 11) : va_up (mk X ad ω) i (.inr (8, ([.int (ω i 0), .ref (ad (i + 1)), .ref (ad (i + 2)), .ref (ad (i + 3)), .int (ω i 4), .ref (ad (i + 4)), .int (bb (ω i 6)), .ref (ad (i + 5)), .int (ω i 8), .ref (ad (i + 6)), .ref (ad (i + 7)), .int (ω i 11), .int (ω i 12), .int (bb (ω i 13))] : List Value).set 0 (.int v))) = mk X ad (st ω i 0 v) := mk_upd (by rw [mk_11 h]; simp [va_up, upd])
theorem mkp_11_4 {X : Nat → ClassId} {ad : Nat → Nat} {ω : Mem} {i : Nat} {v : Int32} (h : kd i = 11) : va_up (mk X ad ω) i (.inr (8, ([.int (ω i 0), .ref (ad (i + 1)), .ref (ad (i + 2)), .ref (ad (i + 3)), .int (ω i 4), .ref (ad (i + 4)), .int (bb (ω i 6)), .ref (ad (i + 5)), .int (ω i 8), .ref (ad (i + 6)), .ref (ad (i + 7)), .int (ω i 11), .int (ω i 12), .int (bb (ω i 13))] : List Value).set 4 (.int v))) = mk X ad (st ω i 4 v) := mk_upd (by rw [mk_11 h]; simp [va_up, upd])
theorem mkp_11_6 {X : Nat → ClassId} {ad : Nat → Nat} {ω : Mem} {i : Nat} {v : Int32} (h : kd i = 11) (hb : bb v = v) : va_up (mk X ad ω) i (.inr (8, ([.int (ω i 0), .ref (ad (i + 1)), .ref (ad (i + 2)), .ref (ad (i + 3)), .int (ω i 4), .ref (ad (i + 4)), .int (bb (ω i 6)), .ref (ad (i + 5)), .int (ω i 8), .ref (ad (i + 6)), .ref (ad (i + 7)), .int (ω i 11), .int (ω i 12), .int (bb (ω i 13))] : List Value).set 6 (.int v))) = mk X ad (st ω i 6 v) := mk_upd (by rw [mk_11 h]; simp [va_up, upd, hb])
theorem mkp_11_8 {X : Nat → ClassId} {ad : Nat → Nat} {ω : Mem} {i : Nat} {v : Int32} (h : kd i = 11) : va_up (mk X ad ω) i (.inr (8, ([.int (ω i 0), .ref (ad (i + 1)), .ref (ad (i + 2)), .ref (ad (i + 3)), .int (ω i 4), .ref (ad (i + 4)), .int (bb (ω i 6)), .ref (ad (i + 5)), .int (ω i 8), .ref (ad (i + 6)), .ref (ad (i + 7)), .int (ω i 11), .int (ω i 12), .int (bb (ω i 13))] : List Value).set 8 (.int v))) = mk X ad (st ω i 8 v) := mk_upd (by rw [mk_11 h]; simp [va_up, upd])
theorem mkp_11_11 {X : Nat → ClassId} {ad : Nat → Nat} {ω : Mem} {i : Nat} {v : Int32} (h : kd i = 11) : va_up (mk X ad ω) i (.inr (8, ([.int (ω i 0), .ref (ad (i + 1)), .ref (ad (i + 2)), .ref (ad (i + 3)), .int (ω i 4), .ref (ad (i + 4)), .int (bb (ω i 6)), .ref (ad (i + 5)), .int (ω i 8), .ref (ad (i + 6)), .ref (ad (i + 7)), .int (ω i 11), .int (ω i 12), .int (bb (ω i 13))] : List Value).set 11 (.int v))) = mk X ad (st ω i 11 v) := mk_upd (by rw [mk_11 h]; simp [va_up, upd])
theorem mkp_11_12 {X : Nat → ClassId} {ad : Nat → Nat} {ω : Mem} {i : Nat} {v : Int32} (h : kd i = 11) : va_up (mk X ad ω) i (.inr (8, ([.int (ω i 0), .ref (ad (i + 1)), .ref (ad (i + 2)), .ref (ad (i + 3)), .int (ω i 4), .ref (ad (i + 4)), .int (bb (ω i 6)), .ref (ad (i + 5)), .int (ω i 8), .ref (ad (i + 6)), .ref (ad (i + 7)), .int (ω i 11), .int (ω i 12), .int (bb (ω i 13))] : List Value).set 12 (.int v))) = mk X ad (st ω i 12 v) := mk_upd (by rw [mk_11 h]; simp [va_up, upd])
theorem mkp_11_13 {X : Nat → ClassId} {ad : Nat → Nat} {ω : Mem} {i : Nat} {v : Int32} (h : kd i = 11) (hb : bb v = v) : va_up (mk X ad ω) i (.inr (8, ([.int (ω i 0), .ref (ad (i + 1)), .ref (ad (i + 2)), .ref (ad (i + 3)), .int (ω i 4), .ref (ad (i + 4)), .int (bb (ω i 6)), .ref (ad (i + 5)), .int (ω i 8), .ref (ad (i + 6)), .ref (ad (i + 7)), .int (ω i 11), .int (ω i 12), .int (bb (ω i 13))] : List Value).set 13 (.int v))) = mk X ad (st ω i 13 v) := mk_upd (by rw [mk_11 h]; simp [va_up, upd, hb])
def isS (B : Nat) : Prop := B = 1 ∨ B = 17 ∨ B = 33 ∨ B = 54 ∨ B = 70 ∨ B = 86 ∨ B = 102
theorem kS {B : Nat} (h : isS B) : ∀ j, j < 16 → kd (B + j) = kd (1 + j) ∧ ln (B + j) = ln (1 + j) ∧ B + j < 128 := by rcases h with rfl | rfl | rfl | rfl | rfl | rfl | rfl <;> decide +kernel
theorem isS_lt {B : Nat} (h : isS B) : B < 103 := by rcases h with rfl | rfl | rfl | rfl | rfl | rfl | rfl <;> decide
theorem kS0 {B : Nat} (h : isS B) : kd B = 1 := (kS h 0 (by decide)).1
theorem bS0 {B : Nat} (h : isS B) : B < 128 := (kS h 0 (by decide)).2.2
theorem kS1 {B : Nat} (h : isS B) : kd (B + 1) = 2 := (kS h 1 (by decide)).1
theorem bS1 {B : Nat} (h : isS B) : (B + 1) < 128 := (kS h 1 (by decide)).2.2
theorem kS2 {B : Nat} (h : isS B) : kd (B + 2) = 12 := (kS h 2 (by decide)).1
theorem bS2 {B : Nat} (h : isS B) : (B + 2) < 128 := (kS h 2 (by decide)).2.2
theorem lS2 {B : Nat} (h : isS B) : ln (B + 2) = 4 := (kS h 2 (by decide)).2.1
theorem kS3 {B : Nat} (h : isS B) : kd (B + 3) = 3 := (kS h 3 (by decide)).1
theorem bS3 {B : Nat} (h : isS B) : (B + 3) < 128 := (kS h 3 (by decide)).2.2
theorem kS4 {B : Nat} (h : isS B) : kd (B + 4) = 4 := (kS h 4 (by decide)).1
theorem bS4 {B : Nat} (h : isS B) : (B + 4) < 128 := (kS h 4 (by decide)).2.2
theorem kS5 {B : Nat} (h : isS B) : kd (B + 5) = 4 := (kS h 5 (by decide)).1
theorem bS5 {B : Nat} (h : isS B) : (B + 5) < 128 := (kS h 5 (by decide)).2.2
theorem kS6 {B : Nat} (h : isS B) : kd (B + 6) = 4 := (kS h 6 (by decide)).1
theorem bS6 {B : Nat} (h : isS B) : (B + 6) < 128 := (kS h 6 (by decide)).2.2
theorem kS7 {B : Nat} (h : isS B) : kd (B + 7) = 4 := (kS h 7 (by decide)).1
theorem bS7 {B : Nat} (h : isS B) : (B + 7) < 128 := (kS h 7 (by decide)).2.2
theorem kS8 {B : Nat} (h : isS B) : kd (B + 8) = 5 := (kS h 8 (by decide)).1
theorem bS8 {B : Nat} (h : isS B) : (B + 8) < 128 := (kS h 8 (by decide)).2.2
theorem kS9 {B : Nat} (h : isS B) : kd (B + 9) = 12 := (kS h 9 (by decide)).1
theorem bS9 {B : Nat} (h : isS B) : (B + 9) < 128 := (kS h 9 (by decide)).2.2
theorem lS9 {B : Nat} (h : isS B) : ln (B + 9) = 12 := (kS h 9 (by decide)).2.1
theorem kS10 {B : Nat} (h : isS B) : kd (B + 10) = 12 := (kS h 10 (by decide)).1
theorem bS10 {B : Nat} (h : isS B) : (B + 10) < 128 := (kS h 10 (by decide)).2.2
theorem lS10 {B : Nat} (h : isS B) : ln (B + 10) = 12 := (kS h 10 (by decide)).2.1
theorem kS11 {B : Nat} (h : isS B) : kd (B + 11) = 6 := (kS h 11 (by decide)).1
theorem bS11 {B : Nat} (h : isS B) : (B + 11) < 128 := (kS h 11 (by decide)).2.2
theorem kS12 {B : Nat} (h : isS B) : kd (B + 12) = 12 := (kS h 12 (by decide)).1
theorem bS12 {B : Nat} (h : isS B) : (B + 12) < 128 := (kS h 12 (by decide)).2.2
theorem lS12 {B : Nat} (h : isS B) : ln (B + 12) = 10 := (kS h 12 (by decide)).2.1
theorem kS13 {B : Nat} (h : isS B) : kd (B + 13) = 12 := (kS h 13 (by decide)).1
theorem bS13 {B : Nat} (h : isS B) : (B + 13) < 128 := (kS h 13 (by decide)).2.2
theorem lS13 {B : Nat} (h : isS B) : ln (B + 13) = 10 := (kS h 13 (by decide)).2.1
theorem kS14 {B : Nat} (h : isS B) : kd (B + 14) = 12 := (kS h 14 (by decide)).1
theorem bS14 {B : Nat} (h : isS B) : (B + 14) < 128 := (kS h 14 (by decide)).2.2
theorem lS14 {B : Nat} (h : isS B) : ln (B + 14) = 10 := (kS h 14 (by decide)).2.1
theorem kS15 {B : Nat} (h : isS B) : kd (B + 15) = 12 := (kS h 15 (by decide)).1
theorem bS15 {B : Nat} (h : isS B) : (B + 15) < 128 := (kS h 15 (by decide)).2.2
theorem lS15 {B : Nat} (h : isS B) : ln (B + 15) = 4 := (kS h 15 (by decide)).2.1
/-- a cell that is a row of N numbers -/
def isR (i N : Nat) : Prop := i < 128 ∧ kd i = 12 ∧ ln i = N
def isB (i : Nat) : Prop := i < 128 ∧ kd i = 4
def isSet (i : Nat) : Prop := i < 128 ∧ kd i = 2 ∧ isR (i + 1) 4
def isPl (i : Nat) : Prop := i < 128 ∧ kd i = 5 ∧ isR (i + 1) 12 ∧ isR (i + 2) 12
def isLg (i : Nat) : Prop := i < 128 ∧ kd i = 6 ∧ isR (i + 1) 10 ∧ isR (i + 2) 10 ∧ isR (i + 3) 10 ∧ isR (i + 4) 4
theorem isS.set {B : Nat} (h : isS B) : isSet (B + 1) := ⟨bS1 h, kS1 h, bS2 h, kS2 h, lS2 h⟩
theorem isS.pl {B : Nat} (h : isS B) : isPl (B + 8) := ⟨bS8 h, kS8 h, ⟨bS9 h, kS9 h, lS9 h⟩, bS10 h, kS10 h, lS10 h⟩
theorem isS.lg {B : Nat} (h : isS B) : isLg (B + 11) := ⟨bS11 h, kS11 h, ⟨bS12 h, kS12 h, lS12 h⟩, ⟨bS13 h, kS13 h, lS13 h⟩, ⟨bS14 h, kS14 h, lS14 h⟩, bS15 h, kS15 h, lS15 h⟩
theorem isS.b0 {B : Nat} (h : isS B) : isB (B + 4) := ⟨bS4 h, kS4 h⟩
theorem isS.b1 {B : Nat} (h : isS B) : isB (B + 5) := ⟨bS5 h, kS5 h⟩
theorem isS.b2 {B : Nat} (h : isS B) : isB (B + 6) := ⟨bS6 h, kS6 h⟩
theorem isS.b3 {B : Nat} (h : isS B) : isB (B + 7) := ⟨bS7 h, kS7 h⟩
theorem isS.bn {B k : Nat} (h : isS B) (hk : k < 4) : isB (B + 4 + k) := by
  rcases (show k = 0 ∨ k = 1 ∨ k = 2 ∨ k = 3 by omega) with rfl | rfl | rfl | rfl
  · exact h.b0
  · exact h.b1
  · exact h.b2
  · exact h.b3
theorem bb_bb (x : Int32) : bb (bb x) = bb x := by
  unfold bb
  rw [Int32.and_assoc]
  congr 1
theorem nar_b {v : Int32} (h : bb v = v) : narrow .boolean (.int v) = .int v ∧ fits .boolean (.int v) = true := by
  rw [← h]
  unfold bb
  constructor
  · simp [narrow, Int32.and_assoc]
  · have h2 : v &&& 1 = 0 ∨ v &&& 1 = 1 := by
      obtain ⟨j, hj, e⟩ := pk_andE v (m := 1) 1 (by decide)
      rcases (show j = 0 ∨ j = 1 by omega) with rfl | rfl
      · exact Or.inl e
      · exact Or.inr e
    simp [fits, narrow, Int32.and_assoc]
    exact h2
/-- an index out of two compares -/
theorem vp_in_of2 {x L : Int32} {N : Nat} (h0 : ¬ x < 0) (h1 : ¬ L ≤ x) (hL : L.toInt = N) : vp_in x N := by
  rw [vp_in_iff]
  rw [Int32.lt_iff_toInt_lt] at h0
  rw [Int32.le_iff_toInt_le] at h1
  have : (0 : Int32).toInt = 0 := rfl
  omega
theorem tab_out {x : Int32} (lo hi : Int) (h : ∀ k : Nat, k ≤ (hi - lo).toNat → x.toInt ≠ lo + k) : x.toInt < lo ∨ hi < x.toInt := by
  by_cases h1 : x.toInt < lo
  · exact Or.inl h1
  · by_cases h2 : hi < x.toInt
    · exact Or.inr h2
    · exact absurd (by omega) (h (x.toInt - lo).toNat (by omega))
theorem mid12 {x : Int32} (h1 : ¬ x ≤ 0) (h2 : ¬ 12 ≤ x) : vp_in x 12 ∧ vp_in (x - 1) 12 ∧ (x + (-1)).toInt = x.toInt - 1 ∧ x + (-1) = x - 1 := by
  obtain ⟨j, hj, rfl⟩ := nI_of (x := x) (fun h => h1 (by rw [Int32.le_iff_toInt_le]; rw [Int32.lt_iff_toInt_lt] at h; omega))
  have h3 : ¬ j ≤ 0 := fun h => h1 ((nI_leI (b := 0) hj (by omega)).mpr h)
  have h4 : ¬ 12 ≤ j := fun h => h2 ((nI_leI (a := 12) (by omega) hj).mpr h)
  have e1 : nI j - 1 = nI (j - 1) := pk_sub (a := j) (b := 1) (by omega)
  have e2 : nI j + (-1) = nI (j - 1) := by
    have := pk_m1 (j - 1)
    rwa [show j - 1 + 1 = j by omega] at this
  refine ⟨vp_in_nI (by omega) (by decide), ?_, ?_, by rw [e1, e2]⟩
  · rw [e1]
    exact vp_in_nI (by omega) (by decide)
  · rw [e2, nI_toInt (by omega), nI_toInt hj]
    omega
theorem isS_1 : isS 1 := Or.inl rfl
theorem isS_17 : isS 17 := Or.inr (Or.inl rfl)
theorem isS_33 : isS 33 := Or.inr (Or.inr (Or.inl rfl))
abbrev tyX (X : Nat → ClassId) : List (ClassId × FieldType) := [(X 0, .int), (X 1, .char), (X 2, .object RX0), (X 3, .object RX5)]
end
section
abbrev rm_X7_isWithin : Room := { frames := 0, cells := 0, slots := 0, locals := 0 }
theorem md_X7_isWithin : yX7_isWithin.cls = RX7 ∧ yX7_isWithin.cls ≠ "java/lang/invoke/MethodHandle" ∧ yX7_isWithin.cls ≠ "java/lang/invoke/VarHandle" ∧ (parseMethodDescriptor yX7_isWithin.desc).map (fun d => d.parameters.length) = some 3 := by decide +kernel
def f_X7_isWithin (v : Int32) (a : Int32) (b : Int32) (ω : Mem) : Int32 := (if v < a then 0 else (if b < v then 0 else 1))
set_option maxRecDepth 100000 in
set_option maxHeartbeats 4000000 in
theorem c_X7_isWithin {l_ : Launch} {sa : Nat → Nat} {D : va_G} {X : Nat → ClassId} {ad : Nat → Nat} (v : Int32) (a : Int32) (b : Int32) (ω : Mem) : CT l_ yX7_isWithin wsX7_isWithin rm_X7_isWithin sa D (tyX X) 128 ad (mk X ad ω) [.int v, .int a, .int b] (some (.int (f_X7_isWithin v a b ω)) : Option Value) (mk X ad ω) := by
  refine ct_of [(0, .int v), (1, .int a), (2, .int b)] (by decide +kernel) rfl rfl (Nat.le_of_ble_eq_true rfl) rfl ?_
  intro p_ e_ s_ m_ args_ below_ meth_ c_ C hret hlk hin
  have e1 : (some (.int (f_X7_isWithin v a b ω)) : Option Value) = (some (.int (f_X7_isWithin v a b ω)) : Option Value) := rfl
  have e2 : mk X ad ω = mk X ad ω := rfl
  refine g_iload_n C dX7_isWithin_0 rfl 0 rfl ?_
  refine g_iload_n C dX7_isWithin_1 rfl 1 rfl ?_
  refine g_icmp_lt (tgt := 14) C dX7_isWithin_2 (by decide) (fun h1 => ?_) (fun h1 => ?_)
  · refine g_iconst (v := 0) C dX7_isWithin_14 (by decide) ?_
    exact g_zret C hret hlk (nar_b (by decide)).1 (e1.trans (congrArg (fun z => some (Value.int z)) ((if_pos h1).trans rfl))) e2 dX7_isWithin_15
  · refine g_iload_n C dX7_isWithin_5 rfl 0 rfl ?_
    refine g_iload_n C dX7_isWithin_6 rfl 2 rfl ?_
    refine g_icmp_gt (tgt := 14) C dX7_isWithin_7 (by decide) (fun h2 => ?_) (fun h2 => ?_)
    · refine g_iconst (v := 0) C dX7_isWithin_14 (by decide) ?_
      exact g_zret C hret hlk (nar_b (by decide)).1 (e1.trans (congrArg (fun z => some (Value.int z)) ((if_neg h1).trans ((if_pos h2).trans rfl)))) e2 dX7_isWithin_15
    · refine g_iconst (v := 1) C dX7_isWithin_10 (by decide) ?_
      refine g_goto (tgt := 15) C dX7_isWithin_11 (by decide) ?_
      exact g_zret C hret hlk (nar_b (by decide)).1 (e1.trans (congrArg (fun z => some (Value.int z)) ((if_neg h1).trans ((if_neg h2).trans rfl)))) e2 dX7_isWithin_15
theorem z_X7_isWithin {v : Int32} {a : Int32} {b : Int32} {ω : Mem} : bb (f_X7_isWithin v a b ω) = f_X7_isWithin v a b ω := by
  unfold f_X7_isWithin
  repeat' split
  all_goals first | with_reducible exact bb_bb _ | decide
abbrev rm_X7_oneIf : Room := { frames := 0, cells := 0, slots := 0, locals := 0 }
theorem md_X7_oneIf : yX7_oneIf.cls = RX7 ∧ yX7_oneIf.cls ≠ "java/lang/invoke/MethodHandle" ∧ yX7_oneIf.cls ≠ "java/lang/invoke/VarHandle" ∧ (parseMethodDescriptor yX7_oneIf.desc).map (fun d => d.parameters.length) = some 1 := by decide +kernel
def f_X7_oneIf (v : Int32) (ω : Mem) : Int32 := (if v = 0 then 0 else 1)
set_option maxRecDepth 100000 in
set_option maxHeartbeats 4000000 in
theorem c_X7_oneIf {l_ : Launch} {sa : Nat → Nat} {D : va_G} {X : Nat → ClassId} {ad : Nat → Nat} (v : Int32) (ω : Mem) : CT l_ yX7_oneIf wsX7_oneIf rm_X7_oneIf sa D (tyX X) 128 ad (mk X ad ω) [.int v] (some (.int (f_X7_oneIf v ω)) : Option Value) (mk X ad ω) := by
  refine ct_of [(0, .int v)] (by decide +kernel) rfl rfl (Nat.le_of_ble_eq_true rfl) rfl ?_
  intro p_ e_ s_ m_ args_ below_ meth_ c_ C hret hlk hin
  have e1 : (some (.int (f_X7_oneIf v ω)) : Option Value) = (some (.int (f_X7_oneIf v ω)) : Option Value) := rfl
  have e2 : mk X ad ω = mk X ad ω := rfl
  refine g_iload_n C dX7_oneIf_0 rfl 0 rfl ?_
  refine g_if_eq (tgt := 8) C dX7_oneIf_1 (by decide) (fun h1 => ?_) (fun h1 => ?_)
  · refine g_iconst (v := 0) C dX7_oneIf_8 (by decide) ?_
    exact g_iret C hret hlk (e1.trans (congrArg (fun z => some (Value.int z)) ((if_pos h1).trans rfl))) e2 dX7_oneIf_9
  · refine g_iconst (v := 1) C dX7_oneIf_4 (by decide) ?_
    refine g_goto (tgt := 9) C dX7_oneIf_5 (by decide) ?_
    exact g_iret C hret hlk (e1.trans (congrArg (fun z => some (Value.int z)) ((if_neg h1).trans rfl))) e2 dX7_oneIf_9
abbrev rm_X7_elementAt : Room := { frames := 0, cells := 0, slots := 0, locals := 0 }
theorem md_X7_elementAt : yX7_elementAt.cls = RX7 ∧ yX7_elementAt.cls ≠ "java/lang/invoke/MethodHandle" ∧ yX7_elementAt.cls ≠ "java/lang/invoke/VarHandle" ∧ (parseMethodDescriptor yX7_elementAt.desc).map (fun d => d.parameters.length) = some 2 := by decide +kernel
def f_X7_elementAt (n : Nat) (r : Nat) (x : Int32) (ω : Mem) : Int32 := (if x < 0 then 0 else (if (nI (n)) ≤ x then 0 else (ω r x.toNatClampNeg)))
set_option maxRecDepth 100000 in
set_option maxHeartbeats 4000000 in
theorem c_X7_elementAt {l_ : Launch} {sa : Nat → Nat} {D : va_G} {X : Nat → ClassId} {ad : Nat → Nat} (n : Nat) (r : Nat) (x : Int32) (hr : isR r n) (hn : n < 2 ^ 31) (ω : Mem) : CT l_ yX7_elementAt wsX7_elementAt rm_X7_elementAt sa D (tyX X) 128 ad (mk X ad ω) [.ref (ad r), .int x] (some (.int (f_X7_elementAt n r x ω)) : Option Value) (mk X ad ω) := by
  refine ct_of [(0, .ref (ad r)), (1, .int x)] (by decide +kernel) rfl rfl (Nat.le_of_ble_eq_true rfl) rfl ?_
  intro p_ e_ s_ m_ args_ below_ meth_ c_ C hret hlk hin
  have e1 : (some (.int (f_X7_elementAt n r x ω)) : Option Value) = (some (.int (f_X7_elementAt n r x ω)) : Option Value) := rfl
  have e2 : mk X ad ω = mk X ad ω := rfl
  refine g_iload_n C dX7_elementAt_0 rfl 1 rfl ?_
  refine g_if_lt (tgt := 16) C dX7_elementAt_1 (by decide) (fun h1 => ?_) (fun h1 => ?_)
  · refine g_iconst (v := 0) C dX7_elementAt_16 (by decide) ?_
    exact g_iret C hret hlk (e1.trans (congrArg (fun z => some (Value.int z)) ((if_pos h1).trans rfl))) e2 dX7_elementAt_17
  · refine g_iload_n C dX7_elementAt_4 rfl 1 rfl ?_
    refine g_aload_n C dX7_elementAt_5 rfl 0 rfl ?_
    refine g_alen (v := (nI (n))) C 0 (hr).1 (mk_12n (hr).2.1 (hr).2.2) rfl rfl dX7_elementAt_6 ?_
    refine g_icmp_ge (tgt := 16) C dX7_elementAt_7 (by decide) (fun h2 => ?_) (fun h2 => ?_)
    · refine g_iconst (v := 0) C dX7_elementAt_16 (by decide) ?_
      exact g_iret C hret hlk (e1.trans (congrArg (fun z => some (Value.int z)) ((if_neg h1).trans ((if_pos h2).trans rfl)))) e2 dX7_elementAt_17
    · refine g_aload_n C dX7_elementAt_10 rfl 0 rfl ?_
      refine g_iload_n C dX7_elementAt_11 rfl 1 rfl ?_
      refine g_iald C 0 (hr).1 (mk_12n (hr).2.1 (hr).2.2) rfl (vp_in_of2 h1 h2 (nI_toInt (by omega))) rfl dX7_elementAt_12 ?_
      refine g_goto (tgt := 17) C dX7_elementAt_13 (by decide) ?_
      exact g_iret C hret hlk (e1.trans (congrArg (fun z => some (Value.int z)) ((if_neg h1).trans ((if_neg h2).trans rfl)))) e2 dX7_elementAt_17
def f_X7_elementAtT (q : String × String × List Int32) (x : Int32) (ω : Mem) : Int32 := (if x < 0 then 0 else (if (nI (q.2.2.length)) ≤ x then 0 else (q.2.2.getD x.toNatClampNeg 0)))
set_option maxRecDepth 100000 in
set_option maxHeartbeats 4000000 in
theorem c_X7_elementAtT {l_ : Launch} {sa : Nat → Nat} {D : va_G} {X : Nat → ClassId} {ad : Nat → Nat} (k : Nat) (q : String × String × List Int32) (x : Int32) (hsv : svL[k]? = some q) (hn : q.2.2.length < 2 ^ 31) (ω : Mem) : CT l_ yX7_elementAt wsX7_elementAt rm_X7_elementAt sa D (tyX X) 128 ad (mk X ad ω) [.ref (sa k), .int x] (some (.int (f_X7_elementAtT q x ω)) : Option Value) (mk X ad ω) := by
  refine ct_of [(0, .ref (sa k)), (1, .int x)] (by decide +kernel) rfl rfl (Nat.le_of_ble_eq_true rfl) rfl ?_
  intro p_ e_ s_ m_ args_ below_ meth_ c_ C hret hlk hin
  have e1 : (some (.int (f_X7_elementAtT q x ω)) : Option Value) = (some (.int (f_X7_elementAtT q x ω)) : Option Value) := rfl
  have e2 : mk X ad ω = mk X ad ω := rfl
  refine g_iload_n C dX7_elementAt_0 rfl 1 rfl ?_
  refine g_if_lt (tgt := 16) C dX7_elementAt_1 (by decide) (fun h1 => ?_) (fun h1 => ?_)
  · refine g_iconst (v := 0) C dX7_elementAt_16 (by decide) ?_
    exact g_iret C hret hlk (e1.trans (congrArg (fun z => some (Value.int z)) ((if_pos h1).trans rfl))) e2 dX7_elementAt_17
  · refine g_iload_n C dX7_elementAt_4 rfl 1 rfl ?_
    refine g_aload_n C dX7_elementAt_5 rfl 0 rfl ?_
    refine g_tlen C k hsv rfl dX7_elementAt_6 ?_
    refine g_icmp_ge (tgt := 16) C dX7_elementAt_7 (by decide) (fun h2 => ?_) (fun h2 => ?_)
    · refine g_iconst (v := 0) C dX7_elementAt_16 (by decide) ?_
      exact g_iret C hret hlk (e1.trans (congrArg (fun z => some (Value.int z)) ((if_neg h1).trans ((if_pos h2).trans rfl)))) e2 dX7_elementAt_17
    · refine g_aload_n C dX7_elementAt_10 rfl 0 rfl ?_
      refine g_iload_n C dX7_elementAt_11 rfl 1 rfl ?_
      refine g_tald C k hsv (vp_in_of2 h1 h2 (nI_toInt (by omega))) rfl dX7_elementAt_12 ?_
      refine g_goto (tgt := 17) C dX7_elementAt_13 (by decide) ?_
      exact g_iret C hret hlk (e1.trans (congrArg (fun z => some (Value.int z)) ((if_neg h1).trans ((if_neg h2).trans rfl)))) e2 dX7_elementAt_17
abbrev rm_X7_copyRow : Room := { frames := 1, cells := 0, slots := 0, locals := 18 }
theorem md_X7_copyRow : yX7_copyRow.cls = RX7 ∧ yX7_copyRow.cls ≠ "java/lang/invoke/MethodHandle" ∧ yX7_copyRow.cls ≠ "java/lang/invoke/VarHandle" ∧ (parseMethodDescriptor yX7_copyRow.desc).map (fun d => d.parameters.length) = some 2 := by decide +kernel
def f_X7_copyRow (n : Nat) (u : Nat) (r : Nat) (t : Nat) (ω : Mem) : Mem := (va_up ω t (va_cpy (ω r) (ω t) 0 0 (min (n) (u))))
set_option maxRecDepth 100000 in
set_option maxHeartbeats 4000000 in
theorem c_X7_copyRow {l_ : Launch} {sa : Nat → Nat} {D : va_G} {X : Nat → ClassId} {ad : Nat → Nat} (n : Nat) (u : Nat) (r : Nat) (t : Nat) (hr : isR r n) (ht : isR t u) (hn : n < 2 ^ 31) (hu : u < 2 ^ 31) (ω : Mem) : CT l_ yX7_copyRow wsX7_copyRow rm_X7_copyRow sa D (tyX X) 128 ad (mk X ad ω) [.ref (ad r), .ref (ad t)] (none : Option Value) (mk X ad (f_X7_copyRow n u r t ω)) := by
  refine ct_of [(0, .ref (ad r)), (1, .ref (ad t))] (by decide +kernel) rfl rfl (Nat.le_of_ble_eq_true rfl) rfl ?_
  intro p_ e_ s_ m_ args_ below_ meth_ c_ C hret hlk hin
  have e1 : (none : Option Value) = (none : Option Value) := rfl
  have e2 : mk X ad (f_X7_copyRow n u r t ω) = mk X ad (f_X7_copyRow n u r t ω) := rfl
  have A259 : Cond.methodLink RX7 259 arraycopyName ∈ wsX7_copyRow := by decide +kernel
  have Aini : Cond.initialized "java/lang/System" ∈ wsX7_copyRow := by decide +kernel
  have Anat : Cond.native arraycopyName ∈ wsX7_copyRow := by decide +kernel
  have Asta : Cond.static arraycopyName ∈ wsX7_copyRow := by decide +kernel
  have M254a : Cond.methodLink RX7 254 Lib.Math.min.name ∈ wsX7_copyRow := by decide +kernel
  have Mini : Cond.initialized "java/lang/Math" ∈ wsX7_copyRow := by decide +kernel
  have Mminb : Cond.static Lib.Math.min.name ∈ wsX7_copyRow := by decide +kernel
  have Mminc : Cond.code Lib.Math.min.name Lib.Math.min.code 2 (some .int) ∈ wsX7_copyRow := by decide +kernel
  refine g_aload_n C dX7_copyRow_0 rfl 0 rfl ?_
  refine g_iconst (v := 0) C dX7_copyRow_1 (by decide) ?_
  refine g_aload_n C dX7_copyRow_2 rfl 1 rfl ?_
  refine g_iconst (v := 0) C dX7_copyRow_3 (by decide) ?_
  refine g_aload_n C dX7_copyRow_4 rfl 0 rfl ?_
  refine g_alen (v := (nI (n))) C 0 (hr).1 (mk_12n (hr).2.1 (hr).2.2) rfl rfl dX7_copyRow_5 ?_
  refine g_aload_n C dX7_copyRow_6 rfl 1 rfl ?_
  refine g_alen (v := (nI (u))) C 0 (ht).1 (mk_12n (ht).2.1 (ht).2.2) rfl rfl dX7_copyRow_7 ?_
  refine g_mmin (v := (nI (min (n) (u)))) C M254a Mminb Mini Mminc (Nat.le_of_ble_eq_true rfl) (Nat.le_of_ble_eq_true rfl) (Nat.zero_le _) (Nat.zero_le _) dX7_copyRow_8 (nI_min (a := n) (b := u) (by omega) (by omega)) ?_
  refine g_copy (zs := 0) (zd := 0) (zz := min (n) (u)) C 0 A259 Anat Asta Aini (hr).1 (mk_12n (hr).2.1 (hr).2.2) (ht).1 (mk_12n (ht).2.1 (ht).2.2) rfl rfl (by decide) (by decide) (nI_pos (n := min (n) (u)) (by omega)) (by decide) (by decide) (nI_clamp (n := min (n) (u)) (by omega)) (by omega) (by omega) (Nat.le_of_ble_eq_true rfl) (Nat.le_of_ble_eq_true rfl) dX7_copyRow_11 ?_
  refine gv_eqG (mk_row (ht).2.1 (ht).2.2) ?_
  exact g_vret C hret hlk e1 (e2.trans (congrArg (mk X ad) rfl)) dX7_copyRow_14
end
section
abbrev rm_X4_isOne : Room := { frames := 1, cells := 0, slots := 0, locals := 22 }
theorem md_X4_isOne : yX4_isOne.cls = RX4 ∧ yX4_isOne.cls ≠ "java/lang/invoke/MethodHandle" ∧ yX4_isOne.cls ≠ "java/lang/invoke/VarHandle" ∧ (parseMethodDescriptor yX4_isOne.desc).map (fun d => d.parameters.length) = some 1 := by decide +kernel
def f_X4_isOne (w : Int32) (ω : Mem) : Int32 := (f_X7_isWithin w 0 3 ω)
set_option maxRecDepth 100000 in
set_option maxHeartbeats 4000000 in
theorem c_X4_isOne {l_ : Launch} {sa : Nat → Nat} {D : va_G} {X : Nat → ClassId} {ad : Nat → Nat} (w : Int32) (ω : Mem) : CT l_ yX4_isOne wsX4_isOne rm_X4_isOne sa D (tyX X) 128 ad (mk X ad ω) [.int w] (some (.int (f_X4_isOne w ω)) : Option Value) (mk X ad ω) := by
  refine ct_of [(0, .int w)] (by decide +kernel) rfl rfl (Nat.le_of_ble_eq_true rfl) rfl ?_
  intro p_ e_ s_ m_ args_ below_ meth_ c_ C hret hlk hin
  have e1 : (some (.int (f_X4_isOne w ω)) : Option Value) = (some (.int (f_X4_isOne w ω)) : Option Value) := rfl
  have e2 : mk X ad ω = mk X ad ω := rfl
  have IX7 : Cond.initialized RX7 ∈ wsX4_isOne := by decide +kernel
  have S7 : Cond.fieldLink RX4 7 "FlameGuards$Settings" "FIRST" "[I" ∈ wsX4_isOne := by decide +kernel
  have TX7_isWithin : Cond.static yX7_isWithin ∈ wsX4_isOne := by decide +kernel
  refine g_iload_n C dX4_isOne_0 rfl 0 rfl ?_
  refine g_iconst (v := 0) C dX4_isOne_1 (by decide) ?_
  refine g_gets C 2 rfl S7 dX4_isOne_2 ?_
  refine g_tlen (v := 4) C 2 rfl (by decide) dX4_isOne_5 ?_
  refine g_iconst (v := 1) C dX4_isOne_6 (by decide) ?_
  refine g_isub (v := 3) C dX4_isOne_7 (by decide) ?_
  refine g_callSN (rest := []) (st1 := [.int (f_X7_isWithin w 0 3 ω)]) C (c_X7_isWithin w 0 3 ω) (va_cnB 3 C.hts gX4_isOne_X7_isWithin_n22 rfl rfl rfl (nw6 C.hN) (C.hts _ IX7) md_X7_isWithin.2 ⟨Nat.le_of_ble_eq_true rfl, Nat.le_of_ble_eq_true rfl⟩) TX7_isWithin rfl rfl rfl (Nat.le_of_ble_eq_true rfl) dX4_isOne_8 (Nat.zero_le _) (Nat.zero_le _) ?_
  exact g_zret C hret hlk (nar_b (z_X7_isWithin ..)).1 (e1.trans (congrArg (fun z => some (Value.int z)) rfl)) e2 dX4_isOne_11
theorem z_X4_isOne {w : Int32} {ω : Mem} : bb (f_X4_isOne w ω) = f_X4_isOne w ω := by
  unfold f_X4_isOne
  repeat' split
  all_goals first | with_reducible exact z_X7_isWithin | with_reducible exact bb_bb _ | decide
abbrev rm_X4_allows : Room := { frames := 1, cells := 0, slots := 0, locals := 22 }
theorem md_X4_allows : yX4_allows.cls = RX4 ∧ yX4_allows.cls ≠ "java/lang/invoke/MethodHandle" ∧ yX4_allows.cls ≠ "java/lang/invoke/VarHandle" ∧ (parseMethodDescriptor yX4_allows.desc).map (fun d => d.parameters.length) = some 2 := by decide +kernel
def f_X4_allows (w : Int32) (v : Int32) (ω : Mem) : Int32 := (f_X7_isWithin v (f_X7_elementAtT ("FlameGuards$Settings", "LEAST", ([100, 1, 0, 50] : List Int32)) w ω) (f_X7_elementAtT ("FlameGuards$Settings", "MOST", ([450, 20, 50, 1000] : List Int32)) w ω) ω)
set_option maxRecDepth 100000 in
set_option maxHeartbeats 4000000 in
theorem c_X4_allows {l_ : Launch} {sa : Nat → Nat} {D : va_G} {X : Nat → ClassId} {ad : Nat → Nat} (w : Int32) (v : Int32) (ω : Mem) : CT l_ yX4_allows wsX4_allows rm_X4_allows sa D (tyX X) 128 ad (mk X ad ω) [.int w, .int v] (some (.int (f_X4_allows w v ω)) : Option Value) (mk X ad ω) := by
  refine ct_of [(0, .int w), (1, .int v)] (by decide +kernel) rfl rfl (Nat.le_of_ble_eq_true rfl) rfl ?_
  intro p_ e_ s_ m_ args_ below_ meth_ c_ C hret hlk hin
  have e1 : (some (.int (f_X4_allows w v ω)) : Option Value) = (some (.int (f_X4_allows w v ω)) : Option Value) := rfl
  have e2 : mk X ad ω = mk X ad ω := rfl
  have IX7 : Cond.initialized RX7 ∈ wsX4_allows := by decide +kernel
  have S26 : Cond.fieldLink RX4 26 "FlameGuards$Settings" "LEAST" "[I" ∈ wsX4_allows := by decide +kernel
  have S33 : Cond.fieldLink RX4 33 "FlameGuards$Settings" "MOST" "[I" ∈ wsX4_allows := by decide +kernel
  have TX7_elementAt : Cond.static yX7_elementAt ∈ wsX4_allows := by decide +kernel
  have TX7_isWithin : Cond.static yX7_isWithin ∈ wsX4_allows := by decide +kernel
  refine g_iload_n C dX4_allows_0 rfl 1 rfl ?_
  refine g_gets C 0 rfl S26 dX4_allows_1 ?_
  refine g_iload_n C dX4_allows_4 rfl 0 rfl ?_
  refine g_callSN (rest := [.int v]) (st1 := [.int (f_X7_elementAtT ("FlameGuards$Settings", "LEAST", ([100, 1, 0, 50] : List Int32)) w ω), .int v]) C (c_X7_elementAtT 0 ("FlameGuards$Settings", "LEAST", ([100, 1, 0, 50] : List Int32)) w rfl (by decide) ω) (va_cnB 2 C.hts gX4_allows_X7_elementAt_n29 rfl rfl rfl (nw7 C.hN) (C.hts _ IX7) md_X7_elementAt.2 ⟨Nat.le_of_ble_eq_true rfl, Nat.le_of_ble_eq_true rfl⟩) TX7_elementAt rfl rfl rfl (Nat.le_of_ble_eq_true rfl) dX4_allows_5 (Nat.zero_le _) (Nat.zero_le _) ?_
  refine g_gets C 1 rfl S33 dX4_allows_8 ?_
  refine g_iload_n C dX4_allows_11 rfl 0 rfl ?_
  refine g_callSN (rest := [.int (f_X7_elementAtT ("FlameGuards$Settings", "LEAST", ([100, 1, 0, 50] : List Int32)) w ω), .int v]) (st1 := [.int (f_X7_elementAtT ("FlameGuards$Settings", "MOST", ([450, 20, 50, 1000] : List Int32)) w ω), .int (f_X7_elementAtT ("FlameGuards$Settings", "LEAST", ([100, 1, 0, 50] : List Int32)) w ω), .int v]) C (c_X7_elementAtT 1 ("FlameGuards$Settings", "MOST", ([450, 20, 50, 1000] : List Int32)) w rfl (by decide) ω) (va_cnB 2 C.hts gX4_allows_X7_elementAt_n29 rfl rfl rfl (nw7 C.hN) (C.hts _ IX7) md_X7_elementAt.2 ⟨Nat.le_of_ble_eq_true rfl, Nat.le_of_ble_eq_true rfl⟩) TX7_elementAt rfl rfl rfl (Nat.le_of_ble_eq_true rfl) dX4_allows_12 (Nat.zero_le _) (Nat.zero_le _) ?_
  refine g_callSN (rest := []) (st1 := [.int (f_X7_isWithin v (f_X7_elementAtT ("FlameGuards$Settings", "LEAST", ([100, 1, 0, 50] : List Int32)) w ω) (f_X7_elementAtT ("FlameGuards$Settings", "MOST", ([450, 20, 50, 1000] : List Int32)) w ω) ω)]) C (c_X7_isWithin v (f_X7_elementAtT ("FlameGuards$Settings", "LEAST", ([100, 1, 0, 50] : List Int32)) w ω) (f_X7_elementAtT ("FlameGuards$Settings", "MOST", ([450, 20, 50, 1000] : List Int32)) w ω) ω) (va_cnB 3 C.hts gX4_allows_X7_isWithin_n22 rfl rfl rfl (nw6 C.hN) (C.hts _ IX7) md_X7_isWithin.2 ⟨Nat.le_of_ble_eq_true rfl, Nat.le_of_ble_eq_true rfl⟩) TX7_isWithin rfl rfl rfl (Nat.le_of_ble_eq_true rfl) dX4_allows_15 (Nat.zero_le _) (Nat.zero_le _) ?_
  exact g_zret C hret hlk (nar_b (z_X7_isWithin ..)).1 (e1.trans (congrArg (fun z => some (Value.int z)) rfl)) e2 dX4_allows_18
theorem z_X4_allows {w : Int32} {v : Int32} {ω : Mem} : bb (f_X4_allows w v ω) = f_X4_allows w v ω := by
  unfold f_X4_allows
  repeat' split
  all_goals first | with_reducible exact z_X7_isWithin | with_reducible exact bb_bb _ | decide
abbrev rm_X4_valueOf : Room := { frames := 1, cells := 0, slots := 0, locals := 21 }
theorem md_X4_valueOf : yX4_valueOf.cls = RX4 ∧ yX4_valueOf.cls ≠ "java/lang/invoke/MethodHandle" ∧ yX4_valueOf.cls ≠ "java/lang/invoke/VarHandle" ∧ (parseMethodDescriptor yX4_valueOf.desc).map (fun d => d.parameters.length) = some 1 := by decide +kernel
def f_X4_valueOf (i : Nat) (w : Int32) (ω : Mem) : Int32 := (f_X7_elementAt 4 (i + 1) w ω)
set_option maxRecDepth 100000 in
set_option maxHeartbeats 4000000 in
theorem c_X4_valueOf {l_ : Launch} {sa : Nat → Nat} {D : va_G} {X : Nat → ClassId} {ad : Nat → Nat} (i : Nat) (w : Int32) (hi : isSet i) (ω : Mem) : CT l_ yX4_valueOf wsX4_valueOf rm_X4_valueOf sa D (tyX X) 128 ad (mk X ad ω) [.ref (ad i), .int w] (some (.int (f_X4_valueOf i w ω)) : Option Value) (mk X ad ω) := by
  refine ct_of [(0, .ref (ad i)), (1, .int w)] (by decide +kernel) rfl rfl (Nat.le_of_ble_eq_true rfl) rfl ?_
  intro p_ e_ s_ m_ args_ below_ meth_ c_ C hret hlk hin
  have e1 : (some (.int (f_X4_valueOf i w ω)) : Option Value) = (some (.int (f_X4_valueOf i w ω)) : Option Value) := rfl
  have e2 : mk X ad ω = mk X ad ω := rfl
  have iX4 : ∀ w ∈ u_ws RX4 TX4 1, w ∈ wsX4_valueOf := by decide +kernel
  have IX7 : Cond.initialized RX7 ∈ wsX4_valueOf := by decide +kernel
  have L13 : Cond.fieldLink RX4 13 (TX4 0).1 (TX4 0).2.1 (TX4 0).2.2.1 ∈ wsX4_valueOf := by decide +kernel
  have TX7_elementAt : Cond.static yX7_elementAt ∈ wsX4_valueOf := by decide +kernel
  refine g_aload_n C dX4_valueOf_0 rfl 0 rfl ?_
  refine g_get (v := .ref (ad (i + 1))) C iX4 (hi).1 (mk_2 (hi).2.1) rfl 0 (by decide) L13 rfl dX4_valueOf_1 ?_
  refine g_iload_n C dX4_valueOf_4 rfl 1 rfl ?_
  refine g_callSN (rest := []) (st1 := [.int (f_X7_elementAt 4 (i + 1) w ω)]) C (c_X7_elementAt 4 (i + 1) w hi.2.2 (by omega) ω) (va_cnB 2 C.hts gX4_valueOf_X7_elementAt_n29 rfl rfl rfl (nw7 C.hN) (C.hts _ IX7) md_X7_elementAt.2 ⟨Nat.le_of_ble_eq_true rfl, Nat.le_of_ble_eq_true rfl⟩) TX7_elementAt rfl rfl rfl (Nat.le_of_ble_eq_true rfl) dX4_valueOf_5 (Nat.zero_le _) (Nat.zero_le _) ?_
  exact g_iret C hret hlk (e1.trans (congrArg (fun z => some (Value.int z)) rfl)) e2 dX4_valueOf_8
abbrev rm_X4_change : Room := { frames := 2, cells := 0, slots := 0, locals := 42 }
theorem md_X4_change : yX4_change.cls = RX4 ∧ yX4_change.cls ≠ "java/lang/invoke/MethodHandle" ∧ yX4_change.cls ≠ "java/lang/invoke/VarHandle" ∧ (parseMethodDescriptor yX4_change.desc).map (fun d => d.parameters.length) = some 2 := by decide +kernel
def f_X4_change (i : Nat) (w : Nat) (v : Int32) (ω : Mem) : Mem := (if (f_X4_isOne (nI (w)) ω) = 0 then ω else (st ω (i + 1) w v))
set_option maxRecDepth 100000 in
set_option maxHeartbeats 4000000 in
theorem c_X4_change {l_ : Launch} {sa : Nat → Nat} {D : va_G} {X : Nat → ClassId} {ad : Nat → Nat} (i : Nat) (w : Nat) (v : Int32) (hi : isSet i) (hw : w < 4) (ω : Mem) : CT l_ yX4_change wsX4_change rm_X4_change sa D (tyX X) 128 ad (mk X ad ω) [.ref (ad i), .int (nI (w)), .int v] (none : Option Value) (mk X ad (f_X4_change i w v ω)) := by
  refine ct_of [(0, .ref (ad i)), (1, .int (nI (w))), (2, .int v)] (by decide +kernel) rfl rfl (Nat.le_of_ble_eq_true rfl) rfl ?_
  intro p_ e_ s_ m_ args_ below_ meth_ c_ C hret hlk hin
  have e1 : (none : Option Value) = (none : Option Value) := rfl
  have e2 : mk X ad (f_X4_change i w v ω) = mk X ad (f_X4_change i w v ω) := rfl
  have iX4 : ∀ w ∈ u_ws RX4 TX4 1, w ∈ wsX4_change := by decide +kernel
  have L13 : Cond.fieldLink RX4 13 (TX4 0).1 (TX4 0).2.1 (TX4 0).2.2.1 ∈ wsX4_change := by decide +kernel
  refine g_iload_n C dX4_change_0 rfl 1 rfl ?_
  refine g_callS (rest := []) (st1 := [.int (f_X4_isOne (nI (w)) ω)]) C (c_X4_isOne (nI (w)) ω) (va_cwS 1 C.hts gX4_change_X4_isOne rfl rfl rfl md_X4_isOne.2 ⟨Nat.le_of_ble_eq_true rfl, Nat.le_of_ble_eq_true rfl⟩) rfl rfl rfl (Nat.le_of_ble_eq_true rfl) dX4_change_1 (Nat.zero_le _) (Nat.zero_le _) ?_
  refine g_if_eq (tgt := 14) C dX4_change_4 (by decide) (fun h1 => ?_) (fun h1 => ?_)
  · exact g_vret C hret hlk e1 (e2.trans (congrArg (mk X ad) ((if_pos h1).trans rfl))) dX4_change_14
  · refine g_aload_n C dX4_change_7 rfl 0 rfl ?_
    refine g_get (v := .ref (ad (i + 1))) C iX4 (hi).1 (mk_2 (hi).2.1) rfl 0 (by decide) L13 rfl dX4_change_8 ?_
    refine g_iload_n C dX4_change_11 rfl 1 rfl ?_
    refine g_iload_n C dX4_change_12 rfl 2 rfl ?_
    refine g_iast C 0 (hi).2.2.1 (mk_12n (hi).2.2.2.1 (hi).2.2.2.2) rfl (vp_in_nI (n := w) (by omega) (by decide)) (nI_clamp (n := w) (by omega)) dX4_change_13 ?_
    refine gv_eqG (mk_row (hi).2.2.2.1 (hi).2.2.2.2) ?_
    exact g_vret C hret hlk e1 (e2.trans (congrArg (mk X ad) ((if_neg h1).trans rfl))) dX4_change_14
abbrev rm_X4_copyFrom : Room := { frames := 2, cells := 0, slots := 0, locals := 39 }
theorem md_X4_copyFrom : yX4_copyFrom.cls = RX4 ∧ yX4_copyFrom.cls ≠ "java/lang/invoke/MethodHandle" ∧ yX4_copyFrom.cls ≠ "java/lang/invoke/VarHandle" ∧ (parseMethodDescriptor yX4_copyFrom.desc).map (fun d => d.parameters.length) = some 1 := by decide +kernel
def f_X4_copyFrom (i : Nat) (k : Nat) (ω : Mem) : Mem := (f_X7_copyRow 4 4 (k + 1) (i + 1) ω)
set_option maxRecDepth 100000 in
set_option maxHeartbeats 4000000 in
theorem c_X4_copyFrom {l_ : Launch} {sa : Nat → Nat} {D : va_G} {X : Nat → ClassId} {ad : Nat → Nat} (i : Nat) (k : Nat) (hi : isSet i) (hk : isSet k) (ω : Mem) : CT l_ yX4_copyFrom wsX4_copyFrom rm_X4_copyFrom sa D (tyX X) 128 ad (mk X ad ω) [.ref (ad i), .ref (ad k)] (none : Option Value) (mk X ad (f_X4_copyFrom i k ω)) := by
  refine ct_of [(0, .ref (ad i)), (1, .ref (ad k))] (by decide +kernel) rfl rfl (Nat.le_of_ble_eq_true rfl) rfl ?_
  intro p_ e_ s_ m_ args_ below_ meth_ c_ C hret hlk hin
  have e1 : (none : Option Value) = (none : Option Value) := rfl
  have e2 : mk X ad (f_X4_copyFrom i k ω) = mk X ad (f_X4_copyFrom i k ω) := rfl
  have iX4 : ∀ w ∈ u_ws RX4 TX4 1, w ∈ wsX4_copyFrom := by decide +kernel
  have IX7 : Cond.initialized RX7 ∈ wsX4_copyFrom := by decide +kernel
  have L13 : Cond.fieldLink RX4 13 (TX4 0).1 (TX4 0).2.1 (TX4 0).2.2.1 ∈ wsX4_copyFrom := by decide +kernel
  have TX7_copyRow : Cond.static yX7_copyRow ∈ wsX4_copyFrom := by decide +kernel
  refine g_aload_n C dX4_copyFrom_0 rfl 1 rfl ?_
  refine g_get (v := .ref (ad (k + 1))) C iX4 (hk).1 (mk_2 (hk).2.1) rfl 0 (by decide) L13 rfl dX4_copyFrom_1 ?_
  refine g_aload_n C dX4_copyFrom_4 rfl 0 rfl ?_
  refine g_get (v := .ref (ad (i + 1))) C iX4 (hi).1 (mk_2 (hi).2.1) rfl 0 (by decide) L13 rfl dX4_copyFrom_5 ?_
  refine g_callSN (rest := []) (st1 := []) C (c_X7_copyRow 4 4 (k + 1) (i + 1) hk.2.2 hi.2.2 (by omega) (by omega) ω) (va_cnB 2 C.hts gX4_copyFrom_X7_copyRow_n16 rfl rfl rfl (nw5 C.hN) (C.hts _ IX7) md_X7_copyRow.2 ⟨Nat.le_of_ble_eq_true rfl, Nat.le_of_ble_eq_true rfl⟩) TX7_copyRow rfl rfl rfl (Nat.le_of_ble_eq_true rfl) dX4_copyFrom_8 (Nat.zero_le _) (Nat.zero_le _) ?_
  exact g_vret C hret hlk e1 (e2.trans (congrArg (mk X ad) rfl)) dX4_copyFrom_11
abbrev rm_X0_quotient : Room := { frames := 0, cells := 0, slots := 0, locals := 0 }
theorem md_X0_quotient : yX0_quotient.cls = RX0 ∧ yX0_quotient.cls ≠ "java/lang/invoke/MethodHandle" ∧ yX0_quotient.cls ≠ "java/lang/invoke/VarHandle" ∧ (parseMethodDescriptor yX0_quotient.desc).map (fun d => d.parameters.length) = some 2 := by decide +kernel
def f_X0_quotient (a : Int32) (d : Int32) (ω : Mem) : Int32 := (if d ≤ 0 then 0 else (a / d))
set_option maxRecDepth 100000 in
set_option maxHeartbeats 4000000 in
theorem c_X0_quotient {l_ : Launch} {sa : Nat → Nat} {D : va_G} {X : Nat → ClassId} {ad : Nat → Nat} (a : Int32) (d : Int32) (ω : Mem) : CT l_ yX0_quotient wsX0_quotient rm_X0_quotient sa D (tyX X) 128 ad (mk X ad ω) [.int a, .int d] (some (.int (f_X0_quotient a d ω)) : Option Value) (mk X ad ω) := by
  refine ct_of [(0, .int a), (1, .int d)] (by decide +kernel) rfl rfl (Nat.le_of_ble_eq_true rfl) rfl ?_
  intro p_ e_ s_ m_ args_ below_ meth_ c_ C hret hlk hin
  have e1 : (some (.int (f_X0_quotient a d ω)) : Option Value) = (some (.int (f_X0_quotient a d ω)) : Option Value) := rfl
  have e2 : mk X ad ω = mk X ad ω := rfl
  refine g_iload_n C dX0_quotient_0 rfl 1 rfl ?_
  refine g_if_le (tgt := 10) C dX0_quotient_1 (by decide) (fun h1 => ?_) (fun h1 => ?_)
  · refine g_iconst (v := 0) C dX0_quotient_10 (by decide) ?_
    exact g_iret C hret hlk (e1.trans (congrArg (fun z => some (Value.int z)) ((if_pos h1).trans rfl))) e2 dX0_quotient_11
  · refine g_iload_n C dX0_quotient_4 rfl 0 rfl ?_
    refine g_iload_n C dX0_quotient_5 rfl 1 rfl ?_
    refine g_idiv C dX0_quotient_6 (ne_of_nle h1) ?_
    refine g_goto (tgt := 11) C dX0_quotient_7 (by decide) ?_
    exact g_iret C hret hlk (e1.trans (congrArg (fun z => some (Value.int z)) ((if_neg h1).trans rfl))) e2 dX0_quotient_11
abbrev rm_X0_told : Room := { frames := 1, cells := 0, slots := 0, locals := 21 }
theorem md_X0_told : yX0_told.cls = RX0 ∧ yX0_told.cls ≠ "java/lang/invoke/MethodHandle" ∧ yX0_told.cls ≠ "java/lang/invoke/VarHandle" ∧ (parseMethodDescriptor yX0_told.desc).map (fun d => d.parameters.length) = some 2 := by decide +kernel
def f_X0_told (b : Nat) (q : String × String × List Int32) (t : Int32) (ω : Mem) : Int32 := (if t = 0 then 0 else (f_X7_elementAtT q ((((ω b 0) * 2) + t) - 1) ω))
set_option maxRecDepth 100000 in
set_option maxHeartbeats 4000000 in
theorem c_X0_told {l_ : Launch} {sa : Nat → Nat} {D : va_G} {X : Nat → ClassId} {ad : Nat → Nat} (b : Nat) (k : Nat) (q : String × String × List Int32) (t : Int32) (hb : isB b) (hsv : svL[k]? = some q) (hn : q.2.2.length < 2 ^ 31) (ω : Mem) : CT l_ yX0_told wsX0_told rm_X0_told sa D (tyX X) 128 ad (mk X ad ω) [.ref (ad b), .ref (sa k), .int t] (some (.int (f_X0_told b q t ω)) : Option Value) (mk X ad ω) := by
  refine ct_of [(0, .ref (ad b)), (1, .ref (sa k)), (2, .int t)] (by decide +kernel) rfl rfl (Nat.le_of_ble_eq_true rfl) rfl ?_
  intro p_ e_ s_ m_ args_ below_ meth_ c_ C hret hlk hin
  have e1 : (some (.int (f_X0_told b q t ω)) : Option Value) = (some (.int (f_X0_told b q t ω)) : Option Value) := rfl
  have e2 : mk X ad ω = mk X ad ω := rfl
  have iX0 : ∀ w ∈ u_ws RX0 TX0 10, w ∈ wsX0_told := by decide +kernel
  have IX7 : Cond.initialized RX7 ∈ wsX0_told := by decide +kernel
  have L7 : Cond.fieldLink RX0 7 (TX0 0).1 (TX0 0).2.1 (TX0 0).2.2.1 ∈ wsX0_told := by decide +kernel
  have TX7_elementAt : Cond.static yX7_elementAt ∈ wsX0_told := by decide +kernel
  refine g_iload_n C dX0_told_0 rfl 2 rfl ?_
  refine g_if_ne (tgt := 6) C dX0_told_1 (by decide) (fun h1 => ?_) (fun h1 => ?_)
  · refine g_aload_n C dX0_told_6 rfl 1 rfl ?_
    refine g_aload_n C dX0_told_7 rfl 0 rfl ?_
    refine g_get (v := .int (ω b 0)) C iX0 (hb).1 (mk_4 (hb).2) rfl 0 (by decide) L7 rfl dX0_told_8 ?_
    refine g_iconst (v := 2) C dX0_told_11 (by decide) ?_
    refine g_imul (v := ((ω b 0) * 2)) C dX0_told_12 rfl ?_
    refine g_iload_n C dX0_told_13 rfl 2 rfl ?_
    refine g_iadd (v := (((ω b 0) * 2) + t)) C dX0_told_14 rfl ?_
    refine g_iconst (v := 1) C dX0_told_15 (by decide) ?_
    refine g_isub (v := ((((ω b 0) * 2) + t) - 1)) C dX0_told_16 rfl ?_
    refine g_callSN (rest := []) (st1 := [.int (f_X7_elementAtT q ((((ω b 0) * 2) + t) - 1) ω)]) C (c_X7_elementAtT k q ((((ω b 0) * 2) + t) - 1) hsv (by omega) ω) (va_cnB 2 C.hts gX0_told_X7_elementAt_n66 rfl rfl rfl (nw0 C.hN) (C.hts _ IX7) md_X7_elementAt.2 ⟨Nat.le_of_ble_eq_true rfl, Nat.le_of_ble_eq_true rfl⟩) TX7_elementAt rfl rfl rfl (Nat.le_of_ble_eq_true rfl) dX0_told_17 (Nat.zero_le _) (Nat.zero_le _) ?_
    exact g_iret C hret hlk (e1.trans (congrArg (fun z => some (Value.int z)) ((if_neg h1).trans rfl))) e2 dX0_told_20
  · refine g_iconst (v := 0) C dX0_told_4 (by decide) ?_
    exact g_iret C hret hlk (e1.trans (congrArg (fun z => some (Value.int z)) ((if_pos h1).trans rfl))) e2 dX0_told_5
abbrev rm_X0_flow : Room := { frames := 2, cells := 0, slots := 0, locals := 43 }
theorem md_X0_flow : yX0_flow.cls = RX0 ∧ yX0_flow.cls ≠ "java/lang/invoke/MethodHandle" ∧ yX0_flow.cls ≠ "java/lang/invoke/VarHandle" ∧ (parseMethodDescriptor yX0_flow.desc).map (fun d => d.parameters.length) = some 0 := by decide +kernel
def f_X0_flow (b : Nat) (ω : Mem) : Int32 := (f_X0_told b ("FlameGuards$Burner", "FLOW", ([2, 4, 4, 9, 6, 14] : List Int32)) (ω b 1) ω)
set_option maxRecDepth 100000 in
set_option maxHeartbeats 4000000 in
theorem c_X0_flow {l_ : Launch} {sa : Nat → Nat} {D : va_G} {X : Nat → ClassId} {ad : Nat → Nat} (b : Nat) (hb : isB b) (ω : Mem) : CT l_ yX0_flow wsX0_flow rm_X0_flow sa D (tyX X) 128 ad (mk X ad ω) [.ref (ad b)] (some (.int (f_X0_flow b ω)) : Option Value) (mk X ad ω) := by
  refine ct_of [(0, .ref (ad b))] (by decide +kernel) rfl rfl (Nat.le_of_ble_eq_true rfl) rfl ?_
  intro p_ e_ s_ m_ args_ below_ meth_ c_ C hret hlk hin
  have e1 : (some (.int (f_X0_flow b ω)) : Option Value) = (some (.int (f_X0_flow b ω)) : Option Value) := rfl
  have e2 : mk X ad ω = mk X ad ω := rfl
  have iX0 : ∀ w ∈ u_ws RX0 TX0 10, w ∈ wsX0_flow := by decide +kernel
  have L13 : Cond.fieldLink RX0 13 (TX0 1).1 (TX0 1).2.1 (TX0 1).2.2.1 ∈ wsX0_flow := by decide +kernel
  have S41 : Cond.fieldLink RX0 41 "FlameGuards$Burner" "FLOW" "[I" ∈ wsX0_flow := by decide +kernel
  refine g_aload_n C dX0_flow_0 rfl 0 rfl ?_
  refine g_gets C 3 rfl S41 dX0_flow_1 ?_
  refine g_aload_n C dX0_flow_4 rfl 0 rfl ?_
  refine g_get (v := .int (ω b 1)) C iX0 (hb).1 (mk_4 (hb).2) rfl 1 (by decide) L13 rfl dX0_flow_5 ?_
  refine g_callV (rest := []) (st1 := [.int (f_X0_told b ("FlameGuards$Burner", "FLOW", ([2, 4, 4, 9, 6, 14] : List Int32)) (ω b 1) ω)]) C (c_X0_told b 3 ("FlameGuards$Burner", "FLOW", ([2, 4, 4, 9, 6, 14] : List Int32)) (ω b 1) hb rfl (by decide) ω) (cwV 2 C.hts gX0_flow_X0_told rfl rfl rfl md_X0_told ⟨Nat.le_of_ble_eq_true rfl, Nat.le_of_ble_eq_true rfl⟩) (hb).1 (mk_4 (hb).2) rfl rfl rfl rfl rfl (Nat.le_of_ble_eq_true rfl) dX0_flow_8 (Nat.zero_le _) (Nat.zero_le _) ?_
  exact g_iret C hret hlk (e1.trans (congrArg (fun z => some (Value.int z)) rfl)) e2 dX0_flow_11
abbrev rm_X0_strength : Room := { frames := 2, cells := 0, slots := 0, locals := 43 }
theorem md_X0_strength : yX0_strength.cls = RX0 ∧ yX0_strength.cls ≠ "java/lang/invoke/MethodHandle" ∧ yX0_strength.cls ≠ "java/lang/invoke/VarHandle" ∧ (parseMethodDescriptor yX0_strength.desc).map (fun d => d.parameters.length) = some 0 := by decide +kernel
def f_X0_strength (b : Nat) (ω : Mem) : Int32 := (f_X0_told b ("FlameGuards$Burner", "STRENGTH", ([2, 4, 3, 6, 1, 5] : List Int32)) (ω b 1) ω)
set_option maxRecDepth 100000 in
set_option maxHeartbeats 4000000 in
theorem c_X0_strength {l_ : Launch} {sa : Nat → Nat} {D : va_G} {X : Nat → ClassId} {ad : Nat → Nat} (b : Nat) (hb : isB b) (ω : Mem) : CT l_ yX0_strength wsX0_strength rm_X0_strength sa D (tyX X) 128 ad (mk X ad ω) [.ref (ad b)] (some (.int (f_X0_strength b ω)) : Option Value) (mk X ad ω) := by
  refine ct_of [(0, .ref (ad b))] (by decide +kernel) rfl rfl (Nat.le_of_ble_eq_true rfl) rfl ?_
  intro p_ e_ s_ m_ args_ below_ meth_ c_ C hret hlk hin
  have e1 : (some (.int (f_X0_strength b ω)) : Option Value) = (some (.int (f_X0_strength b ω)) : Option Value) := rfl
  have e2 : mk X ad ω = mk X ad ω := rfl
  have iX0 : ∀ w ∈ u_ws RX0 TX0 10, w ∈ wsX0_strength := by decide +kernel
  have L13 : Cond.fieldLink RX0 13 (TX0 1).1 (TX0 1).2.1 (TX0 1).2.2.1 ∈ wsX0_strength := by decide +kernel
  have S49 : Cond.fieldLink RX0 49 "FlameGuards$Burner" "STRENGTH" "[I" ∈ wsX0_strength := by decide +kernel
  refine g_aload_n C dX0_strength_0 rfl 0 rfl ?_
  refine g_gets C 5 rfl S49 dX0_strength_1 ?_
  refine g_aload_n C dX0_strength_4 rfl 0 rfl ?_
  refine g_get (v := .int (ω b 1)) C iX0 (hb).1 (mk_4 (hb).2) rfl 1 (by decide) L13 rfl dX0_strength_5 ?_
  refine g_callV (rest := []) (st1 := [.int (f_X0_told b ("FlameGuards$Burner", "STRENGTH", ([2, 4, 3, 6, 1, 5] : List Int32)) (ω b 1) ω)]) C (c_X0_told b 5 ("FlameGuards$Burner", "STRENGTH", ([2, 4, 3, 6, 1, 5] : List Int32)) (ω b 1) hb rfl (by decide) ω) (cwV 2 C.hts gX0_strength_X0_told rfl rfl rfl md_X0_told ⟨Nat.le_of_ble_eq_true rfl, Nat.le_of_ble_eq_true rfl⟩) (hb).1 (mk_4 (hb).2) rfl rfl rfl rfl rfl (Nat.le_of_ble_eq_true rfl) dX0_strength_8 (Nat.zero_le _) (Nat.zero_le _) ?_
  exact g_iret C hret hlk (e1.trans (congrArg (fun z => some (Value.int z)) rfl)) e2 dX0_strength_11
abbrev rm_X0_heatAt : Room := { frames := 2, cells := 0, slots := 0, locals := 43 }
theorem md_X0_heatAt : yX0_heatAt.cls = RX0 ∧ yX0_heatAt.cls ≠ "java/lang/invoke/MethodHandle" ∧ yX0_heatAt.cls ≠ "java/lang/invoke/VarHandle" ∧ (parseMethodDescriptor yX0_heatAt.desc).map (fun d => d.parameters.length) = some 1 := by decide +kernel
def f_X0_heatAt (b : Nat) (t : Int32) (ω : Mem) : Int32 := (f_X0_told b ("FlameGuards$Burner", "HEAT", ([500, 700, 600, 850, 550, 900] : List Int32)) t ω)
set_option maxRecDepth 100000 in
set_option maxHeartbeats 4000000 in
theorem c_X0_heatAt {l_ : Launch} {sa : Nat → Nat} {D : va_G} {X : Nat → ClassId} {ad : Nat → Nat} (b : Nat) (t : Int32) (hb : isB b) (ω : Mem) : CT l_ yX0_heatAt wsX0_heatAt rm_X0_heatAt sa D (tyX X) 128 ad (mk X ad ω) [.ref (ad b), .int t] (some (.int (f_X0_heatAt b t ω)) : Option Value) (mk X ad ω) := by
  refine ct_of [(0, .ref (ad b)), (1, .int t)] (by decide +kernel) rfl rfl (Nat.le_of_ble_eq_true rfl) rfl ?_
  intro p_ e_ s_ m_ args_ below_ meth_ c_ C hret hlk hin
  have e1 : (some (.int (f_X0_heatAt b t ω)) : Option Value) = (some (.int (f_X0_heatAt b t ω)) : Option Value) := rfl
  have e2 : mk X ad ω = mk X ad ω := rfl
  have S52 : Cond.fieldLink RX0 52 "FlameGuards$Burner" "HEAT" "[I" ∈ wsX0_heatAt := by decide +kernel
  refine g_aload_n C dX0_heatAt_0 rfl 0 rfl ?_
  refine g_gets C 4 rfl S52 dX0_heatAt_1 ?_
  refine g_iload_n C dX0_heatAt_4 rfl 1 rfl ?_
  refine g_callV (rest := []) (st1 := [.int (f_X0_told b ("FlameGuards$Burner", "HEAT", ([500, 700, 600, 850, 550, 900] : List Int32)) t ω)]) C (c_X0_told b 4 ("FlameGuards$Burner", "HEAT", ([500, 700, 600, 850, 550, 900] : List Int32)) t hb rfl (by decide) ω) (cwV 2 C.hts gX0_heatAt_X0_told rfl rfl rfl md_X0_told ⟨Nat.le_of_ble_eq_true rfl, Nat.le_of_ble_eq_true rfl⟩) (hb).1 (mk_4 (hb).2) rfl rfl rfl rfl rfl (Nat.le_of_ble_eq_true rfl) dX0_heatAt_5 (Nat.zero_le _) (Nat.zero_le _) ?_
  exact g_iret C hret hlk (e1.trans (congrArg (fun z => some (Value.int z)) rfl)) e2 dX0_heatAt_8
abbrev rm_X0_isOpen : Room := { frames := 0, cells := 0, slots := 0, locals := 0 }
theorem md_X0_isOpen : yX0_isOpen.cls = RX0 ∧ yX0_isOpen.cls ≠ "java/lang/invoke/MethodHandle" ∧ yX0_isOpen.cls ≠ "java/lang/invoke/VarHandle" ∧ (parseMethodDescriptor yX0_isOpen.desc).map (fun d => d.parameters.length) = some 1 := by decide +kernel
def f_X0_isOpen (b : Nat) (t : Int32) (ω : Mem) : Int32 := (if (bb (ω b 6)) = 0 then (if (ω b 1) = 0 then 0 else (if (bb (ω b 2)) = 0 then (if (ω b 5) < t then 0 else 1) else 1)) else 0)
set_option maxRecDepth 100000 in
set_option maxHeartbeats 4000000 in
theorem c_X0_isOpen {l_ : Launch} {sa : Nat → Nat} {D : va_G} {X : Nat → ClassId} {ad : Nat → Nat} (b : Nat) (t : Int32) (hb : isB b) (ω : Mem) : CT l_ yX0_isOpen wsX0_isOpen rm_X0_isOpen sa D (tyX X) 128 ad (mk X ad ω) [.ref (ad b), .int t] (some (.int (f_X0_isOpen b t ω)) : Option Value) (mk X ad ω) := by
  refine ct_of [(0, .ref (ad b)), (1, .int t)] (by decide +kernel) rfl rfl (Nat.le_of_ble_eq_true rfl) rfl ?_
  intro p_ e_ s_ m_ args_ below_ meth_ c_ C hret hlk hin
  have e1 : (some (.int (f_X0_isOpen b t ω)) : Option Value) = (some (.int (f_X0_isOpen b t ω)) : Option Value) := rfl
  have e2 : mk X ad ω = mk X ad ω := rfl
  have iX0 : ∀ w ∈ u_ws RX0 TX0 10, w ∈ wsX0_isOpen := by decide +kernel
  have L13 : Cond.fieldLink RX0 13 (TX0 1).1 (TX0 1).2.1 (TX0 1).2.2.1 ∈ wsX0_isOpen := by decide +kernel
  have L16 : Cond.fieldLink RX0 16 (TX0 2).1 (TX0 2).2.1 (TX0 2).2.2.1 ∈ wsX0_isOpen := by decide +kernel
  have L26 : Cond.fieldLink RX0 26 (TX0 5).1 (TX0 5).2.1 (TX0 5).2.2.1 ∈ wsX0_isOpen := by decide +kernel
  have L29 : Cond.fieldLink RX0 29 (TX0 6).1 (TX0 6).2.1 (TX0 6).2.2.1 ∈ wsX0_isOpen := by decide +kernel
  refine g_aload_n C dX0_isOpen_0 rfl 0 rfl ?_
  refine g_get (v := .int (bb (ω b 6))) C iX0 (hb).1 (mk_4 (hb).2) rfl 6 (by decide) L29 rfl dX0_isOpen_1 ?_
  refine g_if_ne (tgt := 33) C dX0_isOpen_4 (by decide) (fun h1 => ?_) (fun h1 => ?_)
  · refine g_iconst (v := 0) C dX0_isOpen_33 (by decide) ?_
    exact g_zret C hret hlk (nar_b (by decide)).1 (e1.trans (congrArg (fun z => some (Value.int z)) ((if_neg h1).trans rfl))) e2 dX0_isOpen_34
  · refine g_aload_n C dX0_isOpen_7 rfl 0 rfl ?_
    refine g_get (v := .int (ω b 1)) C iX0 (hb).1 (mk_4 (hb).2) rfl 1 (by decide) L13 rfl dX0_isOpen_8 ?_
    refine g_if_eq (tgt := 33) C dX0_isOpen_11 (by decide) (fun h2 => ?_) (fun h2 => ?_)
    · refine g_iconst (v := 0) C dX0_isOpen_33 (by decide) ?_
      exact g_zret C hret hlk (nar_b (by decide)).1 (e1.trans (congrArg (fun z => some (Value.int z)) ((if_pos h1).trans ((if_pos h2).trans rfl)))) e2 dX0_isOpen_34
    · refine g_aload_n C dX0_isOpen_14 rfl 0 rfl ?_
      refine g_get (v := .int (bb (ω b 2))) C iX0 (hb).1 (mk_4 (hb).2) rfl 2 (by decide) L16 rfl dX0_isOpen_15 ?_
      refine g_if_ne (tgt := 29) C dX0_isOpen_18 (by decide) (fun h3 => ?_) (fun h3 => ?_)
      · refine g_iconst (v := 1) C dX0_isOpen_29 (by decide) ?_
        refine g_goto (tgt := 34) C dX0_isOpen_30 (by decide) ?_
        exact g_zret C hret hlk (nar_b (by decide)).1 (e1.trans (congrArg (fun z => some (Value.int z)) ((if_pos h1).trans ((if_neg h2).trans ((if_neg h3).trans rfl))))) e2 dX0_isOpen_34
      · refine g_aload_n C dX0_isOpen_21 rfl 0 rfl ?_
        refine g_get (v := .int (ω b 5)) C iX0 (hb).1 (mk_4 (hb).2) rfl 5 (by decide) L26 rfl dX0_isOpen_22 ?_
        refine g_iload_n C dX0_isOpen_25 rfl 1 rfl ?_
        refine g_icmp_lt (tgt := 33) C dX0_isOpen_26 (by decide) (fun h4 => ?_) (fun h4 => ?_)
        · refine g_iconst (v := 0) C dX0_isOpen_33 (by decide) ?_
          exact g_zret C hret hlk (nar_b (by decide)).1 (e1.trans (congrArg (fun z => some (Value.int z)) ((if_pos h1).trans ((if_neg h2).trans ((if_pos h3).trans ((if_pos h4).trans rfl)))))) e2 dX0_isOpen_34
        · refine g_iconst (v := 1) C dX0_isOpen_29 (by decide) ?_
          refine g_goto (tgt := 34) C dX0_isOpen_30 (by decide) ?_
          exact g_zret C hret hlk (nar_b (by decide)).1 (e1.trans (congrArg (fun z => some (Value.int z)) ((if_pos h1).trans ((if_neg h2).trans ((if_pos h3).trans ((if_neg h4).trans rfl)))))) e2 dX0_isOpen_34
theorem z_X0_isOpen {b : Nat} {t : Int32} {ω : Mem} : bb (f_X0_isOpen b t ω) = f_X0_isOpen b t ω := by
  unfold f_X0_isOpen
  repeat' split
  all_goals first | with_reducible exact bb_bb _ | decide
abbrev rm_X0_temperatureAfter : Room := { frames := 1, cells := 0, slots := 0, locals := 21 }
theorem md_X0_temperatureAfter : yX0_temperatureAfter.cls = RX0 ∧ yX0_temperatureAfter.cls ≠ "java/lang/invoke/MethodHandle" ∧ yX0_temperatureAfter.cls ≠ "java/lang/invoke/VarHandle" ∧ (parseMethodDescriptor yX0_temperatureAfter.desc).map (fun d => d.parameters.length) = some 2 := by decide +kernel
def f_X0_temperatureAfter (b : Nat) (t : Int32) (g : Int32) (ω : Mem) : Int32 := (if g ≤ t then (if t ≤ g then t else (if g < ((t - (f_X0_quotient t (f_X7_elementAtT ("FlameGuards$Burner", "COOLING", ([10, 14, 20] : List Int32)) (ω b 0) ω) ω)) - 1) then ((t - (f_X0_quotient t (f_X7_elementAtT ("FlameGuards$Burner", "COOLING", ([10, 14, 20] : List Int32)) (ω b 0) ω) ω)) - 1) else g)) else (if ((t + (f_X0_quotient (g - t) (f_X7_elementAtT ("FlameGuards$Burner", "WARMING", ([8, 6, 10] : List Int32)) (ω b 0) ω) ω)) + 1) < g then ((t + (f_X0_quotient (g - t) (f_X7_elementAtT ("FlameGuards$Burner", "WARMING", ([8, 6, 10] : List Int32)) (ω b 0) ω) ω)) + 1) else g))
set_option maxRecDepth 100000 in
set_option maxHeartbeats 4000000 in
theorem c_X0_temperatureAfter {l_ : Launch} {sa : Nat → Nat} {D : va_G} {X : Nat → ClassId} {ad : Nat → Nat} (b : Nat) (t : Int32) (g : Int32) (hb : isB b) (ω : Mem) : CT l_ yX0_temperatureAfter wsX0_temperatureAfter rm_X0_temperatureAfter sa D (tyX X) 128 ad (mk X ad ω) [.ref (ad b), .int t, .int g] (some (.int (f_X0_temperatureAfter b t g ω)) : Option Value) (mk X ad ω) := by
  refine ct_of [(0, .ref (ad b)), (1, .int t), (2, .int g)] (by decide +kernel) rfl rfl (Nat.le_of_ble_eq_true rfl) rfl ?_
  intro p_ e_ s_ m_ args_ below_ meth_ c_ C hret hlk hin
  have e1 : (some (.int (f_X0_temperatureAfter b t g ω)) : Option Value) = (some (.int (f_X0_temperatureAfter b t g ω)) : Option Value) := rfl
  have e2 : mk X ad ω = mk X ad ω := rfl
  have iX0 : ∀ w ∈ u_ws RX0 TX0 10, w ∈ wsX0_temperatureAfter := by decide +kernel
  have IX7 : Cond.initialized RX7 ∈ wsX0_temperatureAfter := by decide +kernel
  have L7 : Cond.fieldLink RX0 7 (TX0 0).1 (TX0 0).2.1 (TX0 0).2.2.1 ∈ wsX0_temperatureAfter := by decide +kernel
  have M74a : Cond.methodLink RX0 74 Lib.Math.min.name ∈ wsX0_temperatureAfter := by decide +kernel
  have M82a : Cond.methodLink RX0 82 Lib.Math.max.name ∈ wsX0_temperatureAfter := by decide +kernel
  have Mini : Cond.initialized "java/lang/Math" ∈ wsX0_temperatureAfter := by decide +kernel
  have Mmaxb : Cond.static Lib.Math.max.name ∈ wsX0_temperatureAfter := by decide +kernel
  have Mmaxc : Cond.code Lib.Math.max.name Lib.Math.max.code 2 (some .int) ∈ wsX0_temperatureAfter := by decide +kernel
  have Mminb : Cond.static Lib.Math.min.name ∈ wsX0_temperatureAfter := by decide +kernel
  have Mminc : Cond.code Lib.Math.min.name Lib.Math.min.code 2 (some .int) ∈ wsX0_temperatureAfter := by decide +kernel
  have S63 : Cond.fieldLink RX0 63 "FlameGuards$Burner" "WARMING" "[I" ∈ wsX0_temperatureAfter := by decide +kernel
  have S79 : Cond.fieldLink RX0 79 "FlameGuards$Burner" "COOLING" "[I" ∈ wsX0_temperatureAfter := by decide +kernel
  have TX7_elementAt : Cond.static yX7_elementAt ∈ wsX0_temperatureAfter := by decide +kernel
  refine g_iload_n C dX0_temperatureAfter_0 rfl 1 rfl ?_
  refine g_iload_n C dX0_temperatureAfter_1 rfl 2 rfl ?_
  refine g_icmp_ge (tgt := 30) C dX0_temperatureAfter_2 (by decide) (fun h1 => ?_) (fun h1 => ?_)
  · refine g_iload_n C dX0_temperatureAfter_30 rfl 1 rfl ?_
    refine g_iload_n C dX0_temperatureAfter_31 rfl 2 rfl ?_
    refine g_icmp_le (tgt := 58) C dX0_temperatureAfter_32 (by decide) (fun h2 => ?_) (fun h2 => ?_)
    · refine g_iload_n C dX0_temperatureAfter_58 rfl 1 rfl ?_
      exact g_iret C hret hlk (e1.trans (congrArg (fun z => some (Value.int z)) ((if_pos h1).trans ((if_pos h2).trans rfl)))) e2 dX0_temperatureAfter_59
    · refine g_iload_n C dX0_temperatureAfter_35 rfl 2 rfl ?_
      refine g_iload_n C dX0_temperatureAfter_36 rfl 1 rfl ?_
      refine g_iload_n C dX0_temperatureAfter_37 rfl 1 rfl ?_
      refine g_gets C 7 rfl S79 dX0_temperatureAfter_38 ?_
      refine g_aload_n C dX0_temperatureAfter_41 rfl 0 rfl ?_
      refine g_get (v := .int (ω b 0)) C iX0 (hb).1 (mk_4 (hb).2) rfl 0 (by decide) L7 rfl dX0_temperatureAfter_42 ?_
      refine g_callSN (rest := [.int t, .int t, .int g]) (st1 := [.int (f_X7_elementAtT ("FlameGuards$Burner", "COOLING", ([10, 14, 20] : List Int32)) (ω b 0) ω), .int t, .int t, .int g]) C (c_X7_elementAtT 7 ("FlameGuards$Burner", "COOLING", ([10, 14, 20] : List Int32)) (ω b 0) rfl (by decide) ω) (va_cnB 2 C.hts gX0_temperatureAfter_X7_elementAt_n66 rfl rfl rfl (nw0 C.hN) (C.hts _ IX7) md_X7_elementAt.2 ⟨Nat.le_of_ble_eq_true rfl, Nat.le_of_ble_eq_true rfl⟩) TX7_elementAt rfl rfl rfl (Nat.le_of_ble_eq_true rfl) dX0_temperatureAfter_45 (Nat.zero_le _) (Nat.zero_le _) ?_
      refine g_callS (rest := [.int t, .int g]) (st1 := [.int (f_X0_quotient t (f_X7_elementAtT ("FlameGuards$Burner", "COOLING", ([10, 14, 20] : List Int32)) (ω b 0) ω) ω), .int t, .int g]) C (c_X0_quotient t (f_X7_elementAtT ("FlameGuards$Burner", "COOLING", ([10, 14, 20] : List Int32)) (ω b 0) ω) ω) (va_cwS 2 C.hts gX0_temperatureAfter_X0_quotient rfl rfl rfl md_X0_quotient.2 ⟨Nat.le_of_ble_eq_true rfl, Nat.le_of_ble_eq_true rfl⟩) rfl rfl rfl (Nat.le_of_ble_eq_true rfl) dX0_temperatureAfter_48 (Nat.zero_le _) (Nat.zero_le _) ?_
      refine g_isub (v := (t - (f_X0_quotient t (f_X7_elementAtT ("FlameGuards$Burner", "COOLING", ([10, 14, 20] : List Int32)) (ω b 0) ω) ω))) C dX0_temperatureAfter_51 rfl ?_
      refine g_iconst (v := 1) C dX0_temperatureAfter_52 (by decide) ?_
      refine g_isub (v := ((t - (f_X0_quotient t (f_X7_elementAtT ("FlameGuards$Burner", "COOLING", ([10, 14, 20] : List Int32)) (ω b 0) ω) ω)) - 1)) C dX0_temperatureAfter_53 rfl ?_
      refine g_mmax (v := (if g < ((t - (f_X0_quotient t (f_X7_elementAtT ("FlameGuards$Burner", "COOLING", ([10, 14, 20] : List Int32)) (ω b 0) ω) ω)) - 1) then ((t - (f_X0_quotient t (f_X7_elementAtT ("FlameGuards$Burner", "COOLING", ([10, 14, 20] : List Int32)) (ω b 0) ω) ω)) - 1) else g)) C M82a Mmaxb Mini Mmaxc (Nat.le_of_ble_eq_true rfl) (Nat.le_of_ble_eq_true rfl) (Nat.zero_le _) (Nat.zero_le _) dX0_temperatureAfter_54 rfl ?_
      exact g_iret C hret hlk (e1.trans (congrArg (fun z => some (Value.int z)) ((if_pos h1).trans ((if_neg h2).trans rfl)))) e2 dX0_temperatureAfter_57
  · refine g_iload_n C dX0_temperatureAfter_5 rfl 2 rfl ?_
    refine g_iload_n C dX0_temperatureAfter_6 rfl 1 rfl ?_
    refine g_iload_n C dX0_temperatureAfter_7 rfl 2 rfl ?_
    refine g_iload_n C dX0_temperatureAfter_8 rfl 1 rfl ?_
    refine g_isub (v := (g - t)) C dX0_temperatureAfter_9 rfl ?_
    refine g_gets C 6 rfl S63 dX0_temperatureAfter_10 ?_
    refine g_aload_n C dX0_temperatureAfter_13 rfl 0 rfl ?_
    refine g_get (v := .int (ω b 0)) C iX0 (hb).1 (mk_4 (hb).2) rfl 0 (by decide) L7 rfl dX0_temperatureAfter_14 ?_
    refine g_callSN (rest := [.int (g - t), .int t, .int g]) (st1 := [.int (f_X7_elementAtT ("FlameGuards$Burner", "WARMING", ([8, 6, 10] : List Int32)) (ω b 0) ω), .int (g - t), .int t, .int g]) C (c_X7_elementAtT 6 ("FlameGuards$Burner", "WARMING", ([8, 6, 10] : List Int32)) (ω b 0) rfl (by decide) ω) (va_cnB 2 C.hts gX0_temperatureAfter_X7_elementAt_n66 rfl rfl rfl (nw0 C.hN) (C.hts _ IX7) md_X7_elementAt.2 ⟨Nat.le_of_ble_eq_true rfl, Nat.le_of_ble_eq_true rfl⟩) TX7_elementAt rfl rfl rfl (Nat.le_of_ble_eq_true rfl) dX0_temperatureAfter_17 (Nat.zero_le _) (Nat.zero_le _) ?_
    refine g_callS (rest := [.int t, .int g]) (st1 := [.int (f_X0_quotient (g - t) (f_X7_elementAtT ("FlameGuards$Burner", "WARMING", ([8, 6, 10] : List Int32)) (ω b 0) ω) ω), .int t, .int g]) C (c_X0_quotient (g - t) (f_X7_elementAtT ("FlameGuards$Burner", "WARMING", ([8, 6, 10] : List Int32)) (ω b 0) ω) ω) (va_cwS 2 C.hts gX0_temperatureAfter_X0_quotient rfl rfl rfl md_X0_quotient.2 ⟨Nat.le_of_ble_eq_true rfl, Nat.le_of_ble_eq_true rfl⟩) rfl rfl rfl (Nat.le_of_ble_eq_true rfl) dX0_temperatureAfter_20 (Nat.zero_le _) (Nat.zero_le _) ?_
    refine g_iadd (v := (t + (f_X0_quotient (g - t) (f_X7_elementAtT ("FlameGuards$Burner", "WARMING", ([8, 6, 10] : List Int32)) (ω b 0) ω) ω))) C dX0_temperatureAfter_23 rfl ?_
    refine g_iconst (v := 1) C dX0_temperatureAfter_24 (by decide) ?_
    refine g_iadd (v := ((t + (f_X0_quotient (g - t) (f_X7_elementAtT ("FlameGuards$Burner", "WARMING", ([8, 6, 10] : List Int32)) (ω b 0) ω) ω)) + 1)) C dX0_temperatureAfter_25 rfl ?_
    refine g_mmin (v := (if ((t + (f_X0_quotient (g - t) (f_X7_elementAtT ("FlameGuards$Burner", "WARMING", ([8, 6, 10] : List Int32)) (ω b 0) ω) ω)) + 1) < g then ((t + (f_X0_quotient (g - t) (f_X7_elementAtT ("FlameGuards$Burner", "WARMING", ([8, 6, 10] : List Int32)) (ω b 0) ω) ω)) + 1) else g)) C M74a Mminb Mini Mminc (Nat.le_of_ble_eq_true rfl) (Nat.le_of_ble_eq_true rfl) (Nat.zero_le _) (Nat.zero_le _) dX0_temperatureAfter_26 rfl ?_
    exact g_iret C hret hlk (e1.trans (congrArg (fun z => some (Value.int z)) ((if_neg h1).trans rfl))) e2 dX0_temperatureAfter_29
abbrev rm_X0_warmOrCool : Room := { frames := 3, cells := 0, slots := 0, locals := 64 }
theorem md_X0_warmOrCool : yX0_warmOrCool.cls = RX0 ∧ yX0_warmOrCool.cls ≠ "java/lang/invoke/MethodHandle" ∧ yX0_warmOrCool.cls ≠ "java/lang/invoke/VarHandle" ∧ (parseMethodDescriptor yX0_warmOrCool.desc).map (fun d => d.parameters.length) = some 0 := by decide +kernel
def f_X0_warmOrCool (b : Nat) (ω : Mem) : Mem := (if (bb (ω b 4)) = 0 then (st ω b 5 (f_X0_temperatureAfter b (ω b 5) 0 ω)) else (st ω b 5 (f_X0_temperatureAfter b (ω b 5) (f_X0_heatAt b (ω b 1) ω) ω)))
set_option maxRecDepth 100000 in
set_option maxHeartbeats 4000000 in
theorem c_X0_warmOrCool {l_ : Launch} {sa : Nat → Nat} {D : va_G} {X : Nat → ClassId} {ad : Nat → Nat} (b : Nat) (hb : isB b) (ω : Mem) : CT l_ yX0_warmOrCool wsX0_warmOrCool rm_X0_warmOrCool sa D (tyX X) 128 ad (mk X ad ω) [.ref (ad b)] (none : Option Value) (mk X ad (f_X0_warmOrCool b ω)) := by
  refine ct_of [(0, .ref (ad b))] (by decide +kernel) rfl rfl (Nat.le_of_ble_eq_true rfl) rfl ?_
  intro p_ e_ s_ m_ args_ below_ meth_ c_ C hret hlk hin
  have e1 : (none : Option Value) = (none : Option Value) := rfl
  have e2 : mk X ad (f_X0_warmOrCool b ω) = mk X ad (f_X0_warmOrCool b ω) := rfl
  have iX0 : ∀ w ∈ u_ws RX0 TX0 10, w ∈ wsX0_warmOrCool := by decide +kernel
  have L13 : Cond.fieldLink RX0 13 (TX0 1).1 (TX0 1).2.1 (TX0 1).2.2.1 ∈ wsX0_warmOrCool := by decide +kernel
  have L23 : Cond.fieldLink RX0 23 (TX0 4).1 (TX0 4).2.1 (TX0 4).2.2.1 ∈ wsX0_warmOrCool := by decide +kernel
  have L26 : Cond.fieldLink RX0 26 (TX0 5).1 (TX0 5).2.1 (TX0 5).2.2.1 ∈ wsX0_warmOrCool := by decide +kernel
  refine g_aload_n C dX0_warmOrCool_0 rfl 0 rfl ?_
  refine g_aload_n C dX0_warmOrCool_1 rfl 0 rfl ?_
  refine g_aload_n C dX0_warmOrCool_2 rfl 0 rfl ?_
  refine g_get (v := .int (ω b 5)) C iX0 (hb).1 (mk_4 (hb).2) rfl 5 (by decide) L26 rfl dX0_warmOrCool_3 ?_
  refine g_aload_n C dX0_warmOrCool_6 rfl 0 rfl ?_
  refine g_get (v := .int (bb (ω b 4))) C iX0 (hb).1 (mk_4 (hb).2) rfl 4 (by decide) L23 rfl dX0_warmOrCool_7 ?_
  refine g_if_eq (tgt := 24) C dX0_warmOrCool_10 (by decide) (fun h1 => ?_) (fun h1 => ?_)
  · refine g_iconst (v := 0) C dX0_warmOrCool_24 (by decide) ?_
    refine g_callV (rest := [.ref (ad b)]) (st1 := [.int (f_X0_temperatureAfter b (ω b 5) 0 ω), .ref (ad b)]) C (c_X0_temperatureAfter b (ω b 5) 0 hb ω) (cwV 2 C.hts gX0_warmOrCool_X0_temperatureAfter rfl rfl rfl md_X0_temperatureAfter ⟨Nat.le_of_ble_eq_true rfl, Nat.le_of_ble_eq_true rfl⟩) (hb).1 (mk_4 (hb).2) rfl rfl rfl rfl rfl (Nat.le_of_ble_eq_true rfl) dX0_warmOrCool_25 (Nat.zero_le _) (Nat.zero_le _) ?_
    refine g_put C iX0 tyX0 tyX0_ok nmX0 (hb).1 (mk_4 (hb).2) rfl 5 (by decide) L26 rfl rfl rfl (Nat.le_of_ble_eq_true rfl) dX0_warmOrCool_28 ?_
    refine gv_eqG (mkp_4_5 (hb).2) ?_
    exact g_vret C hret hlk e1 (e2.trans (congrArg (mk X ad) ((if_pos h1).trans rfl))) dX0_warmOrCool_31
  · refine g_aload_n C dX0_warmOrCool_13 rfl 0 rfl ?_
    refine g_aload_n C dX0_warmOrCool_14 rfl 0 rfl ?_
    refine g_get (v := .int (ω b 1)) C iX0 (hb).1 (mk_4 (hb).2) rfl 1 (by decide) L13 rfl dX0_warmOrCool_15 ?_
    refine g_callV (rest := [.int (ω b 5), .ref (ad b), .ref (ad b)]) (st1 := [.int (f_X0_heatAt b (ω b 1) ω), .int (ω b 5), .ref (ad b), .ref (ad b)]) C (c_X0_heatAt b (ω b 1) hb ω) (cwV 1 C.hts gX0_warmOrCool_X0_heatAt rfl rfl rfl md_X0_heatAt ⟨Nat.le_of_ble_eq_true rfl, Nat.le_of_ble_eq_true rfl⟩) (hb).1 (mk_4 (hb).2) rfl rfl rfl rfl rfl (Nat.le_of_ble_eq_true rfl) dX0_warmOrCool_18 (Nat.zero_le _) (Nat.zero_le _) ?_
    refine g_goto (tgt := 25) C dX0_warmOrCool_21 (by decide) ?_
    refine g_callV (rest := [.ref (ad b)]) (st1 := [.int (f_X0_temperatureAfter b (ω b 5) (f_X0_heatAt b (ω b 1) ω) ω), .ref (ad b)]) C (c_X0_temperatureAfter b (ω b 5) (f_X0_heatAt b (ω b 1) ω) hb ω) (cwV 2 C.hts gX0_warmOrCool_X0_temperatureAfter rfl rfl rfl md_X0_temperatureAfter ⟨Nat.le_of_ble_eq_true rfl, Nat.le_of_ble_eq_true rfl⟩) (hb).1 (mk_4 (hb).2) rfl rfl rfl rfl rfl (Nat.le_of_ble_eq_true rfl) dX0_warmOrCool_25 (Nat.zero_le _) (Nat.zero_le _) ?_
    refine g_put C iX0 tyX0 tyX0_ok nmX0 (hb).1 (mk_4 (hb).2) rfl 5 (by decide) L26 rfl rfl rfl (Nat.le_of_ble_eq_true rfl) dX0_warmOrCool_28 ?_
    refine gv_eqG (mkp_4_5 (hb).2) ?_
    exact g_vret C hret hlk e1 (e2.trans (congrArg (mk X ad) ((if_neg h1).trans rfl))) dX0_warmOrCool_31
abbrev rm_X0_copyFrom : Room := { frames := 0, cells := 0, slots := 0, locals := 0 }
theorem md_X0_copyFrom : yX0_copyFrom.cls = RX0 ∧ yX0_copyFrom.cls ≠ "java/lang/invoke/MethodHandle" ∧ yX0_copyFrom.cls ≠ "java/lang/invoke/VarHandle" ∧ (parseMethodDescriptor yX0_copyFrom.desc).map (fun d => d.parameters.length) = some 1 := by decide +kernel
def f_X0_copyFrom_64 (b : Nat) (k : Nat) (ω : Mem) : Mem := (st (st ω b 8 (ω k 8)) b 9 ((st ω b 8 (ω k 8)) k 9))
set_option maxRecDepth 100000 in
set_option maxHeartbeats 4000000 in
theorem k_X0_copyFrom_64 {l_ : Launch} {p_ : Program} {e_ : Env} {s_ : State} {m_ : MethodId} {args_ : Array Value} {below_ : List Frame} {meth_ : Method} {c_ : Code} {sa : Nat → Nat} {D : va_G} {X : Nat → ClassId} {ad : Nat → Nat} {G0 : Nat → va_E} (b : Nat) (k : Nat) (hb : isB b) (hk : isB k) (C : GC p_ rm_X0_copyFrom s_ m_ args_ meth_ c_ cX0_copyFrom 2 wsX0_copyFrom RX0 sa D (tyX X) (va_A (gw 128 ad G0) s_.heap.size)) (hret : meth_.sig.returnType = none) (hlk : meth_.locks = false) : ∀  (ω : Mem)  (rv : Option Value) (G2 : Nat → va_E) (e1 : rv = none) (e2 : G2 = mk X ad (f_X0_copyFrom_64 b k ω)), GV p_ l_ e_ rm_X0_copyFrom s_ m_ args_ below_ meth_ c_ 0 0 (CQ below_ args_ s_ D 128 ad G0 rv G2) D (va_A (gw 128 ad G0) s_.heap.size) 2 128 ad (mk X ad ω) [(0, .ref (ad b)), (1, .ref (ad k))] 64 [] := by
  have iX0 : ∀ w ∈ u_ws RX0 TX0 10, w ∈ wsX0_copyFrom := by decide +kernel
  have L35 : Cond.fieldLink RX0 35 (TX0 8).1 (TX0 8).2.1 (TX0 8).2.2.1 ∈ wsX0_copyFrom := by decide +kernel
  have L38 : Cond.fieldLink RX0 38 (TX0 9).1 (TX0 9).2.1 (TX0 9).2.2.1 ∈ wsX0_copyFrom := by decide +kernel
  intro ω rv G2 e1 e2
  refine g_aload_n C dX0_copyFrom_64 rfl 0 rfl ?_
  refine g_aload_n C dX0_copyFrom_65 rfl 1 rfl ?_
  refine g_get (v := .int (ω k 8)) C iX0 (hk).1 (mk_4 (hk).2) rfl 8 (by decide) L35 rfl dX0_copyFrom_66 ?_
  refine g_put C iX0 tyX0 tyX0_ok nmX0 (hb).1 (mk_4 (hb).2) rfl 8 (by decide) L35 rfl rfl rfl (Nat.le_of_ble_eq_true rfl) dX0_copyFrom_69 ?_
  refine gv_eqG (mkp_4_8 (hb).2) ?_
  refine g_aload_n C dX0_copyFrom_72 rfl 0 rfl ?_
  refine g_aload_n C dX0_copyFrom_73 rfl 1 rfl ?_
  refine g_get (v := .int ((st ω b 8 (ω k 8)) k 9)) C iX0 (hk).1 (mk_4 (hk).2) rfl 9 (by decide) L38 rfl dX0_copyFrom_74 ?_
  refine g_put C iX0 tyX0 tyX0_ok nmX0 (hb).1 (mk_4 (hb).2) rfl 9 (by decide) L38 rfl rfl rfl (Nat.le_of_ble_eq_true rfl) dX0_copyFrom_77 ?_
  refine gv_eqG (mkp_4_9 (hb).2) ?_
  exact g_vret C hret hlk e1 (e2.trans (congrArg (mk X ad) rfl)) dX0_copyFrom_80
def f_X0_copyFrom_48 (b : Nat) (k : Nat) (ω : Mem) : Mem := (f_X0_copyFrom_64 b k (st (st ω b 6 (bb (ω k 6))) b 7 ((st ω b 6 (bb (ω k 6))) k 7)))
set_option maxRecDepth 100000 in
set_option maxHeartbeats 4000000 in
theorem k_X0_copyFrom_48 {l_ : Launch} {p_ : Program} {e_ : Env} {s_ : State} {m_ : MethodId} {args_ : Array Value} {below_ : List Frame} {meth_ : Method} {c_ : Code} {sa : Nat → Nat} {D : va_G} {X : Nat → ClassId} {ad : Nat → Nat} {G0 : Nat → va_E} (b : Nat) (k : Nat) (hb : isB b) (hk : isB k) (C : GC p_ rm_X0_copyFrom s_ m_ args_ meth_ c_ cX0_copyFrom 2 wsX0_copyFrom RX0 sa D (tyX X) (va_A (gw 128 ad G0) s_.heap.size)) (hret : meth_.sig.returnType = none) (hlk : meth_.locks = false) : ∀  (ω : Mem)  (rv : Option Value) (G2 : Nat → va_E) (e1 : rv = none) (e2 : G2 = mk X ad (f_X0_copyFrom_48 b k ω)), GV p_ l_ e_ rm_X0_copyFrom s_ m_ args_ below_ meth_ c_ 0 0 (CQ below_ args_ s_ D 128 ad G0 rv G2) D (va_A (gw 128 ad G0) s_.heap.size) 2 128 ad (mk X ad ω) [(0, .ref (ad b)), (1, .ref (ad k))] 48 [] := by
  have iX0 : ∀ w ∈ u_ws RX0 TX0 10, w ∈ wsX0_copyFrom := by decide +kernel
  have L29 : Cond.fieldLink RX0 29 (TX0 6).1 (TX0 6).2.1 (TX0 6).2.2.1 ∈ wsX0_copyFrom := by decide +kernel
  have L32 : Cond.fieldLink RX0 32 (TX0 7).1 (TX0 7).2.1 (TX0 7).2.2.1 ∈ wsX0_copyFrom := by decide +kernel
  intro ω rv G2 e1 e2
  refine g_aload_n C dX0_copyFrom_48 rfl 0 rfl ?_
  refine g_aload_n C dX0_copyFrom_49 rfl 1 rfl ?_
  refine g_get (v := .int (bb (ω k 6))) C iX0 (hk).1 (mk_4 (hk).2) rfl 6 (by decide) L29 rfl dX0_copyFrom_50 ?_
  refine g_put C iX0 tyX0 tyX0_ok nmX0 (hb).1 (mk_4 (hb).2) rfl 6 (by decide) L29 rfl (nar_b (bb_bb _)).1 (nar_b (bb_bb _)).2 (Nat.le_of_ble_eq_true rfl) dX0_copyFrom_53 ?_
  refine gv_eqG (mkp_4_6 (hb).2 (bb_bb _)) ?_
  refine g_aload_n C dX0_copyFrom_56 rfl 0 rfl ?_
  refine g_aload_n C dX0_copyFrom_57 rfl 1 rfl ?_
  refine g_get (v := .int ((st ω b 6 (bb (ω k 6))) k 7)) C iX0 (hk).1 (mk_4 (hk).2) rfl 7 (by decide) L32 rfl dX0_copyFrom_58 ?_
  refine g_put C iX0 tyX0 tyX0_ok nmX0 (hb).1 (mk_4 (hb).2) rfl 7 (by decide) L32 rfl rfl rfl (Nat.le_of_ble_eq_true rfl) dX0_copyFrom_61 ?_
  refine gv_eqG (mkp_4_7 (hb).2) ?_
  exact k_X0_copyFrom_64 b k hb hk C hret hlk  (st (st ω b 6 (bb (ω k 6))) b 7 ((st ω b 6 (bb (ω k 6))) k 7))  _ _ e1 (e2.trans (congrArg (mk X ad) rfl))
def f_X0_copyFrom_32 (b : Nat) (k : Nat) (ω : Mem) : Mem := (f_X0_copyFrom_48 b k (st (st ω b 4 (bb (ω k 4))) b 5 ((st ω b 4 (bb (ω k 4))) k 5)))
set_option maxRecDepth 100000 in
set_option maxHeartbeats 4000000 in
theorem k_X0_copyFrom_32 {l_ : Launch} {p_ : Program} {e_ : Env} {s_ : State} {m_ : MethodId} {args_ : Array Value} {below_ : List Frame} {meth_ : Method} {c_ : Code} {sa : Nat → Nat} {D : va_G} {X : Nat → ClassId} {ad : Nat → Nat} {G0 : Nat → va_E} (b : Nat) (k : Nat) (hb : isB b) (hk : isB k) (C : GC p_ rm_X0_copyFrom s_ m_ args_ meth_ c_ cX0_copyFrom 2 wsX0_copyFrom RX0 sa D (tyX X) (va_A (gw 128 ad G0) s_.heap.size)) (hret : meth_.sig.returnType = none) (hlk : meth_.locks = false) : ∀  (ω : Mem)  (rv : Option Value) (G2 : Nat → va_E) (e1 : rv = none) (e2 : G2 = mk X ad (f_X0_copyFrom_32 b k ω)), GV p_ l_ e_ rm_X0_copyFrom s_ m_ args_ below_ meth_ c_ 0 0 (CQ below_ args_ s_ D 128 ad G0 rv G2) D (va_A (gw 128 ad G0) s_.heap.size) 2 128 ad (mk X ad ω) [(0, .ref (ad b)), (1, .ref (ad k))] 32 [] := by
  have iX0 : ∀ w ∈ u_ws RX0 TX0 10, w ∈ wsX0_copyFrom := by decide +kernel
  have L23 : Cond.fieldLink RX0 23 (TX0 4).1 (TX0 4).2.1 (TX0 4).2.2.1 ∈ wsX0_copyFrom := by decide +kernel
  have L26 : Cond.fieldLink RX0 26 (TX0 5).1 (TX0 5).2.1 (TX0 5).2.2.1 ∈ wsX0_copyFrom := by decide +kernel
  intro ω rv G2 e1 e2
  refine g_aload_n C dX0_copyFrom_32 rfl 0 rfl ?_
  refine g_aload_n C dX0_copyFrom_33 rfl 1 rfl ?_
  refine g_get (v := .int (bb (ω k 4))) C iX0 (hk).1 (mk_4 (hk).2) rfl 4 (by decide) L23 rfl dX0_copyFrom_34 ?_
  refine g_put C iX0 tyX0 tyX0_ok nmX0 (hb).1 (mk_4 (hb).2) rfl 4 (by decide) L23 rfl (nar_b (bb_bb _)).1 (nar_b (bb_bb _)).2 (Nat.le_of_ble_eq_true rfl) dX0_copyFrom_37 ?_
  refine gv_eqG (mkp_4_4 (hb).2 (bb_bb _)) ?_
  refine g_aload_n C dX0_copyFrom_40 rfl 0 rfl ?_
  refine g_aload_n C dX0_copyFrom_41 rfl 1 rfl ?_
  refine g_get (v := .int ((st ω b 4 (bb (ω k 4))) k 5)) C iX0 (hk).1 (mk_4 (hk).2) rfl 5 (by decide) L26 rfl dX0_copyFrom_42 ?_
  refine g_put C iX0 tyX0 tyX0_ok nmX0 (hb).1 (mk_4 (hb).2) rfl 5 (by decide) L26 rfl rfl rfl (Nat.le_of_ble_eq_true rfl) dX0_copyFrom_45 ?_
  refine gv_eqG (mkp_4_5 (hb).2) ?_
  exact k_X0_copyFrom_48 b k hb hk C hret hlk  (st (st ω b 4 (bb (ω k 4))) b 5 ((st ω b 4 (bb (ω k 4))) k 5))  _ _ e1 (e2.trans (congrArg (mk X ad) rfl))
def f_X0_copyFrom_16 (b : Nat) (k : Nat) (ω : Mem) : Mem := (f_X0_copyFrom_32 b k (st (st ω b 2 (bb (ω k 2))) b 3 (bb ((st ω b 2 (bb (ω k 2))) k 3))))
set_option maxRecDepth 100000 in
set_option maxHeartbeats 4000000 in
theorem k_X0_copyFrom_16 {l_ : Launch} {p_ : Program} {e_ : Env} {s_ : State} {m_ : MethodId} {args_ : Array Value} {below_ : List Frame} {meth_ : Method} {c_ : Code} {sa : Nat → Nat} {D : va_G} {X : Nat → ClassId} {ad : Nat → Nat} {G0 : Nat → va_E} (b : Nat) (k : Nat) (hb : isB b) (hk : isB k) (C : GC p_ rm_X0_copyFrom s_ m_ args_ meth_ c_ cX0_copyFrom 2 wsX0_copyFrom RX0 sa D (tyX X) (va_A (gw 128 ad G0) s_.heap.size)) (hret : meth_.sig.returnType = none) (hlk : meth_.locks = false) : ∀  (ω : Mem)  (rv : Option Value) (G2 : Nat → va_E) (e1 : rv = none) (e2 : G2 = mk X ad (f_X0_copyFrom_16 b k ω)), GV p_ l_ e_ rm_X0_copyFrom s_ m_ args_ below_ meth_ c_ 0 0 (CQ below_ args_ s_ D 128 ad G0 rv G2) D (va_A (gw 128 ad G0) s_.heap.size) 2 128 ad (mk X ad ω) [(0, .ref (ad b)), (1, .ref (ad k))] 16 [] := by
  have iX0 : ∀ w ∈ u_ws RX0 TX0 10, w ∈ wsX0_copyFrom := by decide +kernel
  have L16 : Cond.fieldLink RX0 16 (TX0 2).1 (TX0 2).2.1 (TX0 2).2.2.1 ∈ wsX0_copyFrom := by decide +kernel
  have L20 : Cond.fieldLink RX0 20 (TX0 3).1 (TX0 3).2.1 (TX0 3).2.2.1 ∈ wsX0_copyFrom := by decide +kernel
  intro ω rv G2 e1 e2
  refine g_aload_n C dX0_copyFrom_16 rfl 0 rfl ?_
  refine g_aload_n C dX0_copyFrom_17 rfl 1 rfl ?_
  refine g_get (v := .int (bb (ω k 2))) C iX0 (hk).1 (mk_4 (hk).2) rfl 2 (by decide) L16 rfl dX0_copyFrom_18 ?_
  refine g_put C iX0 tyX0 tyX0_ok nmX0 (hb).1 (mk_4 (hb).2) rfl 2 (by decide) L16 rfl (nar_b (bb_bb _)).1 (nar_b (bb_bb _)).2 (Nat.le_of_ble_eq_true rfl) dX0_copyFrom_21 ?_
  refine gv_eqG (mkp_4_2 (hb).2 (bb_bb _)) ?_
  refine g_aload_n C dX0_copyFrom_24 rfl 0 rfl ?_
  refine g_aload_n C dX0_copyFrom_25 rfl 1 rfl ?_
  refine g_get (v := .int (bb ((st ω b 2 (bb (ω k 2))) k 3))) C iX0 (hk).1 (mk_4 (hk).2) rfl 3 (by decide) L20 rfl dX0_copyFrom_26 ?_
  refine g_put C iX0 tyX0 tyX0_ok nmX0 (hb).1 (mk_4 (hb).2) rfl 3 (by decide) L20 rfl (nar_b (bb_bb _)).1 (nar_b (bb_bb _)).2 (Nat.le_of_ble_eq_true rfl) dX0_copyFrom_29 ?_
  refine gv_eqG (mkp_4_3 (hb).2 (bb_bb _)) ?_
  exact k_X0_copyFrom_32 b k hb hk C hret hlk  (st (st ω b 2 (bb (ω k 2))) b 3 (bb ((st ω b 2 (bb (ω k 2))) k 3)))  _ _ e1 (e2.trans (congrArg (mk X ad) rfl))
def f_X0_copyFrom (b : Nat) (k : Nat) (ω : Mem) : Mem := (f_X0_copyFrom_16 b k (st (st ω b 0 (ω k 0)) b 1 ((st ω b 0 (ω k 0)) k 1)))
set_option maxRecDepth 100000 in
set_option maxHeartbeats 4000000 in
theorem c_X0_copyFrom {l_ : Launch} {sa : Nat → Nat} {D : va_G} {X : Nat → ClassId} {ad : Nat → Nat} (b : Nat) (k : Nat) (hb : isB b) (hk : isB k) (ω : Mem) : CT l_ yX0_copyFrom wsX0_copyFrom rm_X0_copyFrom sa D (tyX X) 128 ad (mk X ad ω) [.ref (ad b), .ref (ad k)] (none : Option Value) (mk X ad (f_X0_copyFrom b k ω)) := by
  refine ct_of [(0, .ref (ad b)), (1, .ref (ad k))] (by decide +kernel) rfl rfl (Nat.le_of_ble_eq_true rfl) rfl ?_
  intro p_ e_ s_ m_ args_ below_ meth_ c_ C hret hlk hin
  have e1 : (none : Option Value) = (none : Option Value) := rfl
  have e2 : mk X ad (f_X0_copyFrom b k ω) = mk X ad (f_X0_copyFrom b k ω) := rfl
  have iX0 : ∀ w ∈ u_ws RX0 TX0 10, w ∈ wsX0_copyFrom := by decide +kernel
  have L13 : Cond.fieldLink RX0 13 (TX0 1).1 (TX0 1).2.1 (TX0 1).2.2.1 ∈ wsX0_copyFrom := by decide +kernel
  have L7 : Cond.fieldLink RX0 7 (TX0 0).1 (TX0 0).2.1 (TX0 0).2.2.1 ∈ wsX0_copyFrom := by decide +kernel
  refine g_aload_n C dX0_copyFrom_0 rfl 0 rfl ?_
  refine g_aload_n C dX0_copyFrom_1 rfl 1 rfl ?_
  refine g_get (v := .int (ω k 0)) C iX0 (hk).1 (mk_4 (hk).2) rfl 0 (by decide) L7 rfl dX0_copyFrom_2 ?_
  refine g_put C iX0 tyX0 tyX0_ok nmX0 (hb).1 (mk_4 (hb).2) rfl 0 (by decide) L7 rfl rfl rfl (Nat.le_of_ble_eq_true rfl) dX0_copyFrom_5 ?_
  refine gv_eqG (mkp_4_0 (hb).2) ?_
  refine g_aload_n C dX0_copyFrom_8 rfl 0 rfl ?_
  refine g_aload_n C dX0_copyFrom_9 rfl 1 rfl ?_
  refine g_get (v := .int ((st ω b 0 (ω k 0)) k 1)) C iX0 (hk).1 (mk_4 (hk).2) rfl 1 (by decide) L13 rfl dX0_copyFrom_10 ?_
  refine g_put C iX0 tyX0 tyX0_ok nmX0 (hb).1 (mk_4 (hb).2) rfl 1 (by decide) L13 rfl rfl rfl (Nat.le_of_ble_eq_true rfl) dX0_copyFrom_13 ?_
  refine gv_eqG (mkp_4_1 (hb).2) ?_
  exact k_X0_copyFrom_16 b k hb hk C hret hlk  (st (st ω b 0 (ω k 0)) b 1 ((st ω b 0 (ω k 0)) k 1))  _ _ e1 (e2.trans (congrArg (mk X ad) rfl))
abbrev rm_X2_putFirst : Room := { frames := 1, cells := 0, slots := 0, locals := 18 }
theorem md_X2_putFirst : yX2_putFirst.cls = RX2 ∧ yX2_putFirst.cls ≠ "java/lang/invoke/MethodHandle" ∧ yX2_putFirst.cls ≠ "java/lang/invoke/VarHandle" ∧ (parseMethodDescriptor yX2_putFirst.desc).map (fun d => d.parameters.length) = some 2 := by decide +kernel
def f_X2_putFirst (n : Nat) (r : Nat) (v : Int32) (ω : Mem) : Mem := (if n ≤ 0 then ω else (st (va_up ω r (va_cpy (ω r) (ω r) 0 1 (n - 1))) r 0 v))
set_option maxRecDepth 100000 in
set_option maxHeartbeats 4000000 in
theorem c_X2_putFirst {l_ : Launch} {sa : Nat → Nat} {D : va_G} {X : Nat → ClassId} {ad : Nat → Nat} (n : Nat) (r : Nat) (v : Int32) (hr : isR r n) (hn : n < 2 ^ 31) (h0 : 0 < n) (ω : Mem) : CT l_ yX2_putFirst wsX2_putFirst rm_X2_putFirst sa D (tyX X) 128 ad (mk X ad ω) [.ref (ad r), .int v] (none : Option Value) (mk X ad (f_X2_putFirst n r v ω)) := by
  refine ct_of [(0, .ref (ad r)), (1, .int v)] (by decide +kernel) rfl rfl (Nat.le_of_ble_eq_true rfl) rfl ?_
  intro p_ e_ s_ m_ args_ below_ meth_ c_ C hret hlk hin
  have e1 : (none : Option Value) = (none : Option Value) := rfl
  have e2 : mk X ad (f_X2_putFirst n r v ω) = mk X ad (f_X2_putFirst n r v ω) := rfl
  have A46 : Cond.methodLink RX2 46 arraycopyName ∈ wsX2_putFirst := by decide +kernel
  have Aini : Cond.initialized "java/lang/System" ∈ wsX2_putFirst := by decide +kernel
  have Anat : Cond.native arraycopyName ∈ wsX2_putFirst := by decide +kernel
  have Asta : Cond.static arraycopyName ∈ wsX2_putFirst := by decide +kernel
  refine g_aload_n C dX2_putFirst_0 rfl 0 rfl ?_
  refine g_alen (v := (nI (n))) C 0 (hr).1 (mk_12n (hr).2.1 (hr).2.2) rfl rfl dX2_putFirst_1 ?_
  refine g_if_le (tgt := 20) C dX2_putFirst_2 (by decide) (fun h1 => ?_) (fun h1 => ?_)
  · have h1n := (nI_leI (a := n) (b := 0) (by omega) (by omega)).mp h1
    exact g_vret C hret hlk e1 (e2.trans (congrArg (mk X ad) ((if_pos h1n).trans rfl))) dX2_putFirst_20
  · have h1n := (not_congr (nI_leI (a := n) (b := 0) (by omega) (by omega))).mp h1
    refine g_aload_n C dX2_putFirst_5 rfl 0 rfl ?_
    refine g_iconst (v := 0) C dX2_putFirst_6 (by decide) ?_
    refine g_aload_n C dX2_putFirst_7 rfl 0 rfl ?_
    refine g_iconst (v := 1) C dX2_putFirst_8 (by decide) ?_
    refine g_aload_n C dX2_putFirst_9 rfl 0 rfl ?_
    refine g_alen (v := (nI (n))) C 0 (hr).1 (mk_12n (hr).2.1 (hr).2.2) rfl rfl dX2_putFirst_10 ?_
    refine g_iconst (v := 1) C dX2_putFirst_11 (by decide) ?_
    refine g_isub (v := (nI (n - 1))) C dX2_putFirst_12 (pk_sub (a := n) (b := 1) (by omega)) ?_
    refine g_copy (zs := 0) (zd := 1) (zz := n - 1) C 0 A46 Anat Asta Aini (hr).1 (mk_12n (hr).2.1 (hr).2.2) (hr).1 (mk_12n (hr).2.1 (hr).2.2) rfl rfl (by decide) (by decide) (nI_pos (n := n - 1) (by omega)) (by decide) (by decide) (nI_clamp (n := n - 1) (by omega)) (by omega) (by omega) (Nat.le_of_ble_eq_true rfl) (Nat.le_of_ble_eq_true rfl) dX2_putFirst_13 ?_
    refine gv_eqG (mk_row (hr).2.1 (hr).2.2) ?_
    refine g_aload_n C dX2_putFirst_16 rfl 0 rfl ?_
    refine g_iconst (v := 0) C dX2_putFirst_17 (by decide) ?_
    refine g_iload_n C dX2_putFirst_18 rfl 1 rfl ?_
    refine g_iast C 0 (hr).1 (mk_12n (hr).2.1 (hr).2.2) rfl (vp_in_nI (n := 0) (N := n) (by omega) (by omega)) rfl dX2_putFirst_19 ?_
    refine gv_eqG (mk_row (hr).2.1 (hr).2.2) ?_
    exact g_vret C hret hlk e1 (e2.trans (congrArg (mk X ad) ((if_neg h1n).trans rfl))) dX2_putFirst_20
abbrev rm_X2_note : Room := { frames := 2, cells := 0, slots := 0, locals := 39 }
theorem md_X2_note : yX2_note.cls = RX2 ∧ yX2_note.cls ≠ "java/lang/invoke/MethodHandle" ∧ yX2_note.cls ≠ "java/lang/invoke/VarHandle" ∧ (parseMethodDescriptor yX2_note.desc).map (fun d => d.parameters.length) = some 3 := by decide +kernel
def f_X2_note (i : Nat) (ev : Nat) (bu : Int32) (ti : Int32) (ω : Mem) : Mem := (if (f_X7_isWithin (nI (ev)) 0 3 (st (f_X2_putFirst 10 (i + 3) ti (f_X2_putFirst 10 (i + 2) bu (f_X2_putFirst 10 (i + 1) (nI (ev)) ω))) i 4 (if 10 < (((f_X2_putFirst 10 (i + 3) ti (f_X2_putFirst 10 (i + 2) bu (f_X2_putFirst 10 (i + 1) (nI (ev)) ω))) i 4) + 1) then 10 else (((f_X2_putFirst 10 (i + 3) ti (f_X2_putFirst 10 (i + 2) bu (f_X2_putFirst 10 (i + 1) (nI (ev)) ω))) i 4) + 1)))) = 0 then (st (f_X2_putFirst 10 (i + 3) ti (f_X2_putFirst 10 (i + 2) bu (f_X2_putFirst 10 (i + 1) (nI (ev)) ω))) i 4 (if 10 < (((f_X2_putFirst 10 (i + 3) ti (f_X2_putFirst 10 (i + 2) bu (f_X2_putFirst 10 (i + 1) (nI (ev)) ω))) i 4) + 1) then 10 else (((f_X2_putFirst 10 (i + 3) ti (f_X2_putFirst 10 (i + 2) bu (f_X2_putFirst 10 (i + 1) (nI (ev)) ω))) i 4) + 1))) else (st (st (f_X2_putFirst 10 (i + 3) ti (f_X2_putFirst 10 (i + 2) bu (f_X2_putFirst 10 (i + 1) (nI (ev)) ω))) i 4 (if 10 < (((f_X2_putFirst 10 (i + 3) ti (f_X2_putFirst 10 (i + 2) bu (f_X2_putFirst 10 (i + 1) (nI (ev)) ω))) i 4) + 1) then 10 else (((f_X2_putFirst 10 (i + 3) ti (f_X2_putFirst 10 (i + 2) bu (f_X2_putFirst 10 (i + 1) (nI (ev)) ω))) i 4) + 1))) (i + 4) ev (((st (f_X2_putFirst 10 (i + 3) ti (f_X2_putFirst 10 (i + 2) bu (f_X2_putFirst 10 (i + 1) (nI (ev)) ω))) i 4 (if 10 < (((f_X2_putFirst 10 (i + 3) ti (f_X2_putFirst 10 (i + 2) bu (f_X2_putFirst 10 (i + 1) (nI (ev)) ω))) i 4) + 1) then 10 else (((f_X2_putFirst 10 (i + 3) ti (f_X2_putFirst 10 (i + 2) bu (f_X2_putFirst 10 (i + 1) (nI (ev)) ω))) i 4) + 1))) (i + 4) ev) + 1)))
set_option maxRecDepth 100000 in
set_option maxHeartbeats 4000000 in
theorem c_X2_note {l_ : Launch} {sa : Nat → Nat} {D : va_G} {X : Nat → ClassId} {ad : Nat → Nat} (i : Nat) (ev : Nat) (bu : Int32) (ti : Int32) (hi : isLg i) (hev : ev < 4) (ω : Mem) : CT l_ yX2_note wsX2_note rm_X2_note sa D (tyX X) 128 ad (mk X ad ω) [.ref (ad i), .int (nI (ev)), .int bu, .int ti] (none : Option Value) (mk X ad (f_X2_note i ev bu ti ω)) := by
  refine ct_of [(0, .ref (ad i)), (1, .int (nI (ev))), (2, .int bu), (3, .int ti)] (by decide +kernel) rfl rfl (Nat.le_of_ble_eq_true rfl) rfl ?_
  intro p_ e_ s_ m_ args_ below_ meth_ c_ C hret hlk hin
  have e1 : (none : Option Value) = (none : Option Value) := rfl
  have e2 : mk X ad (f_X2_note i ev bu ti ω) = mk X ad (f_X2_note i ev bu ti ω) := rfl
  have iX2 : ∀ w ∈ u_ws RX2 TX2 5, w ∈ wsX2_note := by decide +kernel
  have IX7 : Cond.initialized RX7 ∈ wsX2_note := by decide +kernel
  have L13 : Cond.fieldLink RX2 13 (TX2 1).1 (TX2 1).2.1 (TX2 1).2.2.1 ∈ wsX2_note := by decide +kernel
  have L16 : Cond.fieldLink RX2 16 (TX2 2).1 (TX2 2).2.1 (TX2 2).2.2.1 ∈ wsX2_note := by decide +kernel
  have L19 : Cond.fieldLink RX2 19 (TX2 3).1 (TX2 3).2.1 (TX2 3).2.2.1 ∈ wsX2_note := by decide +kernel
  have L22 : Cond.fieldLink RX2 22 (TX2 4).1 (TX2 4).2.1 (TX2 4).2.2.1 ∈ wsX2_note := by decide +kernel
  have L9 : Cond.fieldLink RX2 9 (TX2 0).1 (TX2 0).2.1 (TX2 0).2.2.1 ∈ wsX2_note := by decide +kernel
  have M36a : Cond.methodLink RX2 36 Lib.Math.min.name ∈ wsX2_note := by decide +kernel
  have Mini : Cond.initialized "java/lang/Math" ∈ wsX2_note := by decide +kernel
  have Mminb : Cond.static Lib.Math.min.name ∈ wsX2_note := by decide +kernel
  have Mminc : Cond.code Lib.Math.min.name Lib.Math.min.code 2 (some .int) ∈ wsX2_note := by decide +kernel
  have TX7_isWithin : Cond.static yX7_isWithin ∈ wsX2_note := by decide +kernel
  refine g_aload_n C dX2_note_0 rfl 0 rfl ?_
  refine g_get (v := .ref (ad (i + 1))) C iX2 (hi).1 (mk_6 (hi).2.1) rfl 0 (by decide) L9 rfl dX2_note_1 ?_
  refine g_iload_n C dX2_note_4 rfl 1 rfl ?_
  refine g_callS (rest := []) (st1 := []) C (c_X2_putFirst 10 (i + 1) (nI (ev)) hi.2.2.1 (by omega) (by omega) ω) (va_cwS 2 C.hts gX2_note_X2_putFirst rfl rfl rfl md_X2_putFirst.2 ⟨Nat.le_of_ble_eq_true rfl, Nat.le_of_ble_eq_true rfl⟩) rfl rfl rfl (Nat.le_of_ble_eq_true rfl) dX2_note_5 (Nat.zero_le _) (Nat.zero_le _) ?_
  refine g_aload_n C dX2_note_8 rfl 0 rfl ?_
  refine g_get (v := .ref (ad (i + 2))) C iX2 (hi).1 (mk_6 (hi).2.1) rfl 1 (by decide) L13 rfl dX2_note_9 ?_
  refine g_iload_n C dX2_note_12 rfl 2 rfl ?_
  refine g_callS (rest := []) (st1 := []) C (c_X2_putFirst 10 (i + 2) bu hi.2.2.2.1 (by omega) (by omega) (f_X2_putFirst 10 (i + 1) (nI (ev)) ω)) (va_cwS 2 C.hts gX2_note_X2_putFirst rfl rfl rfl md_X2_putFirst.2 ⟨Nat.le_of_ble_eq_true rfl, Nat.le_of_ble_eq_true rfl⟩) rfl rfl rfl (Nat.le_of_ble_eq_true rfl) dX2_note_13 (Nat.zero_le _) (Nat.zero_le _) ?_
  refine g_aload_n C dX2_note_16 rfl 0 rfl ?_
  refine g_get (v := .ref (ad (i + 3))) C iX2 (hi).1 (mk_6 (hi).2.1) rfl 2 (by decide) L16 rfl dX2_note_17 ?_
  refine g_iload_n C dX2_note_20 rfl 3 rfl ?_
  refine g_callS (rest := []) (st1 := []) C (c_X2_putFirst 10 (i + 3) ti hi.2.2.2.2.1 (by omega) (by omega) (f_X2_putFirst 10 (i + 2) bu (f_X2_putFirst 10 (i + 1) (nI (ev)) ω))) (va_cwS 2 C.hts gX2_note_X2_putFirst rfl rfl rfl md_X2_putFirst.2 ⟨Nat.le_of_ble_eq_true rfl, Nat.le_of_ble_eq_true rfl⟩) rfl rfl rfl (Nat.le_of_ble_eq_true rfl) dX2_note_21 (Nat.zero_le _) (Nat.zero_le _) ?_
  refine g_aload_n C dX2_note_24 rfl 0 rfl ?_
  refine g_aload_n C dX2_note_25 rfl 0 rfl ?_
  refine g_get (v := .int ((f_X2_putFirst 10 (i + 3) ti (f_X2_putFirst 10 (i + 2) bu (f_X2_putFirst 10 (i + 1) (nI (ev)) ω))) i 4)) C iX2 (hi).1 (mk_6 (hi).2.1) rfl 4 (by decide) L22 rfl dX2_note_26 ?_
  refine g_iconst (v := 1) C dX2_note_29 (by decide) ?_
  refine g_iadd (v := (((f_X2_putFirst 10 (i + 3) ti (f_X2_putFirst 10 (i + 2) bu (f_X2_putFirst 10 (i + 1) (nI (ev)) ω))) i 4) + 1)) C dX2_note_30 rfl ?_
  refine g_bipush (v := 10) C dX2_note_31 (by decide) ?_
  refine g_mmin (v := (if 10 < (((f_X2_putFirst 10 (i + 3) ti (f_X2_putFirst 10 (i + 2) bu (f_X2_putFirst 10 (i + 1) (nI (ev)) ω))) i 4) + 1) then 10 else (((f_X2_putFirst 10 (i + 3) ti (f_X2_putFirst 10 (i + 2) bu (f_X2_putFirst 10 (i + 1) (nI (ev)) ω))) i 4) + 1))) C M36a Mminb Mini Mminc (Nat.le_of_ble_eq_true rfl) (Nat.le_of_ble_eq_true rfl) (Nat.zero_le _) (Nat.zero_le _) dX2_note_33 rfl ?_
  refine g_put C iX2 tyX2 tyX2_ok nmX2 (hi).1 (mk_6 (hi).2.1) rfl 4 (by decide) L22 rfl rfl rfl (Nat.le_of_ble_eq_true rfl) dX2_note_36 ?_
  refine gv_eqG (mkp_6_4 (hi).2.1) ?_
  refine g_iload_n C dX2_note_39 rfl 1 rfl ?_
  refine g_iconst (v := 0) C dX2_note_40 (by decide) ?_
  refine g_iconst (v := 3) C dX2_note_41 (by decide) ?_
  refine g_callSN (rest := []) (st1 := [.int (f_X7_isWithin (nI (ev)) 0 3 (st (f_X2_putFirst 10 (i + 3) ti (f_X2_putFirst 10 (i + 2) bu (f_X2_putFirst 10 (i + 1) (nI (ev)) ω))) i 4 (if 10 < (((f_X2_putFirst 10 (i + 3) ti (f_X2_putFirst 10 (i + 2) bu (f_X2_putFirst 10 (i + 1) (nI (ev)) ω))) i 4) + 1) then 10 else (((f_X2_putFirst 10 (i + 3) ti (f_X2_putFirst 10 (i + 2) bu (f_X2_putFirst 10 (i + 1) (nI (ev)) ω))) i 4) + 1))))]) C (c_X7_isWithin (nI (ev)) 0 3 (st (f_X2_putFirst 10 (i + 3) ti (f_X2_putFirst 10 (i + 2) bu (f_X2_putFirst 10 (i + 1) (nI (ev)) ω))) i 4 (if 10 < (((f_X2_putFirst 10 (i + 3) ti (f_X2_putFirst 10 (i + 2) bu (f_X2_putFirst 10 (i + 1) (nI (ev)) ω))) i 4) + 1) then 10 else (((f_X2_putFirst 10 (i + 3) ti (f_X2_putFirst 10 (i + 2) bu (f_X2_putFirst 10 (i + 1) (nI (ev)) ω))) i 4) + 1)))) (va_cnB 3 C.hts gX2_note_X7_isWithin_n42 rfl rfl rfl (nw2 C.hN) (C.hts _ IX7) md_X7_isWithin.2 ⟨Nat.le_of_ble_eq_true rfl, Nat.le_of_ble_eq_true rfl⟩) TX7_isWithin rfl rfl rfl (Nat.le_of_ble_eq_true rfl) dX2_note_42 (Nat.zero_le _) (Nat.zero_le _) ?_
  refine g_if_eq (tgt := 58) C dX2_note_45 (by decide) (fun h1 => ?_) (fun h1 => ?_)
  · exact g_vret C hret hlk e1 (e2.trans (congrArg (mk X ad) ((if_pos h1).trans rfl))) dX2_note_58
  · refine g_aload_n C dX2_note_48 rfl 0 rfl ?_
    refine g_get (v := .ref (ad (i + 4))) C iX2 (hi).1 (mk_6 (hi).2.1) rfl 3 (by decide) L19 rfl dX2_note_49 ?_
    refine g_iload_n C dX2_note_52 rfl 1 rfl ?_
    refine g_dup2 C dX2_note_53 rfl rfl ?_
    refine g_iald C 0 (hi.2.2.2.2.2).1 (mk_12n (hi.2.2.2.2.2).2.1 (hi.2.2.2.2.2).2.2) rfl (vp_in_nI (n := ev) (by omega) (by decide)) (nI_clamp (n := ev) (by omega)) dX2_note_54 ?_
    refine g_iconst (v := 1) C dX2_note_55 (by decide) ?_
    refine g_iadd (v := (((st (f_X2_putFirst 10 (i + 3) ti (f_X2_putFirst 10 (i + 2) bu (f_X2_putFirst 10 (i + 1) (nI (ev)) ω))) i 4 (if 10 < (((f_X2_putFirst 10 (i + 3) ti (f_X2_putFirst 10 (i + 2) bu (f_X2_putFirst 10 (i + 1) (nI (ev)) ω))) i 4) + 1) then 10 else (((f_X2_putFirst 10 (i + 3) ti (f_X2_putFirst 10 (i + 2) bu (f_X2_putFirst 10 (i + 1) (nI (ev)) ω))) i 4) + 1))) (i + 4) ev) + 1)) C dX2_note_56 rfl ?_
    refine g_iast C 0 (hi.2.2.2.2.2).1 (mk_12n (hi.2.2.2.2.2).2.1 (hi.2.2.2.2.2).2.2) rfl (vp_in_nI (n := ev) (by omega) (by decide)) (nI_clamp (n := ev) (by omega)) dX2_note_57 ?_
    refine gv_eqG (mk_row (hi.2.2.2.2.2).2.1 (hi.2.2.2.2.2).2.2) ?_
    exact g_vret C hret hlk e1 (e2.trans (congrArg (mk X ad) ((if_neg h1).trans rfl))) dX2_note_58
abbrev rm_X2_total : Room := { frames := 0, cells := 0, slots := 0, locals := 0 }
theorem md_X2_total : yX2_total.cls = RX2 ∧ yX2_total.cls ≠ "java/lang/invoke/MethodHandle" ∧ yX2_total.cls ≠ "java/lang/invoke/VarHandle" ∧ (parseMethodDescriptor yX2_total.desc).map (fun d => d.parameters.length) = some 0 := by decide +kernel
def f_X2_total (i : Nat) (ω : Mem) : Int32 := ((((0 + (ω (i + 4) 0)) + (ω (i + 4) 1)) + (ω (i + 4) 2)) + (ω (i + 4) 3))
set_option maxRecDepth 100000 in
set_option maxHeartbeats 4000000 in
theorem c_X2_total {l_ : Launch} {sa : Nat → Nat} {D : va_G} {X : Nat → ClassId} {ad : Nat → Nat} (i : Nat) (hi : isLg i) (ω : Mem) : CT l_ yX2_total wsX2_total rm_X2_total sa D (tyX X) 128 ad (mk X ad ω) [.ref (ad i)] (some (.int (f_X2_total i ω)) : Option Value) (mk X ad ω) := by
  refine ct_of [(0, .ref (ad i))] (by decide +kernel) rfl rfl (Nat.le_of_ble_eq_true rfl) rfl ?_
  intro p_ e_ s_ m_ args_ below_ meth_ c_ C hret hlk hin
  have e1 : (some (.int (f_X2_total i ω)) : Option Value) = (some (.int (f_X2_total i ω)) : Option Value) := rfl
  have e2 : mk X ad ω = mk X ad ω := rfl
  have iX2 : ∀ w ∈ u_ws RX2 TX2 5, w ∈ wsX2_total := by decide +kernel
  have L19 : Cond.fieldLink RX2 19 (TX2 3).1 (TX2 3).2.1 (TX2 3).2.2.1 ∈ wsX2_total := by decide +kernel
  refine g_iconst (v := 0) C dX2_total_0 (by decide) ?_
  refine g_istore_n (lv' := [(1, .int 0), (0, .ref (ad i))]) C dX2_total_1 rfl (by decide) rfl ?_
  refine g_aload_n C dX2_total_2 rfl 1 rfl ?_
  refine g_get (v := .ref (ad (i + 4))) C iX2 (hi).1 (mk_6 (hi).2.1) rfl 3 (by decide) L19 rfl dX2_total_3 ?_
  refine g_astore_n (lv' := [(2, .ref (ad (i + 4))), (1, .int 0), (0, .ref (ad i))]) C dX2_total_6 rfl (by decide) rfl ?_
  refine g_aload_n C dX2_total_7 rfl 0 rfl ?_
  refine g_alen (v := 4) C 0 (hi.2.2.2.2.2).1 (mk_12n (hi.2.2.2.2.2).2.1 (hi.2.2.2.2.2).2.2) rfl rfl dX2_total_8 ?_
  refine g_istore_n (lv' := [(3, .int 4), (2, .ref (ad (i + 4))), (1, .int 0), (0, .ref (ad i))]) C dX2_total_9 rfl (by decide) rfl ?_
  refine g_iconst (v := 0) C dX2_total_10 (by decide) ?_
  refine g_istore (lv' := [(4, .int 0), (3, .int 4), (2, .ref (ad (i + 4))), (1, .int 0), (0, .ref (ad i))]) C dX2_total_11 (by decide) rfl ?_
  refine g_iload C dX2_total_13 0 rfl ?_
  refine g_iload_n C dX2_total_15 rfl 1 rfl ?_
  refine g_icmp_ge (tgt := 36) C dX2_total_16 (by decide) (fun z => absurd z (by decide)) (fun _ => ?_)
  refine g_aload_n C dX2_total_19 rfl 2 rfl ?_
  refine g_iload C dX2_total_20 0 rfl ?_
  refine g_iald C 0 (hi.2.2.2.2.2).1 (mk_12n (hi.2.2.2.2.2).2.1 (hi.2.2.2.2.2).2.2) rfl (by unfold vp_in; decide) rfl dX2_total_22 ?_
  refine g_istore (lv' := [(5, .int (ω (i + 4) 0)), (4, .int 0), (3, .int 4), (2, .ref (ad (i + 4))), (1, .int 0), (0, .ref (ad i))]) C dX2_total_23 (by decide) rfl ?_
  refine g_iload_n C dX2_total_25 rfl 4 rfl ?_
  refine g_iload C dX2_total_26 0 rfl ?_
  refine g_iadd (v := (0 + (ω (i + 4) 0))) C dX2_total_28 rfl ?_
  refine g_istore_n (lv' := [(1, .int (0 + (ω (i + 4) 0))), (5, .int (ω (i + 4) 0)), (4, .int 0), (3, .int 4), (2, .ref (ad (i + 4))), (0, .ref (ad i))]) C dX2_total_29 rfl (by decide) rfl ?_
  refine g_iinc (k := 2) (v := 1) (lv' := [(4, .int 1), (1, .int (0 + (ω (i + 4) 0))), (5, .int (ω (i + 4) 0)), (3, .int 4), (2, .ref (ad (i + 4))), (0, .ref (ad i))]) C dX2_total_30 rfl (by decide) (by decide) rfl ?_
  refine g_goto (tgt := 13) C dX2_total_33 (by decide) ?_
  refine g_iload C dX2_total_13 0 rfl ?_
  refine g_iload_n C dX2_total_15 rfl 3 rfl ?_
  refine g_icmp_ge (tgt := 36) C dX2_total_16 (by decide) (fun z => absurd z (by decide)) (fun _ => ?_)
  refine g_aload_n C dX2_total_19 rfl 4 rfl ?_
  refine g_iload C dX2_total_20 0 rfl ?_
  refine g_iald C 0 (hi.2.2.2.2.2).1 (mk_12n (hi.2.2.2.2.2).2.1 (hi.2.2.2.2.2).2.2) rfl (by unfold vp_in; decide) rfl dX2_total_22 ?_
  refine g_istore (lv' := [(5, .int (ω (i + 4) 1)), (4, .int 1), (1, .int (0 + (ω (i + 4) 0))), (3, .int 4), (2, .ref (ad (i + 4))), (0, .ref (ad i))]) C dX2_total_23 (by decide) rfl ?_
  refine g_iload_n C dX2_total_25 rfl 2 rfl ?_
  refine g_iload C dX2_total_26 0 rfl ?_
  refine g_iadd (v := ((0 + (ω (i + 4) 0)) + (ω (i + 4) 1))) C dX2_total_28 rfl ?_
  refine g_istore_n (lv' := [(1, .int ((0 + (ω (i + 4) 0)) + (ω (i + 4) 1))), (5, .int (ω (i + 4) 1)), (4, .int 1), (3, .int 4), (2, .ref (ad (i + 4))), (0, .ref (ad i))]) C dX2_total_29 rfl (by decide) rfl ?_
  refine g_iinc (k := 2) (v := 2) (lv' := [(4, .int 2), (1, .int ((0 + (ω (i + 4) 0)) + (ω (i + 4) 1))), (5, .int (ω (i + 4) 1)), (3, .int 4), (2, .ref (ad (i + 4))), (0, .ref (ad i))]) C dX2_total_30 rfl (by decide) (by decide) rfl ?_
  refine g_goto (tgt := 13) C dX2_total_33 (by decide) ?_
  refine g_iload C dX2_total_13 0 rfl ?_
  refine g_iload_n C dX2_total_15 rfl 3 rfl ?_
  refine g_icmp_ge (tgt := 36) C dX2_total_16 (by decide) (fun z => absurd z (by decide)) (fun _ => ?_)
  refine g_aload_n C dX2_total_19 rfl 4 rfl ?_
  refine g_iload C dX2_total_20 0 rfl ?_
  refine g_iald C 0 (hi.2.2.2.2.2).1 (mk_12n (hi.2.2.2.2.2).2.1 (hi.2.2.2.2.2).2.2) rfl (by unfold vp_in; decide) rfl dX2_total_22 ?_
  refine g_istore (lv' := [(5, .int (ω (i + 4) 2)), (4, .int 2), (1, .int ((0 + (ω (i + 4) 0)) + (ω (i + 4) 1))), (3, .int 4), (2, .ref (ad (i + 4))), (0, .ref (ad i))]) C dX2_total_23 (by decide) rfl ?_
  refine g_iload_n C dX2_total_25 rfl 2 rfl ?_
  refine g_iload C dX2_total_26 0 rfl ?_
  refine g_iadd (v := (((0 + (ω (i + 4) 0)) + (ω (i + 4) 1)) + (ω (i + 4) 2))) C dX2_total_28 rfl ?_
  refine g_istore_n (lv' := [(1, .int (((0 + (ω (i + 4) 0)) + (ω (i + 4) 1)) + (ω (i + 4) 2))), (5, .int (ω (i + 4) 2)), (4, .int 2), (3, .int 4), (2, .ref (ad (i + 4))), (0, .ref (ad i))]) C dX2_total_29 rfl (by decide) rfl ?_
  refine g_iinc (k := 2) (v := 3) (lv' := [(4, .int 3), (1, .int (((0 + (ω (i + 4) 0)) + (ω (i + 4) 1)) + (ω (i + 4) 2))), (5, .int (ω (i + 4) 2)), (3, .int 4), (2, .ref (ad (i + 4))), (0, .ref (ad i))]) C dX2_total_30 rfl (by decide) (by decide) rfl ?_
  refine g_goto (tgt := 13) C dX2_total_33 (by decide) ?_
  refine g_iload C dX2_total_13 0 rfl ?_
  refine g_iload_n C dX2_total_15 rfl 3 rfl ?_
  refine g_icmp_ge (tgt := 36) C dX2_total_16 (by decide) (fun z => absurd z (by decide)) (fun _ => ?_)
  refine g_aload_n C dX2_total_19 rfl 4 rfl ?_
  refine g_iload C dX2_total_20 0 rfl ?_
  refine g_iald C 0 (hi.2.2.2.2.2).1 (mk_12n (hi.2.2.2.2.2).2.1 (hi.2.2.2.2.2).2.2) rfl (by unfold vp_in; decide) rfl dX2_total_22 ?_
  refine g_istore (lv' := [(5, .int (ω (i + 4) 3)), (4, .int 3), (1, .int (((0 + (ω (i + 4) 0)) + (ω (i + 4) 1)) + (ω (i + 4) 2))), (3, .int 4), (2, .ref (ad (i + 4))), (0, .ref (ad i))]) C dX2_total_23 (by decide) rfl ?_
  refine g_iload_n C dX2_total_25 rfl 2 rfl ?_
  refine g_iload C dX2_total_26 0 rfl ?_
  refine g_iadd (v := ((((0 + (ω (i + 4) 0)) + (ω (i + 4) 1)) + (ω (i + 4) 2)) + (ω (i + 4) 3))) C dX2_total_28 rfl ?_
  refine g_istore_n (lv' := [(1, .int ((((0 + (ω (i + 4) 0)) + (ω (i + 4) 1)) + (ω (i + 4) 2)) + (ω (i + 4) 3))), (5, .int (ω (i + 4) 3)), (4, .int 3), (3, .int 4), (2, .ref (ad (i + 4))), (0, .ref (ad i))]) C dX2_total_29 rfl (by decide) rfl ?_
  refine g_iinc (k := 2) (v := 4) (lv' := [(4, .int 4), (1, .int ((((0 + (ω (i + 4) 0)) + (ω (i + 4) 1)) + (ω (i + 4) 2)) + (ω (i + 4) 3))), (5, .int (ω (i + 4) 3)), (3, .int 4), (2, .ref (ad (i + 4))), (0, .ref (ad i))]) C dX2_total_30 rfl (by decide) (by decide) rfl ?_
  refine g_goto (tgt := 13) C dX2_total_33 (by decide) ?_
  refine g_iload C dX2_total_13 0 rfl ?_
  refine g_iload_n C dX2_total_15 rfl 3 rfl ?_
  refine g_icmp_ge (tgt := 36) C dX2_total_16 (by decide) (fun _ => ?_) (fun z => absurd z (by decide))
  refine g_iload_n C dX2_total_36 rfl 1 rfl ?_
  exact g_iret C hret hlk (e1.trans (congrArg (fun z => some (Value.int z)) rfl)) e2 dX2_total_37
abbrev rm_X2_copyFrom : Room := { frames := 2, cells := 0, slots := 0, locals := 39 }
theorem md_X2_copyFrom : yX2_copyFrom.cls = RX2 ∧ yX2_copyFrom.cls ≠ "java/lang/invoke/MethodHandle" ∧ yX2_copyFrom.cls ≠ "java/lang/invoke/VarHandle" ∧ (parseMethodDescriptor yX2_copyFrom.desc).map (fun d => d.parameters.length) = some 1 := by decide +kernel
def f_X2_copyFrom (i : Nat) (k : Nat) (ω : Mem) : Mem := (st (f_X7_copyRow 4 4 (k + 4) (i + 4) (f_X7_copyRow 10 10 (k + 3) (i + 3) (f_X7_copyRow 10 10 (k + 2) (i + 2) (f_X7_copyRow 10 10 (k + 1) (i + 1) ω)))) i 4 ((f_X7_copyRow 4 4 (k + 4) (i + 4) (f_X7_copyRow 10 10 (k + 3) (i + 3) (f_X7_copyRow 10 10 (k + 2) (i + 2) (f_X7_copyRow 10 10 (k + 1) (i + 1) ω)))) k 4))
set_option maxRecDepth 100000 in
set_option maxHeartbeats 4000000 in
theorem c_X2_copyFrom {l_ : Launch} {sa : Nat → Nat} {D : va_G} {X : Nat → ClassId} {ad : Nat → Nat} (i : Nat) (k : Nat) (hi : isLg i) (hk : isLg k) (ω : Mem) : CT l_ yX2_copyFrom wsX2_copyFrom rm_X2_copyFrom sa D (tyX X) 128 ad (mk X ad ω) [.ref (ad i), .ref (ad k)] (none : Option Value) (mk X ad (f_X2_copyFrom i k ω)) := by
  refine ct_of [(0, .ref (ad i)), (1, .ref (ad k))] (by decide +kernel) rfl rfl (Nat.le_of_ble_eq_true rfl) rfl ?_
  intro p_ e_ s_ m_ args_ below_ meth_ c_ C hret hlk hin
  have e1 : (none : Option Value) = (none : Option Value) := rfl
  have e2 : mk X ad (f_X2_copyFrom i k ω) = mk X ad (f_X2_copyFrom i k ω) := rfl
  have iX2 : ∀ w ∈ u_ws RX2 TX2 5, w ∈ wsX2_copyFrom := by decide +kernel
  have IX7 : Cond.initialized RX7 ∈ wsX2_copyFrom := by decide +kernel
  have L13 : Cond.fieldLink RX2 13 (TX2 1).1 (TX2 1).2.1 (TX2 1).2.2.1 ∈ wsX2_copyFrom := by decide +kernel
  have L16 : Cond.fieldLink RX2 16 (TX2 2).1 (TX2 2).2.1 (TX2 2).2.2.1 ∈ wsX2_copyFrom := by decide +kernel
  have L19 : Cond.fieldLink RX2 19 (TX2 3).1 (TX2 3).2.1 (TX2 3).2.2.1 ∈ wsX2_copyFrom := by decide +kernel
  have L22 : Cond.fieldLink RX2 22 (TX2 4).1 (TX2 4).2.1 (TX2 4).2.2.1 ∈ wsX2_copyFrom := by decide +kernel
  have L9 : Cond.fieldLink RX2 9 (TX2 0).1 (TX2 0).2.1 (TX2 0).2.2.1 ∈ wsX2_copyFrom := by decide +kernel
  have TX7_copyRow : Cond.static yX7_copyRow ∈ wsX2_copyFrom := by decide +kernel
  refine g_aload_n C dX2_copyFrom_0 rfl 1 rfl ?_
  refine g_get (v := .ref (ad (k + 1))) C iX2 (hk).1 (mk_6 (hk).2.1) rfl 0 (by decide) L9 rfl dX2_copyFrom_1 ?_
  refine g_aload_n C dX2_copyFrom_4 rfl 0 rfl ?_
  refine g_get (v := .ref (ad (i + 1))) C iX2 (hi).1 (mk_6 (hi).2.1) rfl 0 (by decide) L9 rfl dX2_copyFrom_5 ?_
  refine g_callSN (rest := []) (st1 := []) C (c_X7_copyRow 10 10 (k + 1) (i + 1) hk.2.2.1 hi.2.2.1 (by omega) (by omega) ω) (va_cnB 2 C.hts gX2_copyFrom_X7_copyRow_n26 rfl rfl rfl (nw1 C.hN) (C.hts _ IX7) md_X7_copyRow.2 ⟨Nat.le_of_ble_eq_true rfl, Nat.le_of_ble_eq_true rfl⟩) TX7_copyRow rfl rfl rfl (Nat.le_of_ble_eq_true rfl) dX2_copyFrom_8 (Nat.zero_le _) (Nat.zero_le _) ?_
  refine g_aload_n C dX2_copyFrom_11 rfl 1 rfl ?_
  refine g_get (v := .ref (ad (k + 2))) C iX2 (hk).1 (mk_6 (hk).2.1) rfl 1 (by decide) L13 rfl dX2_copyFrom_12 ?_
  refine g_aload_n C dX2_copyFrom_15 rfl 0 rfl ?_
  refine g_get (v := .ref (ad (i + 2))) C iX2 (hi).1 (mk_6 (hi).2.1) rfl 1 (by decide) L13 rfl dX2_copyFrom_16 ?_
  refine g_callSN (rest := []) (st1 := []) C (c_X7_copyRow 10 10 (k + 2) (i + 2) hk.2.2.2.1 hi.2.2.2.1 (by omega) (by omega) (f_X7_copyRow 10 10 (k + 1) (i + 1) ω)) (va_cnB 2 C.hts gX2_copyFrom_X7_copyRow_n26 rfl rfl rfl (nw1 C.hN) (C.hts _ IX7) md_X7_copyRow.2 ⟨Nat.le_of_ble_eq_true rfl, Nat.le_of_ble_eq_true rfl⟩) TX7_copyRow rfl rfl rfl (Nat.le_of_ble_eq_true rfl) dX2_copyFrom_19 (Nat.zero_le _) (Nat.zero_le _) ?_
  refine g_aload_n C dX2_copyFrom_22 rfl 1 rfl ?_
  refine g_get (v := .ref (ad (k + 3))) C iX2 (hk).1 (mk_6 (hk).2.1) rfl 2 (by decide) L16 rfl dX2_copyFrom_23 ?_
  refine g_aload_n C dX2_copyFrom_26 rfl 0 rfl ?_
  refine g_get (v := .ref (ad (i + 3))) C iX2 (hi).1 (mk_6 (hi).2.1) rfl 2 (by decide) L16 rfl dX2_copyFrom_27 ?_
  refine g_callSN (rest := []) (st1 := []) C (c_X7_copyRow 10 10 (k + 3) (i + 3) hk.2.2.2.2.1 hi.2.2.2.2.1 (by omega) (by omega) (f_X7_copyRow 10 10 (k + 2) (i + 2) (f_X7_copyRow 10 10 (k + 1) (i + 1) ω))) (va_cnB 2 C.hts gX2_copyFrom_X7_copyRow_n26 rfl rfl rfl (nw1 C.hN) (C.hts _ IX7) md_X7_copyRow.2 ⟨Nat.le_of_ble_eq_true rfl, Nat.le_of_ble_eq_true rfl⟩) TX7_copyRow rfl rfl rfl (Nat.le_of_ble_eq_true rfl) dX2_copyFrom_30 (Nat.zero_le _) (Nat.zero_le _) ?_
  refine g_aload_n C dX2_copyFrom_33 rfl 1 rfl ?_
  refine g_get (v := .ref (ad (k + 4))) C iX2 (hk).1 (mk_6 (hk).2.1) rfl 3 (by decide) L19 rfl dX2_copyFrom_34 ?_
  refine g_aload_n C dX2_copyFrom_37 rfl 0 rfl ?_
  refine g_get (v := .ref (ad (i + 4))) C iX2 (hi).1 (mk_6 (hi).2.1) rfl 3 (by decide) L19 rfl dX2_copyFrom_38 ?_
  refine g_callSN (rest := []) (st1 := []) C (c_X7_copyRow 4 4 (k + 4) (i + 4) hk.2.2.2.2.2 hi.2.2.2.2.2 (by omega) (by omega) (f_X7_copyRow 10 10 (k + 3) (i + 3) (f_X7_copyRow 10 10 (k + 2) (i + 2) (f_X7_copyRow 10 10 (k + 1) (i + 1) ω)))) (va_cnB 2 C.hts gX2_copyFrom_X7_copyRow_n26 rfl rfl rfl (nw1 C.hN) (C.hts _ IX7) md_X7_copyRow.2 ⟨Nat.le_of_ble_eq_true rfl, Nat.le_of_ble_eq_true rfl⟩) TX7_copyRow rfl rfl rfl (Nat.le_of_ble_eq_true rfl) dX2_copyFrom_41 (Nat.zero_le _) (Nat.zero_le _) ?_
  refine g_aload_n C dX2_copyFrom_44 rfl 0 rfl ?_
  refine g_aload_n C dX2_copyFrom_45 rfl 1 rfl ?_
  refine g_get (v := .int ((f_X7_copyRow 4 4 (k + 4) (i + 4) (f_X7_copyRow 10 10 (k + 3) (i + 3) (f_X7_copyRow 10 10 (k + 2) (i + 2) (f_X7_copyRow 10 10 (k + 1) (i + 1) ω)))) k 4)) C iX2 (hk).1 (mk_6 (hk).2.1) rfl 4 (by decide) L22 rfl dX2_copyFrom_46 ?_
  refine g_put C iX2 tyX2 tyX2_ok nmX2 (hi).1 (mk_6 (hi).2.1) rfl 4 (by decide) L22 rfl rfl rfl (Nat.le_of_ble_eq_true rfl) dX2_copyFrom_49 ?_
  refine gv_eqG (mkp_6_4 (hi).2.1) ?_
  exact g_vret C hret hlk e1 (e2.trans (congrArg (mk X ad) rfl)) dX2_copyFrom_52
abbrev rm_X3_draftIn : Room := { frames := 0, cells := 0, slots := 0, locals := 0 }
theorem md_X3_draftIn : yX3_draftIn.cls = RX3 ∧ yX3_draftIn.cls ≠ "java/lang/invoke/MethodHandle" ∧ yX3_draftIn.cls ≠ "java/lang/invoke/VarHandle" ∧ (parseMethodDescriptor yX3_draftIn.desc).map (fun d => d.parameters.length) = some 1 := by decide +kernel
def f_X3_draftIn_4 : Nat → Nat → Int32 → Int32 → Nat → Mem → Int32
  | 0, _, _, _, _, _ => 0
  | fu + 1, i, t, d, j, ω => (if (ω i 2) ≤ (nI (j)) then d else (if 12 ≤ j then d else (if t < (ω (i + 1) j) then (f_X3_draftIn_4 fu i t d (j + 1) ω) else (f_X3_draftIn_4 fu i t (ω (i + 2) j) (j + 1) ω))))
set_option maxRecDepth 100000 in
set_option maxHeartbeats 4000000 in
theorem k_X3_draftIn_4 {l_ : Launch} {p_ : Program} {e_ : Env} {s_ : State} {m_ : MethodId} {args_ : Array Value} {below_ : List Frame} {meth_ : Method} {c_ : Code} {sa : Nat → Nat} {D : va_G} {X : Nat → ClassId} {ad : Nat → Nat} {G0 : Nat → va_E} (fu : Nat) (i : Nat) (t : Int32) (hi : isPl i) (C : GC p_ rm_X3_draftIn s_ m_ args_ meth_ c_ cX3_draftIn 4 wsX3_draftIn RX3 sa D (tyX X) (va_A (gw 128 ad G0) s_.heap.size)) (hret : meth_.sig.returnType = (some .int)) (hlk : meth_.locks = false) : ∀ (d : Int32) (j : Nat) (ω : Mem) (hj : j ≤ 12) (hfuel : 12 < j + fu) (rv : Option Value) (G2 : Nat → va_E) (e1 : rv = some (.int (f_X3_draftIn_4 fu i t d j ω))) (e2 : G2 = mk X ad ω), GV p_ l_ e_ rm_X3_draftIn s_ m_ args_ below_ meth_ c_ 0 0 (CQ below_ args_ s_ D 128 ad G0 rv G2) D (va_A (gw 128 ad G0) s_.heap.size) 4 128 ad (mk X ad ω) [(0, .ref (ad i)), (1, .int t), (2, .int d), (3, .int (nI (j)))] 4 [] := by
  have iX3 : ∀ w ∈ u_ws RX3 TX3 3, w ∈ wsX3_draftIn := by decide +kernel
  have L13 : Cond.fieldLink RX3 13 (TX3 1).1 (TX3 1).2.1 (TX3 1).2.2.1 ∈ wsX3_draftIn := by decide +kernel
  have L16 : Cond.fieldLink RX3 16 (TX3 2).1 (TX3 2).2.1 (TX3 2).2.2.1 ∈ wsX3_draftIn := by decide +kernel
  have L9 : Cond.fieldLink RX3 9 (TX3 0).1 (TX3 0).2.1 (TX3 0).2.2.1 ∈ wsX3_draftIn := by decide +kernel
  induction fu with
  | zero =>
    intro d j ω hj hfuel rv G2 e1 e2
    exact absurd hfuel (by omega)
  | succ fu ih =>
    intro d j ω hj hfuel rv G2 e1 e2
    refine g_iload_n C dX3_draftIn_4 rfl 3 rfl ?_
    refine g_aload_n C dX3_draftIn_5 rfl 0 rfl ?_
    refine g_get (v := .int (ω i 2)) C iX3 (hi).1 (mk_5 (hi).2.1) rfl 2 (by decide) L16 rfl dX3_draftIn_6 ?_
    refine g_icmp_ge (tgt := 41) C dX3_draftIn_9 (by decide) (fun h1 => ?_) (fun h1 => ?_)
    · refine g_iload_n C dX3_draftIn_41 rfl 2 rfl ?_
      exact g_iret C hret hlk (e1.trans (congrArg (fun z => some (Value.int z)) ((if_pos h1).trans rfl))) e2 dX3_draftIn_42
    · refine g_iload_n C dX3_draftIn_12 rfl 3 rfl ?_
      refine g_bipush (v := 12) C dX3_draftIn_13 (by decide) ?_
      refine g_icmp_ge (tgt := 41) C dX3_draftIn_15 (by decide) (fun h2 => ?_) (fun h2 => ?_)
      · have h2n := (nI_leI (a := 12) (b := j) (by omega) (by omega)).mp h2
        refine g_iload_n C dX3_draftIn_41 rfl 2 rfl ?_
        exact g_iret C hret hlk (e1.trans (congrArg (fun z => some (Value.int z)) ((if_neg h1).trans ((if_pos h2n).trans rfl)))) e2 dX3_draftIn_42
      · have h2n := (not_congr (nI_leI (a := 12) (b := j) (by omega) (by omega))).mp h2
        refine g_aload_n C dX3_draftIn_18 rfl 0 rfl ?_
        refine g_get (v := .ref (ad (i + 1))) C iX3 (hi).1 (mk_5 (hi).2.1) rfl 0 (by decide) L9 rfl dX3_draftIn_19 ?_
        refine g_iload_n C dX3_draftIn_22 rfl 3 rfl ?_
        refine g_iald C 0 (hi.2.2.1).1 (mk_12n (hi.2.2.1).2.1 (hi.2.2.1).2.2) rfl (vp_in_nI (n := j) (by omega) (by decide)) (nI_clamp (n := j) (by omega)) dX3_draftIn_23 ?_
        refine g_iload_n C dX3_draftIn_24 rfl 1 rfl ?_
        refine g_icmp_gt (tgt := 35) C dX3_draftIn_25 (by decide) (fun h3 => ?_) (fun h3 => ?_)
        · refine g_iinc (k := 3) (v := (nI (j + 1))) (lv' := [(3, .int (nI (j + 1))), (0, .ref (ad i)), (1, .int t), (2, .int d)]) C dX3_draftIn_35 rfl (nI_1 (j)) (by decide) rfl ?_
          refine g_goto (tgt := 4) C dX3_draftIn_38 (by decide) ?_
          refine gv_lv (lv' := [(0, .ref (ad i)), (1, .int t), (2, .int d), (3, .int (nI (j + 1)))]) [1, 2, 3, 0] rfl ?_
          exact ih d (j + 1) ω (by omega) (by omega) _ _ (e1.trans (congrArg (fun z => some (Value.int z)) ((if_neg h1).trans ((if_neg h2n).trans ((if_pos h3).trans rfl))))) e2
        · refine g_aload_n C dX3_draftIn_28 rfl 0 rfl ?_
          refine g_get (v := .ref (ad (i + 2))) C iX3 (hi).1 (mk_5 (hi).2.1) rfl 1 (by decide) L13 rfl dX3_draftIn_29 ?_
          refine g_iload_n C dX3_draftIn_32 rfl 3 rfl ?_
          refine g_iald C 0 (hi.2.2.2).1 (mk_12n (hi.2.2.2).2.1 (hi.2.2.2).2.2) rfl (vp_in_nI (n := j) (by omega) (by decide)) (nI_clamp (n := j) (by omega)) dX3_draftIn_33 ?_
          refine g_istore_n (lv' := [(2, .int (ω (i + 2) j)), (0, .ref (ad i)), (1, .int t), (3, .int (nI (j)))]) C dX3_draftIn_34 rfl (by decide) rfl ?_
          refine g_iinc (k := 3) (v := (nI (j + 1))) (lv' := [(3, .int (nI (j + 1))), (2, .int (ω (i + 2) j)), (0, .ref (ad i)), (1, .int t)]) C dX3_draftIn_35 rfl (nI_1 (j)) (by decide) rfl ?_
          refine g_goto (tgt := 4) C dX3_draftIn_38 (by decide) ?_
          refine gv_lv (lv' := [(0, .ref (ad i)), (1, .int t), (2, .int (ω (i + 2) j)), (3, .int (nI (j + 1)))]) [2, 3, 1, 0] rfl ?_
          exact ih (ω (i + 2) j) (j + 1) ω (by omega) (by omega) _ _ (e1.trans (congrArg (fun z => some (Value.int z)) ((if_neg h1).trans ((if_neg h2n).trans ((if_neg h3).trans rfl))))) e2
def f_X3_draftIn (i : Nat) (t : Int32) (ω : Mem) : Int32 := (f_X3_draftIn_4 13 i t 0 0 ω)
set_option maxRecDepth 100000 in
set_option maxHeartbeats 4000000 in
theorem c_X3_draftIn {l_ : Launch} {sa : Nat → Nat} {D : va_G} {X : Nat → ClassId} {ad : Nat → Nat} (i : Nat) (t : Int32) (hi : isPl i) (ω : Mem) : CT l_ yX3_draftIn wsX3_draftIn rm_X3_draftIn sa D (tyX X) 128 ad (mk X ad ω) [.ref (ad i), .int t] (some (.int (f_X3_draftIn i t ω)) : Option Value) (mk X ad ω) := by
  refine ct_of [(0, .ref (ad i)), (1, .int t)] (by decide +kernel) rfl rfl (Nat.le_of_ble_eq_true rfl) rfl ?_
  intro p_ e_ s_ m_ args_ below_ meth_ c_ C hret hlk hin
  have e1 : (some (.int (f_X3_draftIn i t ω)) : Option Value) = (some (.int (f_X3_draftIn i t ω)) : Option Value) := rfl
  have e2 : mk X ad ω = mk X ad ω := rfl
  refine g_iconst (v := 0) C dX3_draftIn_0 (by decide) ?_
  refine g_istore_n (lv' := [(2, .int 0), (0, .ref (ad i)), (1, .int t)]) C dX3_draftIn_1 rfl (by decide) rfl ?_
  refine g_iconst (v := 0) C dX3_draftIn_2 (by decide) ?_
  refine g_istore_n (lv' := [(3, .int 0), (2, .int 0), (0, .ref (ad i)), (1, .int t)]) C dX3_draftIn_3 rfl (by decide) rfl ?_
  refine gv_lv (lv' := [(0, .ref (ad i)), (1, .int t), (2, .int 0), (3, .int 0)]) [2, 3, 1, 0] rfl ?_
  exact k_X3_draftIn_4 (13) i t hi C hret hlk 0 0 ω (by omega) (by omega) _ _ (e1.trans (congrArg (fun z => some (Value.int z)) rfl)) e2
abbrev rm_X3_placeOf : Room := { frames := 0, cells := 0, slots := 0, locals := 0 }
theorem md_X3_placeOf : yX3_placeOf.cls = RX3 ∧ yX3_placeOf.cls ≠ "java/lang/invoke/MethodHandle" ∧ yX3_placeOf.cls ≠ "java/lang/invoke/VarHandle" ∧ (parseMethodDescriptor yX3_placeOf.desc).map (fun d => d.parameters.length) = some 1 := by decide +kernel
def f_X3_placeOf_2 : Nat → Nat → Int32 → Nat → Mem → Int32
  | 0, _, _, _, _ => 0
  | fu + 1, i, t, j, ω => (if (ω i 2) ≤ (nI (j)) then (ω i 2) else (if 12 ≤ j then (ω i 2) else (if (ω (i + 1) j) = t then (nI (j)) else (f_X3_placeOf_2 fu i t (j + 1) ω))))
set_option maxRecDepth 100000 in
set_option maxHeartbeats 4000000 in
theorem k_X3_placeOf_2 {l_ : Launch} {p_ : Program} {e_ : Env} {s_ : State} {m_ : MethodId} {args_ : Array Value} {below_ : List Frame} {meth_ : Method} {c_ : Code} {sa : Nat → Nat} {D : va_G} {X : Nat → ClassId} {ad : Nat → Nat} {G0 : Nat → va_E} (fu : Nat) (i : Nat) (t : Int32) (hi : isPl i) (C : GC p_ rm_X3_placeOf s_ m_ args_ meth_ c_ cX3_placeOf 3 wsX3_placeOf RX3 sa D (tyX X) (va_A (gw 128 ad G0) s_.heap.size)) (hret : meth_.sig.returnType = (some .int)) (hlk : meth_.locks = false) : ∀ (j : Nat) (ω : Mem) (hj : j ≤ 12) (hfuel : 12 < j + fu) (rv : Option Value) (G2 : Nat → va_E) (e1 : rv = some (.int (f_X3_placeOf_2 fu i t j ω))) (e2 : G2 = mk X ad ω), GV p_ l_ e_ rm_X3_placeOf s_ m_ args_ below_ meth_ c_ 0 0 (CQ below_ args_ s_ D 128 ad G0 rv G2) D (va_A (gw 128 ad G0) s_.heap.size) 3 128 ad (mk X ad ω) [(0, .ref (ad i)), (1, .int t), (2, .int (nI (j)))] 2 [] := by
  have iX3 : ∀ w ∈ u_ws RX3 TX3 3, w ∈ wsX3_placeOf := by decide +kernel
  have L16 : Cond.fieldLink RX3 16 (TX3 2).1 (TX3 2).2.1 (TX3 2).2.2.1 ∈ wsX3_placeOf := by decide +kernel
  have L9 : Cond.fieldLink RX3 9 (TX3 0).1 (TX3 0).2.1 (TX3 0).2.2.1 ∈ wsX3_placeOf := by decide +kernel
  induction fu with
  | zero =>
    intro j ω hj hfuel rv G2 e1 e2
    exact absurd hfuel (by omega)
  | succ fu ih =>
    intro j ω hj hfuel rv G2 e1 e2
    refine g_iload_n C dX3_placeOf_2 rfl 2 rfl ?_
    refine g_aload_n C dX3_placeOf_3 rfl 0 rfl ?_
    refine g_get (v := .int (ω i 2)) C iX3 (hi).1 (mk_5 (hi).2.1) rfl 2 (by decide) L16 rfl dX3_placeOf_4 ?_
    refine g_icmp_ge (tgt := 34) C dX3_placeOf_7 (by decide) (fun h1 => ?_) (fun h1 => ?_)
    · refine g_aload_n C dX3_placeOf_34 rfl 0 rfl ?_
      refine g_get (v := .int (ω i 2)) C iX3 (hi).1 (mk_5 (hi).2.1) rfl 2 (by decide) L16 rfl dX3_placeOf_35 ?_
      exact g_iret C hret hlk (e1.trans (congrArg (fun z => some (Value.int z)) ((if_pos h1).trans rfl))) e2 dX3_placeOf_38
    · refine g_iload_n C dX3_placeOf_10 rfl 2 rfl ?_
      refine g_bipush (v := 12) C dX3_placeOf_11 (by decide) ?_
      refine g_icmp_ge (tgt := 34) C dX3_placeOf_13 (by decide) (fun h2 => ?_) (fun h2 => ?_)
      · have h2n := (nI_leI (a := 12) (b := j) (by omega) (by omega)).mp h2
        refine g_aload_n C dX3_placeOf_34 rfl 0 rfl ?_
        refine g_get (v := .int (ω i 2)) C iX3 (hi).1 (mk_5 (hi).2.1) rfl 2 (by decide) L16 rfl dX3_placeOf_35 ?_
        exact g_iret C hret hlk (e1.trans (congrArg (fun z => some (Value.int z)) ((if_neg h1).trans ((if_pos h2n).trans rfl)))) e2 dX3_placeOf_38
      · have h2n := (not_congr (nI_leI (a := 12) (b := j) (by omega) (by omega))).mp h2
        refine g_aload_n C dX3_placeOf_16 rfl 0 rfl ?_
        refine g_get (v := .ref (ad (i + 1))) C iX3 (hi).1 (mk_5 (hi).2.1) rfl 0 (by decide) L9 rfl dX3_placeOf_17 ?_
        refine g_iload_n C dX3_placeOf_20 rfl 2 rfl ?_
        refine g_iald C 0 (hi.2.2.1).1 (mk_12n (hi.2.2.1).2.1 (hi.2.2.1).2.2) rfl (vp_in_nI (n := j) (by omega) (by decide)) (nI_clamp (n := j) (by omega)) dX3_placeOf_21 ?_
        refine g_iload_n C dX3_placeOf_22 rfl 1 rfl ?_
        refine g_icmp_ne (tgt := 28) C dX3_placeOf_23 (by decide) (fun h3 => ?_) (fun h3 => ?_)
        · refine g_iinc (k := 2) (v := (nI (j + 1))) (lv' := [(2, .int (nI (j + 1))), (0, .ref (ad i)), (1, .int t)]) C dX3_placeOf_28 rfl (nI_1 (j)) (by decide) rfl ?_
          refine g_goto (tgt := 2) C dX3_placeOf_31 (by decide) ?_
          refine gv_lv (lv' := [(0, .ref (ad i)), (1, .int t), (2, .int (nI (j + 1)))]) [1, 2, 0] rfl ?_
          exact ih (j + 1) ω (by omega) (by omega) _ _ (e1.trans (congrArg (fun z => some (Value.int z)) ((if_neg h1).trans ((if_neg h2n).trans ((if_neg h3).trans rfl))))) e2
        · refine g_iload_n C dX3_placeOf_26 rfl 2 rfl ?_
          exact g_iret C hret hlk (e1.trans (congrArg (fun z => some (Value.int z)) ((if_neg h1).trans ((if_neg h2n).trans ((if_pos h3).trans rfl))))) e2 dX3_placeOf_27
def f_X3_placeOf (i : Nat) (t : Int32) (ω : Mem) : Int32 := (f_X3_placeOf_2 13 i t 0 ω)
set_option maxRecDepth 100000 in
set_option maxHeartbeats 4000000 in
theorem c_X3_placeOf {l_ : Launch} {sa : Nat → Nat} {D : va_G} {X : Nat → ClassId} {ad : Nat → Nat} (i : Nat) (t : Int32) (hi : isPl i) (ω : Mem) : CT l_ yX3_placeOf wsX3_placeOf rm_X3_placeOf sa D (tyX X) 128 ad (mk X ad ω) [.ref (ad i), .int t] (some (.int (f_X3_placeOf i t ω)) : Option Value) (mk X ad ω) := by
  refine ct_of [(0, .ref (ad i)), (1, .int t)] (by decide +kernel) rfl rfl (Nat.le_of_ble_eq_true rfl) rfl ?_
  intro p_ e_ s_ m_ args_ below_ meth_ c_ C hret hlk hin
  have e1 : (some (.int (f_X3_placeOf i t ω)) : Option Value) = (some (.int (f_X3_placeOf i t ω)) : Option Value) := rfl
  have e2 : mk X ad ω = mk X ad ω := rfl
  refine g_iconst (v := 0) C dX3_placeOf_0 (by decide) ?_
  refine g_istore_n (lv' := [(2, .int 0), (0, .ref (ad i)), (1, .int t)]) C dX3_placeOf_1 rfl (by decide) rfl ?_
  refine gv_lv (lv' := [(0, .ref (ad i)), (1, .int t), (2, .int 0)]) [1, 2, 0] rfl ?_
  exact k_X3_placeOf_2 (13) i t hi C hret hlk 0 ω (by omega) (by omega) _ _ (e1.trans (congrArg (fun z => some (Value.int z)) rfl)) e2
abbrev rm_X3_clear : Room := { frames := 0, cells := 0, slots := 0, locals := 0 }
theorem md_X3_clear : yX3_clear.cls = RX3 ∧ yX3_clear.cls ≠ "java/lang/invoke/MethodHandle" ∧ yX3_clear.cls ≠ "java/lang/invoke/VarHandle" ∧ (parseMethodDescriptor yX3_clear.desc).map (fun d => d.parameters.length) = some 0 := by decide +kernel
def f_X3_clear (i : Nat) (ω : Mem) : Mem := (st ω i 2 0)
set_option maxRecDepth 100000 in
set_option maxHeartbeats 4000000 in
theorem c_X3_clear {l_ : Launch} {sa : Nat → Nat} {D : va_G} {X : Nat → ClassId} {ad : Nat → Nat} (i : Nat) (hi : isPl i) (ω : Mem) : CT l_ yX3_clear wsX3_clear rm_X3_clear sa D (tyX X) 128 ad (mk X ad ω) [.ref (ad i)] (none : Option Value) (mk X ad (f_X3_clear i ω)) := by
  refine ct_of [(0, .ref (ad i))] (by decide +kernel) rfl rfl (Nat.le_of_ble_eq_true rfl) rfl ?_
  intro p_ e_ s_ m_ args_ below_ meth_ c_ C hret hlk hin
  have e1 : (none : Option Value) = (none : Option Value) := rfl
  have e2 : mk X ad (f_X3_clear i ω) = mk X ad (f_X3_clear i ω) := rfl
  have iX3 : ∀ w ∈ u_ws RX3 TX3 3, w ∈ wsX3_clear := by decide +kernel
  have L16 : Cond.fieldLink RX3 16 (TX3 2).1 (TX3 2).2.1 (TX3 2).2.2.1 ∈ wsX3_clear := by decide +kernel
  refine g_aload_n C dX3_clear_0 rfl 0 rfl ?_
  refine g_iconst (v := 0) C dX3_clear_1 (by decide) ?_
  refine g_put C iX3 tyX3 tyX3_ok nmX3 (hi).1 (mk_5 (hi).2.1) rfl 2 (by decide) L16 rfl rfl rfl (Nat.le_of_ble_eq_true rfl) dX3_clear_2 ?_
  refine gv_eqG (mkp_5_2 (hi).2.1) ?_
  exact g_vret C hret hlk e1 (e2.trans (congrArg (mk X ad) rfl)) dX3_clear_5
abbrev rm_X3_copyFrom : Room := { frames := 2, cells := 0, slots := 0, locals := 39 }
theorem md_X3_copyFrom : yX3_copyFrom.cls = RX3 ∧ yX3_copyFrom.cls ≠ "java/lang/invoke/MethodHandle" ∧ yX3_copyFrom.cls ≠ "java/lang/invoke/VarHandle" ∧ (parseMethodDescriptor yX3_copyFrom.desc).map (fun d => d.parameters.length) = some 1 := by decide +kernel
def f_X3_copyFrom (i : Nat) (k : Nat) (ω : Mem) : Mem := (st (f_X7_copyRow 12 12 (k + 2) (i + 2) (f_X7_copyRow 12 12 (k + 1) (i + 1) ω)) i 2 ((f_X7_copyRow 12 12 (k + 2) (i + 2) (f_X7_copyRow 12 12 (k + 1) (i + 1) ω)) k 2))
set_option maxRecDepth 100000 in
set_option maxHeartbeats 4000000 in
theorem c_X3_copyFrom {l_ : Launch} {sa : Nat → Nat} {D : va_G} {X : Nat → ClassId} {ad : Nat → Nat} (i : Nat) (k : Nat) (hi : isPl i) (hk : isPl k) (ω : Mem) : CT l_ yX3_copyFrom wsX3_copyFrom rm_X3_copyFrom sa D (tyX X) 128 ad (mk X ad ω) [.ref (ad i), .ref (ad k)] (none : Option Value) (mk X ad (f_X3_copyFrom i k ω)) := by
  refine ct_of [(0, .ref (ad i)), (1, .ref (ad k))] (by decide +kernel) rfl rfl (Nat.le_of_ble_eq_true rfl) rfl ?_
  intro p_ e_ s_ m_ args_ below_ meth_ c_ C hret hlk hin
  have e1 : (none : Option Value) = (none : Option Value) := rfl
  have e2 : mk X ad (f_X3_copyFrom i k ω) = mk X ad (f_X3_copyFrom i k ω) := rfl
  have iX3 : ∀ w ∈ u_ws RX3 TX3 3, w ∈ wsX3_copyFrom := by decide +kernel
  have IX7 : Cond.initialized RX7 ∈ wsX3_copyFrom := by decide +kernel
  have L13 : Cond.fieldLink RX3 13 (TX3 1).1 (TX3 1).2.1 (TX3 1).2.2.1 ∈ wsX3_copyFrom := by decide +kernel
  have L16 : Cond.fieldLink RX3 16 (TX3 2).1 (TX3 2).2.1 (TX3 2).2.2.1 ∈ wsX3_copyFrom := by decide +kernel
  have L9 : Cond.fieldLink RX3 9 (TX3 0).1 (TX3 0).2.1 (TX3 0).2.2.1 ∈ wsX3_copyFrom := by decide +kernel
  have TX7_copyRow : Cond.static yX7_copyRow ∈ wsX3_copyFrom := by decide +kernel
  refine g_aload_n C dX3_copyFrom_0 rfl 1 rfl ?_
  refine g_get (v := .ref (ad (k + 1))) C iX3 (hk).1 (mk_5 (hk).2.1) rfl 0 (by decide) L9 rfl dX3_copyFrom_1 ?_
  refine g_aload_n C dX3_copyFrom_4 rfl 0 rfl ?_
  refine g_get (v := .ref (ad (i + 1))) C iX3 (hi).1 (mk_5 (hi).2.1) rfl 0 (by decide) L9 rfl dX3_copyFrom_5 ?_
  refine g_callSN (rest := []) (st1 := []) C (c_X7_copyRow 12 12 (k + 1) (i + 1) hk.2.2.1 hi.2.2.1 (by omega) (by omega) ω) (va_cnB 2 C.hts gX3_copyFrom_X7_copyRow_n20 rfl rfl rfl (nw3 C.hN) (C.hts _ IX7) md_X7_copyRow.2 ⟨Nat.le_of_ble_eq_true rfl, Nat.le_of_ble_eq_true rfl⟩) TX7_copyRow rfl rfl rfl (Nat.le_of_ble_eq_true rfl) dX3_copyFrom_8 (Nat.zero_le _) (Nat.zero_le _) ?_
  refine g_aload_n C dX3_copyFrom_11 rfl 1 rfl ?_
  refine g_get (v := .ref (ad (k + 2))) C iX3 (hk).1 (mk_5 (hk).2.1) rfl 1 (by decide) L13 rfl dX3_copyFrom_12 ?_
  refine g_aload_n C dX3_copyFrom_15 rfl 0 rfl ?_
  refine g_get (v := .ref (ad (i + 2))) C iX3 (hi).1 (mk_5 (hi).2.1) rfl 1 (by decide) L13 rfl dX3_copyFrom_16 ?_
  refine g_callSN (rest := []) (st1 := []) C (c_X7_copyRow 12 12 (k + 2) (i + 2) hk.2.2.2 hi.2.2.2 (by omega) (by omega) (f_X7_copyRow 12 12 (k + 1) (i + 1) ω)) (va_cnB 2 C.hts gX3_copyFrom_X7_copyRow_n20 rfl rfl rfl (nw3 C.hN) (C.hts _ IX7) md_X7_copyRow.2 ⟨Nat.le_of_ble_eq_true rfl, Nat.le_of_ble_eq_true rfl⟩) TX7_copyRow rfl rfl rfl (Nat.le_of_ble_eq_true rfl) dX3_copyFrom_19 (Nat.zero_le _) (Nat.zero_le _) ?_
  refine g_aload_n C dX3_copyFrom_22 rfl 0 rfl ?_
  refine g_aload_n C dX3_copyFrom_23 rfl 1 rfl ?_
  refine g_get (v := .int ((f_X7_copyRow 12 12 (k + 2) (i + 2) (f_X7_copyRow 12 12 (k + 1) (i + 1) ω)) k 2)) C iX3 (hk).1 (mk_5 (hk).2.1) rfl 2 (by decide) L16 rfl dX3_copyFrom_24 ?_
  refine g_put C iX3 tyX3 tyX3_ok nmX3 (hi).1 (mk_5 (hi).2.1) rfl 2 (by decide) L16 rfl rfl rfl (Nat.le_of_ble_eq_true rfl) dX3_copyFrom_27 ?_
  refine gv_eqG (mkp_5_2 (hi).2.1) ?_
  exact g_vret C hret hlk e1 (e2.trans (congrArg (mk X ad) rfl)) dX3_copyFrom_30
abbrev rm_X3_hasRoomFor : Room := { frames := 1, cells := 0, slots := 0, locals := 22 }
theorem md_X3_hasRoomFor : yX3_hasRoomFor.cls = RX3 ∧ yX3_hasRoomFor.cls ≠ "java/lang/invoke/MethodHandle" ∧ yX3_hasRoomFor.cls ≠ "java/lang/invoke/VarHandle" ∧ (parseMethodDescriptor yX3_hasRoomFor.desc).map (fun d => d.parameters.length) = some 1 := by decide +kernel
def f_X3_hasRoomFor (i : Nat) (t : Int32) (ω : Mem) : Int32 := (if (ω i 2) < 12 then 1 else (if (ω i 2) ≤ (f_X3_placeOf i t ω) then 0 else 1))
set_option maxRecDepth 100000 in
set_option maxHeartbeats 4000000 in
theorem c_X3_hasRoomFor {l_ : Launch} {sa : Nat → Nat} {D : va_G} {X : Nat → ClassId} {ad : Nat → Nat} (i : Nat) (t : Int32) (hi : isPl i) (ω : Mem) : CT l_ yX3_hasRoomFor wsX3_hasRoomFor rm_X3_hasRoomFor sa D (tyX X) 128 ad (mk X ad ω) [.ref (ad i), .int t] (some (.int (f_X3_hasRoomFor i t ω)) : Option Value) (mk X ad ω) := by
  refine ct_of [(0, .ref (ad i)), (1, .int t)] (by decide +kernel) rfl rfl (Nat.le_of_ble_eq_true rfl) rfl ?_
  intro p_ e_ s_ m_ args_ below_ meth_ c_ C hret hlk hin
  have e1 : (some (.int (f_X3_hasRoomFor i t ω)) : Option Value) = (some (.int (f_X3_hasRoomFor i t ω)) : Option Value) := rfl
  have e2 : mk X ad ω = mk X ad ω := rfl
  have iX3 : ∀ w ∈ u_ws RX3 TX3 3, w ∈ wsX3_hasRoomFor := by decide +kernel
  have L16 : Cond.fieldLink RX3 16 (TX3 2).1 (TX3 2).2.1 (TX3 2).2.2.1 ∈ wsX3_hasRoomFor := by decide +kernel
  refine g_aload_n C dX3_hasRoomFor_0 rfl 0 rfl ?_
  refine g_get (v := .int (ω i 2)) C iX3 (hi).1 (mk_5 (hi).2.1) rfl 2 (by decide) L16 rfl dX3_hasRoomFor_1 ?_
  refine g_bipush (v := 12) C dX3_hasRoomFor_4 (by decide) ?_
  refine g_icmp_lt (tgt := 21) C dX3_hasRoomFor_6 (by decide) (fun h1 => ?_) (fun h1 => ?_)
  · refine g_iconst (v := 1) C dX3_hasRoomFor_21 (by decide) ?_
    refine g_goto (tgt := 26) C dX3_hasRoomFor_22 (by decide) ?_
    exact g_zret C hret hlk (nar_b (by decide)).1 (e1.trans (congrArg (fun z => some (Value.int z)) ((if_pos h1).trans rfl))) e2 dX3_hasRoomFor_26
  · refine g_aload_n C dX3_hasRoomFor_9 rfl 0 rfl ?_
    refine g_iload_n C dX3_hasRoomFor_10 rfl 1 rfl ?_
    refine g_callV (rest := []) (st1 := [.int (f_X3_placeOf i t ω)]) C (c_X3_placeOf i t hi ω) (cwV 1 C.hts gX3_hasRoomFor_X3_placeOf rfl rfl rfl md_X3_placeOf ⟨Nat.le_of_ble_eq_true rfl, Nat.le_of_ble_eq_true rfl⟩) (hi).1 (mk_5 (hi).2.1) rfl rfl rfl rfl rfl (Nat.le_of_ble_eq_true rfl) dX3_hasRoomFor_11 (Nat.zero_le _) (Nat.zero_le _) ?_
    refine g_aload_n C dX3_hasRoomFor_14 rfl 0 rfl ?_
    refine g_get (v := .int (ω i 2)) C iX3 (hi).1 (mk_5 (hi).2.1) rfl 2 (by decide) L16 rfl dX3_hasRoomFor_15 ?_
    refine g_icmp_ge (tgt := 25) C dX3_hasRoomFor_18 (by decide) (fun h2 => ?_) (fun h2 => ?_)
    · refine g_iconst (v := 0) C dX3_hasRoomFor_25 (by decide) ?_
      exact g_zret C hret hlk (nar_b (by decide)).1 (e1.trans (congrArg (fun z => some (Value.int z)) ((if_neg h1).trans ((if_pos h2).trans rfl)))) e2 dX3_hasRoomFor_26
    · refine g_iconst (v := 1) C dX3_hasRoomFor_21 (by decide) ?_
      refine g_goto (tgt := 26) C dX3_hasRoomFor_22 (by decide) ?_
      exact g_zret C hret hlk (nar_b (by decide)).1 (e1.trans (congrArg (fun z => some (Value.int z)) ((if_neg h1).trans ((if_neg h2).trans rfl)))) e2 dX3_hasRoomFor_26
theorem z_X3_hasRoomFor {i : Nat} {t : Int32} {ω : Mem} : bb (f_X3_hasRoomFor i t ω) = f_X3_hasRoomFor i t ω := by
  unfold f_X3_hasRoomFor
  repeat' split
  all_goals first | with_reducible exact bb_bb _ | decide
abbrev rm_X3_holds : Room := { frames := 1, cells := 0, slots := 0, locals := 22 }
theorem md_X3_holds : yX3_holds.cls = RX3 ∧ yX3_holds.cls ≠ "java/lang/invoke/MethodHandle" ∧ yX3_holds.cls ≠ "java/lang/invoke/VarHandle" ∧ (parseMethodDescriptor yX3_holds.desc).map (fun d => d.parameters.length) = some 2 := by decide +kernel
def f_X3_holds (i : Nat) (t : Int32) (d : Int32) (ω : Mem) : Int32 := (if (ω i 2) ≤ (f_X3_placeOf i t ω) then 0 else (if (f_X7_elementAt 12 (i + 2) (f_X3_placeOf i t ω) ω) = d then 1 else 0))
set_option maxRecDepth 100000 in
set_option maxHeartbeats 4000000 in
theorem c_X3_holds {l_ : Launch} {sa : Nat → Nat} {D : va_G} {X : Nat → ClassId} {ad : Nat → Nat} (i : Nat) (t : Int32) (d : Int32) (hi : isPl i) (ω : Mem) : CT l_ yX3_holds wsX3_holds rm_X3_holds sa D (tyX X) 128 ad (mk X ad ω) [.ref (ad i), .int t, .int d] (some (.int (f_X3_holds i t d ω)) : Option Value) (mk X ad ω) := by
  refine ct_of [(0, .ref (ad i)), (1, .int t), (2, .int d)] (by decide +kernel) rfl rfl (Nat.le_of_ble_eq_true rfl) rfl ?_
  intro p_ e_ s_ m_ args_ below_ meth_ c_ C hret hlk hin
  have e1 : (some (.int (f_X3_holds i t d ω)) : Option Value) = (some (.int (f_X3_holds i t d ω)) : Option Value) := rfl
  have e2 : mk X ad ω = mk X ad ω := rfl
  have iX3 : ∀ w ∈ u_ws RX3 TX3 3, w ∈ wsX3_holds := by decide +kernel
  have IX7 : Cond.initialized RX7 ∈ wsX3_holds := by decide +kernel
  have L13 : Cond.fieldLink RX3 13 (TX3 1).1 (TX3 1).2.1 (TX3 1).2.2.1 ∈ wsX3_holds := by decide +kernel
  have L16 : Cond.fieldLink RX3 16 (TX3 2).1 (TX3 2).2.1 (TX3 2).2.2.1 ∈ wsX3_holds := by decide +kernel
  have TX7_elementAt : Cond.static yX7_elementAt ∈ wsX3_holds := by decide +kernel
  refine g_aload_n C dX3_holds_0 rfl 0 rfl ?_
  refine g_iload_n C dX3_holds_1 rfl 1 rfl ?_
  refine g_callV (rest := []) (st1 := [.int (f_X3_placeOf i t ω)]) C (c_X3_placeOf i t hi ω) (cwV 1 C.hts gX3_holds_X3_placeOf rfl rfl rfl md_X3_placeOf ⟨Nat.le_of_ble_eq_true rfl, Nat.le_of_ble_eq_true rfl⟩) (hi).1 (mk_5 (hi).2.1) rfl rfl rfl rfl rfl (Nat.le_of_ble_eq_true rfl) dX3_holds_2 (Nat.zero_le _) (Nat.zero_le _) ?_
  refine g_istore_n (lv' := [(3, .int (f_X3_placeOf i t ω)), (0, .ref (ad i)), (1, .int t), (2, .int d)]) C dX3_holds_5 rfl (by decide) rfl ?_
  refine g_iload_n C dX3_holds_6 rfl 0 rfl ?_
  refine g_aload_n C dX3_holds_7 rfl 1 rfl ?_
  refine g_get (v := .int (ω i 2)) C iX3 (hi).1 (mk_5 (hi).2.1) rfl 2 (by decide) L16 rfl dX3_holds_8 ?_
  refine g_icmp_ge (tgt := 30) C dX3_holds_11 (by decide) (fun h1 => ?_) (fun h1 => ?_)
  · refine g_iconst (v := 0) C dX3_holds_30 (by decide) ?_
    exact g_zret C hret hlk (nar_b (by decide)).1 (e1.trans (congrArg (fun z => some (Value.int z)) ((if_pos h1).trans rfl))) e2 dX3_holds_31
  · refine g_aload_n C dX3_holds_14 rfl 1 rfl ?_
    refine g_get (v := .ref (ad (i + 2))) C iX3 (hi).1 (mk_5 (hi).2.1) rfl 1 (by decide) L13 rfl dX3_holds_15 ?_
    refine g_iload_n C dX3_holds_18 rfl 0 rfl ?_
    refine g_callSN (rest := []) (st1 := [.int (f_X7_elementAt 12 (i + 2) (f_X3_placeOf i t ω) ω)]) C (c_X7_elementAt 12 (i + 2) (f_X3_placeOf i t ω) hi.2.2.2 (by omega) ω) (va_cnB 2 C.hts gX3_holds_X7_elementAt_n30 rfl rfl rfl (nw4 C.hN) (C.hts _ IX7) md_X7_elementAt.2 ⟨Nat.le_of_ble_eq_true rfl, Nat.le_of_ble_eq_true rfl⟩) TX7_elementAt rfl rfl rfl (Nat.le_of_ble_eq_true rfl) dX3_holds_19 (Nat.zero_le _) (Nat.zero_le _) ?_
    refine g_iload_n C dX3_holds_22 rfl 3 rfl ?_
    refine g_icmp_ne (tgt := 30) C dX3_holds_23 (by decide) (fun h2 => ?_) (fun h2 => ?_)
    · refine g_iconst (v := 0) C dX3_holds_30 (by decide) ?_
      exact g_zret C hret hlk (nar_b (by decide)).1 (e1.trans (congrArg (fun z => some (Value.int z)) ((if_neg h1).trans ((if_neg h2).trans rfl)))) e2 dX3_holds_31
    · refine g_iconst (v := 1) C dX3_holds_26 (by decide) ?_
      refine g_goto (tgt := 31) C dX3_holds_27 (by decide) ?_
      exact g_zret C hret hlk (nar_b (by decide)).1 (e1.trans (congrArg (fun z => some (Value.int z)) ((if_neg h1).trans ((if_pos h2).trans rfl)))) e2 dX3_holds_31
theorem z_X3_holds {i : Nat} {t : Int32} {d : Int32} {ω : Mem} : bb (f_X3_holds i t d ω) = f_X3_holds i t d ω := by
  unfold f_X3_holds
  repeat' split
  all_goals first | with_reducible exact bb_bb _ | decide
end
