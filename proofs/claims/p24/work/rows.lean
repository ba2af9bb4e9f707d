section
/-- a private method of a class that the tables say can be made, by its rows of tables_1 -/
def lw_okq (q : MethodName × Nat) : Prop := (q.1.cls ≠ "java/lang/invoke/MethodHandle" ∧ q.1.cls ≠ "java/lang/invoke/VarHandle") ∧ Cond.instantiable q.1.cls q.2 ∈ tables_1 ∧ Cond.privateMethod q.1 ∈ tables_1 ∧ Cond.instanceMethod q.1 ∈ tables_1
theorem lw_p0 : lw_okq (⟨"RollerMesh$Shop", "change", "(II)V"⟩, 1) := ⟨⟨by decide +kernel, by decide +kernel⟩, List.mem_of_getElem? (i := 19) (by decide +kernel), List.mem_of_getElem? (i := 162) (by decide +kernel), List.mem_of_getElem? (i := 163) (by decide +kernel)⟩
theorem lw_p1 : lw_okq (⟨"RollerMesh$Shop", "shape", "(III)V"⟩, 1) := ⟨⟨by decide +kernel, by decide +kernel⟩, List.mem_of_getElem? (i := 19) (by decide +kernel), List.mem_of_getElem? (i := 184) (by decide +kernel), List.mem_of_getElem? (i := 185) (by decide +kernel)⟩
theorem lw_p2 : lw_okq (⟨"RollerMesh$Shop", "raise", "(II)V"⟩, 1) := ⟨⟨by decide +kernel, by decide +kernel⟩, List.mem_of_getElem? (i := 19) (by decide +kernel), List.mem_of_getElem? (i := 188) (by decide +kernel), List.mem_of_getElem? (i := 189) (by decide +kernel)⟩
theorem lw_p3 : lw_okq (⟨"RollerMesh", "runCards", "(IIIIII)I"⟩, 6) := ⟨⟨by decide +kernel, by decide +kernel⟩, List.mem_of_getElem? (i := 11) (by decide +kernel), List.mem_of_getElem? (i := 236) (by decide +kernel), List.mem_of_getElem? (i := 237) (by decide +kernel)⟩
theorem lw_p4 : lw_okq (⟨"RollerMesh", "pairError", "(IIII)I"⟩, 6) := ⟨⟨by decide +kernel, by decide +kernel⟩, List.mem_of_getElem? (i := 11) (by decide +kernel), List.mem_of_getElem? (i := 240) (by decide +kernel), List.mem_of_getElem? (i := 241) (by decide +kernel)⟩
theorem lw_p5 : lw_okq (⟨"RollerMesh$Turn", "isSmoothAt", "(II)Z"⟩, 4) := ⟨⟨by decide +kernel, by decide +kernel⟩, List.mem_of_getElem? (i := 94) (by decide +kernel), List.mem_of_getElem? (i := 272) (by decide +kernel), List.mem_of_getElem? (i := 273) (by decide +kernel)⟩
theorem lw_p6 : lw_okq (⟨"RollerMesh$Shop", "wearDown", "(I)V"⟩, 1) := ⟨⟨by decide +kernel, by decide +kernel⟩, List.mem_of_getElem? (i := 19) (by decide +kernel), List.mem_of_getElem? (i := 307) (by decide +kernel), List.mem_of_getElem? (i := 308) (by decide +kernel)⟩
theorem lw_p7 : lw_okq (⟨"RollerMesh$Reader", "readValues", "()Z"⟩, 5) := ⟨⟨by decide +kernel, by decide +kernel⟩, List.mem_of_getElem? (i := 72) (by decide +kernel), List.mem_of_getElem? (i := 428) (by decide +kernel), List.mem_of_getElem? (i := 429) (by decide +kernel)⟩
theorem lw_p8 : lw_okq (⟨"RollerMesh$Reader", "readValue", "()Z"⟩, 5) := ⟨⟨by decide +kernel, by decide +kernel⟩, List.mem_of_getElem? (i := 72) (by decide +kernel), List.mem_of_getElem? (i := 432) (by decide +kernel), List.mem_of_getElem? (i := 433) (by decide +kernel)⟩
theorem lw_p9 : lw_okq (⟨"RollerMesh$Reader", "isDigit", "()Z"⟩, 5) := ⟨⟨by decide +kernel, by decide +kernel⟩, List.mem_of_getElem? (i := 72) (by decide +kernel), List.mem_of_getElem? (i := 436) (by decide +kernel), List.mem_of_getElem? (i := 437) (by decide +kernel)⟩
theorem lw_p10 : lw_okq (⟨"RollerMesh$Reader", "readDigit", "()I"⟩, 5) := ⟨⟨by decide +kernel, by decide +kernel⟩, List.mem_of_getElem? (i := 72) (by decide +kernel), List.mem_of_getElem? (i := 441) (by decide +kernel), List.mem_of_getElem? (i := 442) (by decide +kernel)⟩
theorem lw_p11 : lw_okq (⟨"RollerMesh$Reader", "note", "(I)V"⟩, 5) := ⟨⟨by decide +kernel, by decide +kernel⟩, List.mem_of_getElem? (i := 72) (by decide +kernel), List.mem_of_getElem? (i := 445) (by decide +kernel), List.mem_of_getElem? (i := 446) (by decide +kernel)⟩
theorem lw_p12 : lw_okq (⟨"RollerMesh$Reader", "readNumber", "()Z"⟩, 5) := ⟨⟨by decide +kernel, by decide +kernel⟩, List.mem_of_getElem? (i := 72) (by decide +kernel), List.mem_of_getElem? (i := 449) (by decide +kernel), List.mem_of_getElem? (i := 450) (by decide +kernel)⟩
theorem lw_p13 : lw_okq (⟨"RollerMesh", "obey", "()I"⟩, 6) := ⟨⟨by decide +kernel, by decide +kernel⟩, List.mem_of_getElem? (i := 11) (by decide +kernel), List.mem_of_getElem? (i := 456) (by decide +kernel), List.mem_of_getElem? (i := 457) (by decide +kernel)⟩
theorem lw_p14 : lw_okq (⟨"RollerMesh", "addRollerOfText", "()I"⟩, 6) := ⟨⟨by decide +kernel, by decide +kernel⟩, List.mem_of_getElem? (i := 11) (by decide +kernel), List.mem_of_getElem? (i := 464) (by decide +kernel), List.mem_of_getElem? (i := 465) (by decide +kernel)⟩
theorem lw_p15 : lw_okq (⟨"RollerMesh", "questionError", "(IIIIII)I"⟩, 6) := ⟨⟨by decide +kernel, by decide +kernel⟩, List.mem_of_getElem? (i := 11) (by decide +kernel), List.mem_of_getElem? (i := 485) (by decide +kernel), List.mem_of_getElem? (i := 486) (by decide +kernel)⟩
def lw_privs_1 : List (MethodName × Nat) := [(⟨"RollerMesh$Shop", "change", "(II)V"⟩, 1), (⟨"RollerMesh$Shop", "shape", "(III)V"⟩, 1), (⟨"RollerMesh$Shop", "raise", "(II)V"⟩, 1), (⟨"RollerMesh", "runCards", "(IIIIII)I"⟩, 6), (⟨"RollerMesh", "pairError", "(IIII)I"⟩, 6), (⟨"RollerMesh$Turn", "isSmoothAt", "(II)Z"⟩, 4), (⟨"RollerMesh$Shop", "wearDown", "(I)V"⟩, 1), (⟨"RollerMesh$Reader", "readValues", "()Z"⟩, 5), (⟨"RollerMesh$Reader", "readValue", "()Z"⟩, 5), (⟨"RollerMesh$Reader", "isDigit", "()Z"⟩, 5), (⟨"RollerMesh$Reader", "readDigit", "()I"⟩, 5), (⟨"RollerMesh$Reader", "note", "(I)V"⟩, 5), (⟨"RollerMesh$Reader", "readNumber", "()Z"⟩, 5), (⟨"RollerMesh", "obey", "()I"⟩, 6), (⟨"RollerMesh", "addRollerOfText", "()I"⟩, 6), (⟨"RollerMesh", "questionError", "(IIIIII)I"⟩, 6)]
theorem lw_r1 : ∀ q ∈ lw_privs_1, lw_okq q := List.forall_mem_cons.mpr ⟨lw_p0, List.forall_mem_cons.mpr ⟨lw_p1, List.forall_mem_cons.mpr ⟨lw_p2, List.forall_mem_cons.mpr ⟨lw_p3, List.forall_mem_cons.mpr ⟨lw_p4, List.forall_mem_cons.mpr ⟨lw_p5, List.forall_mem_cons.mpr ⟨lw_p6, List.forall_mem_cons.mpr ⟨lw_p7, List.forall_mem_cons.mpr ⟨lw_p8, List.forall_mem_cons.mpr ⟨lw_p9, List.forall_mem_cons.mpr ⟨lw_p10, List.forall_mem_cons.mpr ⟨lw_p11, List.forall_mem_cons.mpr ⟨lw_p12, List.forall_mem_cons.mpr ⟨lw_p13, List.forall_mem_cons.mpr ⟨lw_p14, List.forall_mem_cons.mpr ⟨lw_p15, fun _ h => absurd h List.not_mem_nil⟩⟩⟩⟩⟩⟩⟩⟩⟩⟩⟩⟩⟩⟩⟩⟩
theorem lw_p16 : lw_okq (⟨"RollerMesh", "gapToMesh", "(III)I"⟩, 6) := ⟨⟨by decide +kernel, by decide +kernel⟩, List.mem_of_getElem? (i := 11) (by decide +kernel), List.mem_of_getElem? (i := 511) (by decide +kernel), List.mem_of_getElem? (i := 512) (by decide +kernel)⟩
theorem lw_p17 : lw_okq (⟨"RollerMesh$Pad", "add", "(I)V"⟩, 2) := ⟨⟨by decide +kernel, by decide +kernel⟩, List.mem_of_getElem? (i := 59) (by decide +kernel), List.mem_of_getElem? (i := 545) (by decide +kernel), List.mem_of_getElem? (i := 546) (by decide +kernel)⟩
def lw_privs_2 : List (MethodName × Nat) := [(⟨"RollerMesh", "gapToMesh", "(III)I"⟩, 6), (⟨"RollerMesh$Pad", "add", "(I)V"⟩, 2)]
theorem lw_r2 : ∀ q ∈ lw_privs_2, lw_okq q := List.forall_mem_cons.mpr ⟨lw_p16, List.forall_mem_cons.mpr ⟨lw_p17, fun _ h => absurd h List.not_mem_nil⟩⟩
def lw_privs : List (MethodName × Nat) := lw_privs_1 ++ (lw_privs_2)
def lw_tbl : List Cond := k2_sels lw_privs ++ tables_1
theorem lw_privs_ok : ∀ q ∈ lw_privs, lw_okq q := by
  show ∀ q ∈ lw_privs_1 ++ (lw_privs_2), lw_okq q
  exact List.forall_mem_append.mpr ⟨lw_r1, lw_r2⟩
end
section
theorem goodIn_r {big : List Cond} (ws : List Cond) (ps : List Nat) (hp : ws = ps.filterMap (fun i => big[i]?)) (h : ws.all goodWord = true) : GoodIn big ws := by
  intro w hw
  have h1 := List.all_eq_true.mp h w hw
  rw [hp] at hw
  obtain ⟨i, -, hi⟩ := List.mem_filterMap.mp hw
  have hm : w ∈ big := by first | exact List.mem_of_getElem? hi | exact List.getElem?_mem hi
  exact ⟨hm, good_of_word h1⟩
theorem goodIn_app {big a b : List Cond} (ha : GoodIn big a) (hb : GoodIn big b) : GoodIn big (a ++ b) := fun w h => (List.mem_append.mp h).elim (ha w) (hb w)
theorem goodIn_ca {big a b : List Cond} {c : Cond} (ha : GoodIn big (c :: a)) (hb : GoodIn big b) : GoodIn big (c :: (a ++ b)) := fun w h => (List.mem_cons.mp h).elim (fun e => ha w (List.mem_cons.mpr (Or.inl e))) (fun h => (List.mem_append.mp h).elim (fun h => ha w (List.mem_cons.mpr (Or.inr h))) (hb w))
theorem goodIn_sub {big ws : List Cond} (hm : ∀ w ∈ ws, w ∈ big) (h : ws.all goodWord = true) : GoodIn big ws := fun w hw => ⟨hm w hw, good_of_word (List.all_eq_true.mp h w hw)⟩

def RX0 : String := "RollerMesh$History"
def TX0 : u_T := fun k => match k with
  | 0 => ("RollerMesh$History", "states", "[I", true)
  | 1 => ("RollerMesh$History", "free", "I", false)
  | _ => ("RollerMesh$History", "length", "I", false)
def tyX0 : Nat → FieldType := fun k => match k with
  | 0 => .array .int
  | 1 => .int
  | _ => .int
abbrev wsX00 : List Cond := u_ws RX0 TX0 3
theorem nmX0 : ∀ a, a < 3 → ∀ b, b < 3 → a ≠ b → (TX0 a).2.1 ≠ (TX0 b).2.1 := by decide +kernel
theorem tyX0_ok : ∀ k, k < 3 → parseFieldDescriptor (TX0 k).2.2.1 = some (tyX0 k) := by decide +kernel
abbrev cX0_init : ByteArray := prog_2_method_1_code
def yX0_init : MethodName := ⟨RX0, "<init>", "()V"⟩
abbrev cX0_length : ByteArray := prog_2_method_2_code
def yX0_length : MethodName := ⟨RX0, "length", "()I"⟩
abbrev cX0_prepare : ByteArray := prog_2_method_3_code
def yX0_prepare : MethodName := ⟨RX0, "prepare", "(LRollerMesh$Shop;)V"⟩
abbrev cX0_recorded : ByteArray := prog_2_method_4_code
def yX0_recorded : MethodName := ⟨RX0, "recorded", "(I)I"⟩
abbrev cX0_stepBack : ByteArray := prog_2_method_5_code
def yX0_stepBack : MethodName := ⟨RX0, "stepBack", "(LRollerMesh$Shop;)I"⟩
def RX1 : String := "RollerMesh$Pad"
def TX1 : u_T := fun k => match k with
  | 0 => ("RollerMesh$Pad", "codes", "[I", true)
  | _ => ("RollerMesh$Pad", "length", "I", false)
def tyX1 : Nat → FieldType := fun k => match k with
  | 0 => .array .int
  | _ => .int
abbrev wsX10 : List Cond := u_ws RX1 TX1 2
theorem nmX1 : ∀ a, a < 2 → ∀ b, b < 2 → a ≠ b → (TX1 a).2.1 ≠ (TX1 b).2.1 := by decide +kernel
theorem tyX1_ok : ∀ k, k < 2 → parseFieldDescriptor (TX1 k).2.2.1 = some (tyX1 k) := by decide +kernel
abbrev cX1_init : ByteArray := prog_3_method_1_code
def yX1_init : MethodName := ⟨RX1, "<init>", "()V"⟩
abbrev cX1_length : ByteArray := prog_3_method_2_code
def yX1_length : MethodName := ⟨RX1, "length", "()I"⟩
abbrev cX1_codeAt : ByteArray := prog_3_method_3_code
def yX1_codeAt : MethodName := ⟨RX1, "codeAt", "(I)I"⟩
abbrev cX1_clear : ByteArray := prog_3_method_4_code
def yX1_clear : MethodName := ⟨RX1, "clear", "()I"⟩
abbrev cX1_append : ByteArray := prog_3_method_5_code
def yX1_append : MethodName := ⟨RX1, "append", "(J)I"⟩
abbrev cX1_add : ByteArray := prog_3_method_6_code
def yX1_add : MethodName := ⟨RX1, "add", "(I)V"⟩
abbrev cX1_amountOf : ByteArray := prog_3_method_7_code
def yX1_amountOf : MethodName := ⟨RX1, "amountOf", "(J)I"⟩
abbrev cX1_codeIn : ByteArray := prog_3_method_8_code
def yX1_codeIn : MethodName := ⟨RX1, "codeIn", "(JI)I"⟩
def RX2 : String := "RollerMesh$Reader"
def TX2 : u_T := fun k => match k with
  | 0 => ("RollerMesh$Reader", "pad", "LRollerMesh$Pad;", true)
  | 1 => ("RollerMesh$Reader", "numbers", "[I", true)
  | 2 => ("RollerMesh$Reader", "amount", "I", false)
  | 3 => ("RollerMesh$Reader", "kind", "I", false)
  | _ => ("RollerMesh$Reader", "at", "I", false)
def tyX2 : Nat → FieldType := fun k => match k with
  | 0 => .object "RollerMesh$Pad"
  | 1 => .array .int
  | 2 => .int
  | 3 => .int
  | _ => .int
abbrev wsX20 : List Cond := u_ws RX2 TX2 5
theorem nmX2 : ∀ a, a < 5 → ∀ b, b < 5 → a ≠ b → (TX2 a).2.1 ≠ (TX2 b).2.1 := by decide +kernel
theorem tyX2_ok : ∀ k, k < 5 → parseFieldDescriptor (TX2 k).2.2.1 = some (tyX2 k) := by decide +kernel
abbrev cX2_init : ByteArray := prog_4_method_1_code
def yX2_init : MethodName := ⟨RX2, "<init>", "(LRollerMesh$Pad;)V"⟩
abbrev cX2_kind : ByteArray := prog_4_method_2_code
def yX2_kind : MethodName := ⟨RX2, "kind", "()I"⟩
abbrev cX2_numbers : ByteArray := prog_4_method_3_code
def yX2_numbers : MethodName := ⟨RX2, "numbers", "()I"⟩
abbrev cX2_number : ByteArray := prog_4_method_4_code
def yX2_number : MethodName := ⟨RX2, "number", "(I)I"⟩
abbrev cX2_begin : ByteArray := prog_4_method_5_code
def yX2_begin : MethodName := ⟨RX2, "begin", "()V"⟩
abbrev cX2_firstFault : ByteArray := prog_4_method_6_code
def yX2_firstFault : MethodName := ⟨RX2, "firstFault", "()I"⟩
abbrev cX2_readOrder : ByteArray := prog_4_method_7_code
def yX2_readOrder : MethodName := ⟨RX2, "readOrder", "()Z"⟩
abbrev cX2_skip : ByteArray := prog_4_method_8_code
def yX2_skip : MethodName := ⟨RX2, "skip", "(C)Z"⟩
abbrev cX2_readValues : ByteArray := prog_4_method_9_code
def yX2_readValues : MethodName := ⟨RX2, "readValues", "()Z"⟩
abbrev cX2_readValue : ByteArray := prog_4_method_10_code
def yX2_readValue : MethodName := ⟨RX2, "readValue", "()Z"⟩
abbrev cX2_readNumber : ByteArray := prog_4_method_11_code
def yX2_readNumber : MethodName := ⟨RX2, "readNumber", "()Z"⟩
abbrev cX2_isDigit : ByteArray := prog_4_method_12_code
def yX2_isDigit : MethodName := ⟨RX2, "isDigit", "()Z"⟩
abbrev cX2_readDigit : ByteArray := prog_4_method_13_code
def yX2_readDigit : MethodName := ⟨RX2, "readDigit", "()I"⟩
abbrev cX2_note : ByteArray := prog_4_method_14_code
def yX2_note : MethodName := ⟨RX2, "note", "(I)V"⟩
def RX3 : String := "RollerMesh$Shop"
def TX3 : u_T := fun k => match k with
  | _ => ("RollerMesh$Shop", "cells", "[I", true)
def tyX3 : Nat → FieldType := fun k => match k with
  | _ => .array .int
abbrev wsX30 : List Cond := u_ws RX3 TX3 1
theorem nmX3 : ∀ a, a < 1 → ∀ b, b < 1 → a ≠ b → (TX3 a).2.1 ≠ (TX3 b).2.1 := by decide +kernel
theorem tyX3_ok : ∀ k, k < 1 → parseFieldDescriptor (TX3 k).2.2.1 = some (tyX3 k) := by decide +kernel
abbrev cX3_init : ByteArray := prog_5_method_1_code
def yX3_init : MethodName := ⟨RX3, "<init>", "()V"⟩
abbrev cX3_cell : ByteArray := prog_5_method_2_code
def yX3_cell : MethodName := ⟨RX3, "cell", "(I)I"⟩
abbrev cX3_change : ByteArray := prog_5_method_3_code
def yX3_change : MethodName := ⟨RX3, "change", "(II)V"⟩
abbrev cX3_raise : ByteArray := prog_5_method_4_code
def yX3_raise : MethodName := ⟨RX3, "raise", "(II)V"⟩
abbrev cX3_setting : ByteArray := prog_5_method_5_code
def yX3_setting : MethodName := ⟨RX3, "setting", "(I)I"⟩
abbrev cX3_changeSetting : ByteArray := prog_5_method_6_code
def yX3_changeSetting : MethodName := ⟨RX3, "changeSetting", "(II)I"⟩
abbrev cX3_changeCard : ByteArray := prog_5_method_7_code
def yX3_changeCard : MethodName := ⟨RX3, "changeCard", "(II)I"⟩
abbrev cX3_has : ByteArray := prog_5_method_8_code
def yX3_has : MethodName := ⟨RX3, "has", "(I)Z"⟩
abbrev cX3_hasTooth : ByteArray := prog_5_method_9_code
def yX3_hasTooth : MethodName := ⟨RX3, "hasTooth", "(II)Z"⟩
abbrev cX3_placeOf : ByteArray := prog_5_method_10_code
def yX3_placeOf : MethodName := ⟨RX3, "placeOf", "(I)I"⟩
abbrev cX3_teeth : ByteArray := prog_5_method_11_code
def yX3_teeth : MethodName := ⟨RX3, "teeth", "(I)I"⟩
abbrev cX3_stepsSinceWorn : ByteArray := prog_5_method_12_code
def yX3_stepsSinceWorn : MethodName := ⟨RX3, "stepsSinceWorn", "(I)I"⟩
abbrev cX3_timesWorn : ByteArray := prog_5_method_13_code
def yX3_timesWorn : MethodName := ⟨RX3, "timesWorn", "(I)I"⟩
abbrev cX3_height : ByteArray := prog_5_method_14_code
def yX3_height : MethodName := ⟨RX3, "height", "(II)I"⟩
abbrev cX3_shape : ByteArray := prog_5_method_15_code
def yX3_shape : MethodName := ⟨RX3, "shape", "(III)V"⟩
abbrev cX3_addRoller : ByteArray := prog_5_method_16_code
def yX3_addRoller : MethodName := ⟨RX3, "addRoller", "(II)I"⟩
abbrev cX3_fileTooth : ByteArray := prog_5_method_17_code
def yX3_fileTooth : MethodName := ⟨RX3, "fileTooth", "(III)I"⟩
abbrev cX3_meltRoller : ByteArray := prog_5_method_18_code
def yX3_meltRoller : MethodName := ⟨RX3, "meltRoller", "(I)I"⟩
abbrev cX3_teethOfSign : ByteArray := prog_5_method_19_code
def yX3_teethOfSign : MethodName := ⟨RX3, "teethOfSign", "(II)I"⟩
abbrev cX3_greatestHeight : ByteArray := prog_5_method_20_code
def yX3_greatestHeight : MethodName := ⟨RX3, "greatestHeight", "(I)I"⟩
abbrev cX3_leastHeight : ByteArray := prog_5_method_21_code
def yX3_leastHeight : MethodName := ⟨RX3, "leastHeight", "(I)I"⟩
abbrev cX3_countRun : ByteArray := prog_5_method_22_code
def yX3_countRun : MethodName := ⟨RX3, "countRun", "(III)V"⟩
abbrev cX3_turnRoller : ByteArray := prog_5_method_23_code
def yX3_turnRoller : MethodName := ⟨RX3, "turnRoller", "(II)V"⟩
abbrev cX3_wearDown : ByteArray := prog_5_method_24_code
def yX3_wearDown : MethodName := ⟨RX3, "wearDown", "(I)V"⟩
abbrev cX3_copyTo : ByteArray := prog_5_method_25_code
def yX3_copyTo : MethodName := ⟨RX3, "copyTo", "([II)V"⟩
abbrev cX3_copyFrom : ByteArray := prog_5_method_26_code
def yX3_copyFrom : MethodName := ⟨RX3, "copyFrom", "([II)V"⟩
def RX4 : String := "RollerMesh$Slots"
def TX4 : u_T := fun k => match k with
  | 0 => ("RollerMesh$Slots", "states", "[I", true)
  | _ => ("RollerMesh$Slots", "filled", "I", false)
def tyX4 : Nat → FieldType := fun k => match k with
  | 0 => .array .int
  | _ => .int
abbrev wsX40 : List Cond := u_ws RX4 TX4 2
theorem nmX4 : ∀ a, a < 2 → ∀ b, b < 2 → a ≠ b → (TX4 a).2.1 ≠ (TX4 b).2.1 := by decide +kernel
theorem tyX4_ok : ∀ k, k < 2 → parseFieldDescriptor (TX4 k).2.2.1 = some (tyX4 k) := by decide +kernel
abbrev cX4_init : ByteArray := prog_6_method_1_code
def yX4_init : MethodName := ⟨RX4, "<init>", "()V"⟩
abbrev cX4_keep : ByteArray := prog_6_method_2_code
def yX4_keep : MethodName := ⟨RX4, "keep", "(ILRollerMesh$Shop;)I"⟩
abbrev cX4_fetch : ByteArray := prog_6_method_3_code
def yX4_fetch : MethodName := ⟨RX4, "fetch", "(ILRollerMesh$Shop;)I"⟩
def RX5 : String := "RollerMesh$Turn"
def TX5 : u_T := fun k => match k with
  | 0 => ("RollerMesh$Turn", "presses", "[I", true)
  | 1 => ("RollerMesh$Turn", "length", "I", false)
  | 2 => ("RollerMesh$Turn", "at", "I", false)
  | _ => ("RollerMesh$Turn", "taken", "I", false)
def tyX5 : Nat → FieldType := fun k => match k with
  | 0 => .array .int
  | 1 => .int
  | 2 => .int
  | _ => .int
abbrev wsX50 : List Cond := u_ws RX5 TX5 4
theorem nmX5 : ∀ a, a < 4 → ∀ b, b < 4 → a ≠ b → (TX5 a).2.1 ≠ (TX5 b).2.1 := by decide +kernel
theorem tyX5_ok : ∀ k, k < 4 → parseFieldDescriptor (TX5 k).2.2.1 = some (tyX5 k) := by decide +kernel
abbrev cX5_init : ByteArray := prog_7_method_1_code
def yX5_init : MethodName := ⟨RX5, "<init>", "()V"⟩
abbrev cX5_lay : ByteArray := prog_7_method_2_code
def yX5_lay : MethodName := ⟨RX5, "lay", "(LRollerMesh$Shop;IIII)V"⟩
abbrev cX5_leastMultiple : ByteArray := prog_7_method_3_code
def yX5_leastMultiple : MethodName := ⟨RX5, "leastMultiple", "(II)I"⟩
abbrev cX5_next : ByteArray := prog_7_method_4_code
def yX5_next : MethodName := ⟨RX5, "next", "(II)I"⟩
abbrev cX5_length : ByteArray := prog_7_method_5_code
def yX5_length : MethodName := ⟨RX5, "length", "()I"⟩
abbrev cX5_press : ByteArray := prog_7_method_6_code
def yX5_press : MethodName := ⟨RX5, "press", "(I)I"⟩
abbrev cX5_leastPress : ByteArray := prog_7_method_7_code
def yX5_leastPress : MethodName := ⟨RX5, "leastPress", "()I"⟩
abbrev cX5_greatestPress : ByteArray := prog_7_method_8_code
def yX5_greatestPress : MethodName := ⟨RX5, "greatestPress", "()I"⟩
abbrev cX5_isSmoothAt : ByteArray := prog_7_method_9_code
def yX5_isSmoothAt : MethodName := ⟨RX5, "isSmoothAt", "(II)Z"⟩
abbrev cX5_isSmooth : ByteArray := prog_7_method_10_code
def yX5_isSmooth : MethodName := ⟨RX5, "isSmooth", "(I)Z"⟩
abbrev cX5_firstBadStep : ByteArray := prog_7_method_11_code
def yX5_firstBadStep : MethodName := ⟨RX5, "firstBadStep", "(I)I"⟩
abbrev cX5_meshes : ByteArray := prog_7_method_12_code
def yX5_meshes : MethodName := ⟨RX5, "meshes", "(I)Z"⟩
abbrev cX5_begin : ByteArray := prog_7_method_13_code
def yX5_begin : MethodName := ⟨RX5, "begin", "()V"⟩
abbrev cX5_taken : ByteArray := prog_7_method_14_code
def yX5_taken : MethodName := ⟨RX5, "taken", "()I"⟩
abbrev cX5_tears : ByteArray := prog_7_method_15_code
def yX5_tears : MethodName := ⟨RX5, "tears", "(IIII)Z"⟩
def RX6 : String := "RollerMesh"
def TX6 : u_T := fun k => match k with
  | 0 => ("RollerMesh", "shop", "LRollerMesh$Shop;", true)
  | 1 => ("RollerMesh", "history", "LRollerMesh$History;", true)
  | 2 => ("RollerMesh", "slots", "LRollerMesh$Slots;", true)
  | 3 => ("RollerMesh", "pad", "LRollerMesh$Pad;", true)
  | 4 => ("RollerMesh", "reader", "LRollerMesh$Reader;", true)
  | _ => ("RollerMesh", "turn", "LRollerMesh$Turn;", true)
def tyX6 : Nat → FieldType := fun k => match k with
  | 0 => .object "RollerMesh$Shop"
  | 1 => .object "RollerMesh$History"
  | 2 => .object "RollerMesh$Slots"
  | 3 => .object "RollerMesh$Pad"
  | 4 => .object "RollerMesh$Reader"
  | _ => .object "RollerMesh$Turn"
abbrev wsX60 : List Cond := u_ws RX6 TX6 6
theorem nmX6 : ∀ a, a < 6 → ∀ b, b < 6 → a ≠ b → (TX6 a).2.1 ≠ (TX6 b).2.1 := by decide +kernel
theorem tyX6_ok : ∀ k, k < 6 → parseFieldDescriptor (TX6 k).2.2.1 = some (tyX6 k) := by decide +kernel
abbrev cX6_init : ByteArray := prog_1_method_1_code
def yX6_init : MethodName := ⟨RX6, "<init>", "()V"⟩
abbrev cX6_set : ByteArray := prog_1_method_2_code
def yX6_set : MethodName := ⟨RX6, "set", "(II)I"⟩
abbrev cX6_roller : ByteArray := prog_1_method_3_code
def yX6_roller : MethodName := ⟨RX6, "roller", "(II)I"⟩
abbrev cX6_file : ByteArray := prog_1_method_4_code
def yX6_file : MethodName := ⟨RX6, "file", "(III)I"⟩
abbrev cX6_melt : ByteArray := prog_1_method_5_code
def yX6_melt : MethodName := ⟨RX6, "melt", "(I)I"⟩
abbrev cX6_card : ByteArray := prog_1_method_6_code
def yX6_card : MethodName := ⟨RX6, "card", "(II)I"⟩
abbrev cX6_run : ByteArray := prog_1_method_7_code
def yX6_run : MethodName := ⟨RX6, "run", "(IIIIII)I"⟩
abbrev cX6_runCards : ByteArray := prog_1_method_8_code
def yX6_runCards : MethodName := ⟨RX6, "runCards", "(IIIIII)I"⟩
abbrev cX6_of : ByteArray := prog_1_method_9_code
def yX6_of : MethodName := ⟨RX6, "of", "(II)I"⟩
abbrev cX6_tooth : ByteArray := prog_1_method_10_code
def yX6_tooth : MethodName := ⟨RX6, "tooth", "(II)I"⟩
abbrev cX6_count : ByteArray := prog_1_method_11_code
def yX6_count : MethodName := ⟨RX6, "count", "(I)I"⟩
abbrev cX6_pair : ByteArray := prog_1_method_12_code
def yX6_pair : MethodName := ⟨RX6, "pair", "(IIIII)I"⟩
abbrev cX6_why : ByteArray := prog_1_method_13_code
def yX6_why : MethodName := ⟨RX6, "why", "(IIIII)I"⟩
abbrev cX6_leastGap : ByteArray := prog_1_method_14_code
def yX6_leastGap : MethodName := ⟨RX6, "leastGap", "(III)I"⟩
abbrev cX6_bestOffset : ByteArray := prog_1_method_15_code
def yX6_bestOffset : MethodName := ⟨RX6, "bestOffset", "(III)I"⟩
abbrev cX6_thickest : ByteArray := prog_1_method_16_code
def yX6_thickest : MethodName := ⟨RX6, "thickest", "(IIII)I"⟩
abbrev cX6_gapToMesh : ByteArray := prog_1_method_17_code
def yX6_gapToMesh : MethodName := ⟨RX6, "gapToMesh", "(III)I"⟩
abbrev cX6_questionError : ByteArray := prog_1_method_18_code
def yX6_questionError : MethodName := ⟨RX6, "questionError", "(IIIIII)I"⟩
abbrev cX6_pairError : ByteArray := prog_1_method_19_code
def yX6_pairError : MethodName := ⟨RX6, "pairError", "(IIII)I"⟩
abbrev cX6_outside : ByteArray := prog_1_method_20_code
def yX6_outside : MethodName := ⟨RX6, "outside", "(III)Z"⟩
abbrev cX6_put : ByteArray := prog_1_method_21_code
def yX6_put : MethodName := ⟨RX6, "put", "(J)I"⟩
abbrev cX6_wipe : ByteArray := prog_1_method_22_code
def yX6_wipe : MethodName := ⟨RX6, "wipe", "()I"⟩
abbrev cX6_fault : ByteArray := prog_1_method_23_code
def yX6_fault : MethodName := ⟨RX6, "fault", "()I"⟩
abbrev cX6_carryOut : ByteArray := prog_1_method_24_code
def yX6_carryOut : MethodName := ⟨RX6, "carryOut", "()I"⟩
abbrev cX6_obey : ByteArray := prog_1_method_25_code
def yX6_obey : MethodName := ⟨RX6, "obey", "()I"⟩
abbrev cX6_addRollerOfText : ByteArray := prog_1_method_26_code
def yX6_addRollerOfText : MethodName := ⟨RX6, "addRollerOfText", "()I"⟩
abbrev cX6_undo : ByteArray := prog_1_method_27_code
def yX6_undo : MethodName := ⟨RX6, "undo", "()I"⟩
abbrev cX6_save : ByteArray := prog_1_method_28_code
def yX6_save : MethodName := ⟨RX6, "save", "(I)I"⟩
abbrev cX6_restore : ByteArray := prog_1_method_29_code
def yX6_restore : MethodName := ⟨RX6, "restore", "(I)I"⟩
def RX7 : String := "RollerMeshModel"
def TX7 : u_T := fun k => match k with
  | _ => ("", "", "", false)
def tyX7 : Nat → FieldType := fun k => match k with
  | _ => .int
abbrev wsX70 : List Cond := u_ws RX7 TX7 0
theorem nmX7 : ∀ a, a < 0 → ∀ b, b < 0 → a ≠ b → (TX7 a).2.1 ≠ (TX7 b).2.1 := by decide +kernel
theorem tyX7_ok : ∀ k, k < 0 → parseFieldDescriptor (TX7 k).2.2.1 = some (tyX7 k) := by decide +kernel
def RJ9 : String := "java/lang/Math"
def TJ9 : u_T := fun k => match k with
  | _ => ("", "", "", false)
def tyJ9 : Nat → FieldType := fun k => match k with
  | _ => .int
abbrev wsJ90 : List Cond := u_ws RJ9 TJ9 0
theorem nmJ9 : ∀ a, a < 0 → ∀ b, b < 0 → a ≠ b → (TJ9 a).2.1 ≠ (TJ9 b).2.1 := by decide +kernel
theorem tyJ9_ok : ∀ k, k < 0 → parseFieldDescriptor (TJ9 k).2.2.1 = some (tyJ9 k) := by decide +kernel
abbrev cJ9_abs_0f7a4 : ByteArray := prog_10_method_59_code
def yJ9_abs_0f7a4 : MethodName := ⟨RJ9, "abs", "(I)I"⟩
abbrev cJ9_max_7cf53 : ByteArray := prog_10_method_65_code
def yJ9_max_7cf53 : MethodName := ⟨RJ9, "max", "(II)I"⟩
abbrev cJ9_min_7cf53 : ByteArray := prog_10_method_69_code
def yJ9_min_7cf53 : MethodName := ⟨RJ9, "min", "(II)I"⟩
def RJ10 : String := "java/lang/System"
def TJ10 : u_T := fun k => match k with
  | _ => ("", "", "", false)
def tyJ10 : Nat → FieldType := fun k => match k with
  | _ => .int
abbrev wsJ100 : List Cond := u_ws RJ10 TJ10 0
theorem nmJ10 : ∀ a, a < 0 → ∀ b, b < 0 → a ≠ b → (TJ10 a).2.1 ≠ (TJ10 b).2.1 := by decide +kernel
theorem tyJ10_ok : ∀ k, k < 0 → parseFieldDescriptor (TJ10 k).2.2.1 = some (tyJ10 k) := by decide +kernel
def RL : String := "RollerMeshLaw"
abbrev cL_part : ByteArray := method_2_code
def yL_part : MethodName := ⟨RL, "part", "(II)I"⟩
abbrev cL_drawn : ByteArray := method_3_code
def yL_drawn : MethodName := ⟨RL, "drawn", "([II)I"⟩
abbrev cL_seen : ByteArray := method_4_code
def yL_seen : MethodName := ⟨RL, "seen", "(LRollerMesh;)J"⟩
abbrev cL_refusesAny : ByteArray := method_5_code
def yL_refusesAny : MethodName := ⟨RL, "refusesAny", "(LRollerMesh;I)Z"⟩
abbrev cL_refused : ByteArray := method_6_code
def yL_refused : MethodName := ⟨RL, "refused", "(LRollerMesh;)Z"⟩
abbrev cL_mesh : ByteArray := method_7_code
def yL_mesh : MethodName := ⟨RL, "mesh", "()Z"⟩
abbrev cL_limits : ByteArray := method_8_code
def yL_limits : MethodName := ⟨RL, "limits", "()Z"⟩
abbrev cL_texts : ByteArray := method_9_code
def yL_texts : MethodName := ⟨RL, "texts", "()Z"⟩
abbrev cL_law : ByteArray := code
def yL_law : MethodName := ⟨RL, "law", "([I)Z"⟩
def wsX0_init : List Cond := .code yX0_init cX0_init 1 none :: ([.methodLink RX0 5 objectInit, .instanceMethod objectInit, .code objectInit ⟨#[0xb1]⟩ 1 none, .arrayClass .int, .fieldLink RX0 13 "RollerMesh$History" "states" "[I"] ++ wsX00)
def wsX0_length : List Cond := .code yX0_length cX0_length 1 (some .int) :: ([.fieldLink RX0 17 "RollerMesh$History" "length" "I"] ++ wsX00)
def wsX3_copyTo : List Cond := .code yX3_copyTo cX3_copyTo 3 none :: ([.fieldLink RX3 11 "RollerMesh$Shop" "cells" "[I", .methodLink RX3 70 arraycopyName, .native arraycopyName, .static arraycopyName, .initialized "java/lang/System"] ++ wsX30)
def wsX0_prepare : List Cond := .code yX0_prepare cX0_prepare 2 none :: ([.fieldLink RX0 13 "RollerMesh$History" "states" "[I", .fieldLink RX0 21 "RollerMesh$History" "free" "I", .methodLink RX0 24 yX3_copyTo, .instanceMethod yX3_copyTo, .selects RX3 yX3_copyTo yX3_copyTo, .initialized RX3, .code yX3_copyTo cX3_copyTo 3 none, .fieldLink RX3 11 "RollerMesh$Shop" "cells" "[I", .methodLink RX3 70 arraycopyName, .native arraycopyName, .static arraycopyName, .initialized "java/lang/System"] ++ wsX00 ++ wsX30)
def wsX0_recorded : List Cond := .code yX0_recorded cX0_recorded 2 (some .int) :: ([.fieldLink RX0 21 "RollerMesh$History" "free" "I", .fieldLink RX0 17 "RollerMesh$History" "length" "I", .methodLink RX0 28 Lib.Math.min.name, .static Lib.Math.min.name, .initialized "java/lang/Math", .code Lib.Math.min.name Lib.Math.min.code 2 (some .int)] ++ wsX00)
def wsX3_copyFrom : List Cond := .code yX3_copyFrom cX3_copyFrom 3 none :: ([.fieldLink RX3 11 "RollerMesh$Shop" "cells" "[I", .methodLink RX3 70 arraycopyName, .native arraycopyName, .static arraycopyName, .initialized "java/lang/System"] ++ wsX30)
def wsX0_stepBack : List Cond := .code yX0_stepBack cX0_stepBack 2 (some .int) :: ([.fieldLink RX0 17 "RollerMesh$History" "length" "I", .fieldLink RX0 21 "RollerMesh$History" "free" "I", .fieldLink RX0 13 "RollerMesh$History" "states" "[I", .methodLink RX0 34 yX3_copyFrom, .instanceMethod yX3_copyFrom, .selects RX3 yX3_copyFrom yX3_copyFrom, .initialized RX3, .code yX3_copyFrom cX3_copyFrom 3 none, .fieldLink RX3 11 "RollerMesh$Shop" "cells" "[I", .methodLink RX3 70 arraycopyName, .native arraycopyName, .static arraycopyName, .initialized "java/lang/System"] ++ wsX00 ++ wsX30)
def wsX1_init : List Cond := .code yX1_init cX1_init 1 none :: ([.methodLink RX1 3 objectInit, .instanceMethod objectInit, .code objectInit ⟨#[0xb1]⟩ 1 none, .arrayClass .int, .fieldLink RX1 11 "RollerMesh$Pad" "codes" "[I"] ++ wsX10)
def wsX1_length : List Cond := .code yX1_length cX1_length 1 (some .int) :: ([.fieldLink RX1 15 "RollerMesh$Pad" "length" "I"] ++ wsX10)
def wsX1_codeAt : List Cond := .code yX1_codeAt cX1_codeAt 2 (some .int) :: ([.fieldLink RX1 15 "RollerMesh$Pad" "length" "I", .fieldLink RX1 11 "RollerMesh$Pad" "codes" "[I"] ++ wsX10)
def wsX1_clear : List Cond := .code yX1_clear cX1_clear 2 (some .int) :: ([.fieldLink RX1 15 "RollerMesh$Pad" "length" "I"] ++ wsX10)
def wsX1_codeIn : List Cond := .code yX1_codeIn cX1_codeIn 3 (some .int) :: ([])
def wsX6_outside : List Cond := .code yX6_outside cX6_outside 3 (some .boolean) :: ([])
def wsX1_amountOf : List Cond := .code yX1_amountOf cX1_amountOf 4 (some .int) :: ([.methodLink RX1 23 yX1_codeIn, .static yX1_codeIn, .initialized RX1, .code yX1_codeIn cX1_codeIn 3 (some .int), .static yX6_outside, .initialized RX6, .code yX6_outside cX6_outside 3 (some .boolean)])
def wsX1_add : List Cond := .code yX1_add cX1_add 2 none :: ([.fieldLink RX1 15 "RollerMesh$Pad" "length" "I", .fieldLink RX1 11 "RollerMesh$Pad" "codes" "[I"] ++ wsX10)
def wsX1_append : List Cond := .code yX1_append cX1_append 5 (some .int) :: ([.fieldLink RX1 15 "RollerMesh$Pad" "length" "I", .methodLink RX1 19 yX1_amountOf, .static yX1_amountOf, .initialized RX1, .code yX1_amountOf cX1_amountOf 4 (some .int), .methodLink RX1 23 yX1_codeIn, .static yX1_codeIn, .code yX1_codeIn cX1_codeIn 3 (some .int), .static yX6_outside, .initialized RX6, .code yX6_outside cX6_outside 3 (some .boolean), .methodLink RX1 27 yX1_add, .instanceMethod yX1_add, .selects RX1 yX1_add yX1_add, .code yX1_add cX1_add 2 none, .fieldLink RX1 11 "RollerMesh$Pad" "codes" "[I"] ++ wsX10)
def wsX2_init : List Cond := .code yX2_init cX2_init 2 none :: ([.methodLink RX2 5 objectInit, .instanceMethod objectInit, .code objectInit ⟨#[0xb1]⟩ 1 none, .arrayClass .int, .fieldLink RX2 13 "RollerMesh$Reader" "numbers" "[I", .fieldLink RX2 17 "RollerMesh$Reader" "pad" "LRollerMesh$Pad;"] ++ wsX20)
def wsX2_kind : List Cond := .code yX2_kind cX2_kind 1 (some .int) :: ([.fieldLink RX2 21 "RollerMesh$Reader" "kind" "I"] ++ wsX20)
def wsX2_numbers : List Cond := .code yX2_numbers cX2_numbers 1 (some .int) :: ([.fieldLink RX2 25 "RollerMesh$Reader" "amount" "I"] ++ wsX20)
def wsX2_number : List Cond := .code yX2_number cX2_number 2 (some .int) :: ([.fieldLink RX2 13 "RollerMesh$Reader" "numbers" "[I"] ++ wsX20)
def wsX2_begin : List Cond := .code yX2_begin cX2_begin 1 none :: ([.fieldLink RX2 28 "RollerMesh$Reader" "at" "I"] ++ wsX20)
def wsX2_skip : List Cond := .code yX2_skip cX2_skip 2 (some .boolean) :: ([.fieldLink RX2 17 "RollerMesh$Reader" "pad" "LRollerMesh$Pad;", .fieldLink RX2 28 "RollerMesh$Reader" "at" "I", .methodLink RX2 46 yX1_codeAt, .instanceMethod yX1_codeAt, .selects RX1 yX1_codeAt yX1_codeAt, .initialized RX1, .code yX1_codeAt cX1_codeAt 2 (some .int), .fieldLink RX1 15 "RollerMesh$Pad" "length" "I", .fieldLink RX1 11 "RollerMesh$Pad" "codes" "[I"] ++ wsX20 ++ wsX10)
def wsX2_isDigit : List Cond := .code yX2_isDigit cX2_isDigit 1 (some .boolean) :: ([.fieldLink RX2 17 "RollerMesh$Reader" "pad" "LRollerMesh$Pad;", .fieldLink RX2 28 "RollerMesh$Reader" "at" "I", .methodLink RX2 46 yX1_codeAt, .instanceMethod yX1_codeAt, .selects RX1 yX1_codeAt yX1_codeAt, .initialized RX1, .code yX1_codeAt cX1_codeAt 2 (some .int), .fieldLink RX1 15 "RollerMesh$Pad" "length" "I", .fieldLink RX1 11 "RollerMesh$Pad" "codes" "[I", .static yX6_outside, .initialized RX6, .code yX6_outside cX6_outside 3 (some .boolean)] ++ wsX20 ++ wsX10)
def wsX2_readDigit : List Cond := .code yX2_readDigit cX2_readDigit 2 (some .int) :: ([.fieldLink RX2 17 "RollerMesh$Reader" "pad" "LRollerMesh$Pad;", .fieldLink RX2 28 "RollerMesh$Reader" "at" "I", .methodLink RX2 46 yX1_codeAt, .instanceMethod yX1_codeAt, .selects RX1 yX1_codeAt yX1_codeAt, .initialized RX1, .code yX1_codeAt cX1_codeAt 2 (some .int), .fieldLink RX1 15 "RollerMesh$Pad" "length" "I", .fieldLink RX1 11 "RollerMesh$Pad" "codes" "[I"] ++ wsX20 ++ wsX10)
def wsX2_note : List Cond := .code yX2_note cX2_note 2 none :: ([.fieldLink RX2 25 "RollerMesh$Reader" "amount" "I", .fieldLink RX2 13 "RollerMesh$Reader" "numbers" "[I"] ++ wsX20)
def wsX2_readValue_r1 : List Cond := [Cond.methodLink RX2 42 yX2_skip, Cond.instanceMethod yX2_skip, Cond.selects RX2 yX2_skip yX2_skip, Cond.initialized RX2, Cond.code yX2_skip cX2_skip 2 (some .boolean), Cond.fieldLink RX2 17 "RollerMesh$Reader" "pad" "LRollerMesh$Pad;", Cond.fieldLink RX2 28 "RollerMesh$Reader" "at" "I", Cond.methodLink RX2 46 yX1_codeAt, Cond.instanceMethod yX1_codeAt, Cond.selects RX1 yX1_codeAt yX1_codeAt, Cond.initialized RX1, Cond.code yX1_codeAt cX1_codeAt 2 (some .int), Cond.fieldLink RX1 15 "RollerMesh$Pad" "length" "I", Cond.fieldLink RX1 11 "RollerMesh$Pad" "codes" "[I", Cond.methodLink RX2 59 yX2_isDigit, Cond.instanceMethod yX2_isDigit, Cond.selects RX2 yX2_isDigit yX2_isDigit, Cond.code yX2_isDigit cX2_isDigit 1 (some .boolean), Cond.static yX6_outside, Cond.initialized RX6, Cond.code yX6_outside cX6_outside 3 (some .boolean), Cond.methodLink RX2 62 yX2_readDigit, Cond.instanceMethod yX2_readDigit, Cond.selects RX2 yX2_readDigit yX2_readDigit]
def wsX2_readValue_r2 : List Cond := [Cond.code yX2_readDigit cX2_readDigit 2 (some .int), Cond.methodLink RX2 65 yX2_note, Cond.instanceMethod yX2_note, Cond.selects RX2 yX2_note yX2_note, Cond.code yX2_note cX2_note 2 none, Cond.fieldLink RX2 25 "RollerMesh$Reader" "amount" "I", Cond.fieldLink RX2 13 "RollerMesh$Reader" "numbers" "[I"]
def wsX2_readValue : List Cond := .code yX2_readValue cX2_readValue 2 (some .boolean) :: ((wsX2_readValue_r1 ++ wsX2_readValue_r2) ++ wsX20 ++ wsX10)
def wsX2_readValues_r1 : List Cond := [Cond.methodLink RX2 56 yX2_readValue, Cond.instanceMethod yX2_readValue, Cond.selects RX2 yX2_readValue yX2_readValue, Cond.initialized RX2, Cond.code yX2_readValue cX2_readValue 2 (some .boolean), Cond.methodLink RX2 42 yX2_skip, Cond.instanceMethod yX2_skip, Cond.selects RX2 yX2_skip yX2_skip, Cond.code yX2_skip cX2_skip 2 (some .boolean), Cond.fieldLink RX2 17 "RollerMesh$Reader" "pad" "LRollerMesh$Pad;", Cond.fieldLink RX2 28 "RollerMesh$Reader" "at" "I", Cond.methodLink RX2 46 yX1_codeAt, Cond.instanceMethod yX1_codeAt, Cond.selects RX1 yX1_codeAt yX1_codeAt, Cond.initialized RX1, Cond.code yX1_codeAt cX1_codeAt 2 (some .int), Cond.fieldLink RX1 15 "RollerMesh$Pad" "length" "I", Cond.fieldLink RX1 11 "RollerMesh$Pad" "codes" "[I", Cond.methodLink RX2 59 yX2_isDigit, Cond.instanceMethod yX2_isDigit, Cond.selects RX2 yX2_isDigit yX2_isDigit, Cond.code yX2_isDigit cX2_isDigit 1 (some .boolean), Cond.static yX6_outside, Cond.initialized RX6]
def wsX2_readValues_r2 : List Cond := [Cond.code yX6_outside cX6_outside 3 (some .boolean), Cond.methodLink RX2 62 yX2_readDigit, Cond.instanceMethod yX2_readDigit, Cond.selects RX2 yX2_readDigit yX2_readDigit, Cond.code yX2_readDigit cX2_readDigit 2 (some .int), Cond.methodLink RX2 65 yX2_note, Cond.instanceMethod yX2_note, Cond.selects RX2 yX2_note yX2_note, Cond.code yX2_note cX2_note 2 none, Cond.fieldLink RX2 25 "RollerMesh$Reader" "amount" "I", Cond.fieldLink RX2 13 "RollerMesh$Reader" "numbers" "[I"]
def wsX2_readValues : List Cond := .code yX2_readValues cX2_readValues 3 (some .boolean) :: ((wsX2_readValues_r1 ++ wsX2_readValues_r2) ++ wsX20 ++ wsX10)
def wsX2_readNumber_r1 : List Cond := [Cond.methodLink RX2 59 yX2_isDigit, Cond.instanceMethod yX2_isDigit, Cond.selects RX2 yX2_isDigit yX2_isDigit, Cond.initialized RX2, Cond.code yX2_isDigit cX2_isDigit 1 (some .boolean), Cond.fieldLink RX2 17 "RollerMesh$Reader" "pad" "LRollerMesh$Pad;", Cond.fieldLink RX2 28 "RollerMesh$Reader" "at" "I", Cond.methodLink RX2 46 yX1_codeAt, Cond.instanceMethod yX1_codeAt, Cond.selects RX1 yX1_codeAt yX1_codeAt, Cond.initialized RX1, Cond.code yX1_codeAt cX1_codeAt 2 (some .int), Cond.fieldLink RX1 15 "RollerMesh$Pad" "length" "I", Cond.fieldLink RX1 11 "RollerMesh$Pad" "codes" "[I", Cond.static yX6_outside, Cond.initialized RX6, Cond.code yX6_outside cX6_outside 3 (some .boolean), Cond.methodLink RX2 62 yX2_readDigit, Cond.instanceMethod yX2_readDigit, Cond.selects RX2 yX2_readDigit yX2_readDigit, Cond.code yX2_readDigit cX2_readDigit 2 (some .int), Cond.methodLink RX2 65 yX2_note, Cond.instanceMethod yX2_note, Cond.selects RX2 yX2_note yX2_note]
def wsX2_readNumber_r2 : List Cond := [Cond.code yX2_note cX2_note 2 none, Cond.fieldLink RX2 25 "RollerMesh$Reader" "amount" "I", Cond.fieldLink RX2 13 "RollerMesh$Reader" "numbers" "[I"]
def wsX2_readNumber : List Cond := .code yX2_readNumber cX2_readNumber 2 (some .boolean) :: ((wsX2_readNumber_r1 ++ wsX2_readNumber_r2) ++ wsX20 ++ wsX10)
def wsX2_readOrder_r1 : List Cond := [Cond.fieldLink RX2 25 "RollerMesh$Reader" "amount" "I", Cond.fieldLink RX2 17 "RollerMesh$Reader" "pad" "LRollerMesh$Pad;", Cond.fieldLink RX2 28 "RollerMesh$Reader" "at" "I", Cond.fieldLink RX2 21 "RollerMesh$Reader" "kind" "I", Cond.methodLink RX2 46 yX1_codeAt, Cond.instanceMethod yX1_codeAt, Cond.selects RX1 yX1_codeAt yX1_codeAt, Cond.initialized RX1, Cond.code yX1_codeAt cX1_codeAt 2 (some .int), Cond.fieldLink RX1 15 "RollerMesh$Pad" "length" "I", Cond.fieldLink RX1 11 "RollerMesh$Pad" "codes" "[I", Cond.methodLink RX2 42 yX2_skip, Cond.instanceMethod yX2_skip, Cond.selects RX2 yX2_skip yX2_skip, Cond.initialized RX2, Cond.code yX2_skip cX2_skip 2 (some .boolean), Cond.methodLink RX2 50 yX2_readValues, Cond.instanceMethod yX2_readValues, Cond.selects RX2 yX2_readValues yX2_readValues, Cond.code yX2_readValues cX2_readValues 3 (some .boolean), Cond.methodLink RX2 56 yX2_readValue, Cond.instanceMethod yX2_readValue, Cond.selects RX2 yX2_readValue yX2_readValue, Cond.code yX2_readValue cX2_readValue 2 (some .boolean)]
def wsX2_readOrder_r2 : List Cond := [Cond.methodLink RX2 59 yX2_isDigit, Cond.instanceMethod yX2_isDigit, Cond.selects RX2 yX2_isDigit yX2_isDigit, Cond.code yX2_isDigit cX2_isDigit 1 (some .boolean), Cond.static yX6_outside, Cond.initialized RX6, Cond.code yX6_outside cX6_outside 3 (some .boolean), Cond.methodLink RX2 62 yX2_readDigit, Cond.instanceMethod yX2_readDigit, Cond.selects RX2 yX2_readDigit yX2_readDigit, Cond.code yX2_readDigit cX2_readDigit 2 (some .int), Cond.methodLink RX2 65 yX2_note, Cond.instanceMethod yX2_note, Cond.selects RX2 yX2_note yX2_note, Cond.code yX2_note cX2_note 2 none, Cond.fieldLink RX2 13 "RollerMesh$Reader" "numbers" "[I", Cond.methodLink RX2 53 yX2_readNumber, Cond.instanceMethod yX2_readNumber, Cond.selects RX2 yX2_readNumber yX2_readNumber, Cond.code yX2_readNumber cX2_readNumber 2 (some .boolean)]
def wsX2_readOrder : List Cond := .code yX2_readOrder cX2_readOrder 1 (some .boolean) :: ((wsX2_readOrder_r1 ++ wsX2_readOrder_r2) ++ wsX20 ++ wsX10)
def wsX2_firstFault_r1 : List Cond := [Cond.fieldLink RX2 28 "RollerMesh$Reader" "at" "I", Cond.fieldLink RX2 17 "RollerMesh$Reader" "pad" "LRollerMesh$Pad;", Cond.methodLink RX2 31 yX2_begin, Cond.instanceMethod yX2_begin, Cond.selects RX2 yX2_begin yX2_begin, Cond.initialized RX2, Cond.code yX2_begin cX2_begin 1 none, Cond.methodLink RX2 34 yX2_readOrder, Cond.instanceMethod yX2_readOrder, Cond.selects RX2 yX2_readOrder yX2_readOrder, Cond.code yX2_readOrder cX2_readOrder 1 (some .boolean), Cond.fieldLink RX2 25 "RollerMesh$Reader" "amount" "I", Cond.fieldLink RX2 21 "RollerMesh$Reader" "kind" "I", Cond.methodLink RX2 46 yX1_codeAt, Cond.instanceMethod yX1_codeAt, Cond.selects RX1 yX1_codeAt yX1_codeAt, Cond.initialized RX1, Cond.code yX1_codeAt cX1_codeAt 2 (some .int), Cond.fieldLink RX1 15 "RollerMesh$Pad" "length" "I", Cond.fieldLink RX1 11 "RollerMesh$Pad" "codes" "[I", Cond.methodLink RX2 42 yX2_skip, Cond.instanceMethod yX2_skip, Cond.selects RX2 yX2_skip yX2_skip, Cond.code yX2_skip cX2_skip 2 (some .boolean)]
def wsX2_firstFault_r2 : List Cond := [Cond.methodLink RX2 50 yX2_readValues, Cond.instanceMethod yX2_readValues, Cond.selects RX2 yX2_readValues yX2_readValues, Cond.code yX2_readValues cX2_readValues 3 (some .boolean), Cond.methodLink RX2 56 yX2_readValue, Cond.instanceMethod yX2_readValue, Cond.selects RX2 yX2_readValue yX2_readValue, Cond.code yX2_readValue cX2_readValue 2 (some .boolean), Cond.methodLink RX2 59 yX2_isDigit, Cond.instanceMethod yX2_isDigit, Cond.selects RX2 yX2_isDigit yX2_isDigit, Cond.code yX2_isDigit cX2_isDigit 1 (some .boolean), Cond.static yX6_outside, Cond.initialized RX6, Cond.code yX6_outside cX6_outside 3 (some .boolean), Cond.methodLink RX2 62 yX2_readDigit, Cond.instanceMethod yX2_readDigit, Cond.selects RX2 yX2_readDigit yX2_readDigit, Cond.code yX2_readDigit cX2_readDigit 2 (some .int), Cond.methodLink RX2 65 yX2_note, Cond.instanceMethod yX2_note, Cond.selects RX2 yX2_note yX2_note, Cond.code yX2_note cX2_note 2 none, Cond.fieldLink RX2 13 "RollerMesh$Reader" "numbers" "[I"]
def wsX2_firstFault_r3 : List Cond := [Cond.methodLink RX2 53 yX2_readNumber, Cond.instanceMethod yX2_readNumber, Cond.selects RX2 yX2_readNumber yX2_readNumber, Cond.code yX2_readNumber cX2_readNumber 2 (some .boolean), Cond.methodLink RX2 38 yX1_length, Cond.instanceMethod yX1_length, Cond.selects RX1 yX1_length yX1_length, Cond.code yX1_length cX1_length 1 (some .int)]
def wsX2_firstFault : List Cond := .code yX2_firstFault cX2_firstFault 2 (some .int) :: ((wsX2_firstFault_r1 ++ (wsX2_firstFault_r2 ++ wsX2_firstFault_r3)) ++ wsX20 ++ wsX10)
def wsX3_init : List Cond := .code yX3_init cX3_init 1 none :: ([.methodLink RX3 5 objectInit, .instanceMethod objectInit, .code objectInit ⟨#[0xb1]⟩ 1 none, .arrayClass .int, .fieldLink RX3 11 "RollerMesh$Shop" "cells" "[I"] ++ wsX30)
def wsX3_cell : List Cond := .code yX3_cell cX3_cell 2 (some .int) :: ([.fieldLink RX3 11 "RollerMesh$Shop" "cells" "[I"] ++ wsX30)
def wsX3_change : List Cond := .code yX3_change cX3_change 3 none :: ([.fieldLink RX3 11 "RollerMesh$Shop" "cells" "[I"] ++ wsX30)
def wsX3_raise : List Cond := .code yX3_raise cX3_raise 3 none :: ([.methodLink RX3 15 yX3_cell, .instanceMethod yX3_cell, .selects RX3 yX3_cell yX3_cell, .initialized RX3, .code yX3_cell cX3_cell 2 (some .int), .fieldLink RX3 11 "RollerMesh$Shop" "cells" "[I", .methodLink RX3 19 yX3_change, .instanceMethod yX3_change, .selects RX3 yX3_change yX3_change, .code yX3_change cX3_change 3 none] ++ wsX30)
def wsX3_setting : List Cond := .code yX3_setting cX3_setting 2 (some .int) :: ([.methodLink RX3 15 yX3_cell, .instanceMethod yX3_cell, .selects RX3 yX3_cell yX3_cell, .initialized RX3, .code yX3_cell cX3_cell 2 (some .int), .fieldLink RX3 11 "RollerMesh$Shop" "cells" "[I"] ++ wsX30)
def wsX3_changeSetting : List Cond := .code yX3_changeSetting cX3_changeSetting 5 (some .int) :: ([.static yX6_outside, .initialized RX6, .code yX6_outside cX6_outside 3 (some .boolean), .methodLink RX3 27 yX3_setting, .instanceMethod yX3_setting, .selects RX3 yX3_setting yX3_setting, .initialized RX3, .code yX3_setting cX3_setting 2 (some .int), .methodLink RX3 15 yX3_cell, .instanceMethod yX3_cell, .selects RX3 yX3_cell yX3_cell, .code yX3_cell cX3_cell 2 (some .int), .fieldLink RX3 11 "RollerMesh$Shop" "cells" "[I", .methodLink RX3 19 yX3_change, .instanceMethod yX3_change, .selects RX3 yX3_change yX3_change, .code yX3_change cX3_change 3 none] ++ wsX30)
def wsX3_changeCard : List Cond := .code yX3_changeCard cX3_changeCard 4 (some .int) :: ([.static yX6_outside, .initialized RX6, .code yX6_outside cX6_outside 3 (some .boolean), .methodLink RX3 15 yX3_cell, .instanceMethod yX3_cell, .selects RX3 yX3_cell yX3_cell, .initialized RX3, .code yX3_cell cX3_cell 2 (some .int), .fieldLink RX3 11 "RollerMesh$Shop" "cells" "[I", .methodLink RX3 19 yX3_change, .instanceMethod yX3_change, .selects RX3 yX3_change yX3_change, .code yX3_change cX3_change 3 none] ++ wsX30)
def wsX3_has : List Cond := .code yX3_has cX3_has 2 (some .boolean) :: ([.methodLink RX3 15 yX3_cell, .instanceMethod yX3_cell, .selects RX3 yX3_cell yX3_cell, .initialized RX3, .code yX3_cell cX3_cell 2 (some .int), .fieldLink RX3 11 "RollerMesh$Shop" "cells" "[I"] ++ wsX30)
def wsX3_placeOf : List Cond := .code yX3_placeOf cX3_placeOf 1 (some .int) :: ([])
def wsX3_teeth : List Cond := .code yX3_teeth cX3_teeth 2 (some .int) :: ([.methodLink RX3 37 yX3_placeOf, .static yX3_placeOf, .initialized RX3, .code yX3_placeOf cX3_placeOf 1 (some .int), .methodLink RX3 15 yX3_cell, .instanceMethod yX3_cell, .selects RX3 yX3_cell yX3_cell, .code yX3_cell cX3_cell 2 (some .int), .fieldLink RX3 11 "RollerMesh$Shop" "cells" "[I"] ++ wsX30)
def wsX3_hasTooth : List Cond := .code yX3_hasTooth cX3_hasTooth 3 (some .boolean) :: ([.methodLink RX3 30 yX3_has, .instanceMethod yX3_has, .selects RX3 yX3_has yX3_has, .initialized RX3, .code yX3_has cX3_has 2 (some .boolean), .methodLink RX3 15 yX3_cell, .instanceMethod yX3_cell, .selects RX3 yX3_cell yX3_cell, .code yX3_cell cX3_cell 2 (some .int), .fieldLink RX3 11 "RollerMesh$Shop" "cells" "[I", .methodLink RX3 34 yX3_teeth, .instanceMethod yX3_teeth, .selects RX3 yX3_teeth yX3_teeth, .code yX3_teeth cX3_teeth 2 (some .int), .methodLink RX3 37 yX3_placeOf, .static yX3_placeOf, .code yX3_placeOf cX3_placeOf 1 (some .int)] ++ wsX30)
def wsX3_stepsSinceWorn : List Cond := .code yX3_stepsSinceWorn cX3_stepsSinceWorn 2 (some .int) :: ([.methodLink RX3 37 yX3_placeOf, .static yX3_placeOf, .initialized RX3, .code yX3_placeOf cX3_placeOf 1 (some .int), .methodLink RX3 15 yX3_cell, .instanceMethod yX3_cell, .selects RX3 yX3_cell yX3_cell, .code yX3_cell cX3_cell 2 (some .int), .fieldLink RX3 11 "RollerMesh$Shop" "cells" "[I"] ++ wsX30)
def wsX3_timesWorn : List Cond := .code yX3_timesWorn cX3_timesWorn 2 (some .int) :: ([.methodLink RX3 37 yX3_placeOf, .static yX3_placeOf, .initialized RX3, .code yX3_placeOf cX3_placeOf 1 (some .int), .methodLink RX3 15 yX3_cell, .instanceMethod yX3_cell, .selects RX3 yX3_cell yX3_cell, .code yX3_cell cX3_cell 2 (some .int), .fieldLink RX3 11 "RollerMesh$Shop" "cells" "[I"] ++ wsX30)
def wsX3_height : List Cond := .code yX3_height cX3_height 3 (some .int) :: ([.methodLink RX3 37 yX3_placeOf, .static yX3_placeOf, .initialized RX3, .code yX3_placeOf cX3_placeOf 1 (some .int), .methodLink RX3 15 yX3_cell, .instanceMethod yX3_cell, .selects RX3 yX3_cell yX3_cell, .code yX3_cell cX3_cell 2 (some .int), .fieldLink RX3 11 "RollerMesh$Shop" "cells" "[I"] ++ wsX30)
def wsX3_shape : List Cond := .code yX3_shape cX3_shape 4 none :: ([.methodLink RX3 37 yX3_placeOf, .static yX3_placeOf, .initialized RX3, .code yX3_placeOf cX3_placeOf 1 (some .int), .methodLink RX3 19 yX3_change, .instanceMethod yX3_change, .selects RX3 yX3_change yX3_change, .code yX3_change cX3_change 3 none, .fieldLink RX3 11 "RollerMesh$Shop" "cells" "[I"] ++ wsX30)
def wsX3_addRoller : List Cond := .code yX3_addRoller cX3_addRoller 5 (some .int) :: ([.static yX6_outside, .initialized RX6, .code yX6_outside cX6_outside 3 (some .boolean), .methodLink RX3 15 yX3_cell, .instanceMethod yX3_cell, .selects RX3 yX3_cell yX3_cell, .initialized RX3, .code yX3_cell cX3_cell 2 (some .int), .fieldLink RX3 11 "RollerMesh$Shop" "cells" "[I", .methodLink RX3 37 yX3_placeOf, .static yX3_placeOf, .code yX3_placeOf cX3_placeOf 1 (some .int), .methodLink RX3 19 yX3_change, .instanceMethod yX3_change, .selects RX3 yX3_change yX3_change, .code yX3_change cX3_change 3 none, .methodLink RX3 40 yX3_shape, .instanceMethod yX3_shape, .selects RX3 yX3_shape yX3_shape, .code yX3_shape cX3_shape 4 none, .methodLink RX3 44 yX3_raise, .instanceMethod yX3_raise, .selects RX3 yX3_raise yX3_raise, .code yX3_raise cX3_raise 3 none] ++ wsX30)
def wsX3_fileTooth_r1 : List Cond := [Cond.methodLink RX3 47 yX3_hasTooth, Cond.instanceMethod yX3_hasTooth, Cond.selects RX3 yX3_hasTooth yX3_hasTooth, Cond.initialized RX3, Cond.code yX3_hasTooth cX3_hasTooth 3 (some .boolean), Cond.methodLink RX3 30 yX3_has, Cond.instanceMethod yX3_has, Cond.selects RX3 yX3_has yX3_has, Cond.code yX3_has cX3_has 2 (some .boolean), Cond.methodLink RX3 15 yX3_cell, Cond.instanceMethod yX3_cell, Cond.selects RX3 yX3_cell yX3_cell, Cond.code yX3_cell cX3_cell 2 (some .int), Cond.fieldLink RX3 11 "RollerMesh$Shop" "cells" "[I", Cond.methodLink RX3 34 yX3_teeth, Cond.instanceMethod yX3_teeth, Cond.selects RX3 yX3_teeth yX3_teeth, Cond.code yX3_teeth cX3_teeth 2 (some .int), Cond.methodLink RX3 37 yX3_placeOf, Cond.static yX3_placeOf, Cond.code yX3_placeOf cX3_placeOf 1 (some .int), Cond.static yX6_outside, Cond.initialized RX6, Cond.code yX6_outside cX6_outside 3 (some .boolean)]
def wsX3_fileTooth_r2 : List Cond := [Cond.methodLink RX3 51 yX3_height, Cond.instanceMethod yX3_height, Cond.selects RX3 yX3_height yX3_height, Cond.code yX3_height cX3_height 3 (some .int), Cond.methodLink RX3 40 yX3_shape, Cond.instanceMethod yX3_shape, Cond.selects RX3 yX3_shape yX3_shape, Cond.code yX3_shape cX3_shape 4 none, Cond.methodLink RX3 19 yX3_change, Cond.instanceMethod yX3_change, Cond.selects RX3 yX3_change yX3_change, Cond.code yX3_change cX3_change 3 none]
def wsX3_fileTooth : List Cond := .code yX3_fileTooth cX3_fileTooth 5 (some .int) :: ((wsX3_fileTooth_r1 ++ wsX3_fileTooth_r2) ++ wsX30)
def wsX3_meltRoller : List Cond := .code yX3_meltRoller cX3_meltRoller 4 (some .int) :: ([.methodLink RX3 30 yX3_has, .instanceMethod yX3_has, .selects RX3 yX3_has yX3_has, .initialized RX3, .code yX3_has cX3_has 2 (some .boolean), .methodLink RX3 15 yX3_cell, .instanceMethod yX3_cell, .selects RX3 yX3_cell yX3_cell, .code yX3_cell cX3_cell 2 (some .int), .fieldLink RX3 11 "RollerMesh$Shop" "cells" "[I", .methodLink RX3 37 yX3_placeOf, .static yX3_placeOf, .code yX3_placeOf cX3_placeOf 1 (some .int), .methodLink RX3 19 yX3_change, .instanceMethod yX3_change, .selects RX3 yX3_change yX3_change, .code yX3_change cX3_change 3 none] ++ wsX30)
def wsX3_teethOfSign : List Cond := .code yX3_teethOfSign cX3_teethOfSign 5 (some .int) :: ([.methodLink RX3 34 yX3_teeth, .instanceMethod yX3_teeth, .selects RX3 yX3_teeth yX3_teeth, .initialized RX3, .code yX3_teeth cX3_teeth 2 (some .int), .methodLink RX3 37 yX3_placeOf, .static yX3_placeOf, .code yX3_placeOf cX3_placeOf 1 (some .int), .methodLink RX3 15 yX3_cell, .instanceMethod yX3_cell, .selects RX3 yX3_cell yX3_cell, .code yX3_cell cX3_cell 2 (some .int), .fieldLink RX3 11 "RollerMesh$Shop" "cells" "[I", .methodLink RX3 51 yX3_height, .instanceMethod yX3_height, .selects RX3 yX3_height yX3_height, .code yX3_height cX3_height 3 (some .int)] ++ wsX30)
def wsX3_greatestHeight : List Cond := .code yX3_greatestHeight cX3_greatestHeight 4 (some .int) :: ([.methodLink RX3 55 Lib.Math.max.name, .static Lib.Math.max.name, .initialized "java/lang/Math", .code Lib.Math.max.name Lib.Math.max.code 2 (some .int), .methodLink RX3 51 yX3_height, .instanceMethod yX3_height, .selects RX3 yX3_height yX3_height, .initialized RX3, .code yX3_height cX3_height 3 (some .int), .methodLink RX3 37 yX3_placeOf, .static yX3_placeOf, .code yX3_placeOf cX3_placeOf 1 (some .int), .methodLink RX3 15 yX3_cell, .instanceMethod yX3_cell, .selects RX3 yX3_cell yX3_cell, .code yX3_cell cX3_cell 2 (some .int), .fieldLink RX3 11 "RollerMesh$Shop" "cells" "[I", .methodLink RX3 34 yX3_teeth, .instanceMethod yX3_teeth, .selects RX3 yX3_teeth yX3_teeth, .code yX3_teeth cX3_teeth 2 (some .int)] ++ wsX30)
def wsX3_leastHeight : List Cond := .code yX3_leastHeight cX3_leastHeight 4 (some .int) :: ([.methodLink RX3 60 Lib.Math.min.name, .static Lib.Math.min.name, .initialized "java/lang/Math", .code Lib.Math.min.name Lib.Math.min.code 2 (some .int), .methodLink RX3 51 yX3_height, .instanceMethod yX3_height, .selects RX3 yX3_height yX3_height, .initialized RX3, .code yX3_height cX3_height 3 (some .int), .methodLink RX3 37 yX3_placeOf, .static yX3_placeOf, .code yX3_placeOf cX3_placeOf 1 (some .int), .methodLink RX3 15 yX3_cell, .instanceMethod yX3_cell, .selects RX3 yX3_cell yX3_cell, .code yX3_cell cX3_cell 2 (some .int), .fieldLink RX3 11 "RollerMesh$Shop" "cells" "[I", .methodLink RX3 34 yX3_teeth, .instanceMethod yX3_teeth, .selects RX3 yX3_teeth yX3_teeth, .code yX3_teeth cX3_teeth 2 (some .int)] ++ wsX30)
def wsX3_countRun : List Cond := .code yX3_countRun cX3_countRun 4 none :: ([.methodLink RX3 44 yX3_raise, .instanceMethod yX3_raise, .selects RX3 yX3_raise yX3_raise, .initialized RX3, .code yX3_raise cX3_raise 3 none, .methodLink RX3 15 yX3_cell, .instanceMethod yX3_cell, .selects RX3 yX3_cell yX3_cell, .code yX3_cell cX3_cell 2 (some .int), .fieldLink RX3 11 "RollerMesh$Shop" "cells" "[I", .methodLink RX3 19 yX3_change, .instanceMethod yX3_change, .selects RX3 yX3_change yX3_change, .code yX3_change cX3_change 3 none] ++ wsX30)
def wsX3_wearDown_r1 : List Cond := [Cond.methodLink RX3 34 yX3_teeth, Cond.instanceMethod yX3_teeth, Cond.selects RX3 yX3_teeth yX3_teeth, Cond.initialized RX3, Cond.code yX3_teeth cX3_teeth 2 (some .int), Cond.methodLink RX3 37 yX3_placeOf, Cond.static yX3_placeOf, Cond.code yX3_placeOf cX3_placeOf 1 (some .int), Cond.methodLink RX3 15 yX3_cell, Cond.instanceMethod yX3_cell, Cond.selects RX3 yX3_cell yX3_cell, Cond.code yX3_cell cX3_cell 2 (some .int), Cond.fieldLink RX3 11 "RollerMesh$Shop" "cells" "[I", Cond.methodLink RX3 51 yX3_height, Cond.instanceMethod yX3_height, Cond.selects RX3 yX3_height yX3_height, Cond.code yX3_height cX3_height 3 (some .int), Cond.methodLink RX3 40 yX3_shape, Cond.instanceMethod yX3_shape, Cond.selects RX3 yX3_shape yX3_shape, Cond.code yX3_shape cX3_shape 4 none, Cond.methodLink RX3 19 yX3_change, Cond.instanceMethod yX3_change, Cond.selects RX3 yX3_change yX3_change]
def wsX3_wearDown_r2 : List Cond := [Cond.code yX3_change cX3_change 3 none, Cond.methodLink RX3 44 yX3_raise, Cond.instanceMethod yX3_raise, Cond.selects RX3 yX3_raise yX3_raise, Cond.code yX3_raise cX3_raise 3 none]
def wsX3_wearDown : List Cond := .code yX3_wearDown cX3_wearDown 5 none :: ((wsX3_wearDown_r1 ++ wsX3_wearDown_r2) ++ wsX30)
def wsX3_turnRoller_r1 : List Cond := [Cond.methodLink RX3 37 yX3_placeOf, Cond.static yX3_placeOf, Cond.initialized RX3, Cond.code yX3_placeOf cX3_placeOf 1 (some .int), Cond.methodLink RX3 44 yX3_raise, Cond.instanceMethod yX3_raise, Cond.selects RX3 yX3_raise yX3_raise, Cond.code yX3_raise cX3_raise 3 none, Cond.methodLink RX3 15 yX3_cell, Cond.instanceMethod yX3_cell, Cond.selects RX3 yX3_cell yX3_cell, Cond.code yX3_cell cX3_cell 2 (some .int), Cond.fieldLink RX3 11 "RollerMesh$Shop" "cells" "[I", Cond.methodLink RX3 19 yX3_change, Cond.instanceMethod yX3_change, Cond.selects RX3 yX3_change yX3_change, Cond.code yX3_change cX3_change 3 none, Cond.methodLink RX3 63 yX3_stepsSinceWorn, Cond.instanceMethod yX3_stepsSinceWorn, Cond.selects RX3 yX3_stepsSinceWorn yX3_stepsSinceWorn, Cond.code yX3_stepsSinceWorn cX3_stepsSinceWorn 2 (some .int), Cond.methodLink RX3 27 yX3_setting, Cond.instanceMethod yX3_setting, Cond.selects RX3 yX3_setting yX3_setting]
def wsX3_turnRoller_r2 : List Cond := [Cond.code yX3_setting cX3_setting 2 (some .int), Cond.methodLink RX3 34 yX3_teeth, Cond.instanceMethod yX3_teeth, Cond.selects RX3 yX3_teeth yX3_teeth, Cond.code yX3_teeth cX3_teeth 2 (some .int), Cond.methodLink RX3 66 yX3_wearDown, Cond.instanceMethod yX3_wearDown, Cond.selects RX3 yX3_wearDown yX3_wearDown, Cond.code yX3_wearDown cX3_wearDown 5 none, Cond.methodLink RX3 51 yX3_height, Cond.instanceMethod yX3_height, Cond.selects RX3 yX3_height yX3_height, Cond.code yX3_height cX3_height 3 (some .int), Cond.methodLink RX3 40 yX3_shape, Cond.instanceMethod yX3_shape, Cond.selects RX3 yX3_shape yX3_shape, Cond.code yX3_shape cX3_shape 4 none]
def wsX3_turnRoller : List Cond := .code yX3_turnRoller cX3_turnRoller 3 none :: ((wsX3_turnRoller_r1 ++ wsX3_turnRoller_r2) ++ wsX30)
def wsX4_init : List Cond := .code yX4_init cX4_init 1 none :: ([.methodLink RX4 3 objectInit, .instanceMethod objectInit, .code objectInit ⟨#[0xb1]⟩ 1 none, .arrayClass .int, .fieldLink RX4 13 "RollerMesh$Slots" "states" "[I"] ++ wsX40)
def wsX4_keep : List Cond := .code yX4_keep cX4_keep 3 (some .int) :: ([.fieldLink RX4 13 "RollerMesh$Slots" "states" "[I", .fieldLink RX4 25 "RollerMesh$Slots" "filled" "I", .static yX6_outside, .initialized RX6, .code yX6_outside cX6_outside 3 (some .boolean), .methodLink RX4 21 yX3_copyTo, .instanceMethod yX3_copyTo, .selects RX3 yX3_copyTo yX3_copyTo, .initialized RX3, .code yX3_copyTo cX3_copyTo 3 none, .fieldLink RX3 11 "RollerMesh$Shop" "cells" "[I", .methodLink RX3 70 arraycopyName, .native arraycopyName, .static arraycopyName, .initialized "java/lang/System", .methodLink RX4 29 yX3_cell, .instanceMethod yX3_cell, .selects RX3 yX3_cell yX3_cell, .code yX3_cell cX3_cell 2 (some .int)] ++ wsX40 ++ wsX30)
def wsX4_fetch : List Cond := .code yX4_fetch cX4_fetch 3 (some .int) :: ([.fieldLink RX4 25 "RollerMesh$Slots" "filled" "I", .fieldLink RX4 13 "RollerMesh$Slots" "states" "[I", .static yX6_outside, .initialized RX6, .code yX6_outside cX6_outside 3 (some .boolean), .methodLink RX4 33 yX3_copyFrom, .instanceMethod yX3_copyFrom, .selects RX3 yX3_copyFrom yX3_copyFrom, .initialized RX3, .code yX3_copyFrom cX3_copyFrom 3 none, .fieldLink RX3 11 "RollerMesh$Shop" "cells" "[I", .methodLink RX3 70 arraycopyName, .native arraycopyName, .static arraycopyName, .initialized "java/lang/System", .methodLink RX4 29 yX3_cell, .instanceMethod yX3_cell, .selects RX3 yX3_cell yX3_cell, .code yX3_cell cX3_cell 2 (some .int)] ++ wsX40 ++ wsX30)
def wsX5_init : List Cond := .code yX5_init cX5_init 1 none :: ([.methodLink RX5 3 objectInit, .instanceMethod objectInit, .code objectInit ⟨#[0xb1]⟩ 1 none, .arrayClass .int, .fieldLink RX5 11 "RollerMesh$Turn" "presses" "[I"] ++ wsX50)
def wsX5_leastMultiple : List Cond := .code yX5_leastMultiple cX5_leastMultiple 3 (some .int) :: ([])
def wsX5_next : List Cond := .code yX5_next cX5_next 2 (some .int) :: ([])
def wsX5_lay_r1 : List Cond := [Cond.methodLink RX5 25 Lib.Math.min.name, Cond.static Lib.Math.min.name, Cond.initialized "java/lang/Math", Cond.code Lib.Math.min.name Lib.Math.min.code 2 (some .int), Cond.fieldLink RX5 30 "RollerMesh$Turn" "length" "I", Cond.fieldLink RX5 11 "RollerMesh$Turn" "presses" "[I", Cond.methodLink RX5 15 yX3_teeth, Cond.instanceMethod yX3_teeth, Cond.selects RX3 yX3_teeth yX3_teeth, Cond.initialized RX3, Cond.code yX3_teeth cX3_teeth 2 (some .int), Cond.methodLink RX3 37 yX3_placeOf, Cond.static yX3_placeOf, Cond.code yX3_placeOf cX3_placeOf 1 (some .int), Cond.methodLink RX3 15 yX3_cell, Cond.instanceMethod yX3_cell, Cond.selects RX3 yX3_cell yX3_cell, Cond.code yX3_cell cX3_cell 2 (some .int), Cond.fieldLink RX3 11 "RollerMesh$Shop" "cells" "[I", Cond.methodLink RX5 21 yX5_leastMultiple, Cond.static yX5_leastMultiple, Cond.initialized RX5, Cond.code yX5_leastMultiple cX5_leastMultiple 3 (some .int), Cond.methodLink RX5 34 yX3_height]
def wsX5_lay_r2 : List Cond := [Cond.instanceMethod yX3_height, Cond.selects RX3 yX3_height yX3_height, Cond.code yX3_height cX3_height 3 (some .int), Cond.methodLink RX5 37 yX5_next, Cond.static yX5_next, Cond.code yX5_next cX5_next 2 (some .int)]
def wsX5_lay : List Cond := .code yX5_lay cX5_lay 11 none :: ((wsX5_lay_r1 ++ wsX5_lay_r2) ++ wsX50 ++ wsX30)
def wsX5_length : List Cond := .code yX5_length cX5_length 1 (some .int) :: ([.fieldLink RX5 30 "RollerMesh$Turn" "length" "I"] ++ wsX50)
def wsX5_press : List Cond := .code yX5_press cX5_press 2 (some .int) :: ([.fieldLink RX5 11 "RollerMesh$Turn" "presses" "[I"] ++ wsX50)
def wsX5_leastPress : List Cond := .code yX5_leastPress cX5_leastPress 3 (some .int) :: ([.fieldLink RX5 30 "RollerMesh$Turn" "length" "I", .methodLink RX5 25 Lib.Math.min.name, .static Lib.Math.min.name, .initialized "java/lang/Math", .code Lib.Math.min.name Lib.Math.min.code 2 (some .int), .methodLink RX5 40 yX5_press, .instanceMethod yX5_press, .selects RX5 yX5_press yX5_press, .initialized RX5, .code yX5_press cX5_press 2 (some .int), .fieldLink RX5 11 "RollerMesh$Turn" "presses" "[I"] ++ wsX50)
def wsX5_greatestPress : List Cond := .code yX5_greatestPress cX5_greatestPress 3 (some .int) :: ([.fieldLink RX5 30 "RollerMesh$Turn" "length" "I", .methodLink RX5 43 Lib.Math.max.name, .static Lib.Math.max.name, .initialized "java/lang/Math", .code Lib.Math.max.name Lib.Math.max.code 2 (some .int), .methodLink RX5 40 yX5_press, .instanceMethod yX5_press, .selects RX5 yX5_press yX5_press, .initialized RX5, .code yX5_press cX5_press 2 (some .int), .fieldLink RX5 11 "RollerMesh$Turn" "presses" "[I"] ++ wsX50)
def wsX5_isSmoothAt : List Cond := .code yX5_isSmoothAt cX5_isSmoothAt 4 (some .boolean) :: ([.fieldLink RX5 30 "RollerMesh$Turn" "length" "I", .methodLink RX5 46 Lib.Math.abs.name, .static Lib.Math.abs.name, .initialized "java/lang/Math", .code Lib.Math.abs.name Lib.Math.abs.code 1 (some .int), .methodLink RX5 40 yX5_press, .instanceMethod yX5_press, .selects RX5 yX5_press yX5_press, .initialized RX5, .code yX5_press cX5_press 2 (some .int), .fieldLink RX5 11 "RollerMesh$Turn" "presses" "[I"] ++ wsX50)
def wsX5_isSmooth : List Cond := .code yX5_isSmooth cX5_isSmooth 3 (some .boolean) :: ([.fieldLink RX5 30 "RollerMesh$Turn" "length" "I", .methodLink RX5 49 yX5_isSmoothAt, .instanceMethod yX5_isSmoothAt, .selects RX5 yX5_isSmoothAt yX5_isSmoothAt, .initialized RX5, .code yX5_isSmoothAt cX5_isSmoothAt 4 (some .boolean), .methodLink RX5 46 Lib.Math.abs.name, .static Lib.Math.abs.name, .initialized "java/lang/Math", .code Lib.Math.abs.name Lib.Math.abs.code 1 (some .int), .methodLink RX5 40 yX5_press, .instanceMethod yX5_press, .selects RX5 yX5_press yX5_press, .code yX5_press cX5_press 2 (some .int), .fieldLink RX5 11 "RollerMesh$Turn" "presses" "[I"] ++ wsX50)
def wsX5_firstBadStep : List Cond := .code yX5_firstBadStep cX5_firstBadStep 3 (some .int) :: ([.fieldLink RX5 30 "RollerMesh$Turn" "length" "I", .methodLink RX5 40 yX5_press, .instanceMethod yX5_press, .selects RX5 yX5_press yX5_press, .initialized RX5, .code yX5_press cX5_press 2 (some .int), .fieldLink RX5 11 "RollerMesh$Turn" "presses" "[I", .methodLink RX5 49 yX5_isSmoothAt, .instanceMethod yX5_isSmoothAt, .selects RX5 yX5_isSmoothAt yX5_isSmoothAt, .code yX5_isSmoothAt cX5_isSmoothAt 4 (some .boolean), .methodLink RX5 46 Lib.Math.abs.name, .static Lib.Math.abs.name, .initialized "java/lang/Math", .code Lib.Math.abs.name Lib.Math.abs.code 1 (some .int)] ++ wsX50)
def wsX5_meshes : List Cond := .code yX5_meshes cX5_meshes 2 (some .boolean) :: ([.methodLink RX5 53 yX5_firstBadStep, .instanceMethod yX5_firstBadStep, .selects RX5 yX5_firstBadStep yX5_firstBadStep, .initialized RX5, .code yX5_firstBadStep cX5_firstBadStep 3 (some .int), .fieldLink RX5 30 "RollerMesh$Turn" "length" "I", .methodLink RX5 40 yX5_press, .instanceMethod yX5_press, .selects RX5 yX5_press yX5_press, .code yX5_press cX5_press 2 (some .int), .fieldLink RX5 11 "RollerMesh$Turn" "presses" "[I", .methodLink RX5 49 yX5_isSmoothAt, .instanceMethod yX5_isSmoothAt, .selects RX5 yX5_isSmoothAt yX5_isSmoothAt, .code yX5_isSmoothAt cX5_isSmoothAt 4 (some .boolean), .methodLink RX5 46 Lib.Math.abs.name, .static Lib.Math.abs.name, .initialized "java/lang/Math", .code Lib.Math.abs.name Lib.Math.abs.code 1 (some .int)] ++ wsX50)
def wsX5_begin : List Cond := .code yX5_begin cX5_begin 1 none :: ([.fieldLink RX5 56 "RollerMesh$Turn" "at" "I", .fieldLink RX5 59 "RollerMesh$Turn" "taken" "I"] ++ wsX50)
def wsX5_taken : List Cond := .code yX5_taken cX5_taken 1 (some .int) :: ([.fieldLink RX5 59 "RollerMesh$Turn" "taken" "I"] ++ wsX50)
def wsX5_tears : List Cond := .code yX5_tears cX5_tears 9 (some .boolean) :: ([.fieldLink RX5 56 "RollerMesh$Turn" "at" "I", .methodLink RX5 43 Lib.Math.max.name, .static Lib.Math.max.name, .initialized "java/lang/Math", .code Lib.Math.max.name Lib.Math.max.code 2 (some .int), .fieldLink RX5 30 "RollerMesh$Turn" "length" "I", .fieldLink RX5 59 "RollerMesh$Turn" "taken" "I", .methodLink RX5 46 Lib.Math.abs.name, .static Lib.Math.abs.name, .code Lib.Math.abs.name Lib.Math.abs.code 1 (some .int), .methodLink RX5 40 yX5_press, .instanceMethod yX5_press, .selects RX5 yX5_press yX5_press, .initialized RX5, .code yX5_press cX5_press 2 (some .int), .fieldLink RX5 11 "RollerMesh$Turn" "presses" "[I", .methodLink RX5 37 yX5_next, .static yX5_next, .code yX5_next cX5_next 2 (some .int)] ++ wsX50)
def wsX6_init_r1 : List Cond := [Cond.methodLink RX6 1 objectInit, Cond.instanceMethod objectInit, Cond.code objectInit ⟨#[0xb1]⟩ 1 none, Cond.classLink RX6 7 RX3, Cond.instantiable RX3 1, Cond.initialized RX3, Cond.fieldLink RX6 10 "RollerMesh" "shop" "LRollerMesh$Shop;", Cond.classLink RX6 16 RX0, Cond.instantiable RX0 3, Cond.initialized RX0, Cond.fieldLink RX6 19 "RollerMesh" "history" "LRollerMesh$History;", Cond.classLink RX6 23 RX4, Cond.instantiable RX4 2, Cond.initialized RX4, Cond.fieldLink RX6 26 "RollerMesh" "slots" "LRollerMesh$Slots;", Cond.classLink RX6 30 RX1, Cond.instantiable RX1 2, Cond.initialized RX1, Cond.fieldLink RX6 33 "RollerMesh" "pad" "LRollerMesh$Pad;", Cond.classLink RX6 37 RX2, Cond.instantiable RX2 5, Cond.initialized RX2, Cond.fieldLink RX6 42 "RollerMesh" "reader" "LRollerMesh$Reader;", Cond.classLink RX6 46 RX5]
def wsX6_init_r2 : List Cond := [Cond.instantiable RX5 4, Cond.initialized RX5, Cond.fieldLink RX6 49 "RollerMesh" "turn" "LRollerMesh$Turn;", Cond.methodLink RX6 9 yX3_init, Cond.instanceMethod yX3_init, Cond.code yX3_init cX3_init 1 none, Cond.methodLink RX3 5 objectInit, Cond.arrayClass .int, Cond.fieldLink RX3 11 "RollerMesh$Shop" "cells" "[I", Cond.instanceMethod yX0_init, Cond.code yX0_init cX0_init 1 none, Cond.methodLink RX0 5 objectInit, Cond.fieldLink RX0 13 "RollerMesh$History" "states" "[I", Cond.instanceMethod yX4_init, Cond.code yX4_init cX4_init 1 none, Cond.methodLink RX4 3 objectInit, Cond.fieldLink RX4 13 "RollerMesh$Slots" "states" "[I", Cond.instanceMethod yX1_init, Cond.code yX1_init cX1_init 1 none, Cond.methodLink RX1 3 objectInit, Cond.fieldLink RX1 11 "RollerMesh$Pad" "codes" "[I", Cond.methodLink RX6 39 yX2_init, Cond.instanceMethod yX2_init, Cond.code yX2_init cX2_init 2 none]
def wsX6_init_r3 : List Cond := [Cond.methodLink RX2 5 objectInit, Cond.fieldLink RX2 13 "RollerMesh$Reader" "numbers" "[I", Cond.fieldLink RX2 17 "RollerMesh$Reader" "pad" "LRollerMesh$Pad;", Cond.instanceMethod yX5_init, Cond.code yX5_init cX5_init 1 none, Cond.methodLink RX5 3 objectInit, Cond.fieldLink RX5 11 "RollerMesh$Turn" "presses" "[I"]
def wsX6_init : List Cond := .code yX6_init cX6_init 1 none :: ((wsX6_init_r1 ++ (wsX6_init_r2 ++ wsX6_init_r3)) ++ wsX30 ++ wsX60 ++ wsX00 ++ wsX40 ++ wsX10 ++ wsX20 ++ wsX50)
def wsX6_set_r1 : List Cond := [Cond.fieldLink RX6 19 "RollerMesh" "history" "LRollerMesh$History;", Cond.fieldLink RX6 10 "RollerMesh" "shop" "LRollerMesh$Shop;", Cond.methodLink RX6 53 yX0_prepare, Cond.instanceMethod yX0_prepare, Cond.selects RX0 yX0_prepare yX0_prepare, Cond.initialized RX0, Cond.code yX0_prepare cX0_prepare 2 none, Cond.fieldLink RX0 13 "RollerMesh$History" "states" "[I", Cond.fieldLink RX0 21 "RollerMesh$History" "free" "I", Cond.methodLink RX0 24 yX3_copyTo, Cond.instanceMethod yX3_copyTo, Cond.selects RX3 yX3_copyTo yX3_copyTo, Cond.initialized RX3, Cond.code yX3_copyTo cX3_copyTo 3 none, Cond.fieldLink RX3 11 "RollerMesh$Shop" "cells" "[I", Cond.methodLink RX3 70 arraycopyName, Cond.native arraycopyName, Cond.static arraycopyName, Cond.initialized "java/lang/System", Cond.methodLink RX6 57 yX3_changeSetting, Cond.instanceMethod yX3_changeSetting, Cond.selects RX3 yX3_changeSetting yX3_changeSetting, Cond.code yX3_changeSetting cX3_changeSetting 5 (some .int), Cond.static yX6_outside]
def wsX6_set_r2 : List Cond := [Cond.initialized RX6, Cond.code yX6_outside cX6_outside 3 (some .boolean), Cond.methodLink RX3 27 yX3_setting, Cond.instanceMethod yX3_setting, Cond.selects RX3 yX3_setting yX3_setting, Cond.code yX3_setting cX3_setting 2 (some .int), Cond.methodLink RX3 15 yX3_cell, Cond.instanceMethod yX3_cell, Cond.selects RX3 yX3_cell yX3_cell, Cond.code yX3_cell cX3_cell 2 (some .int), Cond.methodLink RX3 19 yX3_change, Cond.instanceMethod yX3_change, Cond.selects RX3 yX3_change yX3_change, Cond.code yX3_change cX3_change 3 none, Cond.methodLink RX6 61 yX0_recorded, Cond.instanceMethod yX0_recorded, Cond.selects RX0 yX0_recorded yX0_recorded, Cond.code yX0_recorded cX0_recorded 2 (some .int), Cond.fieldLink RX0 17 "RollerMesh$History" "length" "I", Cond.methodLink RX0 28 Lib.Math.min.name, Cond.static Lib.Math.min.name, Cond.initialized "java/lang/Math", Cond.code Lib.Math.min.name Lib.Math.min.code 2 (some .int)]
def wsX6_set : List Cond := .code yX6_set cX6_set 3 (some .int) :: ((wsX6_set_r1 ++ wsX6_set_r2) ++ wsX60 ++ wsX00 ++ wsX30)
def wsX6_roller_r1 : List Cond := [Cond.fieldLink RX6 19 "RollerMesh" "history" "LRollerMesh$History;", Cond.fieldLink RX6 10 "RollerMesh" "shop" "LRollerMesh$Shop;", Cond.methodLink RX6 53 yX0_prepare, Cond.instanceMethod yX0_prepare, Cond.selects RX0 yX0_prepare yX0_prepare, Cond.initialized RX0, Cond.code yX0_prepare cX0_prepare 2 none, Cond.fieldLink RX0 13 "RollerMesh$History" "states" "[I", Cond.fieldLink RX0 21 "RollerMesh$History" "free" "I", Cond.methodLink RX0 24 yX3_copyTo, Cond.instanceMethod yX3_copyTo, Cond.selects RX3 yX3_copyTo yX3_copyTo, Cond.initialized RX3, Cond.code yX3_copyTo cX3_copyTo 3 none, Cond.fieldLink RX3 11 "RollerMesh$Shop" "cells" "[I", Cond.methodLink RX3 70 arraycopyName, Cond.native arraycopyName, Cond.static arraycopyName, Cond.initialized "java/lang/System", Cond.methodLink RX6 65 yX3_addRoller, Cond.instanceMethod yX3_addRoller, Cond.selects RX3 yX3_addRoller yX3_addRoller, Cond.code yX3_addRoller cX3_addRoller 5 (some .int), Cond.static yX6_outside]
def wsX6_roller_r2 : List Cond := [Cond.initialized RX6, Cond.code yX6_outside cX6_outside 3 (some .boolean), Cond.methodLink RX3 15 yX3_cell, Cond.instanceMethod yX3_cell, Cond.selects RX3 yX3_cell yX3_cell, Cond.code yX3_cell cX3_cell 2 (some .int), Cond.methodLink RX3 37 yX3_placeOf, Cond.static yX3_placeOf, Cond.code yX3_placeOf cX3_placeOf 1 (some .int), Cond.methodLink RX3 19 yX3_change, Cond.instanceMethod yX3_change, Cond.selects RX3 yX3_change yX3_change, Cond.code yX3_change cX3_change 3 none, Cond.methodLink RX3 40 yX3_shape, Cond.instanceMethod yX3_shape, Cond.selects RX3 yX3_shape yX3_shape, Cond.code yX3_shape cX3_shape 4 none, Cond.methodLink RX3 44 yX3_raise, Cond.instanceMethod yX3_raise, Cond.selects RX3 yX3_raise yX3_raise, Cond.code yX3_raise cX3_raise 3 none, Cond.methodLink RX6 61 yX0_recorded, Cond.instanceMethod yX0_recorded, Cond.selects RX0 yX0_recorded yX0_recorded]
def wsX6_roller_r3 : List Cond := [Cond.code yX0_recorded cX0_recorded 2 (some .int), Cond.fieldLink RX0 17 "RollerMesh$History" "length" "I", Cond.methodLink RX0 28 Lib.Math.min.name, Cond.static Lib.Math.min.name, Cond.initialized "java/lang/Math", Cond.code Lib.Math.min.name Lib.Math.min.code 2 (some .int)]
def wsX6_roller : List Cond := .code yX6_roller cX6_roller 3 (some .int) :: ((wsX6_roller_r1 ++ (wsX6_roller_r2 ++ wsX6_roller_r3)) ++ wsX60 ++ wsX00 ++ wsX30)
def wsX6_file_r1 : List Cond := [Cond.fieldLink RX6 19 "RollerMesh" "history" "LRollerMesh$History;", Cond.fieldLink RX6 10 "RollerMesh" "shop" "LRollerMesh$Shop;", Cond.methodLink RX6 53 yX0_prepare, Cond.instanceMethod yX0_prepare, Cond.selects RX0 yX0_prepare yX0_prepare, Cond.initialized RX0, Cond.code yX0_prepare cX0_prepare 2 none, Cond.fieldLink RX0 13 "RollerMesh$History" "states" "[I", Cond.fieldLink RX0 21 "RollerMesh$History" "free" "I", Cond.methodLink RX0 24 yX3_copyTo, Cond.instanceMethod yX3_copyTo, Cond.selects RX3 yX3_copyTo yX3_copyTo, Cond.initialized RX3, Cond.code yX3_copyTo cX3_copyTo 3 none, Cond.fieldLink RX3 11 "RollerMesh$Shop" "cells" "[I", Cond.methodLink RX3 70 arraycopyName, Cond.native arraycopyName, Cond.static arraycopyName, Cond.initialized "java/lang/System", Cond.methodLink RX6 68 yX3_fileTooth, Cond.instanceMethod yX3_fileTooth, Cond.selects RX3 yX3_fileTooth yX3_fileTooth, Cond.code yX3_fileTooth cX3_fileTooth 5 (some .int), Cond.methodLink RX3 47 yX3_hasTooth]
def wsX6_file_r2 : List Cond := [Cond.instanceMethod yX3_hasTooth, Cond.selects RX3 yX3_hasTooth yX3_hasTooth, Cond.code yX3_hasTooth cX3_hasTooth 3 (some .boolean), Cond.methodLink RX3 30 yX3_has, Cond.instanceMethod yX3_has, Cond.selects RX3 yX3_has yX3_has, Cond.code yX3_has cX3_has 2 (some .boolean), Cond.methodLink RX3 15 yX3_cell, Cond.instanceMethod yX3_cell, Cond.selects RX3 yX3_cell yX3_cell, Cond.code yX3_cell cX3_cell 2 (some .int), Cond.methodLink RX3 34 yX3_teeth, Cond.instanceMethod yX3_teeth, Cond.selects RX3 yX3_teeth yX3_teeth, Cond.code yX3_teeth cX3_teeth 2 (some .int), Cond.methodLink RX3 37 yX3_placeOf, Cond.static yX3_placeOf, Cond.code yX3_placeOf cX3_placeOf 1 (some .int), Cond.static yX6_outside, Cond.initialized RX6, Cond.code yX6_outside cX6_outside 3 (some .boolean), Cond.methodLink RX3 51 yX3_height, Cond.instanceMethod yX3_height, Cond.selects RX3 yX3_height yX3_height]
def wsX6_file_r3 : List Cond := [Cond.code yX3_height cX3_height 3 (some .int), Cond.methodLink RX3 40 yX3_shape, Cond.instanceMethod yX3_shape, Cond.selects RX3 yX3_shape yX3_shape, Cond.code yX3_shape cX3_shape 4 none, Cond.methodLink RX3 19 yX3_change, Cond.instanceMethod yX3_change, Cond.selects RX3 yX3_change yX3_change, Cond.code yX3_change cX3_change 3 none, Cond.methodLink RX6 61 yX0_recorded, Cond.instanceMethod yX0_recorded, Cond.selects RX0 yX0_recorded yX0_recorded, Cond.code yX0_recorded cX0_recorded 2 (some .int), Cond.fieldLink RX0 17 "RollerMesh$History" "length" "I", Cond.methodLink RX0 28 Lib.Math.min.name, Cond.static Lib.Math.min.name, Cond.initialized "java/lang/Math", Cond.code Lib.Math.min.name Lib.Math.min.code 2 (some .int)]
def wsX6_file : List Cond := .code yX6_file cX6_file 4 (some .int) :: ((wsX6_file_r1 ++ (wsX6_file_r2 ++ wsX6_file_r3)) ++ wsX60 ++ wsX00 ++ wsX30)
def wsX6_melt_r1 : List Cond := [Cond.fieldLink RX6 19 "RollerMesh" "history" "LRollerMesh$History;", Cond.fieldLink RX6 10 "RollerMesh" "shop" "LRollerMesh$Shop;", Cond.methodLink RX6 53 yX0_prepare, Cond.instanceMethod yX0_prepare, Cond.selects RX0 yX0_prepare yX0_prepare, Cond.initialized RX0, Cond.code yX0_prepare cX0_prepare 2 none, Cond.fieldLink RX0 13 "RollerMesh$History" "states" "[I", Cond.fieldLink RX0 21 "RollerMesh$History" "free" "I", Cond.methodLink RX0 24 yX3_copyTo, Cond.instanceMethod yX3_copyTo, Cond.selects RX3 yX3_copyTo yX3_copyTo, Cond.initialized RX3, Cond.code yX3_copyTo cX3_copyTo 3 none, Cond.fieldLink RX3 11 "RollerMesh$Shop" "cells" "[I", Cond.methodLink RX3 70 arraycopyName, Cond.native arraycopyName, Cond.static arraycopyName, Cond.initialized "java/lang/System", Cond.methodLink RX6 72 yX3_meltRoller, Cond.instanceMethod yX3_meltRoller, Cond.selects RX3 yX3_meltRoller yX3_meltRoller, Cond.code yX3_meltRoller cX3_meltRoller 4 (some .int), Cond.methodLink RX3 30 yX3_has]
def wsX6_melt_r2 : List Cond := [Cond.instanceMethod yX3_has, Cond.selects RX3 yX3_has yX3_has, Cond.code yX3_has cX3_has 2 (some .boolean), Cond.methodLink RX3 15 yX3_cell, Cond.instanceMethod yX3_cell, Cond.selects RX3 yX3_cell yX3_cell, Cond.code yX3_cell cX3_cell 2 (some .int), Cond.methodLink RX3 37 yX3_placeOf, Cond.static yX3_placeOf, Cond.code yX3_placeOf cX3_placeOf 1 (some .int), Cond.methodLink RX3 19 yX3_change, Cond.instanceMethod yX3_change, Cond.selects RX3 yX3_change yX3_change, Cond.code yX3_change cX3_change 3 none, Cond.methodLink RX6 61 yX0_recorded, Cond.instanceMethod yX0_recorded, Cond.selects RX0 yX0_recorded yX0_recorded, Cond.code yX0_recorded cX0_recorded 2 (some .int), Cond.fieldLink RX0 17 "RollerMesh$History" "length" "I", Cond.methodLink RX0 28 Lib.Math.min.name, Cond.static Lib.Math.min.name, Cond.initialized "java/lang/Math", Cond.code Lib.Math.min.name Lib.Math.min.code 2 (some .int)]
def wsX6_melt : List Cond := .code yX6_melt cX6_melt 2 (some .int) :: ((wsX6_melt_r1 ++ wsX6_melt_r2) ++ wsX60 ++ wsX00 ++ wsX30)
def wsX6_card_r1 : List Cond := [Cond.fieldLink RX6 19 "RollerMesh" "history" "LRollerMesh$History;", Cond.fieldLink RX6 10 "RollerMesh" "shop" "LRollerMesh$Shop;", Cond.methodLink RX6 53 yX0_prepare, Cond.instanceMethod yX0_prepare, Cond.selects RX0 yX0_prepare yX0_prepare, Cond.initialized RX0, Cond.code yX0_prepare cX0_prepare 2 none, Cond.fieldLink RX0 13 "RollerMesh$History" "states" "[I", Cond.fieldLink RX0 21 "RollerMesh$History" "free" "I", Cond.methodLink RX0 24 yX3_copyTo, Cond.instanceMethod yX3_copyTo, Cond.selects RX3 yX3_copyTo yX3_copyTo, Cond.initialized RX3, Cond.code yX3_copyTo cX3_copyTo 3 none, Cond.fieldLink RX3 11 "RollerMesh$Shop" "cells" "[I", Cond.methodLink RX3 70 arraycopyName, Cond.native arraycopyName, Cond.static arraycopyName, Cond.initialized "java/lang/System", Cond.methodLink RX6 75 yX3_changeCard, Cond.instanceMethod yX3_changeCard, Cond.selects RX3 yX3_changeCard yX3_changeCard, Cond.code yX3_changeCard cX3_changeCard 4 (some .int), Cond.static yX6_outside]
def wsX6_card_r2 : List Cond := [Cond.initialized RX6, Cond.code yX6_outside cX6_outside 3 (some .boolean), Cond.methodLink RX3 15 yX3_cell, Cond.instanceMethod yX3_cell, Cond.selects RX3 yX3_cell yX3_cell, Cond.code yX3_cell cX3_cell 2 (some .int), Cond.methodLink RX3 19 yX3_change, Cond.instanceMethod yX3_change, Cond.selects RX3 yX3_change yX3_change, Cond.code yX3_change cX3_change 3 none, Cond.methodLink RX6 61 yX0_recorded, Cond.instanceMethod yX0_recorded, Cond.selects RX0 yX0_recorded yX0_recorded, Cond.code yX0_recorded cX0_recorded 2 (some .int), Cond.fieldLink RX0 17 "RollerMesh$History" "length" "I", Cond.methodLink RX0 28 Lib.Math.min.name, Cond.static Lib.Math.min.name, Cond.initialized "java/lang/Math", Cond.code Lib.Math.min.name Lib.Math.min.code 2 (some .int)]
def wsX6_card : List Cond := .code yX6_card cX6_card 3 (some .int) :: ((wsX6_card_r1 ++ wsX6_card_r2) ++ wsX60 ++ wsX00 ++ wsX30)
def wsX6_pairError : List Cond := .code yX6_pairError cX6_pairError 6 (some .int) :: ([.fieldLink RX6 10 "RollerMesh" "shop" "LRollerMesh$Shop;", .methodLink RX6 123 yX3_has, .instanceMethod yX3_has, .selects RX3 yX3_has yX3_has, .initialized RX3, .code yX3_has cX3_has 2 (some .boolean), .methodLink RX3 15 yX3_cell, .instanceMethod yX3_cell, .selects RX3 yX3_cell yX3_cell, .code yX3_cell cX3_cell 2 (some .int), .fieldLink RX3 11 "RollerMesh$Shop" "cells" "[I", .methodLink RX6 86 yX6_outside, .static yX6_outside, .initialized RX6, .code yX6_outside cX6_outside 3 (some .boolean)] ++ wsX60 ++ wsX30)
def wsX6_runCards_r1 : List Cond := [Cond.fieldLink RX6 49 "RollerMesh" "turn" "LRollerMesh$Turn;", Cond.fieldLink RX6 10 "RollerMesh" "shop" "LRollerMesh$Shop;", Cond.methodLink RX6 82 yX6_pairError, Cond.instanceMethod yX6_pairError, Cond.selects RX6 yX6_pairError yX6_pairError, Cond.initialized RX6, Cond.code yX6_pairError cX6_pairError 6 (some .int), Cond.methodLink RX6 123 yX3_has, Cond.instanceMethod yX3_has, Cond.selects RX3 yX3_has yX3_has, Cond.initialized RX3, Cond.code yX3_has cX3_has 2 (some .boolean), Cond.methodLink RX3 15 yX3_cell, Cond.instanceMethod yX3_cell, Cond.selects RX3 yX3_cell yX3_cell, Cond.code yX3_cell cX3_cell 2 (some .int), Cond.fieldLink RX3 11 "RollerMesh$Shop" "cells" "[I", Cond.methodLink RX6 86 yX6_outside, Cond.static yX6_outside, Cond.code yX6_outside cX6_outside 3 (some .boolean), Cond.methodLink RX6 90 yX5_lay, Cond.instanceMethod yX5_lay, Cond.selects RX5 yX5_lay yX5_lay, Cond.initialized RX5]
def wsX6_runCards_r2 : List Cond := [Cond.code yX5_lay cX5_lay 11 none, Cond.methodLink RX5 25 Lib.Math.min.name, Cond.static Lib.Math.min.name, Cond.initialized "java/lang/Math", Cond.code Lib.Math.min.name Lib.Math.min.code 2 (some .int), Cond.fieldLink RX5 30 "RollerMesh$Turn" "length" "I", Cond.fieldLink RX5 11 "RollerMesh$Turn" "presses" "[I", Cond.methodLink RX5 15 yX3_teeth, Cond.instanceMethod yX3_teeth, Cond.selects RX3 yX3_teeth yX3_teeth, Cond.code yX3_teeth cX3_teeth 2 (some .int), Cond.methodLink RX3 37 yX3_placeOf, Cond.static yX3_placeOf, Cond.code yX3_placeOf cX3_placeOf 1 (some .int), Cond.methodLink RX5 21 yX5_leastMultiple, Cond.static yX5_leastMultiple, Cond.code yX5_leastMultiple cX5_leastMultiple 3 (some .int), Cond.methodLink RX5 34 yX3_height, Cond.instanceMethod yX3_height, Cond.selects RX3 yX3_height yX3_height, Cond.code yX3_height cX3_height 3 (some .int), Cond.methodLink RX5 37 yX5_next, Cond.static yX5_next, Cond.code yX5_next cX5_next 2 (some .int)]
def wsX6_runCards_r3 : List Cond := [Cond.methodLink RX6 94 yX3_setting, Cond.instanceMethod yX3_setting, Cond.selects RX3 yX3_setting yX3_setting, Cond.code yX3_setting cX3_setting 2 (some .int), Cond.methodLink RX6 97 yX5_meshes, Cond.instanceMethod yX5_meshes, Cond.selects RX5 yX5_meshes yX5_meshes, Cond.code yX5_meshes cX5_meshes 2 (some .boolean), Cond.methodLink RX5 53 yX5_firstBadStep, Cond.instanceMethod yX5_firstBadStep, Cond.selects RX5 yX5_firstBadStep yX5_firstBadStep, Cond.code yX5_firstBadStep cX5_firstBadStep 3 (some .int), Cond.methodLink RX5 40 yX5_press, Cond.instanceMethod yX5_press, Cond.selects RX5 yX5_press yX5_press, Cond.code yX5_press cX5_press 2 (some .int), Cond.methodLink RX5 49 yX5_isSmoothAt, Cond.instanceMethod yX5_isSmoothAt, Cond.selects RX5 yX5_isSmoothAt yX5_isSmoothAt, Cond.code yX5_isSmoothAt cX5_isSmoothAt 4 (some .boolean), Cond.methodLink RX5 46 Lib.Math.abs.name, Cond.static Lib.Math.abs.name, Cond.code Lib.Math.abs.name Lib.Math.abs.code 1 (some .int), Cond.methodLink RX6 101 yX5_begin]
def wsX6_runCards_r4 : List Cond := [Cond.instanceMethod yX5_begin, Cond.selects RX5 yX5_begin yX5_begin, Cond.code yX5_begin cX5_begin 1 none, Cond.fieldLink RX5 56 "RollerMesh$Turn" "at" "I", Cond.fieldLink RX5 59 "RollerMesh$Turn" "taken" "I", Cond.methodLink RX6 104 yX3_cell, Cond.methodLink RX6 107 yX5_tears, Cond.instanceMethod yX5_tears, Cond.selects RX5 yX5_tears yX5_tears, Cond.code yX5_tears cX5_tears 9 (some .boolean), Cond.methodLink RX5 43 Lib.Math.max.name, Cond.static Lib.Math.max.name, Cond.code Lib.Math.max.name Lib.Math.max.code 2 (some .int), Cond.methodLink RX6 111 yX5_taken, Cond.instanceMethod yX5_taken, Cond.selects RX5 yX5_taken yX5_taken, Cond.code yX5_taken cX5_taken 1 (some .int), Cond.methodLink RX6 115 yX3_countRun, Cond.instanceMethod yX3_countRun, Cond.selects RX3 yX3_countRun yX3_countRun, Cond.code yX3_countRun cX3_countRun 4 none, Cond.methodLink RX3 44 yX3_raise, Cond.instanceMethod yX3_raise, Cond.selects RX3 yX3_raise yX3_raise]
def wsX6_runCards_r5 : List Cond := [Cond.code yX3_raise cX3_raise 3 none, Cond.methodLink RX3 19 yX3_change, Cond.instanceMethod yX3_change, Cond.selects RX3 yX3_change yX3_change, Cond.code yX3_change cX3_change 3 none, Cond.methodLink RX6 119 yX3_turnRoller, Cond.instanceMethod yX3_turnRoller, Cond.selects RX3 yX3_turnRoller yX3_turnRoller, Cond.code yX3_turnRoller cX3_turnRoller 3 none, Cond.methodLink RX3 63 yX3_stepsSinceWorn, Cond.instanceMethod yX3_stepsSinceWorn, Cond.selects RX3 yX3_stepsSinceWorn yX3_stepsSinceWorn, Cond.code yX3_stepsSinceWorn cX3_stepsSinceWorn 2 (some .int), Cond.methodLink RX3 27 yX3_setting, Cond.methodLink RX3 34 yX3_teeth, Cond.methodLink RX3 66 yX3_wearDown, Cond.instanceMethod yX3_wearDown, Cond.selects RX3 yX3_wearDown yX3_wearDown, Cond.code yX3_wearDown cX3_wearDown 5 none, Cond.methodLink RX3 51 yX3_height, Cond.methodLink RX3 40 yX3_shape, Cond.instanceMethod yX3_shape, Cond.selects RX3 yX3_shape yX3_shape, Cond.code yX3_shape cX3_shape 4 none]
def wsX6_runCards : List Cond := .code yX6_runCards cX6_runCards 10 (some .int) :: ((wsX6_runCards_r1 ++ (wsX6_runCards_r2 ++ (wsX6_runCards_r3 ++ (wsX6_runCards_r4 ++ wsX6_runCards_r5)))) ++ wsX60 ++ wsX30 ++ wsX50)
def wsX6_run_r1 : List Cond := [Cond.fieldLink RX6 19 "RollerMesh" "history" "LRollerMesh$History;", Cond.fieldLink RX6 10 "RollerMesh" "shop" "LRollerMesh$Shop;", Cond.methodLink RX6 53 yX0_prepare, Cond.instanceMethod yX0_prepare, Cond.selects RX0 yX0_prepare yX0_prepare, Cond.initialized RX0, Cond.code yX0_prepare cX0_prepare 2 none, Cond.fieldLink RX0 13 "RollerMesh$History" "states" "[I", Cond.fieldLink RX0 21 "RollerMesh$History" "free" "I", Cond.methodLink RX0 24 yX3_copyTo, Cond.instanceMethod yX3_copyTo, Cond.selects RX3 yX3_copyTo yX3_copyTo, Cond.initialized RX3, Cond.code yX3_copyTo cX3_copyTo 3 none, Cond.fieldLink RX3 11 "RollerMesh$Shop" "cells" "[I", Cond.methodLink RX3 70 arraycopyName, Cond.native arraycopyName, Cond.static arraycopyName, Cond.initialized "java/lang/System", Cond.methodLink RX6 78 yX6_runCards, Cond.instanceMethod yX6_runCards, Cond.selects RX6 yX6_runCards yX6_runCards, Cond.initialized RX6, Cond.code yX6_runCards cX6_runCards 10 (some .int)]
def wsX6_run_r2 : List Cond := [Cond.fieldLink RX6 49 "RollerMesh" "turn" "LRollerMesh$Turn;", Cond.methodLink RX6 82 yX6_pairError, Cond.instanceMethod yX6_pairError, Cond.selects RX6 yX6_pairError yX6_pairError, Cond.code yX6_pairError cX6_pairError 6 (some .int), Cond.methodLink RX6 123 yX3_has, Cond.instanceMethod yX3_has, Cond.selects RX3 yX3_has yX3_has, Cond.code yX3_has cX3_has 2 (some .boolean), Cond.methodLink RX3 15 yX3_cell, Cond.instanceMethod yX3_cell, Cond.selects RX3 yX3_cell yX3_cell, Cond.code yX3_cell cX3_cell 2 (some .int), Cond.methodLink RX6 86 yX6_outside, Cond.static yX6_outside, Cond.code yX6_outside cX6_outside 3 (some .boolean), Cond.methodLink RX6 90 yX5_lay, Cond.instanceMethod yX5_lay, Cond.selects RX5 yX5_lay yX5_lay, Cond.initialized RX5, Cond.code yX5_lay cX5_lay 11 none, Cond.methodLink RX5 25 Lib.Math.min.name, Cond.static Lib.Math.min.name, Cond.initialized "java/lang/Math"]
def wsX6_run_r3 : List Cond := [Cond.code Lib.Math.min.name Lib.Math.min.code 2 (some .int), Cond.fieldLink RX5 30 "RollerMesh$Turn" "length" "I", Cond.fieldLink RX5 11 "RollerMesh$Turn" "presses" "[I", Cond.methodLink RX5 15 yX3_teeth, Cond.instanceMethod yX3_teeth, Cond.selects RX3 yX3_teeth yX3_teeth, Cond.code yX3_teeth cX3_teeth 2 (some .int), Cond.methodLink RX3 37 yX3_placeOf, Cond.static yX3_placeOf, Cond.code yX3_placeOf cX3_placeOf 1 (some .int), Cond.methodLink RX5 21 yX5_leastMultiple, Cond.static yX5_leastMultiple, Cond.code yX5_leastMultiple cX5_leastMultiple 3 (some .int), Cond.methodLink RX5 34 yX3_height, Cond.instanceMethod yX3_height, Cond.selects RX3 yX3_height yX3_height, Cond.code yX3_height cX3_height 3 (some .int), Cond.methodLink RX5 37 yX5_next, Cond.static yX5_next, Cond.code yX5_next cX5_next 2 (some .int), Cond.methodLink RX6 94 yX3_setting, Cond.instanceMethod yX3_setting, Cond.selects RX3 yX3_setting yX3_setting, Cond.code yX3_setting cX3_setting 2 (some .int)]
def wsX6_run_r4 : List Cond := [Cond.methodLink RX6 97 yX5_meshes, Cond.instanceMethod yX5_meshes, Cond.selects RX5 yX5_meshes yX5_meshes, Cond.code yX5_meshes cX5_meshes 2 (some .boolean), Cond.methodLink RX5 53 yX5_firstBadStep, Cond.instanceMethod yX5_firstBadStep, Cond.selects RX5 yX5_firstBadStep yX5_firstBadStep, Cond.code yX5_firstBadStep cX5_firstBadStep 3 (some .int), Cond.methodLink RX5 40 yX5_press, Cond.instanceMethod yX5_press, Cond.selects RX5 yX5_press yX5_press, Cond.code yX5_press cX5_press 2 (some .int), Cond.methodLink RX5 49 yX5_isSmoothAt, Cond.instanceMethod yX5_isSmoothAt, Cond.selects RX5 yX5_isSmoothAt yX5_isSmoothAt, Cond.code yX5_isSmoothAt cX5_isSmoothAt 4 (some .boolean), Cond.methodLink RX5 46 Lib.Math.abs.name, Cond.static Lib.Math.abs.name, Cond.code Lib.Math.abs.name Lib.Math.abs.code 1 (some .int), Cond.methodLink RX6 101 yX5_begin, Cond.instanceMethod yX5_begin, Cond.selects RX5 yX5_begin yX5_begin, Cond.code yX5_begin cX5_begin 1 none, Cond.fieldLink RX5 56 "RollerMesh$Turn" "at" "I"]
def wsX6_run_r5 : List Cond := [Cond.fieldLink RX5 59 "RollerMesh$Turn" "taken" "I", Cond.methodLink RX6 104 yX3_cell, Cond.methodLink RX6 107 yX5_tears, Cond.instanceMethod yX5_tears, Cond.selects RX5 yX5_tears yX5_tears, Cond.code yX5_tears cX5_tears 9 (some .boolean), Cond.methodLink RX5 43 Lib.Math.max.name, Cond.static Lib.Math.max.name, Cond.code Lib.Math.max.name Lib.Math.max.code 2 (some .int), Cond.methodLink RX6 111 yX5_taken, Cond.instanceMethod yX5_taken, Cond.selects RX5 yX5_taken yX5_taken, Cond.code yX5_taken cX5_taken 1 (some .int), Cond.methodLink RX6 115 yX3_countRun, Cond.instanceMethod yX3_countRun, Cond.selects RX3 yX3_countRun yX3_countRun, Cond.code yX3_countRun cX3_countRun 4 none, Cond.methodLink RX3 44 yX3_raise, Cond.instanceMethod yX3_raise, Cond.selects RX3 yX3_raise yX3_raise, Cond.code yX3_raise cX3_raise 3 none, Cond.methodLink RX3 19 yX3_change, Cond.instanceMethod yX3_change, Cond.selects RX3 yX3_change yX3_change]
def wsX6_run_r6 : List Cond := [Cond.code yX3_change cX3_change 3 none, Cond.methodLink RX6 119 yX3_turnRoller, Cond.instanceMethod yX3_turnRoller, Cond.selects RX3 yX3_turnRoller yX3_turnRoller, Cond.code yX3_turnRoller cX3_turnRoller 3 none, Cond.methodLink RX3 63 yX3_stepsSinceWorn, Cond.instanceMethod yX3_stepsSinceWorn, Cond.selects RX3 yX3_stepsSinceWorn yX3_stepsSinceWorn, Cond.code yX3_stepsSinceWorn cX3_stepsSinceWorn 2 (some .int), Cond.methodLink RX3 27 yX3_setting, Cond.methodLink RX3 34 yX3_teeth, Cond.methodLink RX3 66 yX3_wearDown, Cond.instanceMethod yX3_wearDown, Cond.selects RX3 yX3_wearDown yX3_wearDown, Cond.code yX3_wearDown cX3_wearDown 5 none, Cond.methodLink RX3 51 yX3_height, Cond.methodLink RX3 40 yX3_shape, Cond.instanceMethod yX3_shape, Cond.selects RX3 yX3_shape yX3_shape, Cond.code yX3_shape cX3_shape 4 none, Cond.methodLink RX6 61 yX0_recorded, Cond.instanceMethod yX0_recorded, Cond.selects RX0 yX0_recorded yX0_recorded, Cond.code yX0_recorded cX0_recorded 2 (some .int)]
def wsX6_run_r7 : List Cond := [Cond.fieldLink RX0 17 "RollerMesh$History" "length" "I", Cond.methodLink RX0 28 Lib.Math.min.name]
def wsX6_run : List Cond := .code yX6_run cX6_run 7 (some .int) :: ((wsX6_run_r1 ++ (wsX6_run_r2 ++ (wsX6_run_r3 ++ (wsX6_run_r4 ++ (wsX6_run_r5 ++ (wsX6_run_r6 ++ wsX6_run_r7)))))) ++ wsX60 ++ wsX00 ++ wsX30 ++ wsX50)
def wsX6_of_r1 : List Cond := [Cond.fieldLink RX6 10 "RollerMesh" "shop" "LRollerMesh$Shop;", Cond.methodLink RX6 123 yX3_has, Cond.instanceMethod yX3_has, Cond.selects RX3 yX3_has yX3_has, Cond.initialized RX3, Cond.code yX3_has cX3_has 2 (some .boolean), Cond.methodLink RX3 15 yX3_cell, Cond.instanceMethod yX3_cell, Cond.selects RX3 yX3_cell yX3_cell, Cond.code yX3_cell cX3_cell 2 (some .int), Cond.fieldLink RX3 11 "RollerMesh$Shop" "cells" "[I", Cond.methodLink RX6 126 yX3_teeth, Cond.instanceMethod yX3_teeth, Cond.selects RX3 yX3_teeth yX3_teeth, Cond.code yX3_teeth cX3_teeth 2 (some .int), Cond.methodLink RX3 37 yX3_placeOf, Cond.static yX3_placeOf, Cond.code yX3_placeOf cX3_placeOf 1 (some .int), Cond.methodLink RX6 129 yX3_teethOfSign, Cond.instanceMethod yX3_teethOfSign, Cond.selects RX3 yX3_teethOfSign yX3_teethOfSign, Cond.code yX3_teethOfSign cX3_teethOfSign 5 (some .int), Cond.methodLink RX3 34 yX3_teeth, Cond.methodLink RX3 51 yX3_height]
def wsX6_of_r2 : List Cond := [Cond.instanceMethod yX3_height, Cond.selects RX3 yX3_height yX3_height, Cond.code yX3_height cX3_height 3 (some .int), Cond.methodLink RX6 132 yX3_greatestHeight, Cond.instanceMethod yX3_greatestHeight, Cond.selects RX3 yX3_greatestHeight yX3_greatestHeight, Cond.code yX3_greatestHeight cX3_greatestHeight 4 (some .int), Cond.methodLink RX3 55 Lib.Math.max.name, Cond.static Lib.Math.max.name, Cond.initialized "java/lang/Math", Cond.code Lib.Math.max.name Lib.Math.max.code 2 (some .int), Cond.methodLink RX6 135 yX3_leastHeight, Cond.instanceMethod yX3_leastHeight, Cond.selects RX3 yX3_leastHeight yX3_leastHeight, Cond.code yX3_leastHeight cX3_leastHeight 4 (some .int), Cond.methodLink RX3 60 Lib.Math.min.name, Cond.static Lib.Math.min.name, Cond.code Lib.Math.min.name Lib.Math.min.code 2 (some .int), Cond.methodLink RX6 138 yX3_stepsSinceWorn, Cond.instanceMethod yX3_stepsSinceWorn, Cond.selects RX3 yX3_stepsSinceWorn yX3_stepsSinceWorn, Cond.code yX3_stepsSinceWorn cX3_stepsSinceWorn 2 (some .int), Cond.methodLink RX6 141 yX3_timesWorn, Cond.instanceMethod yX3_timesWorn]
def wsX6_of_r3 : List Cond := [Cond.selects RX3 yX3_timesWorn yX3_timesWorn, Cond.code yX3_timesWorn cX3_timesWorn 2 (some .int)]
def wsX6_of : List Cond := .code yX6_of cX6_of 3 (some .int) :: ((wsX6_of_r1 ++ (wsX6_of_r2 ++ wsX6_of_r3)) ++ wsX60 ++ wsX30)
def wsX6_tooth_r1 : List Cond := [Cond.fieldLink RX6 10 "RollerMesh" "shop" "LRollerMesh$Shop;", Cond.methodLink RX6 144 yX3_hasTooth, Cond.instanceMethod yX3_hasTooth, Cond.selects RX3 yX3_hasTooth yX3_hasTooth, Cond.initialized RX3, Cond.code yX3_hasTooth cX3_hasTooth 3 (some .boolean), Cond.methodLink RX3 30 yX3_has, Cond.instanceMethod yX3_has, Cond.selects RX3 yX3_has yX3_has, Cond.code yX3_has cX3_has 2 (some .boolean), Cond.methodLink RX3 15 yX3_cell, Cond.instanceMethod yX3_cell, Cond.selects RX3 yX3_cell yX3_cell, Cond.code yX3_cell cX3_cell 2 (some .int), Cond.fieldLink RX3 11 "RollerMesh$Shop" "cells" "[I", Cond.methodLink RX3 34 yX3_teeth, Cond.instanceMethod yX3_teeth, Cond.selects RX3 yX3_teeth yX3_teeth, Cond.code yX3_teeth cX3_teeth 2 (some .int), Cond.methodLink RX3 37 yX3_placeOf, Cond.static yX3_placeOf, Cond.code yX3_placeOf cX3_placeOf 1 (some .int), Cond.methodLink RX6 148 yX3_height, Cond.instanceMethod yX3_height]
def wsX6_tooth_r2 : List Cond := [Cond.selects RX3 yX3_height yX3_height, Cond.code yX3_height cX3_height 3 (some .int)]
def wsX6_tooth : List Cond := .code yX6_tooth cX6_tooth 3 (some .int) :: ((wsX6_tooth_r1 ++ wsX6_tooth_r2) ++ wsX60 ++ wsX30)
def wsX6_count_r1 : List Cond := [Cond.fieldLink RX6 33 "RollerMesh" "pad" "LRollerMesh$Pad;", Cond.fieldLink RX6 19 "RollerMesh" "history" "LRollerMesh$History;", Cond.fieldLink RX6 10 "RollerMesh" "shop" "LRollerMesh$Shop;", Cond.methodLink RX6 86 yX6_outside, Cond.static yX6_outside, Cond.initialized RX6, Cond.code yX6_outside cX6_outside 3 (some .boolean), Cond.methodLink RX6 151 yX1_length, Cond.instanceMethod yX1_length, Cond.selects RX1 yX1_length yX1_length, Cond.initialized RX1, Cond.code yX1_length cX1_length 1 (some .int), Cond.fieldLink RX1 15 "RollerMesh$Pad" "length" "I", Cond.methodLink RX6 154 yX0_length, Cond.instanceMethod yX0_length, Cond.selects RX0 yX0_length yX0_length, Cond.initialized RX0, Cond.code yX0_length cX0_length 1 (some .int), Cond.fieldLink RX0 17 "RollerMesh$History" "length" "I", Cond.methodLink RX6 104 yX3_cell, Cond.instanceMethod yX3_cell, Cond.selects RX3 yX3_cell yX3_cell, Cond.initialized RX3, Cond.code yX3_cell cX3_cell 2 (some .int)]
def wsX6_count_r2 : List Cond := [Cond.fieldLink RX3 11 "RollerMesh$Shop" "cells" "[I"]
def wsX6_count : List Cond := .code yX6_count cX6_count 2 (some .int) :: ((wsX6_count_r1 ++ wsX6_count_r2) ++ wsX60 ++ wsX10 ++ wsX00 ++ wsX30)
def wsX6_questionError : List Cond := .code yX6_questionError cX6_questionError 8 (some .int) :: ([.methodLink RX6 82 yX6_pairError, .instanceMethod yX6_pairError, .selects RX6 yX6_pairError yX6_pairError, .initialized RX6, .code yX6_pairError cX6_pairError 6 (some .int), .fieldLink RX6 10 "RollerMesh" "shop" "LRollerMesh$Shop;", .methodLink RX6 123 yX3_has, .instanceMethod yX3_has, .selects RX3 yX3_has yX3_has, .initialized RX3, .code yX3_has cX3_has 2 (some .boolean), .methodLink RX3 15 yX3_cell, .instanceMethod yX3_cell, .selects RX3 yX3_cell yX3_cell, .code yX3_cell cX3_cell 2 (some .int), .fieldLink RX3 11 "RollerMesh$Shop" "cells" "[I", .methodLink RX6 86 yX6_outside, .static yX6_outside, .code yX6_outside cX6_outside 3 (some .boolean)] ++ wsX60 ++ wsX30)
def wsX6_pair_r1 : List Cond := [Cond.fieldLink RX6 49 "RollerMesh" "turn" "LRollerMesh$Turn;", Cond.fieldLink RX6 10 "RollerMesh" "shop" "LRollerMesh$Shop;", Cond.methodLink RX6 155 yX6_questionError, Cond.instanceMethod yX6_questionError, Cond.selects RX6 yX6_questionError yX6_questionError, Cond.initialized RX6, Cond.code yX6_questionError cX6_questionError 8 (some .int), Cond.methodLink RX6 82 yX6_pairError, Cond.instanceMethod yX6_pairError, Cond.selects RX6 yX6_pairError yX6_pairError, Cond.code yX6_pairError cX6_pairError 6 (some .int), Cond.methodLink RX6 123 yX3_has, Cond.instanceMethod yX3_has, Cond.selects RX3 yX3_has yX3_has, Cond.initialized RX3, Cond.code yX3_has cX3_has 2 (some .boolean), Cond.methodLink RX3 15 yX3_cell, Cond.instanceMethod yX3_cell, Cond.selects RX3 yX3_cell yX3_cell, Cond.code yX3_cell cX3_cell 2 (some .int), Cond.fieldLink RX3 11 "RollerMesh$Shop" "cells" "[I", Cond.methodLink RX6 86 yX6_outside, Cond.static yX6_outside, Cond.code yX6_outside cX6_outside 3 (some .boolean)]
def wsX6_pair_r2 : List Cond := [Cond.methodLink RX6 90 yX5_lay, Cond.instanceMethod yX5_lay, Cond.selects RX5 yX5_lay yX5_lay, Cond.initialized RX5, Cond.code yX5_lay cX5_lay 11 none, Cond.methodLink RX5 25 Lib.Math.min.name, Cond.static Lib.Math.min.name, Cond.initialized "java/lang/Math", Cond.code Lib.Math.min.name Lib.Math.min.code 2 (some .int), Cond.fieldLink RX5 30 "RollerMesh$Turn" "length" "I", Cond.fieldLink RX5 11 "RollerMesh$Turn" "presses" "[I", Cond.methodLink RX5 15 yX3_teeth, Cond.instanceMethod yX3_teeth, Cond.selects RX3 yX3_teeth yX3_teeth, Cond.code yX3_teeth cX3_teeth 2 (some .int), Cond.methodLink RX3 37 yX3_placeOf, Cond.static yX3_placeOf, Cond.code yX3_placeOf cX3_placeOf 1 (some .int), Cond.methodLink RX5 21 yX5_leastMultiple, Cond.static yX5_leastMultiple, Cond.code yX5_leastMultiple cX5_leastMultiple 3 (some .int), Cond.methodLink RX5 34 yX3_height, Cond.instanceMethod yX3_height, Cond.selects RX3 yX3_height yX3_height]
def wsX6_pair_r3 : List Cond := [Cond.code yX3_height cX3_height 3 (some .int), Cond.methodLink RX5 37 yX5_next, Cond.static yX5_next, Cond.code yX5_next cX5_next 2 (some .int), Cond.methodLink RX6 158 yX5_length, Cond.instanceMethod yX5_length, Cond.selects RX5 yX5_length yX5_length, Cond.code yX5_length cX5_length 1 (some .int), Cond.methodLink RX6 159 yX5_leastPress, Cond.instanceMethod yX5_leastPress, Cond.selects RX5 yX5_leastPress yX5_leastPress, Cond.code yX5_leastPress cX5_leastPress 3 (some .int), Cond.methodLink RX5 40 yX5_press, Cond.instanceMethod yX5_press, Cond.selects RX5 yX5_press yX5_press, Cond.code yX5_press cX5_press 2 (some .int), Cond.methodLink RX6 162 yX5_greatestPress, Cond.instanceMethod yX5_greatestPress, Cond.selects RX5 yX5_greatestPress yX5_greatestPress, Cond.code yX5_greatestPress cX5_greatestPress 3 (some .int), Cond.methodLink RX5 43 Lib.Math.max.name, Cond.static Lib.Math.max.name, Cond.code Lib.Math.max.name Lib.Math.max.code 2 (some .int), Cond.methodLink RX6 94 yX3_setting]
def wsX6_pair_r4 : List Cond := [Cond.instanceMethod yX3_setting, Cond.selects RX3 yX3_setting yX3_setting, Cond.code yX3_setting cX3_setting 2 (some .int), Cond.methodLink RX6 97 yX5_meshes, Cond.instanceMethod yX5_meshes, Cond.selects RX5 yX5_meshes yX5_meshes, Cond.code yX5_meshes cX5_meshes 2 (some .boolean), Cond.methodLink RX5 53 yX5_firstBadStep, Cond.instanceMethod yX5_firstBadStep, Cond.selects RX5 yX5_firstBadStep yX5_firstBadStep, Cond.code yX5_firstBadStep cX5_firstBadStep 3 (some .int), Cond.methodLink RX5 49 yX5_isSmoothAt, Cond.instanceMethod yX5_isSmoothAt, Cond.selects RX5 yX5_isSmoothAt yX5_isSmoothAt, Cond.code yX5_isSmoothAt cX5_isSmoothAt 4 (some .boolean), Cond.methodLink RX5 46 Lib.Math.abs.name, Cond.static Lib.Math.abs.name, Cond.code Lib.Math.abs.name Lib.Math.abs.code 1 (some .int)]
def wsX6_pair : List Cond := .code yX6_pair cX6_pair 7 (some .int) :: ((wsX6_pair_r1 ++ (wsX6_pair_r2 ++ (wsX6_pair_r3 ++ wsX6_pair_r4))) ++ wsX60 ++ wsX30 ++ wsX50)
def wsX6_why_r1 : List Cond := [Cond.fieldLink RX6 49 "RollerMesh" "turn" "LRollerMesh$Turn;", Cond.fieldLink RX6 10 "RollerMesh" "shop" "LRollerMesh$Shop;", Cond.methodLink RX6 155 yX6_questionError, Cond.instanceMethod yX6_questionError, Cond.selects RX6 yX6_questionError yX6_questionError, Cond.initialized RX6, Cond.code yX6_questionError cX6_questionError 8 (some .int), Cond.methodLink RX6 82 yX6_pairError, Cond.instanceMethod yX6_pairError, Cond.selects RX6 yX6_pairError yX6_pairError, Cond.code yX6_pairError cX6_pairError 6 (some .int), Cond.methodLink RX6 123 yX3_has, Cond.instanceMethod yX3_has, Cond.selects RX3 yX3_has yX3_has, Cond.initialized RX3, Cond.code yX3_has cX3_has 2 (some .boolean), Cond.methodLink RX3 15 yX3_cell, Cond.instanceMethod yX3_cell, Cond.selects RX3 yX3_cell yX3_cell, Cond.code yX3_cell cX3_cell 2 (some .int), Cond.fieldLink RX3 11 "RollerMesh$Shop" "cells" "[I", Cond.methodLink RX6 86 yX6_outside, Cond.static yX6_outside, Cond.code yX6_outside cX6_outside 3 (some .boolean)]
def wsX6_why_r2 : List Cond := [Cond.methodLink RX6 90 yX5_lay, Cond.instanceMethod yX5_lay, Cond.selects RX5 yX5_lay yX5_lay, Cond.initialized RX5, Cond.code yX5_lay cX5_lay 11 none, Cond.methodLink RX5 25 Lib.Math.min.name, Cond.static Lib.Math.min.name, Cond.initialized "java/lang/Math", Cond.code Lib.Math.min.name Lib.Math.min.code 2 (some .int), Cond.fieldLink RX5 30 "RollerMesh$Turn" "length" "I", Cond.fieldLink RX5 11 "RollerMesh$Turn" "presses" "[I", Cond.methodLink RX5 15 yX3_teeth, Cond.instanceMethod yX3_teeth, Cond.selects RX3 yX3_teeth yX3_teeth, Cond.code yX3_teeth cX3_teeth 2 (some .int), Cond.methodLink RX3 37 yX3_placeOf, Cond.static yX3_placeOf, Cond.code yX3_placeOf cX3_placeOf 1 (some .int), Cond.methodLink RX5 21 yX5_leastMultiple, Cond.static yX5_leastMultiple, Cond.code yX5_leastMultiple cX5_leastMultiple 3 (some .int), Cond.methodLink RX5 34 yX3_height, Cond.instanceMethod yX3_height, Cond.selects RX3 yX3_height yX3_height]
def wsX6_why_r3 : List Cond := [Cond.code yX3_height cX3_height 3 (some .int), Cond.methodLink RX5 37 yX5_next, Cond.static yX5_next, Cond.code yX5_next cX5_next 2 (some .int), Cond.methodLink RX6 94 yX3_setting, Cond.instanceMethod yX3_setting, Cond.selects RX3 yX3_setting yX3_setting, Cond.code yX3_setting cX3_setting 2 (some .int), Cond.methodLink RX6 165 yX5_firstBadStep, Cond.instanceMethod yX5_firstBadStep, Cond.selects RX5 yX5_firstBadStep yX5_firstBadStep, Cond.code yX5_firstBadStep cX5_firstBadStep 3 (some .int), Cond.methodLink RX5 40 yX5_press, Cond.instanceMethod yX5_press, Cond.selects RX5 yX5_press yX5_press, Cond.code yX5_press cX5_press 2 (some .int), Cond.methodLink RX5 49 yX5_isSmoothAt, Cond.instanceMethod yX5_isSmoothAt, Cond.selects RX5 yX5_isSmoothAt yX5_isSmoothAt, Cond.code yX5_isSmoothAt cX5_isSmoothAt 4 (some .boolean), Cond.methodLink RX5 46 Lib.Math.abs.name, Cond.static Lib.Math.abs.name, Cond.code Lib.Math.abs.name Lib.Math.abs.code 1 (some .int), Cond.methodLink RX6 168 yX5_press]
def wsX6_why : List Cond := .code yX6_why cX6_why 8 (some .int) :: ((wsX6_why_r1 ++ (wsX6_why_r2 ++ wsX6_why_r3)) ++ wsX60 ++ wsX30 ++ wsX50)
def wsX6_gapToMesh_r1 : List Cond := [Cond.fieldLink RX6 49 "RollerMesh" "turn" "LRollerMesh$Turn;", Cond.fieldLink RX6 10 "RollerMesh" "shop" "LRollerMesh$Shop;", Cond.methodLink RX6 182 Lib.Math.max.name, Cond.static Lib.Math.max.name, Cond.initialized "java/lang/Math", Cond.code Lib.Math.max.name Lib.Math.max.code 2 (some .int), Cond.methodLink RX6 90 yX5_lay, Cond.instanceMethod yX5_lay, Cond.selects RX5 yX5_lay yX5_lay, Cond.initialized RX5, Cond.code yX5_lay cX5_lay 11 none, Cond.methodLink RX5 25 Lib.Math.min.name, Cond.static Lib.Math.min.name, Cond.code Lib.Math.min.name Lib.Math.min.code 2 (some .int), Cond.fieldLink RX5 30 "RollerMesh$Turn" "length" "I", Cond.fieldLink RX5 11 "RollerMesh$Turn" "presses" "[I", Cond.methodLink RX5 15 yX3_teeth, Cond.instanceMethod yX3_teeth, Cond.selects RX3 yX3_teeth yX3_teeth, Cond.initialized RX3, Cond.code yX3_teeth cX3_teeth 2 (some .int), Cond.methodLink RX3 37 yX3_placeOf, Cond.static yX3_placeOf, Cond.code yX3_placeOf cX3_placeOf 1 (some .int)]
def wsX6_gapToMesh_r2 : List Cond := [Cond.methodLink RX3 15 yX3_cell, Cond.instanceMethod yX3_cell, Cond.selects RX3 yX3_cell yX3_cell, Cond.code yX3_cell cX3_cell 2 (some .int), Cond.fieldLink RX3 11 "RollerMesh$Shop" "cells" "[I", Cond.methodLink RX5 21 yX5_leastMultiple, Cond.static yX5_leastMultiple, Cond.code yX5_leastMultiple cX5_leastMultiple 3 (some .int), Cond.methodLink RX5 34 yX3_height, Cond.instanceMethod yX3_height, Cond.selects RX3 yX3_height yX3_height, Cond.code yX3_height cX3_height 3 (some .int), Cond.methodLink RX5 37 yX5_next, Cond.static yX5_next, Cond.code yX5_next cX5_next 2 (some .int), Cond.methodLink RX6 94 yX3_setting, Cond.instanceMethod yX3_setting, Cond.selects RX3 yX3_setting yX3_setting, Cond.code yX3_setting cX3_setting 2 (some .int), Cond.methodLink RX6 179 yX5_isSmooth, Cond.instanceMethod yX5_isSmooth, Cond.selects RX5 yX5_isSmooth yX5_isSmooth, Cond.code yX5_isSmooth cX5_isSmooth 3 (some .boolean), Cond.methodLink RX5 49 yX5_isSmoothAt]
def wsX6_gapToMesh_r3 : List Cond := [Cond.instanceMethod yX5_isSmoothAt, Cond.selects RX5 yX5_isSmoothAt yX5_isSmoothAt, Cond.code yX5_isSmoothAt cX5_isSmoothAt 4 (some .boolean), Cond.methodLink RX5 46 Lib.Math.abs.name, Cond.static Lib.Math.abs.name, Cond.code Lib.Math.abs.name Lib.Math.abs.code 1 (some .int), Cond.methodLink RX5 40 yX5_press, Cond.instanceMethod yX5_press, Cond.selects RX5 yX5_press yX5_press, Cond.code yX5_press cX5_press 2 (some .int), Cond.methodLink RX6 159 yX5_leastPress, Cond.instanceMethod yX5_leastPress, Cond.selects RX5 yX5_leastPress yX5_leastPress, Cond.code yX5_leastPress cX5_leastPress 3 (some .int)]
def wsX6_gapToMesh : List Cond := .code yX6_gapToMesh cX6_gapToMesh 5 (some .int) :: ((wsX6_gapToMesh_r1 ++ (wsX6_gapToMesh_r2 ++ wsX6_gapToMesh_r3)) ++ wsX60 ++ wsX50 ++ wsX30)
def wsX6_leastGap_r1 : List Cond := [Cond.methodLink RX6 82 yX6_pairError, Cond.instanceMethod yX6_pairError, Cond.selects RX6 yX6_pairError yX6_pairError, Cond.initialized RX6, Cond.code yX6_pairError cX6_pairError 6 (some .int), Cond.fieldLink RX6 10 "RollerMesh" "shop" "LRollerMesh$Shop;", Cond.methodLink RX6 123 yX3_has, Cond.instanceMethod yX3_has, Cond.selects RX3 yX3_has yX3_has, Cond.initialized RX3, Cond.code yX3_has cX3_has 2 (some .boolean), Cond.methodLink RX3 15 yX3_cell, Cond.instanceMethod yX3_cell, Cond.selects RX3 yX3_cell yX3_cell, Cond.code yX3_cell cX3_cell 2 (some .int), Cond.fieldLink RX3 11 "RollerMesh$Shop" "cells" "[I", Cond.methodLink RX6 86 yX6_outside, Cond.static yX6_outside, Cond.code yX6_outside cX6_outside 3 (some .boolean), Cond.methodLink RX6 171 yX6_gapToMesh, Cond.instanceMethod yX6_gapToMesh, Cond.selects RX6 yX6_gapToMesh yX6_gapToMesh, Cond.code yX6_gapToMesh cX6_gapToMesh 5 (some .int), Cond.fieldLink RX6 49 "RollerMesh" "turn" "LRollerMesh$Turn;"]
def wsX6_leastGap_r2 : List Cond := [Cond.methodLink RX6 182 Lib.Math.max.name, Cond.static Lib.Math.max.name, Cond.initialized "java/lang/Math", Cond.code Lib.Math.max.name Lib.Math.max.code 2 (some .int), Cond.methodLink RX6 90 yX5_lay, Cond.instanceMethod yX5_lay, Cond.selects RX5 yX5_lay yX5_lay, Cond.initialized RX5, Cond.code yX5_lay cX5_lay 11 none, Cond.methodLink RX5 25 Lib.Math.min.name, Cond.static Lib.Math.min.name, Cond.code Lib.Math.min.name Lib.Math.min.code 2 (some .int), Cond.fieldLink RX5 30 "RollerMesh$Turn" "length" "I", Cond.fieldLink RX5 11 "RollerMesh$Turn" "presses" "[I", Cond.methodLink RX5 15 yX3_teeth, Cond.instanceMethod yX3_teeth, Cond.selects RX3 yX3_teeth yX3_teeth, Cond.code yX3_teeth cX3_teeth 2 (some .int), Cond.methodLink RX3 37 yX3_placeOf, Cond.static yX3_placeOf, Cond.code yX3_placeOf cX3_placeOf 1 (some .int), Cond.methodLink RX5 21 yX5_leastMultiple, Cond.static yX5_leastMultiple, Cond.code yX5_leastMultiple cX5_leastMultiple 3 (some .int)]
def wsX6_leastGap_r3 : List Cond := [Cond.methodLink RX5 34 yX3_height, Cond.instanceMethod yX3_height, Cond.selects RX3 yX3_height yX3_height, Cond.code yX3_height cX3_height 3 (some .int), Cond.methodLink RX5 37 yX5_next, Cond.static yX5_next, Cond.code yX5_next cX5_next 2 (some .int), Cond.methodLink RX6 94 yX3_setting, Cond.instanceMethod yX3_setting, Cond.selects RX3 yX3_setting yX3_setting, Cond.code yX3_setting cX3_setting 2 (some .int), Cond.methodLink RX6 179 yX5_isSmooth, Cond.instanceMethod yX5_isSmooth, Cond.selects RX5 yX5_isSmooth yX5_isSmooth, Cond.code yX5_isSmooth cX5_isSmooth 3 (some .boolean), Cond.methodLink RX5 49 yX5_isSmoothAt, Cond.instanceMethod yX5_isSmoothAt, Cond.selects RX5 yX5_isSmoothAt yX5_isSmoothAt, Cond.code yX5_isSmoothAt cX5_isSmoothAt 4 (some .boolean), Cond.methodLink RX5 46 Lib.Math.abs.name, Cond.static Lib.Math.abs.name, Cond.code Lib.Math.abs.name Lib.Math.abs.code 1 (some .int), Cond.methodLink RX5 40 yX5_press, Cond.instanceMethod yX5_press]
def wsX6_leastGap_r4 : List Cond := [Cond.selects RX5 yX5_press yX5_press, Cond.code yX5_press cX5_press 2 (some .int), Cond.methodLink RX6 159 yX5_leastPress, Cond.instanceMethod yX5_leastPress, Cond.selects RX5 yX5_leastPress yX5_leastPress, Cond.code yX5_leastPress cX5_leastPress 3 (some .int)]
def wsX6_leastGap : List Cond := .code yX6_leastGap cX6_leastGap 5 (some .int) :: ((wsX6_leastGap_r1 ++ (wsX6_leastGap_r2 ++ (wsX6_leastGap_r3 ++ wsX6_leastGap_r4))) ++ wsX60 ++ wsX30 ++ wsX50)
def wsX6_bestOffset_r1 : List Cond := [Cond.fieldLink RX6 10 "RollerMesh" "shop" "LRollerMesh$Shop;", Cond.methodLink RX6 174 Lib.Math.min.name, Cond.static Lib.Math.min.name, Cond.initialized "java/lang/Math", Cond.code Lib.Math.min.name Lib.Math.min.code 2 (some .int), Cond.methodLink RX6 155 yX6_questionError, Cond.instanceMethod yX6_questionError, Cond.selects RX6 yX6_questionError yX6_questionError, Cond.initialized RX6, Cond.code yX6_questionError cX6_questionError 8 (some .int), Cond.methodLink RX6 82 yX6_pairError, Cond.instanceMethod yX6_pairError, Cond.selects RX6 yX6_pairError yX6_pairError, Cond.code yX6_pairError cX6_pairError 6 (some .int), Cond.methodLink RX6 123 yX3_has, Cond.instanceMethod yX3_has, Cond.selects RX3 yX3_has yX3_has, Cond.initialized RX3, Cond.code yX3_has cX3_has 2 (some .boolean), Cond.methodLink RX3 15 yX3_cell, Cond.instanceMethod yX3_cell, Cond.selects RX3 yX3_cell yX3_cell, Cond.code yX3_cell cX3_cell 2 (some .int), Cond.fieldLink RX3 11 "RollerMesh$Shop" "cells" "[I"]
def wsX6_bestOffset_r2 : List Cond := [Cond.methodLink RX6 86 yX6_outside, Cond.static yX6_outside, Cond.code yX6_outside cX6_outside 3 (some .boolean), Cond.methodLink RX6 126 yX3_teeth, Cond.instanceMethod yX3_teeth, Cond.selects RX3 yX3_teeth yX3_teeth, Cond.code yX3_teeth cX3_teeth 2 (some .int), Cond.methodLink RX3 37 yX3_placeOf, Cond.static yX3_placeOf, Cond.code yX3_placeOf cX3_placeOf 1 (some .int), Cond.methodLink RX6 171 yX6_gapToMesh, Cond.instanceMethod yX6_gapToMesh, Cond.selects RX6 yX6_gapToMesh yX6_gapToMesh, Cond.code yX6_gapToMesh cX6_gapToMesh 5 (some .int), Cond.fieldLink RX6 49 "RollerMesh" "turn" "LRollerMesh$Turn;", Cond.methodLink RX6 182 Lib.Math.max.name, Cond.static Lib.Math.max.name, Cond.code Lib.Math.max.name Lib.Math.max.code 2 (some .int), Cond.methodLink RX6 90 yX5_lay, Cond.instanceMethod yX5_lay, Cond.selects RX5 yX5_lay yX5_lay, Cond.initialized RX5, Cond.code yX5_lay cX5_lay 11 none, Cond.methodLink RX5 25 Lib.Math.min.name]
def wsX6_bestOffset_r3 : List Cond := [Cond.fieldLink RX5 30 "RollerMesh$Turn" "length" "I", Cond.fieldLink RX5 11 "RollerMesh$Turn" "presses" "[I", Cond.methodLink RX5 15 yX3_teeth, Cond.methodLink RX5 21 yX5_leastMultiple, Cond.static yX5_leastMultiple, Cond.code yX5_leastMultiple cX5_leastMultiple 3 (some .int), Cond.methodLink RX5 34 yX3_height, Cond.instanceMethod yX3_height, Cond.selects RX3 yX3_height yX3_height, Cond.code yX3_height cX3_height 3 (some .int), Cond.methodLink RX5 37 yX5_next, Cond.static yX5_next, Cond.code yX5_next cX5_next 2 (some .int), Cond.methodLink RX6 94 yX3_setting, Cond.instanceMethod yX3_setting, Cond.selects RX3 yX3_setting yX3_setting, Cond.code yX3_setting cX3_setting 2 (some .int), Cond.methodLink RX6 179 yX5_isSmooth, Cond.instanceMethod yX5_isSmooth, Cond.selects RX5 yX5_isSmooth yX5_isSmooth, Cond.code yX5_isSmooth cX5_isSmooth 3 (some .boolean), Cond.methodLink RX5 49 yX5_isSmoothAt, Cond.instanceMethod yX5_isSmoothAt, Cond.selects RX5 yX5_isSmoothAt yX5_isSmoothAt]
def wsX6_bestOffset_r4 : List Cond := [Cond.code yX5_isSmoothAt cX5_isSmoothAt 4 (some .boolean), Cond.methodLink RX5 46 Lib.Math.abs.name, Cond.static Lib.Math.abs.name, Cond.code Lib.Math.abs.name Lib.Math.abs.code 1 (some .int), Cond.methodLink RX5 40 yX5_press, Cond.instanceMethod yX5_press, Cond.selects RX5 yX5_press yX5_press, Cond.code yX5_press cX5_press 2 (some .int), Cond.methodLink RX6 159 yX5_leastPress, Cond.instanceMethod yX5_leastPress, Cond.selects RX5 yX5_leastPress yX5_leastPress, Cond.code yX5_leastPress cX5_leastPress 3 (some .int)]
def wsX6_bestOffset : List Cond := .code yX6_bestOffset cX6_bestOffset 10 (some .int) :: ((wsX6_bestOffset_r1 ++ (wsX6_bestOffset_r2 ++ (wsX6_bestOffset_r3 ++ wsX6_bestOffset_r4))) ++ wsX60 ++ wsX30 ++ wsX50)
def wsX6_thickest_r1 : List Cond := [Cond.fieldLink RX6 49 "RollerMesh" "turn" "LRollerMesh$Turn;", Cond.fieldLink RX6 10 "RollerMesh" "shop" "LRollerMesh$Shop;", Cond.methodLink RX6 82 yX6_pairError, Cond.instanceMethod yX6_pairError, Cond.selects RX6 yX6_pairError yX6_pairError, Cond.initialized RX6, Cond.code yX6_pairError cX6_pairError 6 (some .int), Cond.methodLink RX6 123 yX3_has, Cond.instanceMethod yX3_has, Cond.selects RX3 yX3_has yX3_has, Cond.initialized RX3, Cond.code yX3_has cX3_has 2 (some .boolean), Cond.methodLink RX3 15 yX3_cell, Cond.instanceMethod yX3_cell, Cond.selects RX3 yX3_cell yX3_cell, Cond.code yX3_cell cX3_cell 2 (some .int), Cond.fieldLink RX3 11 "RollerMesh$Shop" "cells" "[I", Cond.methodLink RX6 86 yX6_outside, Cond.static yX6_outside, Cond.code yX6_outside cX6_outside 3 (some .boolean), Cond.methodLink RX6 90 yX5_lay, Cond.instanceMethod yX5_lay, Cond.selects RX5 yX5_lay yX5_lay, Cond.initialized RX5]
def wsX6_thickest_r2 : List Cond := [Cond.code yX5_lay cX5_lay 11 none, Cond.methodLink RX5 25 Lib.Math.min.name, Cond.static Lib.Math.min.name, Cond.initialized "java/lang/Math", Cond.code Lib.Math.min.name Lib.Math.min.code 2 (some .int), Cond.fieldLink RX5 30 "RollerMesh$Turn" "length" "I", Cond.fieldLink RX5 11 "RollerMesh$Turn" "presses" "[I", Cond.methodLink RX5 15 yX3_teeth, Cond.instanceMethod yX3_teeth, Cond.selects RX3 yX3_teeth yX3_teeth, Cond.code yX3_teeth cX3_teeth 2 (some .int), Cond.methodLink RX3 37 yX3_placeOf, Cond.static yX3_placeOf, Cond.code yX3_placeOf cX3_placeOf 1 (some .int), Cond.methodLink RX5 21 yX5_leastMultiple, Cond.static yX5_leastMultiple, Cond.code yX5_leastMultiple cX5_leastMultiple 3 (some .int), Cond.methodLink RX5 34 yX3_height, Cond.instanceMethod yX3_height, Cond.selects RX3 yX3_height yX3_height, Cond.code yX3_height cX3_height 3 (some .int), Cond.methodLink RX5 37 yX5_next, Cond.static yX5_next, Cond.code yX5_next cX5_next 2 (some .int)]
def wsX6_thickest_r3 : List Cond := [Cond.methodLink RX6 94 yX3_setting, Cond.instanceMethod yX3_setting, Cond.selects RX3 yX3_setting yX3_setting, Cond.code yX3_setting cX3_setting 2 (some .int), Cond.methodLink RX6 97 yX5_meshes, Cond.instanceMethod yX5_meshes, Cond.selects RX5 yX5_meshes yX5_meshes, Cond.code yX5_meshes cX5_meshes 2 (some .boolean), Cond.methodLink RX5 53 yX5_firstBadStep, Cond.instanceMethod yX5_firstBadStep, Cond.selects RX5 yX5_firstBadStep yX5_firstBadStep, Cond.code yX5_firstBadStep cX5_firstBadStep 3 (some .int), Cond.methodLink RX5 40 yX5_press, Cond.instanceMethod yX5_press, Cond.selects RX5 yX5_press yX5_press, Cond.code yX5_press cX5_press 2 (some .int), Cond.methodLink RX5 49 yX5_isSmoothAt, Cond.instanceMethod yX5_isSmoothAt, Cond.selects RX5 yX5_isSmoothAt yX5_isSmoothAt, Cond.code yX5_isSmoothAt cX5_isSmoothAt 4 (some .boolean), Cond.methodLink RX5 46 Lib.Math.abs.name, Cond.static Lib.Math.abs.name, Cond.code Lib.Math.abs.name Lib.Math.abs.code 1 (some .int), Cond.methodLink RX6 101 yX5_begin]
def wsX6_thickest_r4 : List Cond := [Cond.instanceMethod yX5_begin, Cond.selects RX5 yX5_begin yX5_begin, Cond.code yX5_begin cX5_begin 1 none, Cond.fieldLink RX5 56 "RollerMesh$Turn" "at" "I", Cond.fieldLink RX5 59 "RollerMesh$Turn" "taken" "I", Cond.methodLink RX6 158 yX5_length, Cond.instanceMethod yX5_length, Cond.selects RX5 yX5_length yX5_length, Cond.code yX5_length cX5_length 1 (some .int), Cond.methodLink RX6 104 yX3_cell, Cond.methodLink RX6 107 yX5_tears, Cond.instanceMethod yX5_tears, Cond.selects RX5 yX5_tears yX5_tears, Cond.code yX5_tears cX5_tears 9 (some .boolean), Cond.methodLink RX5 43 Lib.Math.max.name, Cond.static Lib.Math.max.name, Cond.code Lib.Math.max.name Lib.Math.max.code 2 (some .int)]
def wsX6_thickest : List Cond := .code yX6_thickest cX6_thickest 7 (some .int) :: ((wsX6_thickest_r1 ++ (wsX6_thickest_r2 ++ (wsX6_thickest_r3 ++ wsX6_thickest_r4))) ++ wsX60 ++ wsX30 ++ wsX50)
def wsX6_put : List Cond := .code yX6_put cX6_put 3 (some .int) :: ([.fieldLink RX6 33 "RollerMesh" "pad" "LRollerMesh$Pad;", .methodLink RX6 185 yX1_append, .instanceMethod yX1_append, .selects RX1 yX1_append yX1_append, .initialized RX1, .code yX1_append cX1_append 5 (some .int), .fieldLink RX1 15 "RollerMesh$Pad" "length" "I", .methodLink RX1 19 yX1_amountOf, .static yX1_amountOf, .code yX1_amountOf cX1_amountOf 4 (some .int), .methodLink RX1 23 yX1_codeIn, .static yX1_codeIn, .code yX1_codeIn cX1_codeIn 3 (some .int), .static yX6_outside, .initialized RX6, .code yX6_outside cX6_outside 3 (some .boolean), .methodLink RX1 27 yX1_add, .instanceMethod yX1_add, .selects RX1 yX1_add yX1_add, .code yX1_add cX1_add 2 none, .fieldLink RX1 11 "RollerMesh$Pad" "codes" "[I"] ++ wsX60 ++ wsX10)
def wsX6_wipe : List Cond := .code yX6_wipe cX6_wipe 1 (some .int) :: ([.fieldLink RX6 33 "RollerMesh" "pad" "LRollerMesh$Pad;", .methodLink RX6 189 yX1_clear, .instanceMethod yX1_clear, .selects RX1 yX1_clear yX1_clear, .initialized RX1, .code yX1_clear cX1_clear 2 (some .int), .fieldLink RX1 15 "RollerMesh$Pad" "length" "I"] ++ wsX60 ++ wsX10)
def wsX6_fault_r1 : List Cond := [Cond.fieldLink RX6 42 "RollerMesh" "reader" "LRollerMesh$Reader;", Cond.methodLink RX6 192 yX2_firstFault, Cond.instanceMethod yX2_firstFault, Cond.selects RX2 yX2_firstFault yX2_firstFault, Cond.initialized RX2, Cond.code yX2_firstFault cX2_firstFault 2 (some .int), Cond.fieldLink RX2 28 "RollerMesh$Reader" "at" "I", Cond.fieldLink RX2 17 "RollerMesh$Reader" "pad" "LRollerMesh$Pad;", Cond.methodLink RX2 31 yX2_begin, Cond.instanceMethod yX2_begin, Cond.selects RX2 yX2_begin yX2_begin, Cond.code yX2_begin cX2_begin 1 none, Cond.methodLink RX2 34 yX2_readOrder, Cond.instanceMethod yX2_readOrder, Cond.selects RX2 yX2_readOrder yX2_readOrder, Cond.code yX2_readOrder cX2_readOrder 1 (some .boolean), Cond.fieldLink RX2 25 "RollerMesh$Reader" "amount" "I", Cond.fieldLink RX2 21 "RollerMesh$Reader" "kind" "I", Cond.methodLink RX2 46 yX1_codeAt, Cond.instanceMethod yX1_codeAt, Cond.selects RX1 yX1_codeAt yX1_codeAt, Cond.initialized RX1, Cond.code yX1_codeAt cX1_codeAt 2 (some .int), Cond.fieldLink RX1 15 "RollerMesh$Pad" "length" "I"]
def wsX6_fault_r2 : List Cond := [Cond.fieldLink RX1 11 "RollerMesh$Pad" "codes" "[I", Cond.methodLink RX2 42 yX2_skip, Cond.instanceMethod yX2_skip, Cond.selects RX2 yX2_skip yX2_skip, Cond.code yX2_skip cX2_skip 2 (some .boolean), Cond.methodLink RX2 50 yX2_readValues, Cond.instanceMethod yX2_readValues, Cond.selects RX2 yX2_readValues yX2_readValues, Cond.code yX2_readValues cX2_readValues 3 (some .boolean), Cond.methodLink RX2 56 yX2_readValue, Cond.instanceMethod yX2_readValue, Cond.selects RX2 yX2_readValue yX2_readValue, Cond.code yX2_readValue cX2_readValue 2 (some .boolean), Cond.methodLink RX2 59 yX2_isDigit, Cond.instanceMethod yX2_isDigit, Cond.selects RX2 yX2_isDigit yX2_isDigit, Cond.code yX2_isDigit cX2_isDigit 1 (some .boolean), Cond.static yX6_outside, Cond.initialized RX6, Cond.code yX6_outside cX6_outside 3 (some .boolean), Cond.methodLink RX2 62 yX2_readDigit, Cond.instanceMethod yX2_readDigit, Cond.selects RX2 yX2_readDigit yX2_readDigit, Cond.code yX2_readDigit cX2_readDigit 2 (some .int)]
def wsX6_fault_r3 : List Cond := [Cond.methodLink RX2 65 yX2_note, Cond.instanceMethod yX2_note, Cond.selects RX2 yX2_note yX2_note, Cond.code yX2_note cX2_note 2 none, Cond.fieldLink RX2 13 "RollerMesh$Reader" "numbers" "[I", Cond.methodLink RX2 53 yX2_readNumber, Cond.instanceMethod yX2_readNumber, Cond.selects RX2 yX2_readNumber yX2_readNumber, Cond.code yX2_readNumber cX2_readNumber 2 (some .boolean), Cond.methodLink RX2 38 yX1_length, Cond.instanceMethod yX1_length, Cond.selects RX1 yX1_length yX1_length, Cond.code yX1_length cX1_length 1 (some .int)]
def wsX6_fault : List Cond := .code yX6_fault cX6_fault 1 (some .int) :: ((wsX6_fault_r1 ++ (wsX6_fault_r2 ++ wsX6_fault_r3)) ++ wsX60 ++ wsX20 ++ wsX10)
def wsX6_addRollerOfText_r1 : List Cond := [Cond.fieldLink RX6 42 "RollerMesh" "reader" "LRollerMesh$Reader;", Cond.fieldLink RX6 10 "RollerMesh" "shop" "LRollerMesh$Shop;", Cond.methodLink RX6 216 yX2_numbers, Cond.instanceMethod yX2_numbers, Cond.selects RX2 yX2_numbers yX2_numbers, Cond.initialized RX2, Cond.code yX2_numbers cX2_numbers 1 (some .int), Cond.fieldLink RX2 25 "RollerMesh$Reader" "amount" "I", Cond.methodLink RX6 65 yX3_addRoller, Cond.instanceMethod yX3_addRoller, Cond.selects RX3 yX3_addRoller yX3_addRoller, Cond.initialized RX3, Cond.code yX3_addRoller cX3_addRoller 5 (some .int), Cond.static yX6_outside, Cond.initialized RX6, Cond.code yX6_outside cX6_outside 3 (some .boolean), Cond.methodLink RX3 15 yX3_cell, Cond.instanceMethod yX3_cell, Cond.selects RX3 yX3_cell yX3_cell, Cond.code yX3_cell cX3_cell 2 (some .int), Cond.fieldLink RX3 11 "RollerMesh$Shop" "cells" "[I", Cond.methodLink RX3 37 yX3_placeOf, Cond.static yX3_placeOf, Cond.code yX3_placeOf cX3_placeOf 1 (some .int)]
def wsX6_addRollerOfText_r2 : List Cond := [Cond.methodLink RX3 19 yX3_change, Cond.instanceMethod yX3_change, Cond.selects RX3 yX3_change yX3_change, Cond.code yX3_change cX3_change 3 none, Cond.methodLink RX3 40 yX3_shape, Cond.instanceMethod yX3_shape, Cond.selects RX3 yX3_shape yX3_shape, Cond.code yX3_shape cX3_shape 4 none, Cond.methodLink RX3 44 yX3_raise, Cond.instanceMethod yX3_raise, Cond.selects RX3 yX3_raise yX3_raise, Cond.code yX3_raise cX3_raise 3 none, Cond.methodLink RX6 213 yX2_number, Cond.instanceMethod yX2_number, Cond.selects RX2 yX2_number yX2_number, Cond.code yX2_number cX2_number 2 (some .int), Cond.fieldLink RX2 13 "RollerMesh$Reader" "numbers" "[I", Cond.methodLink RX6 68 yX3_fileTooth, Cond.instanceMethod yX3_fileTooth, Cond.selects RX3 yX3_fileTooth yX3_fileTooth, Cond.code yX3_fileTooth cX3_fileTooth 5 (some .int), Cond.methodLink RX3 47 yX3_hasTooth, Cond.instanceMethod yX3_hasTooth, Cond.selects RX3 yX3_hasTooth yX3_hasTooth]
def wsX6_addRollerOfText_r3 : List Cond := [Cond.code yX3_hasTooth cX3_hasTooth 3 (some .boolean), Cond.methodLink RX3 30 yX3_has, Cond.instanceMethod yX3_has, Cond.selects RX3 yX3_has yX3_has, Cond.code yX3_has cX3_has 2 (some .boolean), Cond.methodLink RX3 34 yX3_teeth, Cond.instanceMethod yX3_teeth, Cond.selects RX3 yX3_teeth yX3_teeth, Cond.code yX3_teeth cX3_teeth 2 (some .int), Cond.methodLink RX3 51 yX3_height, Cond.instanceMethod yX3_height, Cond.selects RX3 yX3_height yX3_height, Cond.code yX3_height cX3_height 3 (some .int)]
def wsX6_addRollerOfText : List Cond := .code yX6_addRollerOfText cX6_addRollerOfText 4 (some .int) :: ((wsX6_addRollerOfText_r1 ++ (wsX6_addRollerOfText_r2 ++ wsX6_addRollerOfText_r3)) ++ wsX60 ++ wsX20 ++ wsX30)
def wsX6_obey_r1 : List Cond := [Cond.fieldLink RX6 42 "RollerMesh" "reader" "LRollerMesh$Reader;", Cond.fieldLink RX6 10 "RollerMesh" "shop" "LRollerMesh$Shop;", Cond.methodLink RX6 207 yX2_kind, Cond.instanceMethod yX2_kind, Cond.selects RX2 yX2_kind yX2_kind, Cond.initialized RX2, Cond.code yX2_kind cX2_kind 1 (some .int), Cond.fieldLink RX2 21 "RollerMesh$Reader" "kind" "I", Cond.methodLink RX6 210 yX6_addRollerOfText, Cond.instanceMethod yX6_addRollerOfText, Cond.selects RX6 yX6_addRollerOfText yX6_addRollerOfText, Cond.initialized RX6, Cond.code yX6_addRollerOfText cX6_addRollerOfText 4 (some .int), Cond.methodLink RX6 216 yX2_numbers, Cond.instanceMethod yX2_numbers, Cond.selects RX2 yX2_numbers yX2_numbers, Cond.code yX2_numbers cX2_numbers 1 (some .int), Cond.fieldLink RX2 25 "RollerMesh$Reader" "amount" "I", Cond.methodLink RX6 65 yX3_addRoller, Cond.instanceMethod yX3_addRoller, Cond.selects RX3 yX3_addRoller yX3_addRoller, Cond.initialized RX3, Cond.code yX3_addRoller cX3_addRoller 5 (some .int), Cond.static yX6_outside]
def wsX6_obey_r2 : List Cond := [Cond.code yX6_outside cX6_outside 3 (some .boolean), Cond.methodLink RX3 15 yX3_cell, Cond.instanceMethod yX3_cell, Cond.selects RX3 yX3_cell yX3_cell, Cond.code yX3_cell cX3_cell 2 (some .int), Cond.fieldLink RX3 11 "RollerMesh$Shop" "cells" "[I", Cond.methodLink RX3 37 yX3_placeOf, Cond.static yX3_placeOf, Cond.code yX3_placeOf cX3_placeOf 1 (some .int), Cond.methodLink RX3 19 yX3_change, Cond.instanceMethod yX3_change, Cond.selects RX3 yX3_change yX3_change, Cond.code yX3_change cX3_change 3 none, Cond.methodLink RX3 40 yX3_shape, Cond.instanceMethod yX3_shape, Cond.selects RX3 yX3_shape yX3_shape, Cond.code yX3_shape cX3_shape 4 none, Cond.methodLink RX3 44 yX3_raise, Cond.instanceMethod yX3_raise, Cond.selects RX3 yX3_raise yX3_raise, Cond.code yX3_raise cX3_raise 3 none, Cond.methodLink RX6 213 yX2_number, Cond.instanceMethod yX2_number, Cond.selects RX2 yX2_number yX2_number]
def wsX6_obey_r3 : List Cond := [Cond.code yX2_number cX2_number 2 (some .int), Cond.fieldLink RX2 13 "RollerMesh$Reader" "numbers" "[I", Cond.methodLink RX6 68 yX3_fileTooth, Cond.instanceMethod yX3_fileTooth, Cond.selects RX3 yX3_fileTooth yX3_fileTooth, Cond.code yX3_fileTooth cX3_fileTooth 5 (some .int), Cond.methodLink RX3 47 yX3_hasTooth, Cond.instanceMethod yX3_hasTooth, Cond.selects RX3 yX3_hasTooth yX3_hasTooth, Cond.code yX3_hasTooth cX3_hasTooth 3 (some .boolean), Cond.methodLink RX3 30 yX3_has, Cond.instanceMethod yX3_has, Cond.selects RX3 yX3_has yX3_has, Cond.code yX3_has cX3_has 2 (some .boolean), Cond.methodLink RX3 34 yX3_teeth, Cond.instanceMethod yX3_teeth, Cond.selects RX3 yX3_teeth yX3_teeth, Cond.code yX3_teeth cX3_teeth 2 (some .int), Cond.methodLink RX3 51 yX3_height, Cond.instanceMethod yX3_height, Cond.selects RX3 yX3_height yX3_height, Cond.code yX3_height cX3_height 3 (some .int), Cond.methodLink RX6 78 yX6_runCards, Cond.instanceMethod yX6_runCards]
def wsX6_obey_r4 : List Cond := [Cond.selects RX6 yX6_runCards yX6_runCards, Cond.code yX6_runCards cX6_runCards 10 (some .int), Cond.fieldLink RX6 49 "RollerMesh" "turn" "LRollerMesh$Turn;", Cond.methodLink RX6 82 yX6_pairError, Cond.instanceMethod yX6_pairError, Cond.selects RX6 yX6_pairError yX6_pairError, Cond.code yX6_pairError cX6_pairError 6 (some .int), Cond.methodLink RX6 123 yX3_has, Cond.methodLink RX6 86 yX6_outside, Cond.methodLink RX6 90 yX5_lay, Cond.instanceMethod yX5_lay, Cond.selects RX5 yX5_lay yX5_lay, Cond.initialized RX5, Cond.code yX5_lay cX5_lay 11 none, Cond.methodLink RX5 25 Lib.Math.min.name, Cond.static Lib.Math.min.name, Cond.initialized "java/lang/Math", Cond.code Lib.Math.min.name Lib.Math.min.code 2 (some .int), Cond.fieldLink RX5 30 "RollerMesh$Turn" "length" "I", Cond.fieldLink RX5 11 "RollerMesh$Turn" "presses" "[I", Cond.methodLink RX5 15 yX3_teeth, Cond.methodLink RX5 21 yX5_leastMultiple, Cond.static yX5_leastMultiple, Cond.code yX5_leastMultiple cX5_leastMultiple 3 (some .int)]
def wsX6_obey_r5 : List Cond := [Cond.methodLink RX5 34 yX3_height, Cond.methodLink RX5 37 yX5_next, Cond.static yX5_next, Cond.code yX5_next cX5_next 2 (some .int), Cond.methodLink RX6 94 yX3_setting, Cond.instanceMethod yX3_setting, Cond.selects RX3 yX3_setting yX3_setting, Cond.code yX3_setting cX3_setting 2 (some .int), Cond.methodLink RX6 97 yX5_meshes, Cond.instanceMethod yX5_meshes, Cond.selects RX5 yX5_meshes yX5_meshes, Cond.code yX5_meshes cX5_meshes 2 (some .boolean), Cond.methodLink RX5 53 yX5_firstBadStep, Cond.instanceMethod yX5_firstBadStep, Cond.selects RX5 yX5_firstBadStep yX5_firstBadStep, Cond.code yX5_firstBadStep cX5_firstBadStep 3 (some .int), Cond.methodLink RX5 40 yX5_press, Cond.instanceMethod yX5_press, Cond.selects RX5 yX5_press yX5_press, Cond.code yX5_press cX5_press 2 (some .int), Cond.methodLink RX5 49 yX5_isSmoothAt, Cond.instanceMethod yX5_isSmoothAt, Cond.selects RX5 yX5_isSmoothAt yX5_isSmoothAt, Cond.code yX5_isSmoothAt cX5_isSmoothAt 4 (some .boolean)]
def wsX6_obey_r6 : List Cond := [Cond.methodLink RX5 46 Lib.Math.abs.name, Cond.static Lib.Math.abs.name, Cond.code Lib.Math.abs.name Lib.Math.abs.code 1 (some .int), Cond.methodLink RX6 101 yX5_begin, Cond.instanceMethod yX5_begin, Cond.selects RX5 yX5_begin yX5_begin, Cond.code yX5_begin cX5_begin 1 none, Cond.fieldLink RX5 56 "RollerMesh$Turn" "at" "I", Cond.fieldLink RX5 59 "RollerMesh$Turn" "taken" "I", Cond.methodLink RX6 104 yX3_cell, Cond.methodLink RX6 107 yX5_tears, Cond.instanceMethod yX5_tears, Cond.selects RX5 yX5_tears yX5_tears, Cond.code yX5_tears cX5_tears 9 (some .boolean), Cond.methodLink RX5 43 Lib.Math.max.name, Cond.static Lib.Math.max.name, Cond.code Lib.Math.max.name Lib.Math.max.code 2 (some .int), Cond.methodLink RX6 111 yX5_taken, Cond.instanceMethod yX5_taken, Cond.selects RX5 yX5_taken yX5_taken, Cond.code yX5_taken cX5_taken 1 (some .int), Cond.methodLink RX6 115 yX3_countRun, Cond.instanceMethod yX3_countRun, Cond.selects RX3 yX3_countRun yX3_countRun]
def wsX6_obey_r7 : List Cond := [Cond.code yX3_countRun cX3_countRun 4 none, Cond.methodLink RX6 119 yX3_turnRoller, Cond.instanceMethod yX3_turnRoller, Cond.selects RX3 yX3_turnRoller yX3_turnRoller, Cond.code yX3_turnRoller cX3_turnRoller 3 none, Cond.methodLink RX3 63 yX3_stepsSinceWorn, Cond.instanceMethod yX3_stepsSinceWorn, Cond.selects RX3 yX3_stepsSinceWorn yX3_stepsSinceWorn, Cond.code yX3_stepsSinceWorn cX3_stepsSinceWorn 2 (some .int), Cond.methodLink RX3 27 yX3_setting, Cond.methodLink RX3 66 yX3_wearDown, Cond.instanceMethod yX3_wearDown, Cond.selects RX3 yX3_wearDown yX3_wearDown, Cond.code yX3_wearDown cX3_wearDown 5 none, Cond.methodLink RX6 72 yX3_meltRoller, Cond.instanceMethod yX3_meltRoller, Cond.selects RX3 yX3_meltRoller yX3_meltRoller, Cond.code yX3_meltRoller cX3_meltRoller 4 (some .int)]
def wsX6_obey : List Cond := .code yX6_obey cX6_obey 1 (some .int) :: ((wsX6_obey_r1 ++ (wsX6_obey_r2 ++ (wsX6_obey_r3 ++ (wsX6_obey_r4 ++ (wsX6_obey_r5 ++ (wsX6_obey_r6 ++ wsX6_obey_r7)))))) ++ wsX60 ++ wsX20 ++ wsX30 ++ wsX50)
def wsX6_carryOut_r1 : List Cond := [Cond.fieldLink RX6 42 "RollerMesh" "reader" "LRollerMesh$Reader;", Cond.fieldLink RX6 19 "RollerMesh" "history" "LRollerMesh$History;", Cond.fieldLink RX6 10 "RollerMesh" "shop" "LRollerMesh$Shop;", Cond.fieldLink RX6 33 "RollerMesh" "pad" "LRollerMesh$Pad;", Cond.methodLink RX6 192 yX2_firstFault, Cond.instanceMethod yX2_firstFault, Cond.selects RX2 yX2_firstFault yX2_firstFault, Cond.initialized RX2, Cond.code yX2_firstFault cX2_firstFault 2 (some .int), Cond.fieldLink RX2 28 "RollerMesh$Reader" "at" "I", Cond.fieldLink RX2 17 "RollerMesh$Reader" "pad" "LRollerMesh$Pad;", Cond.methodLink RX2 31 yX2_begin, Cond.instanceMethod yX2_begin, Cond.selects RX2 yX2_begin yX2_begin, Cond.code yX2_begin cX2_begin 1 none, Cond.methodLink RX2 34 yX2_readOrder, Cond.instanceMethod yX2_readOrder, Cond.selects RX2 yX2_readOrder yX2_readOrder, Cond.code yX2_readOrder cX2_readOrder 1 (some .boolean), Cond.fieldLink RX2 25 "RollerMesh$Reader" "amount" "I", Cond.fieldLink RX2 21 "RollerMesh$Reader" "kind" "I", Cond.methodLink RX2 46 yX1_codeAt, Cond.instanceMethod yX1_codeAt, Cond.selects RX1 yX1_codeAt yX1_codeAt]
def wsX6_carryOut_r2 : List Cond := [Cond.initialized RX1, Cond.code yX1_codeAt cX1_codeAt 2 (some .int), Cond.fieldLink RX1 15 "RollerMesh$Pad" "length" "I", Cond.fieldLink RX1 11 "RollerMesh$Pad" "codes" "[I", Cond.methodLink RX2 42 yX2_skip, Cond.instanceMethod yX2_skip, Cond.selects RX2 yX2_skip yX2_skip, Cond.code yX2_skip cX2_skip 2 (some .boolean), Cond.methodLink RX2 50 yX2_readValues, Cond.instanceMethod yX2_readValues, Cond.selects RX2 yX2_readValues yX2_readValues, Cond.code yX2_readValues cX2_readValues 3 (some .boolean), Cond.methodLink RX2 56 yX2_readValue, Cond.instanceMethod yX2_readValue, Cond.selects RX2 yX2_readValue yX2_readValue, Cond.code yX2_readValue cX2_readValue 2 (some .boolean), Cond.methodLink RX2 59 yX2_isDigit, Cond.instanceMethod yX2_isDigit, Cond.selects RX2 yX2_isDigit yX2_isDigit, Cond.code yX2_isDigit cX2_isDigit 1 (some .boolean), Cond.static yX6_outside, Cond.initialized RX6, Cond.code yX6_outside cX6_outside 3 (some .boolean), Cond.methodLink RX2 62 yX2_readDigit]
def wsX6_carryOut_r3 : List Cond := [Cond.instanceMethod yX2_readDigit, Cond.selects RX2 yX2_readDigit yX2_readDigit, Cond.code yX2_readDigit cX2_readDigit 2 (some .int), Cond.methodLink RX2 65 yX2_note, Cond.instanceMethod yX2_note, Cond.selects RX2 yX2_note yX2_note, Cond.code yX2_note cX2_note 2 none, Cond.fieldLink RX2 13 "RollerMesh$Reader" "numbers" "[I", Cond.methodLink RX2 53 yX2_readNumber, Cond.instanceMethod yX2_readNumber, Cond.selects RX2 yX2_readNumber yX2_readNumber, Cond.code yX2_readNumber cX2_readNumber 2 (some .boolean), Cond.methodLink RX2 38 yX1_length, Cond.instanceMethod yX1_length, Cond.selects RX1 yX1_length yX1_length, Cond.code yX1_length cX1_length 1 (some .int), Cond.methodLink RX6 53 yX0_prepare, Cond.instanceMethod yX0_prepare, Cond.selects RX0 yX0_prepare yX0_prepare, Cond.initialized RX0, Cond.code yX0_prepare cX0_prepare 2 none, Cond.fieldLink RX0 13 "RollerMesh$History" "states" "[I", Cond.fieldLink RX0 21 "RollerMesh$History" "free" "I", Cond.methodLink RX0 24 yX3_copyTo]
def wsX6_carryOut_r4 : List Cond := [Cond.instanceMethod yX3_copyTo, Cond.selects RX3 yX3_copyTo yX3_copyTo, Cond.initialized RX3, Cond.code yX3_copyTo cX3_copyTo 3 none, Cond.fieldLink RX3 11 "RollerMesh$Shop" "cells" "[I", Cond.methodLink RX3 70 arraycopyName, Cond.native arraycopyName, Cond.static arraycopyName, Cond.initialized "java/lang/System", Cond.methodLink RX6 195 yX2_begin, Cond.methodLink RX6 196 yX2_readOrder, Cond.methodLink RX6 200 yX6_obey, Cond.instanceMethod yX6_obey, Cond.selects RX6 yX6_obey yX6_obey, Cond.code yX6_obey cX6_obey 1 (some .int), Cond.methodLink RX6 207 yX2_kind, Cond.instanceMethod yX2_kind, Cond.selects RX2 yX2_kind yX2_kind, Cond.code yX2_kind cX2_kind 1 (some .int), Cond.methodLink RX6 210 yX6_addRollerOfText, Cond.instanceMethod yX6_addRollerOfText, Cond.selects RX6 yX6_addRollerOfText yX6_addRollerOfText, Cond.code yX6_addRollerOfText cX6_addRollerOfText 4 (some .int), Cond.methodLink RX6 216 yX2_numbers]
def wsX6_carryOut_r5 : List Cond := [Cond.instanceMethod yX2_numbers, Cond.selects RX2 yX2_numbers yX2_numbers, Cond.code yX2_numbers cX2_numbers 1 (some .int), Cond.methodLink RX6 65 yX3_addRoller, Cond.instanceMethod yX3_addRoller, Cond.selects RX3 yX3_addRoller yX3_addRoller, Cond.code yX3_addRoller cX3_addRoller 5 (some .int), Cond.methodLink RX3 15 yX3_cell, Cond.instanceMethod yX3_cell, Cond.selects RX3 yX3_cell yX3_cell, Cond.code yX3_cell cX3_cell 2 (some .int), Cond.methodLink RX3 37 yX3_placeOf, Cond.static yX3_placeOf, Cond.code yX3_placeOf cX3_placeOf 1 (some .int), Cond.methodLink RX3 19 yX3_change, Cond.instanceMethod yX3_change, Cond.selects RX3 yX3_change yX3_change, Cond.code yX3_change cX3_change 3 none, Cond.methodLink RX3 40 yX3_shape, Cond.instanceMethod yX3_shape, Cond.selects RX3 yX3_shape yX3_shape, Cond.code yX3_shape cX3_shape 4 none, Cond.methodLink RX3 44 yX3_raise, Cond.instanceMethod yX3_raise]
def wsX6_carryOut_r6 : List Cond := [Cond.selects RX3 yX3_raise yX3_raise, Cond.code yX3_raise cX3_raise 3 none, Cond.methodLink RX6 213 yX2_number, Cond.instanceMethod yX2_number, Cond.selects RX2 yX2_number yX2_number, Cond.code yX2_number cX2_number 2 (some .int), Cond.methodLink RX6 68 yX3_fileTooth, Cond.instanceMethod yX3_fileTooth, Cond.selects RX3 yX3_fileTooth yX3_fileTooth, Cond.code yX3_fileTooth cX3_fileTooth 5 (some .int), Cond.methodLink RX3 47 yX3_hasTooth, Cond.instanceMethod yX3_hasTooth, Cond.selects RX3 yX3_hasTooth yX3_hasTooth, Cond.code yX3_hasTooth cX3_hasTooth 3 (some .boolean), Cond.methodLink RX3 30 yX3_has, Cond.instanceMethod yX3_has, Cond.selects RX3 yX3_has yX3_has, Cond.code yX3_has cX3_has 2 (some .boolean), Cond.methodLink RX3 34 yX3_teeth, Cond.instanceMethod yX3_teeth, Cond.selects RX3 yX3_teeth yX3_teeth, Cond.code yX3_teeth cX3_teeth 2 (some .int), Cond.methodLink RX3 51 yX3_height, Cond.instanceMethod yX3_height]
def wsX6_carryOut_r7 : List Cond := [Cond.selects RX3 yX3_height yX3_height, Cond.code yX3_height cX3_height 3 (some .int), Cond.methodLink RX6 78 yX6_runCards, Cond.instanceMethod yX6_runCards, Cond.selects RX6 yX6_runCards yX6_runCards, Cond.code yX6_runCards cX6_runCards 10 (some .int), Cond.fieldLink RX6 49 "RollerMesh" "turn" "LRollerMesh$Turn;", Cond.methodLink RX6 82 yX6_pairError, Cond.instanceMethod yX6_pairError, Cond.selects RX6 yX6_pairError yX6_pairError, Cond.code yX6_pairError cX6_pairError 6 (some .int), Cond.methodLink RX6 123 yX3_has, Cond.methodLink RX6 86 yX6_outside, Cond.methodLink RX6 90 yX5_lay, Cond.instanceMethod yX5_lay, Cond.selects RX5 yX5_lay yX5_lay, Cond.initialized RX5, Cond.code yX5_lay cX5_lay 11 none, Cond.methodLink RX5 25 Lib.Math.min.name, Cond.static Lib.Math.min.name, Cond.initialized "java/lang/Math", Cond.code Lib.Math.min.name Lib.Math.min.code 2 (some .int), Cond.fieldLink RX5 30 "RollerMesh$Turn" "length" "I", Cond.fieldLink RX5 11 "RollerMesh$Turn" "presses" "[I"]
def wsX6_carryOut_r8 : List Cond := [Cond.methodLink RX5 15 yX3_teeth, Cond.methodLink RX5 21 yX5_leastMultiple, Cond.static yX5_leastMultiple, Cond.code yX5_leastMultiple cX5_leastMultiple 3 (some .int), Cond.methodLink RX5 34 yX3_height, Cond.methodLink RX5 37 yX5_next, Cond.static yX5_next, Cond.code yX5_next cX5_next 2 (some .int), Cond.methodLink RX6 94 yX3_setting, Cond.instanceMethod yX3_setting, Cond.selects RX3 yX3_setting yX3_setting, Cond.code yX3_setting cX3_setting 2 (some .int), Cond.methodLink RX6 97 yX5_meshes, Cond.instanceMethod yX5_meshes, Cond.selects RX5 yX5_meshes yX5_meshes, Cond.code yX5_meshes cX5_meshes 2 (some .boolean), Cond.methodLink RX5 53 yX5_firstBadStep, Cond.instanceMethod yX5_firstBadStep, Cond.selects RX5 yX5_firstBadStep yX5_firstBadStep, Cond.code yX5_firstBadStep cX5_firstBadStep 3 (some .int), Cond.methodLink RX5 40 yX5_press, Cond.instanceMethod yX5_press, Cond.selects RX5 yX5_press yX5_press, Cond.code yX5_press cX5_press 2 (some .int)]
def wsX6_carryOut_r9 : List Cond := [Cond.methodLink RX5 49 yX5_isSmoothAt, Cond.instanceMethod yX5_isSmoothAt, Cond.selects RX5 yX5_isSmoothAt yX5_isSmoothAt, Cond.code yX5_isSmoothAt cX5_isSmoothAt 4 (some .boolean), Cond.methodLink RX5 46 Lib.Math.abs.name, Cond.static Lib.Math.abs.name, Cond.code Lib.Math.abs.name Lib.Math.abs.code 1 (some .int), Cond.methodLink RX6 101 yX5_begin, Cond.instanceMethod yX5_begin, Cond.selects RX5 yX5_begin yX5_begin, Cond.code yX5_begin cX5_begin 1 none, Cond.fieldLink RX5 56 "RollerMesh$Turn" "at" "I", Cond.fieldLink RX5 59 "RollerMesh$Turn" "taken" "I", Cond.methodLink RX6 104 yX3_cell, Cond.methodLink RX6 107 yX5_tears, Cond.instanceMethod yX5_tears, Cond.selects RX5 yX5_tears yX5_tears, Cond.code yX5_tears cX5_tears 9 (some .boolean), Cond.methodLink RX5 43 Lib.Math.max.name, Cond.static Lib.Math.max.name, Cond.code Lib.Math.max.name Lib.Math.max.code 2 (some .int), Cond.methodLink RX6 111 yX5_taken, Cond.instanceMethod yX5_taken, Cond.selects RX5 yX5_taken yX5_taken]
def wsX6_carryOut_r10 : List Cond := [Cond.code yX5_taken cX5_taken 1 (some .int), Cond.methodLink RX6 115 yX3_countRun, Cond.instanceMethod yX3_countRun, Cond.selects RX3 yX3_countRun yX3_countRun, Cond.code yX3_countRun cX3_countRun 4 none, Cond.methodLink RX6 119 yX3_turnRoller, Cond.instanceMethod yX3_turnRoller, Cond.selects RX3 yX3_turnRoller yX3_turnRoller, Cond.code yX3_turnRoller cX3_turnRoller 3 none, Cond.methodLink RX3 63 yX3_stepsSinceWorn, Cond.instanceMethod yX3_stepsSinceWorn, Cond.selects RX3 yX3_stepsSinceWorn yX3_stepsSinceWorn, Cond.code yX3_stepsSinceWorn cX3_stepsSinceWorn 2 (some .int), Cond.methodLink RX3 27 yX3_setting, Cond.methodLink RX3 66 yX3_wearDown, Cond.instanceMethod yX3_wearDown, Cond.selects RX3 yX3_wearDown yX3_wearDown, Cond.code yX3_wearDown cX3_wearDown 5 none, Cond.methodLink RX6 72 yX3_meltRoller, Cond.instanceMethod yX3_meltRoller, Cond.selects RX3 yX3_meltRoller yX3_meltRoller, Cond.code yX3_meltRoller cX3_meltRoller 4 (some .int), Cond.methodLink RX6 203 yX2_skip, Cond.methodLink RX6 189 yX1_clear]
def wsX6_carryOut_r11 : List Cond := [Cond.instanceMethod yX1_clear, Cond.selects RX1 yX1_clear yX1_clear, Cond.code yX1_clear cX1_clear 2 (some .int), Cond.methodLink RX6 61 yX0_recorded, Cond.instanceMethod yX0_recorded, Cond.selects RX0 yX0_recorded yX0_recorded, Cond.code yX0_recorded cX0_recorded 2 (some .int), Cond.fieldLink RX0 17 "RollerMesh$History" "length" "I", Cond.methodLink RX0 28 Lib.Math.min.name]
def wsX6_carryOut : List Cond := .code yX6_carryOut cX6_carryOut 2 (some .int) :: ((wsX6_carryOut_r1 ++ (wsX6_carryOut_r2 ++ (wsX6_carryOut_r3 ++ (wsX6_carryOut_r4 ++ (wsX6_carryOut_r5 ++ (wsX6_carryOut_r6 ++ (wsX6_carryOut_r7 ++ (wsX6_carryOut_r8 ++ (wsX6_carryOut_r9 ++ (wsX6_carryOut_r10 ++ wsX6_carryOut_r11)))))))))) ++ wsX60 ++ wsX20 ++ wsX10 ++ wsX00 ++ wsX30 ++ wsX50)
def wsX6_undo : List Cond := .code yX6_undo cX6_undo 1 (some .int) :: ([.fieldLink RX6 19 "RollerMesh" "history" "LRollerMesh$History;", .fieldLink RX6 10 "RollerMesh" "shop" "LRollerMesh$Shop;", .methodLink RX6 219 yX0_stepBack, .instanceMethod yX0_stepBack, .selects RX0 yX0_stepBack yX0_stepBack, .initialized RX0, .code yX0_stepBack cX0_stepBack 2 (some .int), .fieldLink RX0 17 "RollerMesh$History" "length" "I", .fieldLink RX0 21 "RollerMesh$History" "free" "I", .fieldLink RX0 13 "RollerMesh$History" "states" "[I", .methodLink RX0 34 yX3_copyFrom, .instanceMethod yX3_copyFrom, .selects RX3 yX3_copyFrom yX3_copyFrom, .initialized RX3, .code yX3_copyFrom cX3_copyFrom 3 none, .fieldLink RX3 11 "RollerMesh$Shop" "cells" "[I", .methodLink RX3 70 arraycopyName, .native arraycopyName, .static arraycopyName, .initialized "java/lang/System"] ++ wsX60 ++ wsX00 ++ wsX30)
def wsX6_save_r1 : List Cond := [Cond.fieldLink RX6 26 "RollerMesh" "slots" "LRollerMesh$Slots;", Cond.fieldLink RX6 10 "RollerMesh" "shop" "LRollerMesh$Shop;", Cond.methodLink RX6 223 yX4_keep, Cond.instanceMethod yX4_keep, Cond.selects RX4 yX4_keep yX4_keep, Cond.initialized RX4, Cond.code yX4_keep cX4_keep 3 (some .int), Cond.fieldLink RX4 13 "RollerMesh$Slots" "states" "[I", Cond.fieldLink RX4 25 "RollerMesh$Slots" "filled" "I", Cond.static yX6_outside, Cond.initialized RX6, Cond.code yX6_outside cX6_outside 3 (some .boolean), Cond.methodLink RX4 21 yX3_copyTo, Cond.instanceMethod yX3_copyTo, Cond.selects RX3 yX3_copyTo yX3_copyTo, Cond.initialized RX3, Cond.code yX3_copyTo cX3_copyTo 3 none, Cond.fieldLink RX3 11 "RollerMesh$Shop" "cells" "[I", Cond.methodLink RX3 70 arraycopyName, Cond.native arraycopyName, Cond.static arraycopyName, Cond.initialized "java/lang/System", Cond.methodLink RX4 29 yX3_cell, Cond.instanceMethod yX3_cell]
def wsX6_save_r2 : List Cond := [Cond.selects RX3 yX3_cell yX3_cell, Cond.code yX3_cell cX3_cell 2 (some .int)]
def wsX6_save : List Cond := .code yX6_save cX6_save 2 (some .int) :: ((wsX6_save_r1 ++ wsX6_save_r2) ++ wsX60 ++ wsX40 ++ wsX30)
def wsX6_restore_r1 : List Cond := [Cond.fieldLink RX6 19 "RollerMesh" "history" "LRollerMesh$History;", Cond.fieldLink RX6 10 "RollerMesh" "shop" "LRollerMesh$Shop;", Cond.fieldLink RX6 26 "RollerMesh" "slots" "LRollerMesh$Slots;", Cond.methodLink RX6 53 yX0_prepare, Cond.instanceMethod yX0_prepare, Cond.selects RX0 yX0_prepare yX0_prepare, Cond.initialized RX0, Cond.code yX0_prepare cX0_prepare 2 none, Cond.fieldLink RX0 13 "RollerMesh$History" "states" "[I", Cond.fieldLink RX0 21 "RollerMesh$History" "free" "I", Cond.methodLink RX0 24 yX3_copyTo, Cond.instanceMethod yX3_copyTo, Cond.selects RX3 yX3_copyTo yX3_copyTo, Cond.initialized RX3, Cond.code yX3_copyTo cX3_copyTo 3 none, Cond.fieldLink RX3 11 "RollerMesh$Shop" "cells" "[I", Cond.methodLink RX3 70 arraycopyName, Cond.native arraycopyName, Cond.static arraycopyName, Cond.initialized "java/lang/System", Cond.methodLink RX6 227 yX4_fetch, Cond.instanceMethod yX4_fetch, Cond.selects RX4 yX4_fetch yX4_fetch, Cond.initialized RX4]
def wsX6_restore_r2 : List Cond := [Cond.code yX4_fetch cX4_fetch 3 (some .int), Cond.fieldLink RX4 25 "RollerMesh$Slots" "filled" "I", Cond.fieldLink RX4 13 "RollerMesh$Slots" "states" "[I", Cond.static yX6_outside, Cond.initialized RX6, Cond.code yX6_outside cX6_outside 3 (some .boolean), Cond.methodLink RX4 33 yX3_copyFrom, Cond.instanceMethod yX3_copyFrom, Cond.selects RX3 yX3_copyFrom yX3_copyFrom, Cond.code yX3_copyFrom cX3_copyFrom 3 none, Cond.methodLink RX4 29 yX3_cell, Cond.instanceMethod yX3_cell, Cond.selects RX3 yX3_cell yX3_cell, Cond.code yX3_cell cX3_cell 2 (some .int), Cond.methodLink RX6 61 yX0_recorded, Cond.instanceMethod yX0_recorded, Cond.selects RX0 yX0_recorded yX0_recorded, Cond.code yX0_recorded cX0_recorded 2 (some .int), Cond.fieldLink RX0 17 "RollerMesh$History" "length" "I", Cond.methodLink RX0 28 Lib.Math.min.name, Cond.static Lib.Math.min.name, Cond.initialized "java/lang/Math", Cond.code Lib.Math.min.name Lib.Math.min.code 2 (some .int)]
def wsX6_restore : List Cond := .code yX6_restore cX6_restore 2 (some .int) :: ((wsX6_restore_r1 ++ wsX6_restore_r2) ++ wsX60 ++ wsX00 ++ wsX30 ++ wsX40)
def wsJ9_abs_0f7a4 : List Cond := .code yJ9_abs_0f7a4 cJ9_abs_0f7a4 1 (some .int) :: ([])
def wsJ9_max_7cf53 : List Cond := .code yJ9_max_7cf53 cJ9_max_7cf53 2 (some .int) :: ([])
def wsJ9_min_7cf53 : List Cond := .code yJ9_min_7cf53 cJ9_min_7cf53 2 (some .int) :: ([])
def wsL_part : List Cond := .code yL_part cL_part 2 (some .int) :: ([.constant RL 7 (2147483647)])
def wsL_drawn : List Cond := .code yL_drawn cL_drawn 2 (some .int) :: ([.constant RL 8 (2654435)])
def wsL_seen_r1 : List Cond := [Cond.constantLong RL 9 (59), Cond.constantLong RL 11 (31), Cond.methodLink RL 13 yX6_count, Cond.instanceMethod yX6_count, Cond.selects RX6 yX6_count yX6_count, Cond.initialized RX6, Cond.code yX6_count cX6_count 2 (some .int), Cond.fieldLink RX6 33 "RollerMesh" "pad" "LRollerMesh$Pad;", Cond.fieldLink RX6 19 "RollerMesh" "history" "LRollerMesh$History;", Cond.fieldLink RX6 10 "RollerMesh" "shop" "LRollerMesh$Shop;", Cond.methodLink RX6 86 yX6_outside, Cond.static yX6_outside, Cond.code yX6_outside cX6_outside 3 (some .boolean), Cond.methodLink RX6 151 yX1_length, Cond.instanceMethod yX1_length, Cond.selects RX1 yX1_length yX1_length, Cond.initialized RX1, Cond.code yX1_length cX1_length 1 (some .int), Cond.fieldLink RX1 15 "RollerMesh$Pad" "length" "I", Cond.methodLink RX6 154 yX0_length, Cond.instanceMethod yX0_length, Cond.selects RX0 yX0_length yX0_length, Cond.initialized RX0, Cond.code yX0_length cX0_length 1 (some .int)]
def wsL_seen_r2 : List Cond := [Cond.fieldLink RX0 17 "RollerMesh$History" "length" "I", Cond.methodLink RX6 104 yX3_cell, Cond.instanceMethod yX3_cell, Cond.selects RX3 yX3_cell yX3_cell, Cond.initialized RX3, Cond.code yX3_cell cX3_cell 2 (some .int), Cond.fieldLink RX3 11 "RollerMesh$Shop" "cells" "[I", Cond.methodLink RL 19 yX6_of, Cond.instanceMethod yX6_of, Cond.selects RX6 yX6_of yX6_of, Cond.code yX6_of cX6_of 3 (some .int), Cond.methodLink RX6 123 yX3_has, Cond.instanceMethod yX3_has, Cond.selects RX3 yX3_has yX3_has, Cond.code yX3_has cX3_has 2 (some .boolean), Cond.methodLink RX3 15 yX3_cell, Cond.methodLink RX6 126 yX3_teeth, Cond.instanceMethod yX3_teeth, Cond.selects RX3 yX3_teeth yX3_teeth, Cond.code yX3_teeth cX3_teeth 2 (some .int), Cond.methodLink RX3 37 yX3_placeOf, Cond.static yX3_placeOf, Cond.code yX3_placeOf cX3_placeOf 1 (some .int), Cond.methodLink RX6 129 yX3_teethOfSign]
def wsL_seen_r3 : List Cond := [Cond.instanceMethod yX3_teethOfSign, Cond.selects RX3 yX3_teethOfSign yX3_teethOfSign, Cond.code yX3_teethOfSign cX3_teethOfSign 5 (some .int), Cond.methodLink RX3 34 yX3_teeth, Cond.methodLink RX3 51 yX3_height, Cond.instanceMethod yX3_height, Cond.selects RX3 yX3_height yX3_height, Cond.code yX3_height cX3_height 3 (some .int), Cond.methodLink RX6 132 yX3_greatestHeight, Cond.instanceMethod yX3_greatestHeight, Cond.selects RX3 yX3_greatestHeight yX3_greatestHeight, Cond.code yX3_greatestHeight cX3_greatestHeight 4 (some .int), Cond.methodLink RX3 55 Lib.Math.max.name, Cond.static Lib.Math.max.name, Cond.initialized "java/lang/Math", Cond.code Lib.Math.max.name Lib.Math.max.code 2 (some .int), Cond.methodLink RX6 135 yX3_leastHeight, Cond.instanceMethod yX3_leastHeight, Cond.selects RX3 yX3_leastHeight yX3_leastHeight, Cond.code yX3_leastHeight cX3_leastHeight 4 (some .int), Cond.methodLink RX3 60 Lib.Math.min.name, Cond.static Lib.Math.min.name, Cond.code Lib.Math.min.name Lib.Math.min.code 2 (some .int), Cond.methodLink RX6 138 yX3_stepsSinceWorn]
def wsL_seen_r4 : List Cond := [Cond.instanceMethod yX3_stepsSinceWorn, Cond.selects RX3 yX3_stepsSinceWorn yX3_stepsSinceWorn, Cond.code yX3_stepsSinceWorn cX3_stepsSinceWorn 2 (some .int), Cond.methodLink RX6 141 yX3_timesWorn, Cond.instanceMethod yX3_timesWorn, Cond.selects RX3 yX3_timesWorn yX3_timesWorn, Cond.code yX3_timesWorn cX3_timesWorn 2 (some .int), Cond.methodLink RL 23 yX6_tooth, Cond.instanceMethod yX6_tooth, Cond.selects RX6 yX6_tooth yX6_tooth, Cond.code yX6_tooth cX6_tooth 3 (some .int), Cond.methodLink RX6 144 yX3_hasTooth, Cond.instanceMethod yX3_hasTooth, Cond.selects RX3 yX3_hasTooth yX3_hasTooth, Cond.code yX3_hasTooth cX3_hasTooth 3 (some .boolean), Cond.methodLink RX3 30 yX3_has, Cond.methodLink RX6 148 yX3_height]
def wsL_seen : List Cond := .code yL_seen cL_seen 4 (some .long) :: ((wsL_seen_r1 ++ (wsL_seen_r2 ++ (wsL_seen_r3 ++ wsL_seen_r4))) ++ wsX60 ++ wsX10 ++ wsX00 ++ wsX30)
def wsL_refusesAny_r1 : List Cond := [Cond.constantLong RL 75 (32), Cond.constantLong RL 81 (127), Cond.constantLong RL 83 (11008), Cond.methodLink RL 13 yX6_count, Cond.instanceMethod yX6_count, Cond.selects RX6 yX6_count yX6_count, Cond.initialized RX6, Cond.code yX6_count cX6_count 2 (some .int), Cond.fieldLink RX6 33 "RollerMesh" "pad" "LRollerMesh$Pad;", Cond.fieldLink RX6 19 "RollerMesh" "history" "LRollerMesh$History;", Cond.fieldLink RX6 10 "RollerMesh" "shop" "LRollerMesh$Shop;", Cond.methodLink RX6 86 yX6_outside, Cond.static yX6_outside, Cond.code yX6_outside cX6_outside 3 (some .boolean), Cond.methodLink RX6 151 yX1_length, Cond.instanceMethod yX1_length, Cond.selects RX1 yX1_length yX1_length, Cond.initialized RX1, Cond.code yX1_length cX1_length 1 (some .int), Cond.fieldLink RX1 15 "RollerMesh$Pad" "length" "I", Cond.methodLink RX6 154 yX0_length, Cond.instanceMethod yX0_length, Cond.selects RX0 yX0_length yX0_length, Cond.initialized RX0]
def wsL_refusesAny_r2 : List Cond := [Cond.code yX0_length cX0_length 1 (some .int), Cond.fieldLink RX0 17 "RollerMesh$History" "length" "I", Cond.methodLink RX6 104 yX3_cell, Cond.instanceMethod yX3_cell, Cond.selects RX3 yX3_cell yX3_cell, Cond.initialized RX3, Cond.code yX3_cell cX3_cell 2 (some .int), Cond.fieldLink RX3 11 "RollerMesh$Shop" "cells" "[I", Cond.methodLink RL 26 yX6_set, Cond.instanceMethod yX6_set, Cond.selects RX6 yX6_set yX6_set, Cond.code yX6_set cX6_set 3 (some .int), Cond.methodLink RX6 53 yX0_prepare, Cond.instanceMethod yX0_prepare, Cond.selects RX0 yX0_prepare yX0_prepare, Cond.code yX0_prepare cX0_prepare 2 none, Cond.fieldLink RX0 13 "RollerMesh$History" "states" "[I", Cond.fieldLink RX0 21 "RollerMesh$History" "free" "I", Cond.methodLink RX0 24 yX3_copyTo, Cond.instanceMethod yX3_copyTo, Cond.selects RX3 yX3_copyTo yX3_copyTo, Cond.code yX3_copyTo cX3_copyTo 3 none, Cond.methodLink RX3 70 arraycopyName, Cond.native arraycopyName]
def wsL_refusesAny_r3 : List Cond := [Cond.static arraycopyName, Cond.initialized "java/lang/System", Cond.methodLink RX6 57 yX3_changeSetting, Cond.instanceMethod yX3_changeSetting, Cond.selects RX3 yX3_changeSetting yX3_changeSetting, Cond.code yX3_changeSetting cX3_changeSetting 5 (some .int), Cond.methodLink RX3 27 yX3_setting, Cond.instanceMethod yX3_setting, Cond.selects RX3 yX3_setting yX3_setting, Cond.code yX3_setting cX3_setting 2 (some .int), Cond.methodLink RX3 15 yX3_cell, Cond.methodLink RX3 19 yX3_change, Cond.instanceMethod yX3_change, Cond.selects RX3 yX3_change yX3_change, Cond.code yX3_change cX3_change 3 none, Cond.methodLink RX6 61 yX0_recorded, Cond.instanceMethod yX0_recorded, Cond.selects RX0 yX0_recorded yX0_recorded, Cond.code yX0_recorded cX0_recorded 2 (some .int), Cond.methodLink RX0 28 Lib.Math.min.name, Cond.static Lib.Math.min.name, Cond.initialized "java/lang/Math", Cond.code Lib.Math.min.name Lib.Math.min.code 2 (some .int), Cond.methodLink RL 31 yX6_roller]
def wsL_refusesAny_r4 : List Cond := [Cond.instanceMethod yX6_roller, Cond.selects RX6 yX6_roller yX6_roller, Cond.code yX6_roller cX6_roller 3 (some .int), Cond.methodLink RX6 65 yX3_addRoller, Cond.instanceMethod yX3_addRoller, Cond.selects RX3 yX3_addRoller yX3_addRoller, Cond.code yX3_addRoller cX3_addRoller 5 (some .int), Cond.methodLink RX3 37 yX3_placeOf, Cond.static yX3_placeOf, Cond.code yX3_placeOf cX3_placeOf 1 (some .int), Cond.methodLink RX3 40 yX3_shape, Cond.instanceMethod yX3_shape, Cond.selects RX3 yX3_shape yX3_shape, Cond.code yX3_shape cX3_shape 4 none, Cond.methodLink RX3 44 yX3_raise, Cond.instanceMethod yX3_raise, Cond.selects RX3 yX3_raise yX3_raise, Cond.code yX3_raise cX3_raise 3 none, Cond.methodLink RL 34 yX6_file, Cond.instanceMethod yX6_file, Cond.selects RX6 yX6_file yX6_file, Cond.code yX6_file cX6_file 4 (some .int), Cond.methodLink RX6 68 yX3_fileTooth, Cond.instanceMethod yX3_fileTooth]
def wsL_refusesAny_r5 : List Cond := [Cond.selects RX3 yX3_fileTooth yX3_fileTooth, Cond.code yX3_fileTooth cX3_fileTooth 5 (some .int), Cond.methodLink RX3 47 yX3_hasTooth, Cond.instanceMethod yX3_hasTooth, Cond.selects RX3 yX3_hasTooth yX3_hasTooth, Cond.code yX3_hasTooth cX3_hasTooth 3 (some .boolean), Cond.methodLink RX3 30 yX3_has, Cond.instanceMethod yX3_has, Cond.selects RX3 yX3_has yX3_has, Cond.code yX3_has cX3_has 2 (some .boolean), Cond.methodLink RX3 34 yX3_teeth, Cond.instanceMethod yX3_teeth, Cond.selects RX3 yX3_teeth yX3_teeth, Cond.code yX3_teeth cX3_teeth 2 (some .int), Cond.methodLink RX3 51 yX3_height, Cond.instanceMethod yX3_height, Cond.selects RX3 yX3_height yX3_height, Cond.code yX3_height cX3_height 3 (some .int), Cond.methodLink RL 38 yX6_melt, Cond.instanceMethod yX6_melt, Cond.selects RX6 yX6_melt yX6_melt, Cond.code yX6_melt cX6_melt 2 (some .int), Cond.methodLink RX6 72 yX3_meltRoller, Cond.instanceMethod yX3_meltRoller]
def wsL_refusesAny_r6 : List Cond := [Cond.selects RX3 yX3_meltRoller yX3_meltRoller, Cond.code yX3_meltRoller cX3_meltRoller 4 (some .int), Cond.methodLink RL 41 yX6_card, Cond.instanceMethod yX6_card, Cond.selects RX6 yX6_card yX6_card, Cond.code yX6_card cX6_card 3 (some .int), Cond.methodLink RX6 75 yX3_changeCard, Cond.instanceMethod yX3_changeCard, Cond.selects RX3 yX3_changeCard yX3_changeCard, Cond.code yX3_changeCard cX3_changeCard 4 (some .int), Cond.methodLink RL 44 yX6_carryOut, Cond.instanceMethod yX6_carryOut, Cond.selects RX6 yX6_carryOut yX6_carryOut, Cond.code yX6_carryOut cX6_carryOut 2 (some .int), Cond.fieldLink RX6 42 "RollerMesh" "reader" "LRollerMesh$Reader;", Cond.methodLink RX6 192 yX2_firstFault, Cond.instanceMethod yX2_firstFault, Cond.selects RX2 yX2_firstFault yX2_firstFault, Cond.initialized RX2, Cond.code yX2_firstFault cX2_firstFault 2 (some .int), Cond.fieldLink RX2 28 "RollerMesh$Reader" "at" "I", Cond.fieldLink RX2 17 "RollerMesh$Reader" "pad" "LRollerMesh$Pad;", Cond.methodLink RX2 31 yX2_begin, Cond.instanceMethod yX2_begin]
def wsL_refusesAny_r7 : List Cond := [Cond.selects RX2 yX2_begin yX2_begin, Cond.code yX2_begin cX2_begin 1 none, Cond.methodLink RX2 34 yX2_readOrder, Cond.instanceMethod yX2_readOrder, Cond.selects RX2 yX2_readOrder yX2_readOrder, Cond.code yX2_readOrder cX2_readOrder 1 (some .boolean), Cond.fieldLink RX2 25 "RollerMesh$Reader" "amount" "I", Cond.fieldLink RX2 21 "RollerMesh$Reader" "kind" "I", Cond.methodLink RX2 46 yX1_codeAt, Cond.instanceMethod yX1_codeAt, Cond.selects RX1 yX1_codeAt yX1_codeAt, Cond.code yX1_codeAt cX1_codeAt 2 (some .int), Cond.fieldLink RX1 11 "RollerMesh$Pad" "codes" "[I", Cond.methodLink RX2 42 yX2_skip, Cond.instanceMethod yX2_skip, Cond.selects RX2 yX2_skip yX2_skip, Cond.code yX2_skip cX2_skip 2 (some .boolean), Cond.methodLink RX2 50 yX2_readValues, Cond.instanceMethod yX2_readValues, Cond.selects RX2 yX2_readValues yX2_readValues, Cond.code yX2_readValues cX2_readValues 3 (some .boolean), Cond.methodLink RX2 56 yX2_readValue, Cond.instanceMethod yX2_readValue, Cond.selects RX2 yX2_readValue yX2_readValue]
def wsL_refusesAny_r8 : List Cond := [Cond.code yX2_readValue cX2_readValue 2 (some .boolean), Cond.methodLink RX2 59 yX2_isDigit, Cond.instanceMethod yX2_isDigit, Cond.selects RX2 yX2_isDigit yX2_isDigit, Cond.code yX2_isDigit cX2_isDigit 1 (some .boolean), Cond.methodLink RX2 62 yX2_readDigit, Cond.instanceMethod yX2_readDigit, Cond.selects RX2 yX2_readDigit yX2_readDigit, Cond.code yX2_readDigit cX2_readDigit 2 (some .int), Cond.methodLink RX2 65 yX2_note, Cond.instanceMethod yX2_note, Cond.selects RX2 yX2_note yX2_note, Cond.code yX2_note cX2_note 2 none, Cond.fieldLink RX2 13 "RollerMesh$Reader" "numbers" "[I", Cond.methodLink RX2 53 yX2_readNumber, Cond.instanceMethod yX2_readNumber, Cond.selects RX2 yX2_readNumber yX2_readNumber, Cond.code yX2_readNumber cX2_readNumber 2 (some .boolean), Cond.methodLink RX2 38 yX1_length, Cond.methodLink RX6 195 yX2_begin, Cond.methodLink RX6 196 yX2_readOrder, Cond.methodLink RX6 200 yX6_obey, Cond.instanceMethod yX6_obey, Cond.selects RX6 yX6_obey yX6_obey]
def wsL_refusesAny_r9 : List Cond := [Cond.code yX6_obey cX6_obey 1 (some .int), Cond.methodLink RX6 207 yX2_kind, Cond.instanceMethod yX2_kind, Cond.selects RX2 yX2_kind yX2_kind, Cond.code yX2_kind cX2_kind 1 (some .int), Cond.methodLink RX6 210 yX6_addRollerOfText, Cond.instanceMethod yX6_addRollerOfText, Cond.selects RX6 yX6_addRollerOfText yX6_addRollerOfText, Cond.code yX6_addRollerOfText cX6_addRollerOfText 4 (some .int), Cond.methodLink RX6 216 yX2_numbers, Cond.instanceMethod yX2_numbers, Cond.selects RX2 yX2_numbers yX2_numbers, Cond.code yX2_numbers cX2_numbers 1 (some .int), Cond.methodLink RX6 213 yX2_number, Cond.instanceMethod yX2_number, Cond.selects RX2 yX2_number yX2_number, Cond.code yX2_number cX2_number 2 (some .int), Cond.methodLink RX6 78 yX6_runCards, Cond.instanceMethod yX6_runCards, Cond.selects RX6 yX6_runCards yX6_runCards, Cond.code yX6_runCards cX6_runCards 10 (some .int), Cond.fieldLink RX6 49 "RollerMesh" "turn" "LRollerMesh$Turn;", Cond.methodLink RX6 82 yX6_pairError, Cond.instanceMethod yX6_pairError]
def wsL_refusesAny_r10 : List Cond := [Cond.selects RX6 yX6_pairError yX6_pairError, Cond.code yX6_pairError cX6_pairError 6 (some .int), Cond.methodLink RX6 123 yX3_has, Cond.methodLink RX6 90 yX5_lay, Cond.instanceMethod yX5_lay, Cond.selects RX5 yX5_lay yX5_lay, Cond.initialized RX5, Cond.code yX5_lay cX5_lay 11 none, Cond.methodLink RX5 25 Lib.Math.min.name, Cond.fieldLink RX5 30 "RollerMesh$Turn" "length" "I", Cond.fieldLink RX5 11 "RollerMesh$Turn" "presses" "[I", Cond.methodLink RX5 15 yX3_teeth, Cond.methodLink RX5 21 yX5_leastMultiple, Cond.static yX5_leastMultiple, Cond.code yX5_leastMultiple cX5_leastMultiple 3 (some .int), Cond.methodLink RX5 34 yX3_height, Cond.methodLink RX5 37 yX5_next, Cond.static yX5_next, Cond.code yX5_next cX5_next 2 (some .int), Cond.methodLink RX6 94 yX3_setting, Cond.methodLink RX6 97 yX5_meshes, Cond.instanceMethod yX5_meshes, Cond.selects RX5 yX5_meshes yX5_meshes, Cond.code yX5_meshes cX5_meshes 2 (some .boolean)]
def wsL_refusesAny_r11 : List Cond := [Cond.methodLink RX5 53 yX5_firstBadStep, Cond.instanceMethod yX5_firstBadStep, Cond.selects RX5 yX5_firstBadStep yX5_firstBadStep, Cond.code yX5_firstBadStep cX5_firstBadStep 3 (some .int), Cond.methodLink RX5 40 yX5_press, Cond.instanceMethod yX5_press, Cond.selects RX5 yX5_press yX5_press, Cond.code yX5_press cX5_press 2 (some .int), Cond.methodLink RX5 49 yX5_isSmoothAt, Cond.instanceMethod yX5_isSmoothAt, Cond.selects RX5 yX5_isSmoothAt yX5_isSmoothAt, Cond.code yX5_isSmoothAt cX5_isSmoothAt 4 (some .boolean), Cond.methodLink RX5 46 Lib.Math.abs.name, Cond.static Lib.Math.abs.name, Cond.code Lib.Math.abs.name Lib.Math.abs.code 1 (some .int), Cond.methodLink RX6 101 yX5_begin, Cond.instanceMethod yX5_begin, Cond.selects RX5 yX5_begin yX5_begin, Cond.code yX5_begin cX5_begin 1 none, Cond.fieldLink RX5 56 "RollerMesh$Turn" "at" "I", Cond.fieldLink RX5 59 "RollerMesh$Turn" "taken" "I", Cond.methodLink RX6 107 yX5_tears, Cond.instanceMethod yX5_tears, Cond.selects RX5 yX5_tears yX5_tears]
def wsL_refusesAny_r12 : List Cond := [Cond.code yX5_tears cX5_tears 9 (some .boolean), Cond.methodLink RX5 43 Lib.Math.max.name, Cond.static Lib.Math.max.name, Cond.code Lib.Math.max.name Lib.Math.max.code 2 (some .int), Cond.methodLink RX6 111 yX5_taken, Cond.instanceMethod yX5_taken, Cond.selects RX5 yX5_taken yX5_taken, Cond.code yX5_taken cX5_taken 1 (some .int), Cond.methodLink RX6 115 yX3_countRun, Cond.instanceMethod yX3_countRun, Cond.selects RX3 yX3_countRun yX3_countRun, Cond.code yX3_countRun cX3_countRun 4 none, Cond.methodLink RX6 119 yX3_turnRoller, Cond.instanceMethod yX3_turnRoller, Cond.selects RX3 yX3_turnRoller yX3_turnRoller, Cond.code yX3_turnRoller cX3_turnRoller 3 none, Cond.methodLink RX3 63 yX3_stepsSinceWorn, Cond.instanceMethod yX3_stepsSinceWorn, Cond.selects RX3 yX3_stepsSinceWorn yX3_stepsSinceWorn, Cond.code yX3_stepsSinceWorn cX3_stepsSinceWorn 2 (some .int), Cond.methodLink RX3 66 yX3_wearDown, Cond.instanceMethod yX3_wearDown, Cond.selects RX3 yX3_wearDown yX3_wearDown, Cond.code yX3_wearDown cX3_wearDown 5 none]
def wsL_refusesAny_r13 : List Cond := [Cond.methodLink RX6 203 yX2_skip, Cond.methodLink RX6 189 yX1_clear, Cond.instanceMethod yX1_clear, Cond.selects RX1 yX1_clear yX1_clear, Cond.code yX1_clear cX1_clear 2 (some .int), Cond.methodLink RL 48 yX6_run, Cond.instanceMethod yX6_run, Cond.selects RX6 yX6_run yX6_run, Cond.code yX6_run cX6_run 7 (some .int), Cond.methodLink RL 19 yX6_of, Cond.instanceMethod yX6_of, Cond.selects RX6 yX6_of yX6_of, Cond.code yX6_of cX6_of 3 (some .int), Cond.methodLink RX6 126 yX3_teeth, Cond.methodLink RX6 129 yX3_teethOfSign, Cond.instanceMethod yX3_teethOfSign, Cond.selects RX3 yX3_teethOfSign yX3_teethOfSign, Cond.code yX3_teethOfSign cX3_teethOfSign 5 (some .int), Cond.methodLink RX6 132 yX3_greatestHeight, Cond.instanceMethod yX3_greatestHeight, Cond.selects RX3 yX3_greatestHeight yX3_greatestHeight, Cond.code yX3_greatestHeight cX3_greatestHeight 4 (some .int), Cond.methodLink RX3 55 Lib.Math.max.name, Cond.methodLink RX6 135 yX3_leastHeight]
def wsL_refusesAny_r14 : List Cond := [Cond.instanceMethod yX3_leastHeight, Cond.selects RX3 yX3_leastHeight yX3_leastHeight, Cond.code yX3_leastHeight cX3_leastHeight 4 (some .int), Cond.methodLink RX3 60 Lib.Math.min.name, Cond.methodLink RX6 138 yX3_stepsSinceWorn, Cond.methodLink RX6 141 yX3_timesWorn, Cond.instanceMethod yX3_timesWorn, Cond.selects RX3 yX3_timesWorn yX3_timesWorn, Cond.code yX3_timesWorn cX3_timesWorn 2 (some .int), Cond.methodLink RL 23 yX6_tooth, Cond.instanceMethod yX6_tooth, Cond.selects RX6 yX6_tooth yX6_tooth, Cond.code yX6_tooth cX6_tooth 3 (some .int), Cond.methodLink RX6 144 yX3_hasTooth, Cond.methodLink RX6 148 yX3_height, Cond.methodLink RL 52 yX6_pair, Cond.instanceMethod yX6_pair, Cond.selects RX6 yX6_pair yX6_pair, Cond.code yX6_pair cX6_pair 7 (some .int), Cond.methodLink RX6 155 yX6_questionError, Cond.instanceMethod yX6_questionError, Cond.selects RX6 yX6_questionError yX6_questionError, Cond.code yX6_questionError cX6_questionError 8 (some .int), Cond.methodLink RX6 158 yX5_length]
def wsL_refusesAny_r15 : List Cond := [Cond.instanceMethod yX5_length, Cond.selects RX5 yX5_length yX5_length, Cond.code yX5_length cX5_length 1 (some .int), Cond.methodLink RX6 159 yX5_leastPress, Cond.instanceMethod yX5_leastPress, Cond.selects RX5 yX5_leastPress yX5_leastPress, Cond.code yX5_leastPress cX5_leastPress 3 (some .int), Cond.methodLink RX6 162 yX5_greatestPress, Cond.instanceMethod yX5_greatestPress, Cond.selects RX5 yX5_greatestPress yX5_greatestPress, Cond.code yX5_greatestPress cX5_greatestPress 3 (some .int), Cond.methodLink RL 56 yX6_why, Cond.instanceMethod yX6_why, Cond.selects RX6 yX6_why yX6_why, Cond.code yX6_why cX6_why 8 (some .int), Cond.methodLink RX6 165 yX5_firstBadStep, Cond.methodLink RX6 168 yX5_press, Cond.methodLink RL 59 yX6_leastGap, Cond.instanceMethod yX6_leastGap, Cond.selects RX6 yX6_leastGap yX6_leastGap, Cond.code yX6_leastGap cX6_leastGap 5 (some .int), Cond.methodLink RX6 171 yX6_gapToMesh, Cond.instanceMethod yX6_gapToMesh, Cond.selects RX6 yX6_gapToMesh yX6_gapToMesh]
def wsL_refusesAny_r16 : List Cond := [Cond.code yX6_gapToMesh cX6_gapToMesh 5 (some .int), Cond.methodLink RX6 182 Lib.Math.max.name, Cond.methodLink RX6 179 yX5_isSmooth, Cond.instanceMethod yX5_isSmooth, Cond.selects RX5 yX5_isSmooth yX5_isSmooth, Cond.code yX5_isSmooth cX5_isSmooth 3 (some .boolean), Cond.methodLink RL 62 yX6_bestOffset, Cond.instanceMethod yX6_bestOffset, Cond.selects RX6 yX6_bestOffset yX6_bestOffset, Cond.code yX6_bestOffset cX6_bestOffset 10 (some .int), Cond.methodLink RX6 174 Lib.Math.min.name, Cond.methodLink RL 65 yX6_thickest, Cond.instanceMethod yX6_thickest, Cond.selects RX6 yX6_thickest yX6_thickest, Cond.code yX6_thickest cX6_thickest 7 (some .int), Cond.methodLink RL 69 yX6_save, Cond.instanceMethod yX6_save, Cond.selects RX6 yX6_save yX6_save, Cond.code yX6_save cX6_save 2 (some .int), Cond.fieldLink RX6 26 "RollerMesh" "slots" "LRollerMesh$Slots;", Cond.methodLink RX6 223 yX4_keep, Cond.instanceMethod yX4_keep, Cond.selects RX4 yX4_keep yX4_keep, Cond.initialized RX4]
def wsL_refusesAny_r17 : List Cond := [Cond.code yX4_keep cX4_keep 3 (some .int), Cond.fieldLink RX4 13 "RollerMesh$Slots" "states" "[I", Cond.fieldLink RX4 25 "RollerMesh$Slots" "filled" "I", Cond.methodLink RX4 21 yX3_copyTo, Cond.methodLink RX4 29 yX3_cell, Cond.methodLink RL 72 yX6_restore, Cond.instanceMethod yX6_restore, Cond.selects RX6 yX6_restore yX6_restore, Cond.code yX6_restore cX6_restore 2 (some .int), Cond.methodLink RX6 227 yX4_fetch, Cond.instanceMethod yX4_fetch, Cond.selects RX4 yX4_fetch yX4_fetch, Cond.code yX4_fetch cX4_fetch 3 (some .int), Cond.methodLink RX4 33 yX3_copyFrom, Cond.instanceMethod yX3_copyFrom, Cond.selects RX3 yX3_copyFrom yX3_copyFrom, Cond.code yX3_copyFrom cX3_copyFrom 3 none, Cond.methodLink RL 77 yX6_put, Cond.instanceMethod yX6_put, Cond.selects RX6 yX6_put yX6_put, Cond.code yX6_put cX6_put 3 (some .int), Cond.methodLink RX6 185 yX1_append, Cond.instanceMethod yX1_append, Cond.selects RX1 yX1_append yX1_append]
def wsL_refusesAny_r18 : List Cond := [Cond.code yX1_append cX1_append 5 (some .int), Cond.methodLink RX1 19 yX1_amountOf, Cond.static yX1_amountOf, Cond.code yX1_amountOf cX1_amountOf 4 (some .int), Cond.methodLink RX1 23 yX1_codeIn, Cond.static yX1_codeIn, Cond.code yX1_codeIn cX1_codeIn 3 (some .int), Cond.methodLink RX1 27 yX1_add, Cond.instanceMethod yX1_add, Cond.selects RX1 yX1_add yX1_add, Cond.code yX1_add cX1_add 2 none]
def wsL_refusesAny : List Cond := .code yL_refusesAny cL_refusesAny 5 (some .boolean) :: ((wsL_refusesAny_r1 ++ (wsL_refusesAny_r2 ++ (wsL_refusesAny_r3 ++ (wsL_refusesAny_r4 ++ (wsL_refusesAny_r5 ++ (wsL_refusesAny_r6 ++ (wsL_refusesAny_r7 ++ (wsL_refusesAny_r8 ++ (wsL_refusesAny_r9 ++ (wsL_refusesAny_r10 ++ (wsL_refusesAny_r11 ++ (wsL_refusesAny_r12 ++ (wsL_refusesAny_r13 ++ (wsL_refusesAny_r14 ++ (wsL_refusesAny_r15 ++ (wsL_refusesAny_r16 ++ (wsL_refusesAny_r17 ++ wsL_refusesAny_r18))))))))))))))))) ++ wsX60 ++ wsX10 ++ wsX00 ++ wsX30 ++ wsX20 ++ wsX50 ++ wsX40)
def wsL_refused_r1 : List Cond := [Cond.methodLink RL 85 yL_seen, Cond.static yL_seen, Cond.initialized RL, Cond.code yL_seen cL_seen 4 (some .long), Cond.constantLong RL 9 (59), Cond.constantLong RL 11 (31), Cond.methodLink RL 13 yX6_count, Cond.instanceMethod yX6_count, Cond.selects RX6 yX6_count yX6_count, Cond.initialized RX6, Cond.code yX6_count cX6_count 2 (some .int), Cond.fieldLink RX6 33 "RollerMesh" "pad" "LRollerMesh$Pad;", Cond.fieldLink RX6 19 "RollerMesh" "history" "LRollerMesh$History;", Cond.fieldLink RX6 10 "RollerMesh" "shop" "LRollerMesh$Shop;", Cond.methodLink RX6 86 yX6_outside, Cond.static yX6_outside, Cond.code yX6_outside cX6_outside 3 (some .boolean), Cond.methodLink RX6 151 yX1_length, Cond.instanceMethod yX1_length, Cond.selects RX1 yX1_length yX1_length, Cond.initialized RX1, Cond.code yX1_length cX1_length 1 (some .int), Cond.fieldLink RX1 15 "RollerMesh$Pad" "length" "I", Cond.methodLink RX6 154 yX0_length]
def wsL_refused_r2 : List Cond := [Cond.instanceMethod yX0_length, Cond.selects RX0 yX0_length yX0_length, Cond.initialized RX0, Cond.code yX0_length cX0_length 1 (some .int), Cond.fieldLink RX0 17 "RollerMesh$History" "length" "I", Cond.methodLink RX6 104 yX3_cell, Cond.instanceMethod yX3_cell, Cond.selects RX3 yX3_cell yX3_cell, Cond.initialized RX3, Cond.code yX3_cell cX3_cell 2 (some .int), Cond.fieldLink RX3 11 "RollerMesh$Shop" "cells" "[I", Cond.methodLink RL 19 yX6_of, Cond.instanceMethod yX6_of, Cond.selects RX6 yX6_of yX6_of, Cond.code yX6_of cX6_of 3 (some .int), Cond.methodLink RX6 123 yX3_has, Cond.instanceMethod yX3_has, Cond.selects RX3 yX3_has yX3_has, Cond.code yX3_has cX3_has 2 (some .boolean), Cond.methodLink RX3 15 yX3_cell, Cond.methodLink RX6 126 yX3_teeth, Cond.instanceMethod yX3_teeth, Cond.selects RX3 yX3_teeth yX3_teeth, Cond.code yX3_teeth cX3_teeth 2 (some .int)]
def wsL_refused_r3 : List Cond := [Cond.methodLink RX3 37 yX3_placeOf, Cond.static yX3_placeOf, Cond.code yX3_placeOf cX3_placeOf 1 (some .int), Cond.methodLink RX6 129 yX3_teethOfSign, Cond.instanceMethod yX3_teethOfSign, Cond.selects RX3 yX3_teethOfSign yX3_teethOfSign, Cond.code yX3_teethOfSign cX3_teethOfSign 5 (some .int), Cond.methodLink RX3 34 yX3_teeth, Cond.methodLink RX3 51 yX3_height, Cond.instanceMethod yX3_height, Cond.selects RX3 yX3_height yX3_height, Cond.code yX3_height cX3_height 3 (some .int), Cond.methodLink RX6 132 yX3_greatestHeight, Cond.instanceMethod yX3_greatestHeight, Cond.selects RX3 yX3_greatestHeight yX3_greatestHeight, Cond.code yX3_greatestHeight cX3_greatestHeight 4 (some .int), Cond.methodLink RX3 55 Lib.Math.max.name, Cond.static Lib.Math.max.name, Cond.initialized "java/lang/Math", Cond.code Lib.Math.max.name Lib.Math.max.code 2 (some .int), Cond.methodLink RX6 135 yX3_leastHeight, Cond.instanceMethod yX3_leastHeight, Cond.selects RX3 yX3_leastHeight yX3_leastHeight, Cond.code yX3_leastHeight cX3_leastHeight 4 (some .int)]
def wsL_refused_r4 : List Cond := [Cond.methodLink RX3 60 Lib.Math.min.name, Cond.static Lib.Math.min.name, Cond.code Lib.Math.min.name Lib.Math.min.code 2 (some .int), Cond.methodLink RX6 138 yX3_stepsSinceWorn, Cond.instanceMethod yX3_stepsSinceWorn, Cond.selects RX3 yX3_stepsSinceWorn yX3_stepsSinceWorn, Cond.code yX3_stepsSinceWorn cX3_stepsSinceWorn 2 (some .int), Cond.methodLink RX6 141 yX3_timesWorn, Cond.instanceMethod yX3_timesWorn, Cond.selects RX3 yX3_timesWorn yX3_timesWorn, Cond.code yX3_timesWorn cX3_timesWorn 2 (some .int), Cond.methodLink RL 23 yX6_tooth, Cond.instanceMethod yX6_tooth, Cond.selects RX6 yX6_tooth yX6_tooth, Cond.code yX6_tooth cX6_tooth 3 (some .int), Cond.methodLink RX6 144 yX3_hasTooth, Cond.instanceMethod yX3_hasTooth, Cond.selects RX3 yX3_hasTooth yX3_hasTooth, Cond.code yX3_hasTooth cX3_hasTooth 3 (some .boolean), Cond.methodLink RX3 30 yX3_has, Cond.methodLink RX6 148 yX3_height, Cond.methodLink RL 89 yL_refusesAny, Cond.static yL_refusesAny, Cond.code yL_refusesAny cL_refusesAny 5 (some .boolean)]
def wsL_refused_r5 : List Cond := [Cond.constantLong RL 75 (32), Cond.constantLong RL 81 (127), Cond.constantLong RL 83 (11008), Cond.methodLink RL 26 yX6_set, Cond.instanceMethod yX6_set, Cond.selects RX6 yX6_set yX6_set, Cond.code yX6_set cX6_set 3 (some .int), Cond.methodLink RX6 53 yX0_prepare, Cond.instanceMethod yX0_prepare, Cond.selects RX0 yX0_prepare yX0_prepare, Cond.code yX0_prepare cX0_prepare 2 none, Cond.fieldLink RX0 13 "RollerMesh$History" "states" "[I", Cond.fieldLink RX0 21 "RollerMesh$History" "free" "I", Cond.methodLink RX0 24 yX3_copyTo, Cond.instanceMethod yX3_copyTo, Cond.selects RX3 yX3_copyTo yX3_copyTo, Cond.code yX3_copyTo cX3_copyTo 3 none, Cond.methodLink RX3 70 arraycopyName, Cond.native arraycopyName, Cond.static arraycopyName, Cond.initialized "java/lang/System", Cond.methodLink RX6 57 yX3_changeSetting, Cond.instanceMethod yX3_changeSetting, Cond.selects RX3 yX3_changeSetting yX3_changeSetting]
def wsL_refused_r6 : List Cond := [Cond.code yX3_changeSetting cX3_changeSetting 5 (some .int), Cond.methodLink RX3 27 yX3_setting, Cond.instanceMethod yX3_setting, Cond.selects RX3 yX3_setting yX3_setting, Cond.code yX3_setting cX3_setting 2 (some .int), Cond.methodLink RX3 19 yX3_change, Cond.instanceMethod yX3_change, Cond.selects RX3 yX3_change yX3_change, Cond.code yX3_change cX3_change 3 none, Cond.methodLink RX6 61 yX0_recorded, Cond.instanceMethod yX0_recorded, Cond.selects RX0 yX0_recorded yX0_recorded, Cond.code yX0_recorded cX0_recorded 2 (some .int), Cond.methodLink RX0 28 Lib.Math.min.name, Cond.methodLink RL 31 yX6_roller, Cond.instanceMethod yX6_roller, Cond.selects RX6 yX6_roller yX6_roller, Cond.code yX6_roller cX6_roller 3 (some .int), Cond.methodLink RX6 65 yX3_addRoller, Cond.instanceMethod yX3_addRoller, Cond.selects RX3 yX3_addRoller yX3_addRoller, Cond.code yX3_addRoller cX3_addRoller 5 (some .int), Cond.methodLink RX3 40 yX3_shape, Cond.instanceMethod yX3_shape]
def wsL_refused_r7 : List Cond := [Cond.selects RX3 yX3_shape yX3_shape, Cond.code yX3_shape cX3_shape 4 none, Cond.methodLink RX3 44 yX3_raise, Cond.instanceMethod yX3_raise, Cond.selects RX3 yX3_raise yX3_raise, Cond.code yX3_raise cX3_raise 3 none, Cond.methodLink RL 34 yX6_file, Cond.instanceMethod yX6_file, Cond.selects RX6 yX6_file yX6_file, Cond.code yX6_file cX6_file 4 (some .int), Cond.methodLink RX6 68 yX3_fileTooth, Cond.instanceMethod yX3_fileTooth, Cond.selects RX3 yX3_fileTooth yX3_fileTooth, Cond.code yX3_fileTooth cX3_fileTooth 5 (some .int), Cond.methodLink RX3 47 yX3_hasTooth, Cond.methodLink RL 38 yX6_melt, Cond.instanceMethod yX6_melt, Cond.selects RX6 yX6_melt yX6_melt, Cond.code yX6_melt cX6_melt 2 (some .int), Cond.methodLink RX6 72 yX3_meltRoller, Cond.instanceMethod yX3_meltRoller, Cond.selects RX3 yX3_meltRoller yX3_meltRoller, Cond.code yX3_meltRoller cX3_meltRoller 4 (some .int), Cond.methodLink RL 41 yX6_card]
def wsL_refused_r8 : List Cond := [Cond.instanceMethod yX6_card, Cond.selects RX6 yX6_card yX6_card, Cond.code yX6_card cX6_card 3 (some .int), Cond.methodLink RX6 75 yX3_changeCard, Cond.instanceMethod yX3_changeCard, Cond.selects RX3 yX3_changeCard yX3_changeCard, Cond.code yX3_changeCard cX3_changeCard 4 (some .int), Cond.methodLink RL 44 yX6_carryOut, Cond.instanceMethod yX6_carryOut, Cond.selects RX6 yX6_carryOut yX6_carryOut, Cond.code yX6_carryOut cX6_carryOut 2 (some .int), Cond.fieldLink RX6 42 "RollerMesh" "reader" "LRollerMesh$Reader;", Cond.methodLink RX6 192 yX2_firstFault, Cond.instanceMethod yX2_firstFault, Cond.selects RX2 yX2_firstFault yX2_firstFault, Cond.initialized RX2, Cond.code yX2_firstFault cX2_firstFault 2 (some .int), Cond.fieldLink RX2 28 "RollerMesh$Reader" "at" "I", Cond.fieldLink RX2 17 "RollerMesh$Reader" "pad" "LRollerMesh$Pad;", Cond.methodLink RX2 31 yX2_begin, Cond.instanceMethod yX2_begin, Cond.selects RX2 yX2_begin yX2_begin, Cond.code yX2_begin cX2_begin 1 none, Cond.methodLink RX2 34 yX2_readOrder]
def wsL_refused_r9 : List Cond := [Cond.instanceMethod yX2_readOrder, Cond.selects RX2 yX2_readOrder yX2_readOrder, Cond.code yX2_readOrder cX2_readOrder 1 (some .boolean), Cond.fieldLink RX2 25 "RollerMesh$Reader" "amount" "I", Cond.fieldLink RX2 21 "RollerMesh$Reader" "kind" "I", Cond.methodLink RX2 46 yX1_codeAt, Cond.instanceMethod yX1_codeAt, Cond.selects RX1 yX1_codeAt yX1_codeAt, Cond.code yX1_codeAt cX1_codeAt 2 (some .int), Cond.fieldLink RX1 11 "RollerMesh$Pad" "codes" "[I", Cond.methodLink RX2 42 yX2_skip, Cond.instanceMethod yX2_skip, Cond.selects RX2 yX2_skip yX2_skip, Cond.code yX2_skip cX2_skip 2 (some .boolean), Cond.methodLink RX2 50 yX2_readValues, Cond.instanceMethod yX2_readValues, Cond.selects RX2 yX2_readValues yX2_readValues, Cond.code yX2_readValues cX2_readValues 3 (some .boolean), Cond.methodLink RX2 56 yX2_readValue, Cond.instanceMethod yX2_readValue, Cond.selects RX2 yX2_readValue yX2_readValue, Cond.code yX2_readValue cX2_readValue 2 (some .boolean), Cond.methodLink RX2 59 yX2_isDigit, Cond.instanceMethod yX2_isDigit]
def wsL_refused_r10 : List Cond := [Cond.selects RX2 yX2_isDigit yX2_isDigit, Cond.code yX2_isDigit cX2_isDigit 1 (some .boolean), Cond.methodLink RX2 62 yX2_readDigit, Cond.instanceMethod yX2_readDigit, Cond.selects RX2 yX2_readDigit yX2_readDigit, Cond.code yX2_readDigit cX2_readDigit 2 (some .int), Cond.methodLink RX2 65 yX2_note, Cond.instanceMethod yX2_note, Cond.selects RX2 yX2_note yX2_note, Cond.code yX2_note cX2_note 2 none, Cond.fieldLink RX2 13 "RollerMesh$Reader" "numbers" "[I", Cond.methodLink RX2 53 yX2_readNumber, Cond.instanceMethod yX2_readNumber, Cond.selects RX2 yX2_readNumber yX2_readNumber, Cond.code yX2_readNumber cX2_readNumber 2 (some .boolean), Cond.methodLink RX2 38 yX1_length, Cond.methodLink RX6 195 yX2_begin, Cond.methodLink RX6 196 yX2_readOrder, Cond.methodLink RX6 200 yX6_obey, Cond.instanceMethod yX6_obey, Cond.selects RX6 yX6_obey yX6_obey, Cond.code yX6_obey cX6_obey 1 (some .int), Cond.methodLink RX6 207 yX2_kind, Cond.instanceMethod yX2_kind]
def wsL_refused_r11 : List Cond := [Cond.selects RX2 yX2_kind yX2_kind, Cond.code yX2_kind cX2_kind 1 (some .int), Cond.methodLink RX6 210 yX6_addRollerOfText, Cond.instanceMethod yX6_addRollerOfText, Cond.selects RX6 yX6_addRollerOfText yX6_addRollerOfText, Cond.code yX6_addRollerOfText cX6_addRollerOfText 4 (some .int), Cond.methodLink RX6 216 yX2_numbers, Cond.instanceMethod yX2_numbers, Cond.selects RX2 yX2_numbers yX2_numbers, Cond.code yX2_numbers cX2_numbers 1 (some .int), Cond.methodLink RX6 213 yX2_number, Cond.instanceMethod yX2_number, Cond.selects RX2 yX2_number yX2_number, Cond.code yX2_number cX2_number 2 (some .int), Cond.methodLink RX6 78 yX6_runCards, Cond.instanceMethod yX6_runCards, Cond.selects RX6 yX6_runCards yX6_runCards, Cond.code yX6_runCards cX6_runCards 10 (some .int), Cond.fieldLink RX6 49 "RollerMesh" "turn" "LRollerMesh$Turn;", Cond.methodLink RX6 82 yX6_pairError, Cond.instanceMethod yX6_pairError, Cond.selects RX6 yX6_pairError yX6_pairError, Cond.code yX6_pairError cX6_pairError 6 (some .int), Cond.methodLink RX6 90 yX5_lay]
def wsL_refused_r12 : List Cond := [Cond.instanceMethod yX5_lay, Cond.selects RX5 yX5_lay yX5_lay, Cond.initialized RX5, Cond.code yX5_lay cX5_lay 11 none, Cond.methodLink RX5 25 Lib.Math.min.name, Cond.fieldLink RX5 30 "RollerMesh$Turn" "length" "I", Cond.fieldLink RX5 11 "RollerMesh$Turn" "presses" "[I", Cond.methodLink RX5 15 yX3_teeth, Cond.methodLink RX5 21 yX5_leastMultiple, Cond.static yX5_leastMultiple, Cond.code yX5_leastMultiple cX5_leastMultiple 3 (some .int), Cond.methodLink RX5 34 yX3_height, Cond.methodLink RX5 37 yX5_next, Cond.static yX5_next, Cond.code yX5_next cX5_next 2 (some .int), Cond.methodLink RX6 94 yX3_setting, Cond.methodLink RX6 97 yX5_meshes, Cond.instanceMethod yX5_meshes, Cond.selects RX5 yX5_meshes yX5_meshes, Cond.code yX5_meshes cX5_meshes 2 (some .boolean), Cond.methodLink RX5 53 yX5_firstBadStep, Cond.instanceMethod yX5_firstBadStep, Cond.selects RX5 yX5_firstBadStep yX5_firstBadStep, Cond.code yX5_firstBadStep cX5_firstBadStep 3 (some .int)]
def wsL_refused_r13 : List Cond := [Cond.methodLink RX5 40 yX5_press, Cond.instanceMethod yX5_press, Cond.selects RX5 yX5_press yX5_press, Cond.code yX5_press cX5_press 2 (some .int), Cond.methodLink RX5 49 yX5_isSmoothAt, Cond.instanceMethod yX5_isSmoothAt, Cond.selects RX5 yX5_isSmoothAt yX5_isSmoothAt, Cond.code yX5_isSmoothAt cX5_isSmoothAt 4 (some .boolean), Cond.methodLink RX5 46 Lib.Math.abs.name, Cond.static Lib.Math.abs.name, Cond.code Lib.Math.abs.name Lib.Math.abs.code 1 (some .int), Cond.methodLink RX6 101 yX5_begin, Cond.instanceMethod yX5_begin, Cond.selects RX5 yX5_begin yX5_begin, Cond.code yX5_begin cX5_begin 1 none, Cond.fieldLink RX5 56 "RollerMesh$Turn" "at" "I", Cond.fieldLink RX5 59 "RollerMesh$Turn" "taken" "I", Cond.methodLink RX6 107 yX5_tears, Cond.instanceMethod yX5_tears, Cond.selects RX5 yX5_tears yX5_tears, Cond.code yX5_tears cX5_tears 9 (some .boolean), Cond.methodLink RX5 43 Lib.Math.max.name, Cond.methodLink RX6 111 yX5_taken, Cond.instanceMethod yX5_taken]
def wsL_refused_r14 : List Cond := [Cond.selects RX5 yX5_taken yX5_taken, Cond.code yX5_taken cX5_taken 1 (some .int), Cond.methodLink RX6 115 yX3_countRun, Cond.instanceMethod yX3_countRun, Cond.selects RX3 yX3_countRun yX3_countRun, Cond.code yX3_countRun cX3_countRun 4 none, Cond.methodLink RX6 119 yX3_turnRoller, Cond.instanceMethod yX3_turnRoller, Cond.selects RX3 yX3_turnRoller yX3_turnRoller, Cond.code yX3_turnRoller cX3_turnRoller 3 none, Cond.methodLink RX3 63 yX3_stepsSinceWorn, Cond.methodLink RX3 66 yX3_wearDown, Cond.instanceMethod yX3_wearDown, Cond.selects RX3 yX3_wearDown yX3_wearDown, Cond.code yX3_wearDown cX3_wearDown 5 none, Cond.methodLink RX6 203 yX2_skip, Cond.methodLink RX6 189 yX1_clear, Cond.instanceMethod yX1_clear, Cond.selects RX1 yX1_clear yX1_clear, Cond.code yX1_clear cX1_clear 2 (some .int), Cond.methodLink RL 48 yX6_run, Cond.instanceMethod yX6_run, Cond.selects RX6 yX6_run yX6_run, Cond.code yX6_run cX6_run 7 (some .int)]
def wsL_refused_r15 : List Cond := [Cond.methodLink RL 52 yX6_pair, Cond.instanceMethod yX6_pair, Cond.selects RX6 yX6_pair yX6_pair, Cond.code yX6_pair cX6_pair 7 (some .int), Cond.methodLink RX6 155 yX6_questionError, Cond.instanceMethod yX6_questionError, Cond.selects RX6 yX6_questionError yX6_questionError, Cond.code yX6_questionError cX6_questionError 8 (some .int), Cond.methodLink RX6 158 yX5_length, Cond.instanceMethod yX5_length, Cond.selects RX5 yX5_length yX5_length, Cond.code yX5_length cX5_length 1 (some .int), Cond.methodLink RX6 159 yX5_leastPress, Cond.instanceMethod yX5_leastPress, Cond.selects RX5 yX5_leastPress yX5_leastPress, Cond.code yX5_leastPress cX5_leastPress 3 (some .int), Cond.methodLink RX6 162 yX5_greatestPress, Cond.instanceMethod yX5_greatestPress, Cond.selects RX5 yX5_greatestPress yX5_greatestPress, Cond.code yX5_greatestPress cX5_greatestPress 3 (some .int), Cond.methodLink RL 56 yX6_why, Cond.instanceMethod yX6_why, Cond.selects RX6 yX6_why yX6_why, Cond.code yX6_why cX6_why 8 (some .int)]
def wsL_refused_r16 : List Cond := [Cond.methodLink RX6 165 yX5_firstBadStep, Cond.methodLink RX6 168 yX5_press, Cond.methodLink RL 59 yX6_leastGap, Cond.instanceMethod yX6_leastGap, Cond.selects RX6 yX6_leastGap yX6_leastGap, Cond.code yX6_leastGap cX6_leastGap 5 (some .int), Cond.methodLink RX6 171 yX6_gapToMesh, Cond.instanceMethod yX6_gapToMesh, Cond.selects RX6 yX6_gapToMesh yX6_gapToMesh, Cond.code yX6_gapToMesh cX6_gapToMesh 5 (some .int), Cond.methodLink RX6 182 Lib.Math.max.name, Cond.methodLink RX6 179 yX5_isSmooth, Cond.instanceMethod yX5_isSmooth, Cond.selects RX5 yX5_isSmooth yX5_isSmooth, Cond.code yX5_isSmooth cX5_isSmooth 3 (some .boolean), Cond.methodLink RL 62 yX6_bestOffset, Cond.instanceMethod yX6_bestOffset, Cond.selects RX6 yX6_bestOffset yX6_bestOffset, Cond.code yX6_bestOffset cX6_bestOffset 10 (some .int), Cond.methodLink RX6 174 Lib.Math.min.name, Cond.methodLink RL 65 yX6_thickest, Cond.instanceMethod yX6_thickest, Cond.selects RX6 yX6_thickest yX6_thickest, Cond.code yX6_thickest cX6_thickest 7 (some .int)]
def wsL_refused_r17 : List Cond := [Cond.methodLink RL 69 yX6_save, Cond.instanceMethod yX6_save, Cond.selects RX6 yX6_save yX6_save, Cond.code yX6_save cX6_save 2 (some .int), Cond.fieldLink RX6 26 "RollerMesh" "slots" "LRollerMesh$Slots;", Cond.methodLink RX6 223 yX4_keep, Cond.instanceMethod yX4_keep, Cond.selects RX4 yX4_keep yX4_keep, Cond.initialized RX4, Cond.code yX4_keep cX4_keep 3 (some .int), Cond.fieldLink RX4 13 "RollerMesh$Slots" "states" "[I", Cond.fieldLink RX4 25 "RollerMesh$Slots" "filled" "I", Cond.methodLink RX4 21 yX3_copyTo, Cond.methodLink RX4 29 yX3_cell, Cond.methodLink RL 72 yX6_restore, Cond.instanceMethod yX6_restore, Cond.selects RX6 yX6_restore yX6_restore, Cond.code yX6_restore cX6_restore 2 (some .int), Cond.methodLink RX6 227 yX4_fetch, Cond.instanceMethod yX4_fetch, Cond.selects RX4 yX4_fetch yX4_fetch, Cond.code yX4_fetch cX4_fetch 3 (some .int), Cond.methodLink RX4 33 yX3_copyFrom, Cond.instanceMethod yX3_copyFrom]
def wsL_refused_r18 : List Cond := [Cond.selects RX3 yX3_copyFrom yX3_copyFrom, Cond.code yX3_copyFrom cX3_copyFrom 3 none, Cond.methodLink RL 77 yX6_put, Cond.instanceMethod yX6_put, Cond.selects RX6 yX6_put yX6_put, Cond.code yX6_put cX6_put 3 (some .int), Cond.methodLink RX6 185 yX1_append, Cond.instanceMethod yX1_append, Cond.selects RX1 yX1_append yX1_append, Cond.code yX1_append cX1_append 5 (some .int), Cond.methodLink RX1 19 yX1_amountOf, Cond.static yX1_amountOf, Cond.code yX1_amountOf cX1_amountOf 4 (some .int), Cond.methodLink RX1 23 yX1_codeIn, Cond.static yX1_codeIn, Cond.code yX1_codeIn cX1_codeIn 3 (some .int), Cond.methodLink RX1 27 yX1_add, Cond.instanceMethod yX1_add, Cond.selects RX1 yX1_add yX1_add, Cond.code yX1_add cX1_add 2 none]
def wsL_refused : List Cond := .code yL_refused cL_refused 4 (some .boolean) :: ((wsL_refused_r1 ++ (wsL_refused_r2 ++ (wsL_refused_r3 ++ (wsL_refused_r4 ++ (wsL_refused_r5 ++ (wsL_refused_r6 ++ (wsL_refused_r7 ++ (wsL_refused_r8 ++ (wsL_refused_r9 ++ (wsL_refused_r10 ++ (wsL_refused_r11 ++ (wsL_refused_r12 ++ (wsL_refused_r13 ++ (wsL_refused_r14 ++ (wsL_refused_r15 ++ (wsL_refused_r16 ++ (wsL_refused_r17 ++ wsL_refused_r18))))))))))))))))) ++ wsX60 ++ wsX10 ++ wsX00 ++ wsX30 ++ wsX20 ++ wsX50 ++ wsX40)
def wsL_mesh_r1 : List Cond := [Cond.classLink RL 14 RX6, Cond.instantiable RX6 6, Cond.initialized RX6, Cond.methodLink RL 93 yX6_init, Cond.instanceMethod yX6_init, Cond.code yX6_init cX6_init 1 none, Cond.methodLink RX6 1 objectInit, Cond.instanceMethod objectInit, Cond.code objectInit ⟨#[0xb1]⟩ 1 none, Cond.classLink RX6 7 RX3, Cond.instantiable RX3 1, Cond.initialized RX3, Cond.fieldLink RX6 10 "RollerMesh" "shop" "LRollerMesh$Shop;", Cond.classLink RX6 16 RX0, Cond.instantiable RX0 3, Cond.initialized RX0, Cond.fieldLink RX6 19 "RollerMesh" "history" "LRollerMesh$History;", Cond.classLink RX6 23 RX4, Cond.instantiable RX4 2, Cond.initialized RX4, Cond.fieldLink RX6 26 "RollerMesh" "slots" "LRollerMesh$Slots;", Cond.classLink RX6 30 RX1, Cond.instantiable RX1 2, Cond.initialized RX1]
def wsL_mesh_r2 : List Cond := [Cond.fieldLink RX6 33 "RollerMesh" "pad" "LRollerMesh$Pad;", Cond.classLink RX6 37 RX2, Cond.instantiable RX2 5, Cond.initialized RX2, Cond.fieldLink RX6 42 "RollerMesh" "reader" "LRollerMesh$Reader;", Cond.classLink RX6 46 RX5, Cond.instantiable RX5 4, Cond.initialized RX5, Cond.fieldLink RX6 49 "RollerMesh" "turn" "LRollerMesh$Turn;", Cond.methodLink RX6 9 yX3_init, Cond.instanceMethod yX3_init, Cond.code yX3_init cX3_init 1 none, Cond.methodLink RX3 5 objectInit, Cond.arrayClass .int, Cond.fieldLink RX3 11 "RollerMesh$Shop" "cells" "[I", Cond.instanceMethod yX0_init, Cond.code yX0_init cX0_init 1 none, Cond.methodLink RX0 5 objectInit, Cond.fieldLink RX0 13 "RollerMesh$History" "states" "[I", Cond.instanceMethod yX4_init, Cond.code yX4_init cX4_init 1 none, Cond.methodLink RX4 3 objectInit, Cond.fieldLink RX4 13 "RollerMesh$Slots" "states" "[I", Cond.instanceMethod yX1_init]
def wsL_mesh_r3 : List Cond := [Cond.code yX1_init cX1_init 1 none, Cond.methodLink RX1 3 objectInit, Cond.fieldLink RX1 11 "RollerMesh$Pad" "codes" "[I", Cond.methodLink RX6 39 yX2_init, Cond.instanceMethod yX2_init, Cond.code yX2_init cX2_init 2 none, Cond.methodLink RX2 5 objectInit, Cond.fieldLink RX2 13 "RollerMesh$Reader" "numbers" "[I", Cond.fieldLink RX2 17 "RollerMesh$Reader" "pad" "LRollerMesh$Pad;", Cond.instanceMethod yX5_init, Cond.code yX5_init cX5_init 1 none, Cond.methodLink RX5 3 objectInit, Cond.fieldLink RX5 11 "RollerMesh$Turn" "presses" "[I", Cond.methodLink RL 94 yX6_undo, Cond.instanceMethod yX6_undo, Cond.selects RX6 yX6_undo yX6_undo, Cond.code yX6_undo cX6_undo 1 (some .int), Cond.methodLink RX6 219 yX0_stepBack, Cond.instanceMethod yX0_stepBack, Cond.selects RX0 yX0_stepBack yX0_stepBack, Cond.code yX0_stepBack cX0_stepBack 2 (some .int), Cond.fieldLink RX0 17 "RollerMesh$History" "length" "I", Cond.fieldLink RX0 21 "RollerMesh$History" "free" "I", Cond.methodLink RX0 34 yX3_copyFrom]
def wsL_mesh_r4 : List Cond := [Cond.instanceMethod yX3_copyFrom, Cond.selects RX3 yX3_copyFrom yX3_copyFrom, Cond.code yX3_copyFrom cX3_copyFrom 3 none, Cond.methodLink RX3 70 arraycopyName, Cond.native arraycopyName, Cond.static arraycopyName, Cond.initialized "java/lang/System", Cond.methodLink RL 72 yX6_restore, Cond.instanceMethod yX6_restore, Cond.selects RX6 yX6_restore yX6_restore, Cond.code yX6_restore cX6_restore 2 (some .int), Cond.methodLink RX6 53 yX0_prepare, Cond.instanceMethod yX0_prepare, Cond.selects RX0 yX0_prepare yX0_prepare, Cond.code yX0_prepare cX0_prepare 2 none, Cond.methodLink RX0 24 yX3_copyTo, Cond.instanceMethod yX3_copyTo, Cond.selects RX3 yX3_copyTo yX3_copyTo, Cond.code yX3_copyTo cX3_copyTo 3 none, Cond.methodLink RX6 227 yX4_fetch, Cond.instanceMethod yX4_fetch, Cond.selects RX4 yX4_fetch yX4_fetch, Cond.code yX4_fetch cX4_fetch 3 (some .int), Cond.fieldLink RX4 25 "RollerMesh$Slots" "filled" "I"]
def wsL_mesh_r5 : List Cond := [Cond.static yX6_outside, Cond.code yX6_outside cX6_outside 3 (some .boolean), Cond.methodLink RX4 33 yX3_copyFrom, Cond.methodLink RX4 29 yX3_cell, Cond.instanceMethod yX3_cell, Cond.selects RX3 yX3_cell yX3_cell, Cond.code yX3_cell cX3_cell 2 (some .int), Cond.methodLink RX6 61 yX0_recorded, Cond.instanceMethod yX0_recorded, Cond.selects RX0 yX0_recorded yX0_recorded, Cond.code yX0_recorded cX0_recorded 2 (some .int), Cond.methodLink RX0 28 Lib.Math.min.name, Cond.static Lib.Math.min.name, Cond.initialized "java/lang/Math", Cond.code Lib.Math.min.name Lib.Math.min.code 2 (some .int), Cond.methodLink RL 13 yX6_count, Cond.instanceMethod yX6_count, Cond.selects RX6 yX6_count yX6_count, Cond.code yX6_count cX6_count 2 (some .int), Cond.methodLink RX6 86 yX6_outside, Cond.methodLink RX6 151 yX1_length, Cond.instanceMethod yX1_length, Cond.selects RX1 yX1_length yX1_length, Cond.code yX1_length cX1_length 1 (some .int)]
def wsL_mesh_r6 : List Cond := [Cond.fieldLink RX1 15 "RollerMesh$Pad" "length" "I", Cond.methodLink RX6 154 yX0_length, Cond.instanceMethod yX0_length, Cond.selects RX0 yX0_length yX0_length, Cond.code yX0_length cX0_length 1 (some .int), Cond.methodLink RX6 104 yX3_cell, Cond.methodLink RL 31 yX6_roller, Cond.instanceMethod yX6_roller, Cond.selects RX6 yX6_roller yX6_roller, Cond.code yX6_roller cX6_roller 3 (some .int), Cond.methodLink RX6 65 yX3_addRoller, Cond.instanceMethod yX3_addRoller, Cond.selects RX3 yX3_addRoller yX3_addRoller, Cond.code yX3_addRoller cX3_addRoller 5 (some .int), Cond.methodLink RX3 15 yX3_cell, Cond.methodLink RX3 37 yX3_placeOf, Cond.static yX3_placeOf, Cond.code yX3_placeOf cX3_placeOf 1 (some .int), Cond.methodLink RX3 19 yX3_change, Cond.instanceMethod yX3_change, Cond.selects RX3 yX3_change yX3_change, Cond.code yX3_change cX3_change 3 none, Cond.methodLink RX3 40 yX3_shape, Cond.instanceMethod yX3_shape]
def wsL_mesh_r7 : List Cond := [Cond.selects RX3 yX3_shape yX3_shape, Cond.code yX3_shape cX3_shape 4 none, Cond.methodLink RX3 44 yX3_raise, Cond.instanceMethod yX3_raise, Cond.selects RX3 yX3_raise yX3_raise, Cond.code yX3_raise cX3_raise 3 none, Cond.methodLink RL 34 yX6_file, Cond.instanceMethod yX6_file, Cond.selects RX6 yX6_file yX6_file, Cond.code yX6_file cX6_file 4 (some .int), Cond.methodLink RX6 68 yX3_fileTooth, Cond.instanceMethod yX3_fileTooth, Cond.selects RX3 yX3_fileTooth yX3_fileTooth, Cond.code yX3_fileTooth cX3_fileTooth 5 (some .int), Cond.methodLink RX3 47 yX3_hasTooth, Cond.instanceMethod yX3_hasTooth, Cond.selects RX3 yX3_hasTooth yX3_hasTooth, Cond.code yX3_hasTooth cX3_hasTooth 3 (some .boolean), Cond.methodLink RX3 30 yX3_has, Cond.instanceMethod yX3_has, Cond.selects RX3 yX3_has yX3_has, Cond.code yX3_has cX3_has 2 (some .boolean), Cond.methodLink RX3 34 yX3_teeth, Cond.instanceMethod yX3_teeth]
def wsL_mesh_r8 : List Cond := [Cond.selects RX3 yX3_teeth yX3_teeth, Cond.code yX3_teeth cX3_teeth 2 (some .int), Cond.methodLink RX3 51 yX3_height, Cond.instanceMethod yX3_height, Cond.selects RX3 yX3_height yX3_height, Cond.code yX3_height cX3_height 3 (some .int), Cond.methodLink RL 23 yX6_tooth, Cond.instanceMethod yX6_tooth, Cond.selects RX6 yX6_tooth yX6_tooth, Cond.code yX6_tooth cX6_tooth 3 (some .int), Cond.methodLink RX6 144 yX3_hasTooth, Cond.methodLink RX6 148 yX3_height, Cond.methodLink RL 19 yX6_of, Cond.instanceMethod yX6_of, Cond.selects RX6 yX6_of yX6_of, Cond.code yX6_of cX6_of 3 (some .int), Cond.methodLink RX6 123 yX3_has, Cond.methodLink RX6 126 yX3_teeth, Cond.methodLink RX6 129 yX3_teethOfSign, Cond.instanceMethod yX3_teethOfSign, Cond.selects RX3 yX3_teethOfSign yX3_teethOfSign, Cond.code yX3_teethOfSign cX3_teethOfSign 5 (some .int), Cond.methodLink RX6 132 yX3_greatestHeight, Cond.instanceMethod yX3_greatestHeight]
def wsL_mesh_r9 : List Cond := [Cond.selects RX3 yX3_greatestHeight yX3_greatestHeight, Cond.code yX3_greatestHeight cX3_greatestHeight 4 (some .int), Cond.methodLink RX3 55 Lib.Math.max.name, Cond.static Lib.Math.max.name, Cond.code Lib.Math.max.name Lib.Math.max.code 2 (some .int), Cond.methodLink RX6 135 yX3_leastHeight, Cond.instanceMethod yX3_leastHeight, Cond.selects RX3 yX3_leastHeight yX3_leastHeight, Cond.code yX3_leastHeight cX3_leastHeight 4 (some .int), Cond.methodLink RX3 60 Lib.Math.min.name, Cond.methodLink RX6 138 yX3_stepsSinceWorn, Cond.instanceMethod yX3_stepsSinceWorn, Cond.selects RX3 yX3_stepsSinceWorn yX3_stepsSinceWorn, Cond.code yX3_stepsSinceWorn cX3_stepsSinceWorn 2 (some .int), Cond.methodLink RX6 141 yX3_timesWorn, Cond.instanceMethod yX3_timesWorn, Cond.selects RX3 yX3_timesWorn yX3_timesWorn, Cond.code yX3_timesWorn cX3_timesWorn 2 (some .int), Cond.methodLink RL 52 yX6_pair, Cond.instanceMethod yX6_pair, Cond.selects RX6 yX6_pair yX6_pair, Cond.code yX6_pair cX6_pair 7 (some .int), Cond.methodLink RX6 155 yX6_questionError, Cond.instanceMethod yX6_questionError]
def wsL_mesh_r10 : List Cond := [Cond.selects RX6 yX6_questionError yX6_questionError, Cond.code yX6_questionError cX6_questionError 8 (some .int), Cond.methodLink RX6 82 yX6_pairError, Cond.instanceMethod yX6_pairError, Cond.selects RX6 yX6_pairError yX6_pairError, Cond.code yX6_pairError cX6_pairError 6 (some .int), Cond.methodLink RX6 90 yX5_lay, Cond.instanceMethod yX5_lay, Cond.selects RX5 yX5_lay yX5_lay, Cond.code yX5_lay cX5_lay 11 none, Cond.methodLink RX5 25 Lib.Math.min.name, Cond.fieldLink RX5 30 "RollerMesh$Turn" "length" "I", Cond.methodLink RX5 15 yX3_teeth, Cond.methodLink RX5 21 yX5_leastMultiple, Cond.static yX5_leastMultiple, Cond.code yX5_leastMultiple cX5_leastMultiple 3 (some .int), Cond.methodLink RX5 34 yX3_height, Cond.methodLink RX5 37 yX5_next, Cond.static yX5_next, Cond.code yX5_next cX5_next 2 (some .int), Cond.methodLink RX6 158 yX5_length, Cond.instanceMethod yX5_length, Cond.selects RX5 yX5_length yX5_length, Cond.code yX5_length cX5_length 1 (some .int)]
def wsL_mesh_r11 : List Cond := [Cond.methodLink RX6 159 yX5_leastPress, Cond.instanceMethod yX5_leastPress, Cond.selects RX5 yX5_leastPress yX5_leastPress, Cond.code yX5_leastPress cX5_leastPress 3 (some .int), Cond.methodLink RX5 40 yX5_press, Cond.instanceMethod yX5_press, Cond.selects RX5 yX5_press yX5_press, Cond.code yX5_press cX5_press 2 (some .int), Cond.methodLink RX6 162 yX5_greatestPress, Cond.instanceMethod yX5_greatestPress, Cond.selects RX5 yX5_greatestPress yX5_greatestPress, Cond.code yX5_greatestPress cX5_greatestPress 3 (some .int), Cond.methodLink RX5 43 Lib.Math.max.name, Cond.methodLink RX6 94 yX3_setting, Cond.instanceMethod yX3_setting, Cond.selects RX3 yX3_setting yX3_setting, Cond.code yX3_setting cX3_setting 2 (some .int), Cond.methodLink RX6 97 yX5_meshes, Cond.instanceMethod yX5_meshes, Cond.selects RX5 yX5_meshes yX5_meshes, Cond.code yX5_meshes cX5_meshes 2 (some .boolean), Cond.methodLink RX5 53 yX5_firstBadStep, Cond.instanceMethod yX5_firstBadStep, Cond.selects RX5 yX5_firstBadStep yX5_firstBadStep]
def wsL_mesh_r12 : List Cond := [Cond.code yX5_firstBadStep cX5_firstBadStep 3 (some .int), Cond.methodLink RX5 49 yX5_isSmoothAt, Cond.instanceMethod yX5_isSmoothAt, Cond.selects RX5 yX5_isSmoothAt yX5_isSmoothAt, Cond.code yX5_isSmoothAt cX5_isSmoothAt 4 (some .boolean), Cond.methodLink RX5 46 Lib.Math.abs.name, Cond.static Lib.Math.abs.name, Cond.code Lib.Math.abs.name Lib.Math.abs.code 1 (some .int), Cond.methodLink RL 56 yX6_why, Cond.instanceMethod yX6_why, Cond.selects RX6 yX6_why yX6_why, Cond.code yX6_why cX6_why 8 (some .int), Cond.methodLink RX6 165 yX5_firstBadStep, Cond.methodLink RX6 168 yX5_press, Cond.methodLink RL 59 yX6_leastGap, Cond.instanceMethod yX6_leastGap, Cond.selects RX6 yX6_leastGap yX6_leastGap, Cond.code yX6_leastGap cX6_leastGap 5 (some .int), Cond.methodLink RX6 171 yX6_gapToMesh, Cond.instanceMethod yX6_gapToMesh, Cond.selects RX6 yX6_gapToMesh yX6_gapToMesh, Cond.code yX6_gapToMesh cX6_gapToMesh 5 (some .int), Cond.methodLink RX6 182 Lib.Math.max.name, Cond.methodLink RX6 179 yX5_isSmooth]
def wsL_mesh_r13 : List Cond := [Cond.instanceMethod yX5_isSmooth, Cond.selects RX5 yX5_isSmooth yX5_isSmooth, Cond.code yX5_isSmooth cX5_isSmooth 3 (some .boolean), Cond.methodLink RL 62 yX6_bestOffset, Cond.instanceMethod yX6_bestOffset, Cond.selects RX6 yX6_bestOffset yX6_bestOffset, Cond.code yX6_bestOffset cX6_bestOffset 10 (some .int), Cond.methodLink RX6 174 Lib.Math.min.name, Cond.methodLink RL 65 yX6_thickest, Cond.instanceMethod yX6_thickest, Cond.selects RX6 yX6_thickest yX6_thickest, Cond.code yX6_thickest cX6_thickest 7 (some .int), Cond.methodLink RX6 101 yX5_begin, Cond.instanceMethod yX5_begin, Cond.selects RX5 yX5_begin yX5_begin, Cond.code yX5_begin cX5_begin 1 none, Cond.fieldLink RX5 56 "RollerMesh$Turn" "at" "I", Cond.fieldLink RX5 59 "RollerMesh$Turn" "taken" "I", Cond.methodLink RX6 107 yX5_tears, Cond.instanceMethod yX5_tears, Cond.selects RX5 yX5_tears yX5_tears, Cond.code yX5_tears cX5_tears 9 (some .boolean), Cond.methodLink RL 97 yL_refused, Cond.static yL_refused]
def wsL_mesh_r14 : List Cond := [Cond.initialized RL, Cond.code yL_refused cL_refused 4 (some .boolean), Cond.methodLink RL 85 yL_seen, Cond.static yL_seen, Cond.code yL_seen cL_seen 4 (some .long), Cond.constantLong RL 9 (59), Cond.constantLong RL 11 (31), Cond.methodLink RL 89 yL_refusesAny, Cond.static yL_refusesAny, Cond.code yL_refusesAny cL_refusesAny 5 (some .boolean), Cond.constantLong RL 75 (32), Cond.constantLong RL 81 (127), Cond.constantLong RL 83 (11008), Cond.methodLink RL 26 yX6_set, Cond.instanceMethod yX6_set, Cond.selects RX6 yX6_set yX6_set, Cond.code yX6_set cX6_set 3 (some .int), Cond.methodLink RX6 57 yX3_changeSetting, Cond.instanceMethod yX3_changeSetting, Cond.selects RX3 yX3_changeSetting yX3_changeSetting, Cond.code yX3_changeSetting cX3_changeSetting 5 (some .int), Cond.methodLink RX3 27 yX3_setting, Cond.methodLink RL 38 yX6_melt, Cond.instanceMethod yX6_melt]
def wsL_mesh_r15 : List Cond := [Cond.selects RX6 yX6_melt yX6_melt, Cond.code yX6_melt cX6_melt 2 (some .int), Cond.methodLink RX6 72 yX3_meltRoller, Cond.instanceMethod yX3_meltRoller, Cond.selects RX3 yX3_meltRoller yX3_meltRoller, Cond.code yX3_meltRoller cX3_meltRoller 4 (some .int), Cond.methodLink RL 41 yX6_card, Cond.instanceMethod yX6_card, Cond.selects RX6 yX6_card yX6_card, Cond.code yX6_card cX6_card 3 (some .int), Cond.methodLink RX6 75 yX3_changeCard, Cond.instanceMethod yX3_changeCard, Cond.selects RX3 yX3_changeCard yX3_changeCard, Cond.code yX3_changeCard cX3_changeCard 4 (some .int), Cond.methodLink RL 44 yX6_carryOut, Cond.instanceMethod yX6_carryOut, Cond.selects RX6 yX6_carryOut yX6_carryOut, Cond.code yX6_carryOut cX6_carryOut 2 (some .int), Cond.methodLink RX6 192 yX2_firstFault, Cond.instanceMethod yX2_firstFault, Cond.selects RX2 yX2_firstFault yX2_firstFault, Cond.code yX2_firstFault cX2_firstFault 2 (some .int), Cond.fieldLink RX2 28 "RollerMesh$Reader" "at" "I", Cond.methodLink RX2 31 yX2_begin]
def wsL_mesh_r16 : List Cond := [Cond.instanceMethod yX2_begin, Cond.selects RX2 yX2_begin yX2_begin, Cond.code yX2_begin cX2_begin 1 none, Cond.methodLink RX2 34 yX2_readOrder, Cond.instanceMethod yX2_readOrder, Cond.selects RX2 yX2_readOrder yX2_readOrder, Cond.code yX2_readOrder cX2_readOrder 1 (some .boolean), Cond.fieldLink RX2 25 "RollerMesh$Reader" "amount" "I", Cond.fieldLink RX2 21 "RollerMesh$Reader" "kind" "I", Cond.methodLink RX2 46 yX1_codeAt, Cond.instanceMethod yX1_codeAt, Cond.selects RX1 yX1_codeAt yX1_codeAt, Cond.code yX1_codeAt cX1_codeAt 2 (some .int), Cond.methodLink RX2 42 yX2_skip, Cond.instanceMethod yX2_skip, Cond.selects RX2 yX2_skip yX2_skip, Cond.code yX2_skip cX2_skip 2 (some .boolean), Cond.methodLink RX2 50 yX2_readValues, Cond.instanceMethod yX2_readValues, Cond.selects RX2 yX2_readValues yX2_readValues, Cond.code yX2_readValues cX2_readValues 3 (some .boolean), Cond.methodLink RX2 56 yX2_readValue, Cond.instanceMethod yX2_readValue, Cond.selects RX2 yX2_readValue yX2_readValue]
def wsL_mesh_r17 : List Cond := [Cond.code yX2_readValue cX2_readValue 2 (some .boolean), Cond.methodLink RX2 59 yX2_isDigit, Cond.instanceMethod yX2_isDigit, Cond.selects RX2 yX2_isDigit yX2_isDigit, Cond.code yX2_isDigit cX2_isDigit 1 (some .boolean), Cond.methodLink RX2 62 yX2_readDigit, Cond.instanceMethod yX2_readDigit, Cond.selects RX2 yX2_readDigit yX2_readDigit, Cond.code yX2_readDigit cX2_readDigit 2 (some .int), Cond.methodLink RX2 65 yX2_note, Cond.instanceMethod yX2_note, Cond.selects RX2 yX2_note yX2_note, Cond.code yX2_note cX2_note 2 none, Cond.methodLink RX2 53 yX2_readNumber, Cond.instanceMethod yX2_readNumber, Cond.selects RX2 yX2_readNumber yX2_readNumber, Cond.code yX2_readNumber cX2_readNumber 2 (some .boolean), Cond.methodLink RX2 38 yX1_length, Cond.methodLink RX6 195 yX2_begin, Cond.methodLink RX6 196 yX2_readOrder, Cond.methodLink RX6 200 yX6_obey, Cond.instanceMethod yX6_obey, Cond.selects RX6 yX6_obey yX6_obey, Cond.code yX6_obey cX6_obey 1 (some .int)]
def wsL_mesh_r18 : List Cond := [Cond.methodLink RX6 207 yX2_kind, Cond.instanceMethod yX2_kind, Cond.selects RX2 yX2_kind yX2_kind, Cond.code yX2_kind cX2_kind 1 (some .int), Cond.methodLink RX6 210 yX6_addRollerOfText, Cond.instanceMethod yX6_addRollerOfText, Cond.selects RX6 yX6_addRollerOfText yX6_addRollerOfText, Cond.code yX6_addRollerOfText cX6_addRollerOfText 4 (some .int), Cond.methodLink RX6 216 yX2_numbers, Cond.instanceMethod yX2_numbers, Cond.selects RX2 yX2_numbers yX2_numbers, Cond.code yX2_numbers cX2_numbers 1 (some .int), Cond.methodLink RX6 213 yX2_number, Cond.instanceMethod yX2_number, Cond.selects RX2 yX2_number yX2_number, Cond.code yX2_number cX2_number 2 (some .int), Cond.methodLink RX6 78 yX6_runCards, Cond.instanceMethod yX6_runCards, Cond.selects RX6 yX6_runCards yX6_runCards, Cond.code yX6_runCards cX6_runCards 10 (some .int), Cond.methodLink RX6 111 yX5_taken, Cond.instanceMethod yX5_taken, Cond.selects RX5 yX5_taken yX5_taken, Cond.code yX5_taken cX5_taken 1 (some .int)]
def wsL_mesh_r19 : List Cond := [Cond.methodLink RX6 115 yX3_countRun, Cond.instanceMethod yX3_countRun, Cond.selects RX3 yX3_countRun yX3_countRun, Cond.code yX3_countRun cX3_countRun 4 none, Cond.methodLink RX6 119 yX3_turnRoller, Cond.instanceMethod yX3_turnRoller, Cond.selects RX3 yX3_turnRoller yX3_turnRoller, Cond.code yX3_turnRoller cX3_turnRoller 3 none, Cond.methodLink RX3 63 yX3_stepsSinceWorn, Cond.methodLink RX3 66 yX3_wearDown, Cond.instanceMethod yX3_wearDown, Cond.selects RX3 yX3_wearDown yX3_wearDown, Cond.code yX3_wearDown cX3_wearDown 5 none, Cond.methodLink RX6 203 yX2_skip, Cond.methodLink RX6 189 yX1_clear, Cond.instanceMethod yX1_clear, Cond.selects RX1 yX1_clear yX1_clear, Cond.code yX1_clear cX1_clear 2 (some .int), Cond.methodLink RL 48 yX6_run, Cond.instanceMethod yX6_run, Cond.selects RX6 yX6_run yX6_run, Cond.code yX6_run cX6_run 7 (some .int), Cond.methodLink RL 69 yX6_save, Cond.instanceMethod yX6_save]
def wsL_mesh_r20 : List Cond := [Cond.selects RX6 yX6_save yX6_save, Cond.code yX6_save cX6_save 2 (some .int), Cond.methodLink RX6 223 yX4_keep, Cond.instanceMethod yX4_keep, Cond.selects RX4 yX4_keep yX4_keep, Cond.code yX4_keep cX4_keep 3 (some .int), Cond.methodLink RX4 21 yX3_copyTo, Cond.methodLink RL 77 yX6_put, Cond.instanceMethod yX6_put, Cond.selects RX6 yX6_put yX6_put, Cond.code yX6_put cX6_put 3 (some .int), Cond.methodLink RX6 185 yX1_append, Cond.instanceMethod yX1_append, Cond.selects RX1 yX1_append yX1_append, Cond.code yX1_append cX1_append 5 (some .int), Cond.methodLink RX1 19 yX1_amountOf, Cond.static yX1_amountOf, Cond.code yX1_amountOf cX1_amountOf 4 (some .int), Cond.methodLink RX1 23 yX1_codeIn, Cond.static yX1_codeIn, Cond.code yX1_codeIn cX1_codeIn 3 (some .int), Cond.methodLink RX1 27 yX1_add, Cond.instanceMethod yX1_add, Cond.selects RX1 yX1_add yX1_add]
def wsL_mesh_r21 : List Cond := [Cond.code yX1_add cX1_add 2 none]
def wsL_mesh : List Cond := .code yL_mesh cL_mesh 1 (some .boolean) :: ((wsL_mesh_r1 ++ (wsL_mesh_r2 ++ (wsL_mesh_r3 ++ (wsL_mesh_r4 ++ (wsL_mesh_r5 ++ (wsL_mesh_r6 ++ (wsL_mesh_r7 ++ (wsL_mesh_r8 ++ (wsL_mesh_r9 ++ (wsL_mesh_r10 ++ (wsL_mesh_r11 ++ (wsL_mesh_r12 ++ (wsL_mesh_r13 ++ (wsL_mesh_r14 ++ (wsL_mesh_r15 ++ (wsL_mesh_r16 ++ (wsL_mesh_r17 ++ (wsL_mesh_r18 ++ (wsL_mesh_r19 ++ (wsL_mesh_r20 ++ wsL_mesh_r21)))))))))))))))))))) ++ wsX60 ++ wsX30 ++ wsX00 ++ wsX40 ++ wsX10 ++ wsX20 ++ wsX50)
def wsL_limits_r1 : List Cond := [Cond.classLink RL 14 RX6, Cond.instantiable RX6 6, Cond.initialized RX6, Cond.methodLink RL 93 yX6_init, Cond.instanceMethod yX6_init, Cond.code yX6_init cX6_init 1 none, Cond.methodLink RX6 1 objectInit, Cond.instanceMethod objectInit, Cond.code objectInit ⟨#[0xb1]⟩ 1 none, Cond.classLink RX6 7 RX3, Cond.instantiable RX3 1, Cond.initialized RX3, Cond.fieldLink RX6 10 "RollerMesh" "shop" "LRollerMesh$Shop;", Cond.classLink RX6 16 RX0, Cond.instantiable RX0 3, Cond.initialized RX0, Cond.fieldLink RX6 19 "RollerMesh" "history" "LRollerMesh$History;", Cond.classLink RX6 23 RX4, Cond.instantiable RX4 2, Cond.initialized RX4, Cond.fieldLink RX6 26 "RollerMesh" "slots" "LRollerMesh$Slots;", Cond.classLink RX6 30 RX1, Cond.instantiable RX1 2, Cond.initialized RX1]
def wsL_limits_r2 : List Cond := [Cond.fieldLink RX6 33 "RollerMesh" "pad" "LRollerMesh$Pad;", Cond.classLink RX6 37 RX2, Cond.instantiable RX2 5, Cond.initialized RX2, Cond.fieldLink RX6 42 "RollerMesh" "reader" "LRollerMesh$Reader;", Cond.classLink RX6 46 RX5, Cond.instantiable RX5 4, Cond.initialized RX5, Cond.fieldLink RX6 49 "RollerMesh" "turn" "LRollerMesh$Turn;", Cond.methodLink RX6 9 yX3_init, Cond.instanceMethod yX3_init, Cond.code yX3_init cX3_init 1 none, Cond.methodLink RX3 5 objectInit, Cond.arrayClass .int, Cond.fieldLink RX3 11 "RollerMesh$Shop" "cells" "[I", Cond.instanceMethod yX0_init, Cond.code yX0_init cX0_init 1 none, Cond.methodLink RX0 5 objectInit, Cond.fieldLink RX0 13 "RollerMesh$History" "states" "[I", Cond.instanceMethod yX4_init, Cond.code yX4_init cX4_init 1 none, Cond.methodLink RX4 3 objectInit, Cond.fieldLink RX4 13 "RollerMesh$Slots" "states" "[I", Cond.instanceMethod yX1_init]
def wsL_limits_r3 : List Cond := [Cond.code yX1_init cX1_init 1 none, Cond.methodLink RX1 3 objectInit, Cond.fieldLink RX1 11 "RollerMesh$Pad" "codes" "[I", Cond.methodLink RX6 39 yX2_init, Cond.instanceMethod yX2_init, Cond.code yX2_init cX2_init 2 none, Cond.methodLink RX2 5 objectInit, Cond.fieldLink RX2 13 "RollerMesh$Reader" "numbers" "[I", Cond.fieldLink RX2 17 "RollerMesh$Reader" "pad" "LRollerMesh$Pad;", Cond.instanceMethod yX5_init, Cond.code yX5_init cX5_init 1 none, Cond.methodLink RX5 3 objectInit, Cond.fieldLink RX5 11 "RollerMesh$Turn" "presses" "[I", Cond.methodLink RL 31 yX6_roller, Cond.instanceMethod yX6_roller, Cond.selects RX6 yX6_roller yX6_roller, Cond.code yX6_roller cX6_roller 3 (some .int), Cond.methodLink RX6 53 yX0_prepare, Cond.instanceMethod yX0_prepare, Cond.selects RX0 yX0_prepare yX0_prepare, Cond.code yX0_prepare cX0_prepare 2 none, Cond.fieldLink RX0 21 "RollerMesh$History" "free" "I", Cond.methodLink RX0 24 yX3_copyTo, Cond.instanceMethod yX3_copyTo]
def wsL_limits_r4 : List Cond := [Cond.selects RX3 yX3_copyTo yX3_copyTo, Cond.code yX3_copyTo cX3_copyTo 3 none, Cond.methodLink RX3 70 arraycopyName, Cond.native arraycopyName, Cond.static arraycopyName, Cond.initialized "java/lang/System", Cond.methodLink RX6 65 yX3_addRoller, Cond.instanceMethod yX3_addRoller, Cond.selects RX3 yX3_addRoller yX3_addRoller, Cond.code yX3_addRoller cX3_addRoller 5 (some .int), Cond.static yX6_outside, Cond.code yX6_outside cX6_outside 3 (some .boolean), Cond.methodLink RX3 15 yX3_cell, Cond.instanceMethod yX3_cell, Cond.selects RX3 yX3_cell yX3_cell, Cond.code yX3_cell cX3_cell 2 (some .int), Cond.methodLink RX3 37 yX3_placeOf, Cond.static yX3_placeOf, Cond.code yX3_placeOf cX3_placeOf 1 (some .int), Cond.methodLink RX3 19 yX3_change, Cond.instanceMethod yX3_change, Cond.selects RX3 yX3_change yX3_change, Cond.code yX3_change cX3_change 3 none, Cond.methodLink RX3 40 yX3_shape]
def wsL_limits_r5 : List Cond := [Cond.instanceMethod yX3_shape, Cond.selects RX3 yX3_shape yX3_shape, Cond.code yX3_shape cX3_shape 4 none, Cond.methodLink RX3 44 yX3_raise, Cond.instanceMethod yX3_raise, Cond.selects RX3 yX3_raise yX3_raise, Cond.code yX3_raise cX3_raise 3 none, Cond.methodLink RX6 61 yX0_recorded, Cond.instanceMethod yX0_recorded, Cond.selects RX0 yX0_recorded yX0_recorded, Cond.code yX0_recorded cX0_recorded 2 (some .int), Cond.fieldLink RX0 17 "RollerMesh$History" "length" "I", Cond.methodLink RX0 28 Lib.Math.min.name, Cond.static Lib.Math.min.name, Cond.initialized "java/lang/Math", Cond.code Lib.Math.min.name Lib.Math.min.code 2 (some .int), Cond.methodLink RL 52 yX6_pair, Cond.instanceMethod yX6_pair, Cond.selects RX6 yX6_pair yX6_pair, Cond.code yX6_pair cX6_pair 7 (some .int), Cond.methodLink RX6 155 yX6_questionError, Cond.instanceMethod yX6_questionError, Cond.selects RX6 yX6_questionError yX6_questionError, Cond.code yX6_questionError cX6_questionError 8 (some .int)]
def wsL_limits_r6 : List Cond := [Cond.methodLink RX6 82 yX6_pairError, Cond.instanceMethod yX6_pairError, Cond.selects RX6 yX6_pairError yX6_pairError, Cond.code yX6_pairError cX6_pairError 6 (some .int), Cond.methodLink RX6 123 yX3_has, Cond.instanceMethod yX3_has, Cond.selects RX3 yX3_has yX3_has, Cond.code yX3_has cX3_has 2 (some .boolean), Cond.methodLink RX6 86 yX6_outside, Cond.methodLink RX6 90 yX5_lay, Cond.instanceMethod yX5_lay, Cond.selects RX5 yX5_lay yX5_lay, Cond.code yX5_lay cX5_lay 11 none, Cond.methodLink RX5 25 Lib.Math.min.name, Cond.fieldLink RX5 30 "RollerMesh$Turn" "length" "I", Cond.methodLink RX5 15 yX3_teeth, Cond.instanceMethod yX3_teeth, Cond.selects RX3 yX3_teeth yX3_teeth, Cond.code yX3_teeth cX3_teeth 2 (some .int), Cond.methodLink RX5 21 yX5_leastMultiple, Cond.static yX5_leastMultiple, Cond.code yX5_leastMultiple cX5_leastMultiple 3 (some .int), Cond.methodLink RX5 34 yX3_height, Cond.instanceMethod yX3_height]
def wsL_limits_r7 : List Cond := [Cond.selects RX3 yX3_height yX3_height, Cond.code yX3_height cX3_height 3 (some .int), Cond.methodLink RX5 37 yX5_next, Cond.static yX5_next, Cond.code yX5_next cX5_next 2 (some .int), Cond.methodLink RX6 158 yX5_length, Cond.instanceMethod yX5_length, Cond.selects RX5 yX5_length yX5_length, Cond.code yX5_length cX5_length 1 (some .int), Cond.methodLink RX6 159 yX5_leastPress, Cond.instanceMethod yX5_leastPress, Cond.selects RX5 yX5_leastPress yX5_leastPress, Cond.code yX5_leastPress cX5_leastPress 3 (some .int), Cond.methodLink RX5 40 yX5_press, Cond.instanceMethod yX5_press, Cond.selects RX5 yX5_press yX5_press, Cond.code yX5_press cX5_press 2 (some .int), Cond.methodLink RX6 162 yX5_greatestPress, Cond.instanceMethod yX5_greatestPress, Cond.selects RX5 yX5_greatestPress yX5_greatestPress, Cond.code yX5_greatestPress cX5_greatestPress 3 (some .int), Cond.methodLink RX5 43 Lib.Math.max.name, Cond.static Lib.Math.max.name, Cond.code Lib.Math.max.name Lib.Math.max.code 2 (some .int)]
def wsL_limits_r8 : List Cond := [Cond.methodLink RX6 94 yX3_setting, Cond.instanceMethod yX3_setting, Cond.selects RX3 yX3_setting yX3_setting, Cond.code yX3_setting cX3_setting 2 (some .int), Cond.methodLink RX6 97 yX5_meshes, Cond.instanceMethod yX5_meshes, Cond.selects RX5 yX5_meshes yX5_meshes, Cond.code yX5_meshes cX5_meshes 2 (some .boolean), Cond.methodLink RX5 53 yX5_firstBadStep, Cond.instanceMethod yX5_firstBadStep, Cond.selects RX5 yX5_firstBadStep yX5_firstBadStep, Cond.code yX5_firstBadStep cX5_firstBadStep 3 (some .int), Cond.methodLink RX5 49 yX5_isSmoothAt, Cond.instanceMethod yX5_isSmoothAt, Cond.selects RX5 yX5_isSmoothAt yX5_isSmoothAt, Cond.code yX5_isSmoothAt cX5_isSmoothAt 4 (some .boolean), Cond.methodLink RX5 46 Lib.Math.abs.name, Cond.static Lib.Math.abs.name, Cond.code Lib.Math.abs.name Lib.Math.abs.code 1 (some .int), Cond.methodLink RL 59 yX6_leastGap, Cond.instanceMethod yX6_leastGap, Cond.selects RX6 yX6_leastGap yX6_leastGap, Cond.code yX6_leastGap cX6_leastGap 5 (some .int), Cond.methodLink RX6 171 yX6_gapToMesh]
def wsL_limits_r9 : List Cond := [Cond.instanceMethod yX6_gapToMesh, Cond.selects RX6 yX6_gapToMesh yX6_gapToMesh, Cond.code yX6_gapToMesh cX6_gapToMesh 5 (some .int), Cond.methodLink RX6 182 Lib.Math.max.name, Cond.methodLink RX6 179 yX5_isSmooth, Cond.instanceMethod yX5_isSmooth, Cond.selects RX5 yX5_isSmooth yX5_isSmooth, Cond.code yX5_isSmooth cX5_isSmooth 3 (some .boolean), Cond.methodLink RL 65 yX6_thickest, Cond.instanceMethod yX6_thickest, Cond.selects RX6 yX6_thickest yX6_thickest, Cond.code yX6_thickest cX6_thickest 7 (some .int), Cond.methodLink RX6 101 yX5_begin, Cond.instanceMethod yX5_begin, Cond.selects RX5 yX5_begin yX5_begin, Cond.code yX5_begin cX5_begin 1 none, Cond.fieldLink RX5 56 "RollerMesh$Turn" "at" "I", Cond.fieldLink RX5 59 "RollerMesh$Turn" "taken" "I", Cond.methodLink RX6 104 yX3_cell, Cond.methodLink RX6 107 yX5_tears, Cond.instanceMethod yX5_tears, Cond.selects RX5 yX5_tears yX5_tears, Cond.code yX5_tears cX5_tears 9 (some .boolean), Cond.methodLink RL 41 yX6_card]
def wsL_limits_r10 : List Cond := [Cond.instanceMethod yX6_card, Cond.selects RX6 yX6_card yX6_card, Cond.code yX6_card cX6_card 3 (some .int), Cond.methodLink RX6 75 yX3_changeCard, Cond.instanceMethod yX3_changeCard, Cond.selects RX3 yX3_changeCard yX3_changeCard, Cond.code yX3_changeCard cX3_changeCard 4 (some .int), Cond.methodLink RL 48 yX6_run, Cond.instanceMethod yX6_run, Cond.selects RX6 yX6_run yX6_run, Cond.code yX6_run cX6_run 7 (some .int), Cond.methodLink RX6 78 yX6_runCards, Cond.instanceMethod yX6_runCards, Cond.selects RX6 yX6_runCards yX6_runCards, Cond.code yX6_runCards cX6_runCards 10 (some .int), Cond.methodLink RX6 111 yX5_taken, Cond.instanceMethod yX5_taken, Cond.selects RX5 yX5_taken yX5_taken, Cond.code yX5_taken cX5_taken 1 (some .int), Cond.methodLink RX6 115 yX3_countRun, Cond.instanceMethod yX3_countRun, Cond.selects RX3 yX3_countRun yX3_countRun, Cond.code yX3_countRun cX3_countRun 4 none, Cond.methodLink RX6 119 yX3_turnRoller]
def wsL_limits_r11 : List Cond := [Cond.instanceMethod yX3_turnRoller, Cond.selects RX3 yX3_turnRoller yX3_turnRoller, Cond.code yX3_turnRoller cX3_turnRoller 3 none, Cond.methodLink RX3 63 yX3_stepsSinceWorn, Cond.instanceMethod yX3_stepsSinceWorn, Cond.selects RX3 yX3_stepsSinceWorn yX3_stepsSinceWorn, Cond.code yX3_stepsSinceWorn cX3_stepsSinceWorn 2 (some .int), Cond.methodLink RX3 27 yX3_setting, Cond.methodLink RX3 34 yX3_teeth, Cond.methodLink RX3 66 yX3_wearDown, Cond.instanceMethod yX3_wearDown, Cond.selects RX3 yX3_wearDown yX3_wearDown, Cond.code yX3_wearDown cX3_wearDown 5 none, Cond.methodLink RX3 51 yX3_height, Cond.methodLink RL 13 yX6_count, Cond.instanceMethod yX6_count, Cond.selects RX6 yX6_count yX6_count, Cond.code yX6_count cX6_count 2 (some .int), Cond.methodLink RX6 151 yX1_length, Cond.instanceMethod yX1_length, Cond.selects RX1 yX1_length yX1_length, Cond.code yX1_length cX1_length 1 (some .int), Cond.fieldLink RX1 15 "RollerMesh$Pad" "length" "I", Cond.methodLink RX6 154 yX0_length]
def wsL_limits_r12 : List Cond := [Cond.instanceMethod yX0_length, Cond.selects RX0 yX0_length yX0_length, Cond.code yX0_length cX0_length 1 (some .int), Cond.methodLink RL 19 yX6_of, Cond.instanceMethod yX6_of, Cond.selects RX6 yX6_of yX6_of, Cond.code yX6_of cX6_of 3 (some .int), Cond.methodLink RX6 126 yX3_teeth, Cond.methodLink RX6 129 yX3_teethOfSign, Cond.instanceMethod yX3_teethOfSign, Cond.selects RX3 yX3_teethOfSign yX3_teethOfSign, Cond.code yX3_teethOfSign cX3_teethOfSign 5 (some .int), Cond.methodLink RX6 132 yX3_greatestHeight, Cond.instanceMethod yX3_greatestHeight, Cond.selects RX3 yX3_greatestHeight yX3_greatestHeight, Cond.code yX3_greatestHeight cX3_greatestHeight 4 (some .int), Cond.methodLink RX3 55 Lib.Math.max.name, Cond.methodLink RX6 135 yX3_leastHeight, Cond.instanceMethod yX3_leastHeight, Cond.selects RX3 yX3_leastHeight yX3_leastHeight, Cond.code yX3_leastHeight cX3_leastHeight 4 (some .int), Cond.methodLink RX3 60 Lib.Math.min.name, Cond.methodLink RX6 138 yX3_stepsSinceWorn, Cond.methodLink RX6 141 yX3_timesWorn]
def wsL_limits_r13 : List Cond := [Cond.instanceMethod yX3_timesWorn, Cond.selects RX3 yX3_timesWorn yX3_timesWorn, Cond.code yX3_timesWorn cX3_timesWorn 2 (some .int), Cond.methodLink RL 23 yX6_tooth, Cond.instanceMethod yX6_tooth, Cond.selects RX6 yX6_tooth yX6_tooth, Cond.code yX6_tooth cX6_tooth 3 (some .int), Cond.methodLink RX6 144 yX3_hasTooth, Cond.instanceMethod yX3_hasTooth, Cond.selects RX3 yX3_hasTooth yX3_hasTooth, Cond.code yX3_hasTooth cX3_hasTooth 3 (some .boolean), Cond.methodLink RX3 30 yX3_has, Cond.methodLink RX6 148 yX3_height, Cond.methodLink RL 97 yL_refused, Cond.static yL_refused, Cond.initialized RL, Cond.code yL_refused cL_refused 4 (some .boolean), Cond.methodLink RL 85 yL_seen, Cond.static yL_seen, Cond.code yL_seen cL_seen 4 (some .long), Cond.constantLong RL 9 (59), Cond.constantLong RL 11 (31), Cond.methodLink RL 89 yL_refusesAny, Cond.static yL_refusesAny]
def wsL_limits_r14 : List Cond := [Cond.code yL_refusesAny cL_refusesAny 5 (some .boolean), Cond.constantLong RL 75 (32), Cond.constantLong RL 81 (127), Cond.constantLong RL 83 (11008), Cond.methodLink RL 26 yX6_set, Cond.instanceMethod yX6_set, Cond.selects RX6 yX6_set yX6_set, Cond.code yX6_set cX6_set 3 (some .int), Cond.methodLink RX6 57 yX3_changeSetting, Cond.instanceMethod yX3_changeSetting, Cond.selects RX3 yX3_changeSetting yX3_changeSetting, Cond.code yX3_changeSetting cX3_changeSetting 5 (some .int), Cond.methodLink RL 34 yX6_file, Cond.instanceMethod yX6_file, Cond.selects RX6 yX6_file yX6_file, Cond.code yX6_file cX6_file 4 (some .int), Cond.methodLink RX6 68 yX3_fileTooth, Cond.instanceMethod yX3_fileTooth, Cond.selects RX3 yX3_fileTooth yX3_fileTooth, Cond.code yX3_fileTooth cX3_fileTooth 5 (some .int), Cond.methodLink RX3 47 yX3_hasTooth, Cond.methodLink RL 38 yX6_melt, Cond.instanceMethod yX6_melt, Cond.selects RX6 yX6_melt yX6_melt]
def wsL_limits_r15 : List Cond := [Cond.code yX6_melt cX6_melt 2 (some .int), Cond.methodLink RX6 72 yX3_meltRoller, Cond.instanceMethod yX3_meltRoller, Cond.selects RX3 yX3_meltRoller yX3_meltRoller, Cond.code yX3_meltRoller cX3_meltRoller 4 (some .int), Cond.methodLink RL 44 yX6_carryOut, Cond.instanceMethod yX6_carryOut, Cond.selects RX6 yX6_carryOut yX6_carryOut, Cond.code yX6_carryOut cX6_carryOut 2 (some .int), Cond.methodLink RX6 192 yX2_firstFault, Cond.instanceMethod yX2_firstFault, Cond.selects RX2 yX2_firstFault yX2_firstFault, Cond.code yX2_firstFault cX2_firstFault 2 (some .int), Cond.fieldLink RX2 28 "RollerMesh$Reader" "at" "I", Cond.methodLink RX2 31 yX2_begin, Cond.instanceMethod yX2_begin, Cond.selects RX2 yX2_begin yX2_begin, Cond.code yX2_begin cX2_begin 1 none, Cond.methodLink RX2 34 yX2_readOrder, Cond.instanceMethod yX2_readOrder, Cond.selects RX2 yX2_readOrder yX2_readOrder, Cond.code yX2_readOrder cX2_readOrder 1 (some .boolean), Cond.fieldLink RX2 25 "RollerMesh$Reader" "amount" "I", Cond.fieldLink RX2 21 "RollerMesh$Reader" "kind" "I"]
def wsL_limits_r16 : List Cond := [Cond.methodLink RX2 46 yX1_codeAt, Cond.instanceMethod yX1_codeAt, Cond.selects RX1 yX1_codeAt yX1_codeAt, Cond.code yX1_codeAt cX1_codeAt 2 (some .int), Cond.methodLink RX2 42 yX2_skip, Cond.instanceMethod yX2_skip, Cond.selects RX2 yX2_skip yX2_skip, Cond.code yX2_skip cX2_skip 2 (some .boolean), Cond.methodLink RX2 50 yX2_readValues, Cond.instanceMethod yX2_readValues, Cond.selects RX2 yX2_readValues yX2_readValues, Cond.code yX2_readValues cX2_readValues 3 (some .boolean), Cond.methodLink RX2 56 yX2_readValue, Cond.instanceMethod yX2_readValue, Cond.selects RX2 yX2_readValue yX2_readValue, Cond.code yX2_readValue cX2_readValue 2 (some .boolean), Cond.methodLink RX2 59 yX2_isDigit, Cond.instanceMethod yX2_isDigit, Cond.selects RX2 yX2_isDigit yX2_isDigit, Cond.code yX2_isDigit cX2_isDigit 1 (some .boolean), Cond.methodLink RX2 62 yX2_readDigit, Cond.instanceMethod yX2_readDigit, Cond.selects RX2 yX2_readDigit yX2_readDigit, Cond.code yX2_readDigit cX2_readDigit 2 (some .int)]
def wsL_limits_r17 : List Cond := [Cond.methodLink RX2 65 yX2_note, Cond.instanceMethod yX2_note, Cond.selects RX2 yX2_note yX2_note, Cond.code yX2_note cX2_note 2 none, Cond.methodLink RX2 53 yX2_readNumber, Cond.instanceMethod yX2_readNumber, Cond.selects RX2 yX2_readNumber yX2_readNumber, Cond.code yX2_readNumber cX2_readNumber 2 (some .boolean), Cond.methodLink RX2 38 yX1_length, Cond.methodLink RX6 195 yX2_begin, Cond.methodLink RX6 196 yX2_readOrder, Cond.methodLink RX6 200 yX6_obey, Cond.instanceMethod yX6_obey, Cond.selects RX6 yX6_obey yX6_obey, Cond.code yX6_obey cX6_obey 1 (some .int), Cond.methodLink RX6 207 yX2_kind, Cond.instanceMethod yX2_kind, Cond.selects RX2 yX2_kind yX2_kind, Cond.code yX2_kind cX2_kind 1 (some .int), Cond.methodLink RX6 210 yX6_addRollerOfText, Cond.instanceMethod yX6_addRollerOfText, Cond.selects RX6 yX6_addRollerOfText yX6_addRollerOfText, Cond.code yX6_addRollerOfText cX6_addRollerOfText 4 (some .int), Cond.methodLink RX6 216 yX2_numbers]
def wsL_limits_r18 : List Cond := [Cond.instanceMethod yX2_numbers, Cond.selects RX2 yX2_numbers yX2_numbers, Cond.code yX2_numbers cX2_numbers 1 (some .int), Cond.methodLink RX6 213 yX2_number, Cond.instanceMethod yX2_number, Cond.selects RX2 yX2_number yX2_number, Cond.code yX2_number cX2_number 2 (some .int), Cond.methodLink RX6 203 yX2_skip, Cond.methodLink RX6 189 yX1_clear, Cond.instanceMethod yX1_clear, Cond.selects RX1 yX1_clear yX1_clear, Cond.code yX1_clear cX1_clear 2 (some .int), Cond.methodLink RL 56 yX6_why, Cond.instanceMethod yX6_why, Cond.selects RX6 yX6_why yX6_why, Cond.code yX6_why cX6_why 8 (some .int), Cond.methodLink RX6 165 yX5_firstBadStep, Cond.methodLink RX6 168 yX5_press, Cond.methodLink RL 62 yX6_bestOffset, Cond.instanceMethod yX6_bestOffset, Cond.selects RX6 yX6_bestOffset yX6_bestOffset, Cond.code yX6_bestOffset cX6_bestOffset 10 (some .int), Cond.methodLink RX6 174 Lib.Math.min.name, Cond.methodLink RL 69 yX6_save]
def wsL_limits_r19 : List Cond := [Cond.instanceMethod yX6_save, Cond.selects RX6 yX6_save yX6_save, Cond.code yX6_save cX6_save 2 (some .int), Cond.methodLink RX6 223 yX4_keep, Cond.instanceMethod yX4_keep, Cond.selects RX4 yX4_keep yX4_keep, Cond.code yX4_keep cX4_keep 3 (some .int), Cond.fieldLink RX4 25 "RollerMesh$Slots" "filled" "I", Cond.methodLink RX4 21 yX3_copyTo, Cond.methodLink RX4 29 yX3_cell, Cond.methodLink RL 72 yX6_restore, Cond.instanceMethod yX6_restore, Cond.selects RX6 yX6_restore yX6_restore, Cond.code yX6_restore cX6_restore 2 (some .int), Cond.methodLink RX6 227 yX4_fetch, Cond.instanceMethod yX4_fetch, Cond.selects RX4 yX4_fetch yX4_fetch, Cond.code yX4_fetch cX4_fetch 3 (some .int), Cond.methodLink RX4 33 yX3_copyFrom, Cond.instanceMethod yX3_copyFrom, Cond.selects RX3 yX3_copyFrom yX3_copyFrom, Cond.code yX3_copyFrom cX3_copyFrom 3 none, Cond.methodLink RL 77 yX6_put, Cond.instanceMethod yX6_put]
def wsL_limits_r20 : List Cond := [Cond.selects RX6 yX6_put yX6_put, Cond.code yX6_put cX6_put 3 (some .int), Cond.methodLink RX6 185 yX1_append, Cond.instanceMethod yX1_append, Cond.selects RX1 yX1_append yX1_append, Cond.code yX1_append cX1_append 5 (some .int), Cond.methodLink RX1 19 yX1_amountOf, Cond.static yX1_amountOf, Cond.code yX1_amountOf cX1_amountOf 4 (some .int), Cond.methodLink RX1 23 yX1_codeIn, Cond.static yX1_codeIn, Cond.code yX1_codeIn cX1_codeIn 3 (some .int), Cond.methodLink RX1 27 yX1_add, Cond.instanceMethod yX1_add, Cond.selects RX1 yX1_add yX1_add, Cond.code yX1_add cX1_add 2 none]
def wsL_limits : List Cond := .code yL_limits cL_limits 2 (some .boolean) :: ((wsL_limits_r1 ++ (wsL_limits_r2 ++ (wsL_limits_r3 ++ (wsL_limits_r4 ++ (wsL_limits_r5 ++ (wsL_limits_r6 ++ (wsL_limits_r7 ++ (wsL_limits_r8 ++ (wsL_limits_r9 ++ (wsL_limits_r10 ++ (wsL_limits_r11 ++ (wsL_limits_r12 ++ (wsL_limits_r13 ++ (wsL_limits_r14 ++ (wsL_limits_r15 ++ (wsL_limits_r16 ++ (wsL_limits_r17 ++ (wsL_limits_r18 ++ (wsL_limits_r19 ++ wsL_limits_r20))))))))))))))))))) ++ wsX60 ++ wsX30 ++ wsX00 ++ wsX40 ++ wsX10 ++ wsX20 ++ wsX50)
def wsL_texts_r1 : List Cond := [Cond.classLink RL 14 RX6, Cond.instantiable RX6 6, Cond.initialized RX6, Cond.constantLong RL 104 (43), Cond.constantLong RL 109 (2830640), Cond.constantLong RL 111 (2830636), Cond.constantLong RL 113 (11053), Cond.constantLong RL 115 (7155767), Cond.constantLong RL 117 (1831940144), Cond.constantLong RL 119 (438911775293), Cond.constantLong RL 121 (12157489805143091), Cond.constantLong RL 123 (469111631152), Cond.constantLong RL 125 (120), Cond.constantLong RL 127 (28764530627591481), Cond.constantLong RL 129 (32142226121306975), Cond.constantLong RL 131 (7156027), Cond.constantLong RL 133 (112361414475053), Cond.constantLong RL 135 (28764522105616689), Cond.constantLong RL 137 (8228409887054585652), Cond.constantLong RL 139 (976562742), Cond.constantLong RL 141 (3112598877877645612), Cond.constantLong RL 143 (3475419010561749036), Cond.constantLong RL 145 (3543256692012757039), Cond.constantLong RL 147 (3548889691773874986)]
def wsL_texts_r2 : List Cond := [Cond.constantLong RL 149 (3763714270717558061), Cond.constantLong RL 151 (4124009942001332539), Cond.constantLong RL 153 (27952), Cond.constantLong RL 155 (7868135364173196595), Cond.constantLong RL 157 (52), Cond.constantLong RL 75 (32), Cond.methodLink RL 93 yX6_init, Cond.instanceMethod yX6_init, Cond.code yX6_init cX6_init 1 none, Cond.methodLink RX6 1 objectInit, Cond.instanceMethod objectInit, Cond.code objectInit ⟨#[0xb1]⟩ 1 none, Cond.classLink RX6 7 RX3, Cond.instantiable RX3 1, Cond.initialized RX3, Cond.fieldLink RX6 10 "RollerMesh" "shop" "LRollerMesh$Shop;", Cond.classLink RX6 16 RX0, Cond.instantiable RX0 3, Cond.initialized RX0, Cond.fieldLink RX6 19 "RollerMesh" "history" "LRollerMesh$History;", Cond.classLink RX6 23 RX4, Cond.instantiable RX4 2, Cond.initialized RX4, Cond.fieldLink RX6 26 "RollerMesh" "slots" "LRollerMesh$Slots;"]
def wsL_texts_r3 : List Cond := [Cond.classLink RX6 30 RX1, Cond.instantiable RX1 2, Cond.initialized RX1, Cond.fieldLink RX6 33 "RollerMesh" "pad" "LRollerMesh$Pad;", Cond.classLink RX6 37 RX2, Cond.instantiable RX2 5, Cond.initialized RX2, Cond.fieldLink RX6 42 "RollerMesh" "reader" "LRollerMesh$Reader;", Cond.classLink RX6 46 RX5, Cond.instantiable RX5 4, Cond.initialized RX5, Cond.fieldLink RX6 49 "RollerMesh" "turn" "LRollerMesh$Turn;", Cond.methodLink RX6 9 yX3_init, Cond.instanceMethod yX3_init, Cond.code yX3_init cX3_init 1 none, Cond.methodLink RX3 5 objectInit, Cond.arrayClass .int, Cond.fieldLink RX3 11 "RollerMesh$Shop" "cells" "[I", Cond.instanceMethod yX0_init, Cond.code yX0_init cX0_init 1 none, Cond.methodLink RX0 5 objectInit, Cond.fieldLink RX0 13 "RollerMesh$History" "states" "[I", Cond.instanceMethod yX4_init, Cond.code yX4_init cX4_init 1 none]
def wsL_texts_r4 : List Cond := [Cond.methodLink RX4 3 objectInit, Cond.fieldLink RX4 13 "RollerMesh$Slots" "states" "[I", Cond.instanceMethod yX1_init, Cond.code yX1_init cX1_init 1 none, Cond.methodLink RX1 3 objectInit, Cond.fieldLink RX1 11 "RollerMesh$Pad" "codes" "[I", Cond.methodLink RX6 39 yX2_init, Cond.instanceMethod yX2_init, Cond.code yX2_init cX2_init 2 none, Cond.methodLink RX2 5 objectInit, Cond.fieldLink RX2 13 "RollerMesh$Reader" "numbers" "[I", Cond.fieldLink RX2 17 "RollerMesh$Reader" "pad" "LRollerMesh$Pad;", Cond.instanceMethod yX5_init, Cond.code yX5_init cX5_init 1 none, Cond.methodLink RX5 3 objectInit, Cond.fieldLink RX5 11 "RollerMesh$Turn" "presses" "[I", Cond.methodLink RL 101 yX6_fault, Cond.instanceMethod yX6_fault, Cond.selects RX6 yX6_fault yX6_fault, Cond.code yX6_fault cX6_fault 1 (some .int), Cond.methodLink RX6 192 yX2_firstFault, Cond.instanceMethod yX2_firstFault, Cond.selects RX2 yX2_firstFault yX2_firstFault, Cond.code yX2_firstFault cX2_firstFault 2 (some .int)]
def wsL_texts_r5 : List Cond := [Cond.fieldLink RX2 28 "RollerMesh$Reader" "at" "I", Cond.methodLink RX2 31 yX2_begin, Cond.instanceMethod yX2_begin, Cond.selects RX2 yX2_begin yX2_begin, Cond.code yX2_begin cX2_begin 1 none, Cond.methodLink RX2 34 yX2_readOrder, Cond.instanceMethod yX2_readOrder, Cond.selects RX2 yX2_readOrder yX2_readOrder, Cond.code yX2_readOrder cX2_readOrder 1 (some .boolean), Cond.fieldLink RX2 25 "RollerMesh$Reader" "amount" "I", Cond.fieldLink RX2 21 "RollerMesh$Reader" "kind" "I", Cond.methodLink RX2 46 yX1_codeAt, Cond.instanceMethod yX1_codeAt, Cond.selects RX1 yX1_codeAt yX1_codeAt, Cond.code yX1_codeAt cX1_codeAt 2 (some .int), Cond.fieldLink RX1 15 "RollerMesh$Pad" "length" "I", Cond.methodLink RX2 42 yX2_skip, Cond.instanceMethod yX2_skip, Cond.selects RX2 yX2_skip yX2_skip, Cond.code yX2_skip cX2_skip 2 (some .boolean), Cond.methodLink RX2 50 yX2_readValues, Cond.instanceMethod yX2_readValues, Cond.selects RX2 yX2_readValues yX2_readValues, Cond.code yX2_readValues cX2_readValues 3 (some .boolean)]
def wsL_texts_r6 : List Cond := [Cond.methodLink RX2 56 yX2_readValue, Cond.instanceMethod yX2_readValue, Cond.selects RX2 yX2_readValue yX2_readValue, Cond.code yX2_readValue cX2_readValue 2 (some .boolean), Cond.methodLink RX2 59 yX2_isDigit, Cond.instanceMethod yX2_isDigit, Cond.selects RX2 yX2_isDigit yX2_isDigit, Cond.code yX2_isDigit cX2_isDigit 1 (some .boolean), Cond.static yX6_outside, Cond.code yX6_outside cX6_outside 3 (some .boolean), Cond.methodLink RX2 62 yX2_readDigit, Cond.instanceMethod yX2_readDigit, Cond.selects RX2 yX2_readDigit yX2_readDigit, Cond.code yX2_readDigit cX2_readDigit 2 (some .int), Cond.methodLink RX2 65 yX2_note, Cond.instanceMethod yX2_note, Cond.selects RX2 yX2_note yX2_note, Cond.code yX2_note cX2_note 2 none, Cond.methodLink RX2 53 yX2_readNumber, Cond.instanceMethod yX2_readNumber, Cond.selects RX2 yX2_readNumber yX2_readNumber, Cond.code yX2_readNumber cX2_readNumber 2 (some .boolean), Cond.methodLink RX2 38 yX1_length, Cond.instanceMethod yX1_length]
def wsL_texts_r7 : List Cond := [Cond.selects RX1 yX1_length yX1_length, Cond.code yX1_length cX1_length 1 (some .int), Cond.methodLink RL 44 yX6_carryOut, Cond.instanceMethod yX6_carryOut, Cond.selects RX6 yX6_carryOut yX6_carryOut, Cond.code yX6_carryOut cX6_carryOut 2 (some .int), Cond.methodLink RX6 53 yX0_prepare, Cond.instanceMethod yX0_prepare, Cond.selects RX0 yX0_prepare yX0_prepare, Cond.code yX0_prepare cX0_prepare 2 none, Cond.fieldLink RX0 21 "RollerMesh$History" "free" "I", Cond.methodLink RX0 24 yX3_copyTo, Cond.instanceMethod yX3_copyTo, Cond.selects RX3 yX3_copyTo yX3_copyTo, Cond.code yX3_copyTo cX3_copyTo 3 none, Cond.methodLink RX3 70 arraycopyName, Cond.native arraycopyName, Cond.static arraycopyName, Cond.initialized "java/lang/System", Cond.methodLink RX6 195 yX2_begin, Cond.methodLink RX6 196 yX2_readOrder, Cond.methodLink RX6 200 yX6_obey, Cond.instanceMethod yX6_obey, Cond.selects RX6 yX6_obey yX6_obey]
def wsL_texts_r8 : List Cond := [Cond.code yX6_obey cX6_obey 1 (some .int), Cond.methodLink RX6 207 yX2_kind, Cond.instanceMethod yX2_kind, Cond.selects RX2 yX2_kind yX2_kind, Cond.code yX2_kind cX2_kind 1 (some .int), Cond.methodLink RX6 210 yX6_addRollerOfText, Cond.instanceMethod yX6_addRollerOfText, Cond.selects RX6 yX6_addRollerOfText yX6_addRollerOfText, Cond.code yX6_addRollerOfText cX6_addRollerOfText 4 (some .int), Cond.methodLink RX6 216 yX2_numbers, Cond.instanceMethod yX2_numbers, Cond.selects RX2 yX2_numbers yX2_numbers, Cond.code yX2_numbers cX2_numbers 1 (some .int), Cond.methodLink RX6 65 yX3_addRoller, Cond.instanceMethod yX3_addRoller, Cond.selects RX3 yX3_addRoller yX3_addRoller, Cond.code yX3_addRoller cX3_addRoller 5 (some .int), Cond.methodLink RX3 15 yX3_cell, Cond.instanceMethod yX3_cell, Cond.selects RX3 yX3_cell yX3_cell, Cond.code yX3_cell cX3_cell 2 (some .int), Cond.methodLink RX3 37 yX3_placeOf, Cond.static yX3_placeOf, Cond.code yX3_placeOf cX3_placeOf 1 (some .int)]
def wsL_texts_r9 : List Cond := [Cond.methodLink RX3 19 yX3_change, Cond.instanceMethod yX3_change, Cond.selects RX3 yX3_change yX3_change, Cond.code yX3_change cX3_change 3 none, Cond.methodLink RX3 40 yX3_shape, Cond.instanceMethod yX3_shape, Cond.selects RX3 yX3_shape yX3_shape, Cond.code yX3_shape cX3_shape 4 none, Cond.methodLink RX3 44 yX3_raise, Cond.instanceMethod yX3_raise, Cond.selects RX3 yX3_raise yX3_raise, Cond.code yX3_raise cX3_raise 3 none, Cond.methodLink RX6 213 yX2_number, Cond.instanceMethod yX2_number, Cond.selects RX2 yX2_number yX2_number, Cond.code yX2_number cX2_number 2 (some .int), Cond.methodLink RX6 68 yX3_fileTooth, Cond.instanceMethod yX3_fileTooth, Cond.selects RX3 yX3_fileTooth yX3_fileTooth, Cond.code yX3_fileTooth cX3_fileTooth 5 (some .int), Cond.methodLink RX3 47 yX3_hasTooth, Cond.instanceMethod yX3_hasTooth, Cond.selects RX3 yX3_hasTooth yX3_hasTooth, Cond.code yX3_hasTooth cX3_hasTooth 3 (some .boolean)]
def wsL_texts_r10 : List Cond := [Cond.methodLink RX3 30 yX3_has, Cond.instanceMethod yX3_has, Cond.selects RX3 yX3_has yX3_has, Cond.code yX3_has cX3_has 2 (some .boolean), Cond.methodLink RX3 34 yX3_teeth, Cond.instanceMethod yX3_teeth, Cond.selects RX3 yX3_teeth yX3_teeth, Cond.code yX3_teeth cX3_teeth 2 (some .int), Cond.methodLink RX3 51 yX3_height, Cond.instanceMethod yX3_height, Cond.selects RX3 yX3_height yX3_height, Cond.code yX3_height cX3_height 3 (some .int), Cond.methodLink RX6 78 yX6_runCards, Cond.instanceMethod yX6_runCards, Cond.selects RX6 yX6_runCards yX6_runCards, Cond.code yX6_runCards cX6_runCards 10 (some .int), Cond.methodLink RX6 82 yX6_pairError, Cond.instanceMethod yX6_pairError, Cond.selects RX6 yX6_pairError yX6_pairError, Cond.code yX6_pairError cX6_pairError 6 (some .int), Cond.methodLink RX6 123 yX3_has, Cond.methodLink RX6 86 yX6_outside, Cond.methodLink RX6 90 yX5_lay, Cond.instanceMethod yX5_lay]
def wsL_texts_r11 : List Cond := [Cond.selects RX5 yX5_lay yX5_lay, Cond.code yX5_lay cX5_lay 11 none, Cond.methodLink RX5 25 Lib.Math.min.name, Cond.static Lib.Math.min.name, Cond.initialized "java/lang/Math", Cond.code Lib.Math.min.name Lib.Math.min.code 2 (some .int), Cond.fieldLink RX5 30 "RollerMesh$Turn" "length" "I", Cond.methodLink RX5 15 yX3_teeth, Cond.methodLink RX5 21 yX5_leastMultiple, Cond.static yX5_leastMultiple, Cond.code yX5_leastMultiple cX5_leastMultiple 3 (some .int), Cond.methodLink RX5 34 yX3_height, Cond.methodLink RX5 37 yX5_next, Cond.static yX5_next, Cond.code yX5_next cX5_next 2 (some .int), Cond.methodLink RX6 94 yX3_setting, Cond.instanceMethod yX3_setting, Cond.selects RX3 yX3_setting yX3_setting, Cond.code yX3_setting cX3_setting 2 (some .int), Cond.methodLink RX6 97 yX5_meshes, Cond.instanceMethod yX5_meshes, Cond.selects RX5 yX5_meshes yX5_meshes, Cond.code yX5_meshes cX5_meshes 2 (some .boolean), Cond.methodLink RX5 53 yX5_firstBadStep]
def wsL_texts_r12 : List Cond := [Cond.instanceMethod yX5_firstBadStep, Cond.selects RX5 yX5_firstBadStep yX5_firstBadStep, Cond.code yX5_firstBadStep cX5_firstBadStep 3 (some .int), Cond.methodLink RX5 40 yX5_press, Cond.instanceMethod yX5_press, Cond.selects RX5 yX5_press yX5_press, Cond.code yX5_press cX5_press 2 (some .int), Cond.methodLink RX5 49 yX5_isSmoothAt, Cond.instanceMethod yX5_isSmoothAt, Cond.selects RX5 yX5_isSmoothAt yX5_isSmoothAt, Cond.code yX5_isSmoothAt cX5_isSmoothAt 4 (some .boolean), Cond.methodLink RX5 46 Lib.Math.abs.name, Cond.static Lib.Math.abs.name, Cond.code Lib.Math.abs.name Lib.Math.abs.code 1 (some .int), Cond.methodLink RX6 101 yX5_begin, Cond.instanceMethod yX5_begin, Cond.selects RX5 yX5_begin yX5_begin, Cond.code yX5_begin cX5_begin 1 none, Cond.fieldLink RX5 56 "RollerMesh$Turn" "at" "I", Cond.fieldLink RX5 59 "RollerMesh$Turn" "taken" "I", Cond.methodLink RX6 104 yX3_cell, Cond.methodLink RX6 107 yX5_tears, Cond.instanceMethod yX5_tears, Cond.selects RX5 yX5_tears yX5_tears]
def wsL_texts_r13 : List Cond := [Cond.code yX5_tears cX5_tears 9 (some .boolean), Cond.methodLink RX5 43 Lib.Math.max.name, Cond.static Lib.Math.max.name, Cond.code Lib.Math.max.name Lib.Math.max.code 2 (some .int), Cond.methodLink RX6 111 yX5_taken, Cond.instanceMethod yX5_taken, Cond.selects RX5 yX5_taken yX5_taken, Cond.code yX5_taken cX5_taken 1 (some .int), Cond.methodLink RX6 115 yX3_countRun, Cond.instanceMethod yX3_countRun, Cond.selects RX3 yX3_countRun yX3_countRun, Cond.code yX3_countRun cX3_countRun 4 none, Cond.methodLink RX6 119 yX3_turnRoller, Cond.instanceMethod yX3_turnRoller, Cond.selects RX3 yX3_turnRoller yX3_turnRoller, Cond.code yX3_turnRoller cX3_turnRoller 3 none, Cond.methodLink RX3 63 yX3_stepsSinceWorn, Cond.instanceMethod yX3_stepsSinceWorn, Cond.selects RX3 yX3_stepsSinceWorn yX3_stepsSinceWorn, Cond.code yX3_stepsSinceWorn cX3_stepsSinceWorn 2 (some .int), Cond.methodLink RX3 27 yX3_setting, Cond.methodLink RX3 66 yX3_wearDown, Cond.instanceMethod yX3_wearDown, Cond.selects RX3 yX3_wearDown yX3_wearDown]
def wsL_texts_r14 : List Cond := [Cond.code yX3_wearDown cX3_wearDown 5 none, Cond.methodLink RX6 72 yX3_meltRoller, Cond.instanceMethod yX3_meltRoller, Cond.selects RX3 yX3_meltRoller yX3_meltRoller, Cond.code yX3_meltRoller cX3_meltRoller 4 (some .int), Cond.methodLink RX6 203 yX2_skip, Cond.methodLink RX6 189 yX1_clear, Cond.instanceMethod yX1_clear, Cond.selects RX1 yX1_clear yX1_clear, Cond.code yX1_clear cX1_clear 2 (some .int), Cond.methodLink RX6 61 yX0_recorded, Cond.instanceMethod yX0_recorded, Cond.selects RX0 yX0_recorded yX0_recorded, Cond.code yX0_recorded cX0_recorded 2 (some .int), Cond.fieldLink RX0 17 "RollerMesh$History" "length" "I", Cond.methodLink RX0 28 Lib.Math.min.name, Cond.methodLink RL 77 yX6_put, Cond.instanceMethod yX6_put, Cond.selects RX6 yX6_put yX6_put, Cond.code yX6_put cX6_put 3 (some .int), Cond.methodLink RX6 185 yX1_append, Cond.instanceMethod yX1_append, Cond.selects RX1 yX1_append yX1_append, Cond.code yX1_append cX1_append 5 (some .int)]
def wsL_texts_r15 : List Cond := [Cond.methodLink RX1 19 yX1_amountOf, Cond.static yX1_amountOf, Cond.code yX1_amountOf cX1_amountOf 4 (some .int), Cond.methodLink RX1 23 yX1_codeIn, Cond.static yX1_codeIn, Cond.code yX1_codeIn cX1_codeIn 3 (some .int), Cond.methodLink RX1 27 yX1_add, Cond.instanceMethod yX1_add, Cond.selects RX1 yX1_add yX1_add, Cond.code yX1_add cX1_add 2 none, Cond.methodLink RL 106 yX6_wipe, Cond.instanceMethod yX6_wipe, Cond.selects RX6 yX6_wipe yX6_wipe, Cond.code yX6_wipe cX6_wipe 1 (some .int), Cond.methodLink RL 13 yX6_count, Cond.instanceMethod yX6_count, Cond.selects RX6 yX6_count yX6_count, Cond.code yX6_count cX6_count 2 (some .int), Cond.methodLink RX6 151 yX1_length, Cond.methodLink RX6 154 yX0_length, Cond.instanceMethod yX0_length, Cond.selects RX0 yX0_length yX0_length, Cond.code yX0_length cX0_length 1 (some .int), Cond.methodLink RL 94 yX6_undo]
def wsL_texts_r16 : List Cond := [Cond.instanceMethod yX6_undo, Cond.selects RX6 yX6_undo yX6_undo, Cond.code yX6_undo cX6_undo 1 (some .int), Cond.methodLink RX6 219 yX0_stepBack, Cond.instanceMethod yX0_stepBack, Cond.selects RX0 yX0_stepBack yX0_stepBack, Cond.code yX0_stepBack cX0_stepBack 2 (some .int), Cond.methodLink RX0 34 yX3_copyFrom, Cond.instanceMethod yX3_copyFrom, Cond.selects RX3 yX3_copyFrom yX3_copyFrom, Cond.code yX3_copyFrom cX3_copyFrom 3 none, Cond.methodLink RL 19 yX6_of, Cond.instanceMethod yX6_of, Cond.selects RX6 yX6_of yX6_of, Cond.code yX6_of cX6_of 3 (some .int), Cond.methodLink RX6 126 yX3_teeth, Cond.methodLink RX6 129 yX3_teethOfSign, Cond.instanceMethod yX3_teethOfSign, Cond.selects RX3 yX3_teethOfSign yX3_teethOfSign, Cond.code yX3_teethOfSign cX3_teethOfSign 5 (some .int), Cond.methodLink RX6 132 yX3_greatestHeight, Cond.instanceMethod yX3_greatestHeight, Cond.selects RX3 yX3_greatestHeight yX3_greatestHeight, Cond.code yX3_greatestHeight cX3_greatestHeight 4 (some .int)]
def wsL_texts_r17 : List Cond := [Cond.methodLink RX3 55 Lib.Math.max.name, Cond.methodLink RX6 135 yX3_leastHeight, Cond.instanceMethod yX3_leastHeight, Cond.selects RX3 yX3_leastHeight yX3_leastHeight, Cond.code yX3_leastHeight cX3_leastHeight 4 (some .int), Cond.methodLink RX3 60 Lib.Math.min.name, Cond.methodLink RX6 138 yX3_stepsSinceWorn, Cond.methodLink RX6 141 yX3_timesWorn, Cond.instanceMethod yX3_timesWorn, Cond.selects RX3 yX3_timesWorn yX3_timesWorn, Cond.code yX3_timesWorn cX3_timesWorn 2 (some .int), Cond.methodLink RL 23 yX6_tooth, Cond.instanceMethod yX6_tooth, Cond.selects RX6 yX6_tooth yX6_tooth, Cond.code yX6_tooth cX6_tooth 3 (some .int), Cond.methodLink RX6 144 yX3_hasTooth, Cond.methodLink RX6 148 yX3_height]
def wsL_texts : List Cond := .code yL_texts cL_texts 2 (some .boolean) :: ((wsL_texts_r1 ++ (wsL_texts_r2 ++ (wsL_texts_r3 ++ (wsL_texts_r4 ++ (wsL_texts_r5 ++ (wsL_texts_r6 ++ (wsL_texts_r7 ++ (wsL_texts_r8 ++ (wsL_texts_r9 ++ (wsL_texts_r10 ++ (wsL_texts_r11 ++ (wsL_texts_r12 ++ (wsL_texts_r13 ++ (wsL_texts_r14 ++ (wsL_texts_r15 ++ (wsL_texts_r16 ++ wsL_texts_r17)))))))))))))))) ++ wsX60 ++ wsX30 ++ wsX00 ++ wsX40 ++ wsX10 ++ wsX20 ++ wsX50)
def wsL_law_r1 : List Cond := [Cond.classLink RL 14 RX6, Cond.instantiable RX6 6, Cond.initialized RX6, Cond.arrayClass .long, Cond.methodLink RL 159 yL_mesh, Cond.static yL_mesh, Cond.initialized RL, Cond.code yL_mesh cL_mesh 1 (some .boolean), Cond.methodLink RL 93 yX6_init, Cond.instanceMethod yX6_init, Cond.code yX6_init cX6_init 1 none, Cond.methodLink RX6 1 objectInit, Cond.instanceMethod objectInit, Cond.code objectInit ⟨#[0xb1]⟩ 1 none, Cond.classLink RX6 7 RX3, Cond.instantiable RX3 1, Cond.initialized RX3, Cond.fieldLink RX6 10 "RollerMesh" "shop" "LRollerMesh$Shop;", Cond.classLink RX6 16 RX0, Cond.instantiable RX0 3, Cond.initialized RX0, Cond.fieldLink RX6 19 "RollerMesh" "history" "LRollerMesh$History;", Cond.classLink RX6 23 RX4, Cond.instantiable RX4 2]
def wsL_law_r2 : List Cond := [Cond.initialized RX4, Cond.fieldLink RX6 26 "RollerMesh" "slots" "LRollerMesh$Slots;", Cond.classLink RX6 30 RX1, Cond.instantiable RX1 2, Cond.initialized RX1, Cond.fieldLink RX6 33 "RollerMesh" "pad" "LRollerMesh$Pad;", Cond.classLink RX6 37 RX2, Cond.instantiable RX2 5, Cond.initialized RX2, Cond.fieldLink RX6 42 "RollerMesh" "reader" "LRollerMesh$Reader;", Cond.classLink RX6 46 RX5, Cond.instantiable RX5 4, Cond.initialized RX5, Cond.fieldLink RX6 49 "RollerMesh" "turn" "LRollerMesh$Turn;", Cond.methodLink RX6 9 yX3_init, Cond.instanceMethod yX3_init, Cond.code yX3_init cX3_init 1 none, Cond.methodLink RX3 5 objectInit, Cond.arrayClass .int, Cond.fieldLink RX3 11 "RollerMesh$Shop" "cells" "[I", Cond.instanceMethod yX0_init, Cond.code yX0_init cX0_init 1 none, Cond.methodLink RX0 5 objectInit, Cond.fieldLink RX0 13 "RollerMesh$History" "states" "[I"]
def wsL_law_r3 : List Cond := [Cond.instanceMethod yX4_init, Cond.code yX4_init cX4_init 1 none, Cond.methodLink RX4 3 objectInit, Cond.fieldLink RX4 13 "RollerMesh$Slots" "states" "[I", Cond.instanceMethod yX1_init, Cond.code yX1_init cX1_init 1 none, Cond.methodLink RX1 3 objectInit, Cond.fieldLink RX1 11 "RollerMesh$Pad" "codes" "[I", Cond.methodLink RX6 39 yX2_init, Cond.instanceMethod yX2_init, Cond.code yX2_init cX2_init 2 none, Cond.methodLink RX2 5 objectInit, Cond.fieldLink RX2 13 "RollerMesh$Reader" "numbers" "[I", Cond.fieldLink RX2 17 "RollerMesh$Reader" "pad" "LRollerMesh$Pad;", Cond.instanceMethod yX5_init, Cond.code yX5_init cX5_init 1 none, Cond.methodLink RX5 3 objectInit, Cond.fieldLink RX5 11 "RollerMesh$Turn" "presses" "[I", Cond.methodLink RL 94 yX6_undo, Cond.instanceMethod yX6_undo, Cond.selects RX6 yX6_undo yX6_undo, Cond.code yX6_undo cX6_undo 1 (some .int), Cond.methodLink RX6 219 yX0_stepBack, Cond.instanceMethod yX0_stepBack]
def wsL_law_r4 : List Cond := [Cond.selects RX0 yX0_stepBack yX0_stepBack, Cond.code yX0_stepBack cX0_stepBack 2 (some .int), Cond.fieldLink RX0 17 "RollerMesh$History" "length" "I", Cond.fieldLink RX0 21 "RollerMesh$History" "free" "I", Cond.methodLink RX0 34 yX3_copyFrom, Cond.instanceMethod yX3_copyFrom, Cond.selects RX3 yX3_copyFrom yX3_copyFrom, Cond.code yX3_copyFrom cX3_copyFrom 3 none, Cond.methodLink RX3 70 arraycopyName, Cond.native arraycopyName, Cond.static arraycopyName, Cond.initialized "java/lang/System", Cond.methodLink RL 72 yX6_restore, Cond.instanceMethod yX6_restore, Cond.selects RX6 yX6_restore yX6_restore, Cond.code yX6_restore cX6_restore 2 (some .int), Cond.methodLink RX6 53 yX0_prepare, Cond.instanceMethod yX0_prepare, Cond.selects RX0 yX0_prepare yX0_prepare, Cond.code yX0_prepare cX0_prepare 2 none, Cond.methodLink RX0 24 yX3_copyTo, Cond.instanceMethod yX3_copyTo, Cond.selects RX3 yX3_copyTo yX3_copyTo, Cond.code yX3_copyTo cX3_copyTo 3 none]
def wsL_law_r5 : List Cond := [Cond.methodLink RX6 227 yX4_fetch, Cond.instanceMethod yX4_fetch, Cond.selects RX4 yX4_fetch yX4_fetch, Cond.code yX4_fetch cX4_fetch 3 (some .int), Cond.fieldLink RX4 25 "RollerMesh$Slots" "filled" "I", Cond.static yX6_outside, Cond.code yX6_outside cX6_outside 3 (some .boolean), Cond.methodLink RX4 33 yX3_copyFrom, Cond.methodLink RX4 29 yX3_cell, Cond.instanceMethod yX3_cell, Cond.selects RX3 yX3_cell yX3_cell, Cond.code yX3_cell cX3_cell 2 (some .int), Cond.methodLink RX6 61 yX0_recorded, Cond.instanceMethod yX0_recorded, Cond.selects RX0 yX0_recorded yX0_recorded, Cond.code yX0_recorded cX0_recorded 2 (some .int), Cond.methodLink RX0 28 Lib.Math.min.name, Cond.static Lib.Math.min.name, Cond.initialized "java/lang/Math", Cond.code Lib.Math.min.name Lib.Math.min.code 2 (some .int), Cond.methodLink RL 13 yX6_count, Cond.instanceMethod yX6_count, Cond.selects RX6 yX6_count yX6_count, Cond.code yX6_count cX6_count 2 (some .int)]
def wsL_law_r6 : List Cond := [Cond.methodLink RX6 86 yX6_outside, Cond.methodLink RX6 151 yX1_length, Cond.instanceMethod yX1_length, Cond.selects RX1 yX1_length yX1_length, Cond.code yX1_length cX1_length 1 (some .int), Cond.fieldLink RX1 15 "RollerMesh$Pad" "length" "I", Cond.methodLink RX6 154 yX0_length, Cond.instanceMethod yX0_length, Cond.selects RX0 yX0_length yX0_length, Cond.code yX0_length cX0_length 1 (some .int), Cond.methodLink RX6 104 yX3_cell, Cond.methodLink RL 31 yX6_roller, Cond.instanceMethod yX6_roller, Cond.selects RX6 yX6_roller yX6_roller, Cond.code yX6_roller cX6_roller 3 (some .int), Cond.methodLink RX6 65 yX3_addRoller, Cond.instanceMethod yX3_addRoller, Cond.selects RX3 yX3_addRoller yX3_addRoller, Cond.code yX3_addRoller cX3_addRoller 5 (some .int), Cond.methodLink RX3 15 yX3_cell, Cond.methodLink RX3 37 yX3_placeOf, Cond.static yX3_placeOf, Cond.code yX3_placeOf cX3_placeOf 1 (some .int), Cond.methodLink RX3 19 yX3_change]
def wsL_law_r7 : List Cond := [Cond.instanceMethod yX3_change, Cond.selects RX3 yX3_change yX3_change, Cond.code yX3_change cX3_change 3 none, Cond.methodLink RX3 40 yX3_shape, Cond.instanceMethod yX3_shape, Cond.selects RX3 yX3_shape yX3_shape, Cond.code yX3_shape cX3_shape 4 none, Cond.methodLink RX3 44 yX3_raise, Cond.instanceMethod yX3_raise, Cond.selects RX3 yX3_raise yX3_raise, Cond.code yX3_raise cX3_raise 3 none, Cond.methodLink RL 34 yX6_file, Cond.instanceMethod yX6_file, Cond.selects RX6 yX6_file yX6_file, Cond.code yX6_file cX6_file 4 (some .int), Cond.methodLink RX6 68 yX3_fileTooth, Cond.instanceMethod yX3_fileTooth, Cond.selects RX3 yX3_fileTooth yX3_fileTooth, Cond.code yX3_fileTooth cX3_fileTooth 5 (some .int), Cond.methodLink RX3 47 yX3_hasTooth, Cond.instanceMethod yX3_hasTooth, Cond.selects RX3 yX3_hasTooth yX3_hasTooth, Cond.code yX3_hasTooth cX3_hasTooth 3 (some .boolean), Cond.methodLink RX3 30 yX3_has]
def wsL_law_r8 : List Cond := [Cond.instanceMethod yX3_has, Cond.selects RX3 yX3_has yX3_has, Cond.code yX3_has cX3_has 2 (some .boolean), Cond.methodLink RX3 34 yX3_teeth, Cond.instanceMethod yX3_teeth, Cond.selects RX3 yX3_teeth yX3_teeth, Cond.code yX3_teeth cX3_teeth 2 (some .int), Cond.methodLink RX3 51 yX3_height, Cond.instanceMethod yX3_height, Cond.selects RX3 yX3_height yX3_height, Cond.code yX3_height cX3_height 3 (some .int), Cond.methodLink RL 23 yX6_tooth, Cond.instanceMethod yX6_tooth, Cond.selects RX6 yX6_tooth yX6_tooth, Cond.code yX6_tooth cX6_tooth 3 (some .int), Cond.methodLink RX6 144 yX3_hasTooth, Cond.methodLink RX6 148 yX3_height, Cond.methodLink RL 19 yX6_of, Cond.instanceMethod yX6_of, Cond.selects RX6 yX6_of yX6_of, Cond.code yX6_of cX6_of 3 (some .int), Cond.methodLink RX6 123 yX3_has, Cond.methodLink RX6 126 yX3_teeth, Cond.methodLink RX6 129 yX3_teethOfSign]
def wsL_law_r9 : List Cond := [Cond.instanceMethod yX3_teethOfSign, Cond.selects RX3 yX3_teethOfSign yX3_teethOfSign, Cond.code yX3_teethOfSign cX3_teethOfSign 5 (some .int), Cond.methodLink RX6 132 yX3_greatestHeight, Cond.instanceMethod yX3_greatestHeight, Cond.selects RX3 yX3_greatestHeight yX3_greatestHeight, Cond.code yX3_greatestHeight cX3_greatestHeight 4 (some .int), Cond.methodLink RX3 55 Lib.Math.max.name, Cond.static Lib.Math.max.name, Cond.code Lib.Math.max.name Lib.Math.max.code 2 (some .int), Cond.methodLink RX6 135 yX3_leastHeight, Cond.instanceMethod yX3_leastHeight, Cond.selects RX3 yX3_leastHeight yX3_leastHeight, Cond.code yX3_leastHeight cX3_leastHeight 4 (some .int), Cond.methodLink RX3 60 Lib.Math.min.name, Cond.methodLink RX6 138 yX3_stepsSinceWorn, Cond.instanceMethod yX3_stepsSinceWorn, Cond.selects RX3 yX3_stepsSinceWorn yX3_stepsSinceWorn, Cond.code yX3_stepsSinceWorn cX3_stepsSinceWorn 2 (some .int), Cond.methodLink RX6 141 yX3_timesWorn, Cond.instanceMethod yX3_timesWorn, Cond.selects RX3 yX3_timesWorn yX3_timesWorn, Cond.code yX3_timesWorn cX3_timesWorn 2 (some .int), Cond.methodLink RL 52 yX6_pair]
def wsL_law_r10 : List Cond := [Cond.instanceMethod yX6_pair, Cond.selects RX6 yX6_pair yX6_pair, Cond.code yX6_pair cX6_pair 7 (some .int), Cond.methodLink RX6 155 yX6_questionError, Cond.instanceMethod yX6_questionError, Cond.selects RX6 yX6_questionError yX6_questionError, Cond.code yX6_questionError cX6_questionError 8 (some .int), Cond.methodLink RX6 82 yX6_pairError, Cond.instanceMethod yX6_pairError, Cond.selects RX6 yX6_pairError yX6_pairError, Cond.code yX6_pairError cX6_pairError 6 (some .int), Cond.methodLink RX6 90 yX5_lay, Cond.instanceMethod yX5_lay, Cond.selects RX5 yX5_lay yX5_lay, Cond.code yX5_lay cX5_lay 11 none, Cond.methodLink RX5 25 Lib.Math.min.name, Cond.fieldLink RX5 30 "RollerMesh$Turn" "length" "I", Cond.methodLink RX5 15 yX3_teeth, Cond.methodLink RX5 21 yX5_leastMultiple, Cond.static yX5_leastMultiple, Cond.code yX5_leastMultiple cX5_leastMultiple 3 (some .int), Cond.methodLink RX5 34 yX3_height, Cond.methodLink RX5 37 yX5_next, Cond.static yX5_next]
def wsL_law_r11 : List Cond := [Cond.code yX5_next cX5_next 2 (some .int), Cond.methodLink RX6 158 yX5_length, Cond.instanceMethod yX5_length, Cond.selects RX5 yX5_length yX5_length, Cond.code yX5_length cX5_length 1 (some .int), Cond.methodLink RX6 159 yX5_leastPress, Cond.instanceMethod yX5_leastPress, Cond.selects RX5 yX5_leastPress yX5_leastPress, Cond.code yX5_leastPress cX5_leastPress 3 (some .int), Cond.methodLink RX5 40 yX5_press, Cond.instanceMethod yX5_press, Cond.selects RX5 yX5_press yX5_press, Cond.code yX5_press cX5_press 2 (some .int), Cond.methodLink RX6 162 yX5_greatestPress, Cond.instanceMethod yX5_greatestPress, Cond.selects RX5 yX5_greatestPress yX5_greatestPress, Cond.code yX5_greatestPress cX5_greatestPress 3 (some .int), Cond.methodLink RX5 43 Lib.Math.max.name, Cond.methodLink RX6 94 yX3_setting, Cond.instanceMethod yX3_setting, Cond.selects RX3 yX3_setting yX3_setting, Cond.code yX3_setting cX3_setting 2 (some .int), Cond.methodLink RX6 97 yX5_meshes, Cond.instanceMethod yX5_meshes]
def wsL_law_r12 : List Cond := [Cond.selects RX5 yX5_meshes yX5_meshes, Cond.code yX5_meshes cX5_meshes 2 (some .boolean), Cond.methodLink RX5 53 yX5_firstBadStep, Cond.instanceMethod yX5_firstBadStep, Cond.selects RX5 yX5_firstBadStep yX5_firstBadStep, Cond.code yX5_firstBadStep cX5_firstBadStep 3 (some .int), Cond.methodLink RX5 49 yX5_isSmoothAt, Cond.instanceMethod yX5_isSmoothAt, Cond.selects RX5 yX5_isSmoothAt yX5_isSmoothAt, Cond.code yX5_isSmoothAt cX5_isSmoothAt 4 (some .boolean), Cond.methodLink RX5 46 Lib.Math.abs.name, Cond.static Lib.Math.abs.name, Cond.code Lib.Math.abs.name Lib.Math.abs.code 1 (some .int), Cond.methodLink RL 56 yX6_why, Cond.instanceMethod yX6_why, Cond.selects RX6 yX6_why yX6_why, Cond.code yX6_why cX6_why 8 (some .int), Cond.methodLink RX6 165 yX5_firstBadStep, Cond.methodLink RX6 168 yX5_press, Cond.methodLink RL 59 yX6_leastGap, Cond.instanceMethod yX6_leastGap, Cond.selects RX6 yX6_leastGap yX6_leastGap, Cond.code yX6_leastGap cX6_leastGap 5 (some .int), Cond.methodLink RX6 171 yX6_gapToMesh]
def wsL_law_r13 : List Cond := [Cond.instanceMethod yX6_gapToMesh, Cond.selects RX6 yX6_gapToMesh yX6_gapToMesh, Cond.code yX6_gapToMesh cX6_gapToMesh 5 (some .int), Cond.methodLink RX6 182 Lib.Math.max.name, Cond.methodLink RX6 179 yX5_isSmooth, Cond.instanceMethod yX5_isSmooth, Cond.selects RX5 yX5_isSmooth yX5_isSmooth, Cond.code yX5_isSmooth cX5_isSmooth 3 (some .boolean), Cond.methodLink RL 62 yX6_bestOffset, Cond.instanceMethod yX6_bestOffset, Cond.selects RX6 yX6_bestOffset yX6_bestOffset, Cond.code yX6_bestOffset cX6_bestOffset 10 (some .int), Cond.methodLink RX6 174 Lib.Math.min.name, Cond.methodLink RL 65 yX6_thickest, Cond.instanceMethod yX6_thickest, Cond.selects RX6 yX6_thickest yX6_thickest, Cond.code yX6_thickest cX6_thickest 7 (some .int), Cond.methodLink RX6 101 yX5_begin, Cond.instanceMethod yX5_begin, Cond.selects RX5 yX5_begin yX5_begin, Cond.code yX5_begin cX5_begin 1 none, Cond.fieldLink RX5 56 "RollerMesh$Turn" "at" "I", Cond.fieldLink RX5 59 "RollerMesh$Turn" "taken" "I", Cond.methodLink RX6 107 yX5_tears]
def wsL_law_r14 : List Cond := [Cond.instanceMethod yX5_tears, Cond.selects RX5 yX5_tears yX5_tears, Cond.code yX5_tears cX5_tears 9 (some .boolean), Cond.methodLink RL 97 yL_refused, Cond.static yL_refused, Cond.code yL_refused cL_refused 4 (some .boolean), Cond.methodLink RL 85 yL_seen, Cond.static yL_seen, Cond.code yL_seen cL_seen 4 (some .long), Cond.constantLong RL 9 (59), Cond.constantLong RL 11 (31), Cond.methodLink RL 89 yL_refusesAny, Cond.static yL_refusesAny, Cond.code yL_refusesAny cL_refusesAny 5 (some .boolean), Cond.constantLong RL 75 (32), Cond.constantLong RL 81 (127), Cond.constantLong RL 83 (11008), Cond.methodLink RL 26 yX6_set, Cond.instanceMethod yX6_set, Cond.selects RX6 yX6_set yX6_set, Cond.code yX6_set cX6_set 3 (some .int), Cond.methodLink RX6 57 yX3_changeSetting, Cond.instanceMethod yX3_changeSetting, Cond.selects RX3 yX3_changeSetting yX3_changeSetting]
def wsL_law_r15 : List Cond := [Cond.code yX3_changeSetting cX3_changeSetting 5 (some .int), Cond.methodLink RX3 27 yX3_setting, Cond.methodLink RL 38 yX6_melt, Cond.instanceMethod yX6_melt, Cond.selects RX6 yX6_melt yX6_melt, Cond.code yX6_melt cX6_melt 2 (some .int), Cond.methodLink RX6 72 yX3_meltRoller, Cond.instanceMethod yX3_meltRoller, Cond.selects RX3 yX3_meltRoller yX3_meltRoller, Cond.code yX3_meltRoller cX3_meltRoller 4 (some .int), Cond.methodLink RL 41 yX6_card, Cond.instanceMethod yX6_card, Cond.selects RX6 yX6_card yX6_card, Cond.code yX6_card cX6_card 3 (some .int), Cond.methodLink RX6 75 yX3_changeCard, Cond.instanceMethod yX3_changeCard, Cond.selects RX3 yX3_changeCard yX3_changeCard, Cond.code yX3_changeCard cX3_changeCard 4 (some .int), Cond.methodLink RL 44 yX6_carryOut, Cond.instanceMethod yX6_carryOut, Cond.selects RX6 yX6_carryOut yX6_carryOut, Cond.code yX6_carryOut cX6_carryOut 2 (some .int), Cond.methodLink RX6 192 yX2_firstFault, Cond.instanceMethod yX2_firstFault]
def wsL_law_r16 : List Cond := [Cond.selects RX2 yX2_firstFault yX2_firstFault, Cond.code yX2_firstFault cX2_firstFault 2 (some .int), Cond.fieldLink RX2 28 "RollerMesh$Reader" "at" "I", Cond.methodLink RX2 31 yX2_begin, Cond.instanceMethod yX2_begin, Cond.selects RX2 yX2_begin yX2_begin, Cond.code yX2_begin cX2_begin 1 none, Cond.methodLink RX2 34 yX2_readOrder, Cond.instanceMethod yX2_readOrder, Cond.selects RX2 yX2_readOrder yX2_readOrder, Cond.code yX2_readOrder cX2_readOrder 1 (some .boolean), Cond.fieldLink RX2 25 "RollerMesh$Reader" "amount" "I", Cond.fieldLink RX2 21 "RollerMesh$Reader" "kind" "I", Cond.methodLink RX2 46 yX1_codeAt, Cond.instanceMethod yX1_codeAt, Cond.selects RX1 yX1_codeAt yX1_codeAt, Cond.code yX1_codeAt cX1_codeAt 2 (some .int), Cond.methodLink RX2 42 yX2_skip, Cond.instanceMethod yX2_skip, Cond.selects RX2 yX2_skip yX2_skip, Cond.code yX2_skip cX2_skip 2 (some .boolean), Cond.methodLink RX2 50 yX2_readValues, Cond.instanceMethod yX2_readValues, Cond.selects RX2 yX2_readValues yX2_readValues]
def wsL_law_r17 : List Cond := [Cond.code yX2_readValues cX2_readValues 3 (some .boolean), Cond.methodLink RX2 56 yX2_readValue, Cond.instanceMethod yX2_readValue, Cond.selects RX2 yX2_readValue yX2_readValue, Cond.code yX2_readValue cX2_readValue 2 (some .boolean), Cond.methodLink RX2 59 yX2_isDigit, Cond.instanceMethod yX2_isDigit, Cond.selects RX2 yX2_isDigit yX2_isDigit, Cond.code yX2_isDigit cX2_isDigit 1 (some .boolean), Cond.methodLink RX2 62 yX2_readDigit, Cond.instanceMethod yX2_readDigit, Cond.selects RX2 yX2_readDigit yX2_readDigit, Cond.code yX2_readDigit cX2_readDigit 2 (some .int), Cond.methodLink RX2 65 yX2_note, Cond.instanceMethod yX2_note, Cond.selects RX2 yX2_note yX2_note, Cond.code yX2_note cX2_note 2 none, Cond.methodLink RX2 53 yX2_readNumber, Cond.instanceMethod yX2_readNumber, Cond.selects RX2 yX2_readNumber yX2_readNumber, Cond.code yX2_readNumber cX2_readNumber 2 (some .boolean), Cond.methodLink RX2 38 yX1_length, Cond.methodLink RX6 195 yX2_begin, Cond.methodLink RX6 196 yX2_readOrder]
def wsL_law_r18 : List Cond := [Cond.methodLink RX6 200 yX6_obey, Cond.instanceMethod yX6_obey, Cond.selects RX6 yX6_obey yX6_obey, Cond.code yX6_obey cX6_obey 1 (some .int), Cond.methodLink RX6 207 yX2_kind, Cond.instanceMethod yX2_kind, Cond.selects RX2 yX2_kind yX2_kind, Cond.code yX2_kind cX2_kind 1 (some .int), Cond.methodLink RX6 210 yX6_addRollerOfText, Cond.instanceMethod yX6_addRollerOfText, Cond.selects RX6 yX6_addRollerOfText yX6_addRollerOfText, Cond.code yX6_addRollerOfText cX6_addRollerOfText 4 (some .int), Cond.methodLink RX6 216 yX2_numbers, Cond.instanceMethod yX2_numbers, Cond.selects RX2 yX2_numbers yX2_numbers, Cond.code yX2_numbers cX2_numbers 1 (some .int), Cond.methodLink RX6 213 yX2_number, Cond.instanceMethod yX2_number, Cond.selects RX2 yX2_number yX2_number, Cond.code yX2_number cX2_number 2 (some .int), Cond.methodLink RX6 78 yX6_runCards, Cond.instanceMethod yX6_runCards, Cond.selects RX6 yX6_runCards yX6_runCards, Cond.code yX6_runCards cX6_runCards 10 (some .int)]
def wsL_law_r19 : List Cond := [Cond.methodLink RX6 111 yX5_taken, Cond.instanceMethod yX5_taken, Cond.selects RX5 yX5_taken yX5_taken, Cond.code yX5_taken cX5_taken 1 (some .int), Cond.methodLink RX6 115 yX3_countRun, Cond.instanceMethod yX3_countRun, Cond.selects RX3 yX3_countRun yX3_countRun, Cond.code yX3_countRun cX3_countRun 4 none, Cond.methodLink RX6 119 yX3_turnRoller, Cond.instanceMethod yX3_turnRoller, Cond.selects RX3 yX3_turnRoller yX3_turnRoller, Cond.code yX3_turnRoller cX3_turnRoller 3 none, Cond.methodLink RX3 63 yX3_stepsSinceWorn, Cond.methodLink RX3 66 yX3_wearDown, Cond.instanceMethod yX3_wearDown, Cond.selects RX3 yX3_wearDown yX3_wearDown, Cond.code yX3_wearDown cX3_wearDown 5 none, Cond.methodLink RX6 203 yX2_skip, Cond.methodLink RX6 189 yX1_clear, Cond.instanceMethod yX1_clear, Cond.selects RX1 yX1_clear yX1_clear, Cond.code yX1_clear cX1_clear 2 (some .int), Cond.methodLink RL 48 yX6_run, Cond.instanceMethod yX6_run]
def wsL_law_r20 : List Cond := [Cond.selects RX6 yX6_run yX6_run, Cond.code yX6_run cX6_run 7 (some .int), Cond.methodLink RL 69 yX6_save, Cond.instanceMethod yX6_save, Cond.selects RX6 yX6_save yX6_save, Cond.code yX6_save cX6_save 2 (some .int), Cond.methodLink RX6 223 yX4_keep, Cond.instanceMethod yX4_keep, Cond.selects RX4 yX4_keep yX4_keep, Cond.code yX4_keep cX4_keep 3 (some .int), Cond.methodLink RX4 21 yX3_copyTo, Cond.methodLink RL 77 yX6_put, Cond.instanceMethod yX6_put, Cond.selects RX6 yX6_put yX6_put, Cond.code yX6_put cX6_put 3 (some .int), Cond.methodLink RX6 185 yX1_append, Cond.instanceMethod yX1_append, Cond.selects RX1 yX1_append yX1_append, Cond.code yX1_append cX1_append 5 (some .int), Cond.methodLink RX1 19 yX1_amountOf, Cond.static yX1_amountOf, Cond.code yX1_amountOf cX1_amountOf 4 (some .int), Cond.methodLink RX1 23 yX1_codeIn, Cond.static yX1_codeIn]
def wsL_law_r21 : List Cond := [Cond.code yX1_codeIn cX1_codeIn 3 (some .int), Cond.methodLink RX1 27 yX1_add, Cond.instanceMethod yX1_add, Cond.selects RX1 yX1_add yX1_add, Cond.code yX1_add cX1_add 2 none, Cond.methodLink RL 163 yL_limits, Cond.static yL_limits, Cond.code yL_limits cL_limits 2 (some .boolean), Cond.methodLink RL 166 yL_texts, Cond.static yL_texts, Cond.code yL_texts cL_texts 2 (some .boolean), Cond.constantLong RL 104 (43), Cond.constantLong RL 109 (2830640), Cond.constantLong RL 111 (2830636), Cond.constantLong RL 113 (11053), Cond.constantLong RL 115 (7155767), Cond.constantLong RL 117 (1831940144), Cond.constantLong RL 119 (438911775293), Cond.constantLong RL 121 (12157489805143091), Cond.constantLong RL 123 (469111631152), Cond.constantLong RL 125 (120), Cond.constantLong RL 127 (28764530627591481), Cond.constantLong RL 129 (32142226121306975), Cond.constantLong RL 131 (7156027)]
def wsL_law_r22 : List Cond := [Cond.constantLong RL 133 (112361414475053), Cond.constantLong RL 135 (28764522105616689), Cond.constantLong RL 137 (8228409887054585652), Cond.constantLong RL 139 (976562742), Cond.constantLong RL 141 (3112598877877645612), Cond.constantLong RL 143 (3475419010561749036), Cond.constantLong RL 145 (3543256692012757039), Cond.constantLong RL 147 (3548889691773874986), Cond.constantLong RL 149 (3763714270717558061), Cond.constantLong RL 151 (4124009942001332539), Cond.constantLong RL 153 (27952), Cond.constantLong RL 155 (7868135364173196595), Cond.constantLong RL 157 (52), Cond.methodLink RL 101 yX6_fault, Cond.instanceMethod yX6_fault, Cond.selects RX6 yX6_fault yX6_fault, Cond.code yX6_fault cX6_fault 1 (some .int), Cond.methodLink RL 106 yX6_wipe, Cond.instanceMethod yX6_wipe, Cond.selects RX6 yX6_wipe yX6_wipe, Cond.code yX6_wipe cX6_wipe 1 (some .int), Cond.methodLink RL 169 yL_drawn, Cond.static yL_drawn, Cond.code yL_drawn cL_drawn 2 (some .int)]
def wsL_law_r23 : List Cond := [Cond.constant RL 8 (2654435), Cond.methodLink RL 173 yL_part, Cond.static yL_part, Cond.code yL_part cL_part 2 (some .int), Cond.constant RL 7 (2147483647)]
def wsL_law : List Cond := (wsL_law_r1 ++ (wsL_law_r2 ++ (wsL_law_r3 ++ (wsL_law_r4 ++ (wsL_law_r5 ++ (wsL_law_r6 ++ (wsL_law_r7 ++ (wsL_law_r8 ++ (wsL_law_r9 ++ (wsL_law_r10 ++ (wsL_law_r11 ++ (wsL_law_r12 ++ (wsL_law_r13 ++ (wsL_law_r14 ++ (wsL_law_r15 ++ (wsL_law_r16 ++ (wsL_law_r17 ++ (wsL_law_r18 ++ (wsL_law_r19 ++ (wsL_law_r20 ++ (wsL_law_r21 ++ (wsL_law_r22 ++ wsL_law_r23)))))))))))))))))))))) ++ wsX60 ++ wsX30 ++ wsX00 ++ wsX40 ++ wsX10 ++ wsX20 ++ wsX50 ++ ([] : List Cond)
end
section
theorem x_in_by {big ws : List Cond} (ps : List Nat) (h : ws = ps.filterMap (fun i => big[i]?)) : ∀ w ∈ ws, w ∈ big := by
  intro w hw
  rw [h] at hw
  obtain ⟨i, -, hi⟩ := List.mem_filterMap.mp hw
  exact List.mem_of_getElem? hi
set_option maxRecDepth 20000 in
theorem x_in_wsL_law_r1_0 : ∀ w ∈ ([Cond.classLink RL 14 RX6, Cond.instantiable RX6 6, Cond.initialized RX6, Cond.arrayClass .long, Cond.methodLink RL 159 yL_mesh, Cond.static yL_mesh, Cond.initialized RL] : List Cond), w ∈ lw_tbl := x_in_by [28, 29, 19, 611, 568, 569, 18] (by decide +kernel)
set_option maxRecDepth 20000 in
theorem x_in_wsL_law_r1_1 : (Cond.code yL_mesh cL_mesh 1 (some .boolean) : Cond) ∈ lw_tbl := List.mem_of_getElem? (i := 570) rfl
set_option maxRecDepth 20000 in
theorem x_in_wsL_law_r1_2 : ∀ w ∈ ([Cond.methodLink RL 93 yX6_init, Cond.instanceMethod yX6_init, Cond.code yX6_init cX6_init 1 none, Cond.methodLink RX6 1 objectInit, Cond.instanceMethod objectInit, Cond.code objectInit ⟨#[0xb1]⟩ 1 none, Cond.classLink RX6 7 RX3, Cond.instantiable RX3 1, Cond.initialized RX3, Cond.fieldLink RX6 10 "RollerMesh" "shop" "LRollerMesh$Shop;", Cond.classLink RX6 16 RX0, Cond.instantiable RX0 3, Cond.initialized RX0, Cond.fieldLink RX6 19 "RollerMesh" "history" "LRollerMesh$History;", Cond.classLink RX6 23 RX4, Cond.instantiable RX4 2] : List Cond), w ∈ lw_tbl := x_in_by [30, 31, 32, 33, 34, 35, 36, 37, 20, 130, 47, 48, 21, 131, 63, 64] (by decide +kernel)
set_option maxRecDepth 20000 in
theorem x_in_wsL_law_r1 : ∀ w ∈ wsL_law_r1, w ∈ lw_tbl := by
  show ∀ w ∈ ([Cond.classLink RL 14 RX6, Cond.instantiable RX6 6, Cond.initialized RX6, Cond.arrayClass .long, Cond.methodLink RL 159 yL_mesh, Cond.static yL_mesh, Cond.initialized RL] ++ (Cond.code yL_mesh cL_mesh 1 (some .boolean) :: ([Cond.methodLink RL 93 yX6_init, Cond.instanceMethod yX6_init, Cond.code yX6_init cX6_init 1 none, Cond.methodLink RX6 1 objectInit, Cond.instanceMethod objectInit, Cond.code objectInit ⟨#[0xb1]⟩ 1 none, Cond.classLink RX6 7 RX3, Cond.instantiable RX3 1, Cond.initialized RX3, Cond.fieldLink RX6 10 "RollerMesh" "shop" "LRollerMesh$Shop;", Cond.classLink RX6 16 RX0, Cond.instantiable RX0 3, Cond.initialized RX0, Cond.fieldLink RX6 19 "RollerMesh" "history" "LRollerMesh$History;", Cond.classLink RX6 23 RX4, Cond.instantiable RX4 2] ++ []))), w ∈ lw_tbl
  exact (List.forall_mem_append.mpr ⟨x_in_wsL_law_r1_0, (List.forall_mem_cons.mpr ⟨x_in_wsL_law_r1_1, (List.forall_mem_append.mpr ⟨x_in_wsL_law_r1_2, fun _ h => absurd h List.not_mem_nil⟩)⟩)⟩)
set_option maxRecDepth 20000 in
theorem x_in_wsL_law_r2 : ∀ w ∈ wsL_law_r2, w ∈ lw_tbl := x_in_by [22, 132, 76, 77, 23, 133, 89, 90, 24, 134, 111, 112, 25, 135, 38, 39, 40, 41, 46, 42, 50, 51, 52, 53] (by decide +kernel)
set_option maxRecDepth 20000 in
theorem x_in_wsL_law_r3 : ∀ w ∈ wsL_law_r3, w ∈ lw_tbl := x_in_by [66, 67, 68, 69, 79, 80, 81, 82, 91, 92, 93, 94, 96, 95, 114, 115, 116, 117, 340, 341, 342, 343, 344, 345] (by decide +kernel)
set_option maxRecDepth 20000 in
theorem x_in_wsL_law_r4 : ∀ w ∈ wsL_law_r4, w ∈ lw_tbl := x_in_by [346, 347, 55, 54, 348, 349, 350, 351, 161, 163, 162, 26, 363, 364, 365, 366, 153, 154, 155, 156, 157, 158, 159, 160] (by decide +kernel)
set_option maxRecDepth 20000 in
theorem x_in_wsL_law_r5 : ∀ w ∈ wsL_law_r5, w ∈ lw_tbl := x_in_by [367, 368, 369, 370, 70, 169, 170, 371, 362, 176, 177, 178, 183, 184, 185, 186, 187, 188, 27, 189, 328, 329, 330, 331] (by decide +kernel)
set_option maxRecDepth 20000 in
theorem x_in_wsL_law_r6 : ∀ w ∈ wsL_law_r6, w ∈ lw_tbl := x_in_by [262, 332, 333, 334, 335, 83, 336, 337, 338, 339, 300, 190, 191, 192, 193, 194, 195, 196, 197, 175, 198, 199, 200, 179] (by decide +kernel)
end
section
set_option maxRecDepth 20000 in
theorem x_in_wsL_law_r7 : ∀ w ∈ wsL_law_r7, w ∈ lw_tbl := x_in_by [181, 0, 182, 201, 203, 1, 204, 205, 207, 2, 208, 209, 210, 211, 212, 213, 214, 215, 216, 217, 218, 219, 220, 221] (by decide +kernel)
set_option maxRecDepth 20000 in
theorem x_in_wsL_law_r8 : ∀ w ∈ wsL_law_r8, w ∈ lw_tbl := x_in_by [222, 223, 224, 225, 226, 227, 228, 229, 230, 231, 232, 409, 410, 411, 412, 413, 414, 385, 386, 387, 388, 261, 389, 390] (by decide +kernel)
set_option maxRecDepth 20000 in
theorem x_in_wsL_law_r9 : ∀ w ∈ wsL_law_r9, w ∈ lw_tbl := x_in_by [391, 392, 393, 394, 395, 396, 397, 398, 306, 307, 399, 400, 401, 402, 403, 404, 321, 322, 323, 405, 406, 407, 408, 498] (by decide +kernel)
set_option maxRecDepth 20000 in
theorem x_in_wsL_law_r10 : ∀ w ∈ wsL_law_r10, w ∈ lw_tbl := x_in_by [499, 500, 501, 502, 504, 15, 505, 257, 259, 4, 260, 263, 264, 265, 266, 271, 118, 267, 268, 269, 270, 272, 273, 274] (by decide +kernel)
set_option maxRecDepth 20000 in
theorem x_in_wsL_law_r11 : ∀ w ∈ wsL_law_r11, w ∈ lw_tbl := x_in_by [275, 506, 507, 508, 509, 510, 511, 512, 513, 285, 286, 287, 288, 514, 515, 516, 517, 305, 276, 172, 173, 174, 277, 278] (by decide +kernel)
set_option maxRecDepth 20000 in
theorem x_in_wsL_law_r12 : ∀ w ∈ wsL_law_r12, w ∈ lw_tbl := x_in_by [279, 280, 281, 282, 283, 284, 289, 291, 5, 292, 293, 294, 295, 518, 519, 520, 521, 522, 523, 524, 525, 526, 527, 528] (by decide +kernel)
set_option maxRecDepth 20000 in
theorem x_in_wsL_law_r13 : ∀ w ∈ wsL_law_r13, w ∈ lw_tbl := x_in_by [530, 16, 531, 536, 532, 533, 534, 535, 537, 538, 539, 540, 541, 542, 543, 544, 545, 296, 297, 298, 299, 119, 120, 301] (by decide +kernel)
set_option maxRecDepth 20000 in
theorem x_in_wsL_law_r14_0 : ∀ w ∈ ([Cond.instanceMethod yX5_tears, Cond.selects RX5 yX5_tears yX5_tears, Cond.code yX5_tears cX5_tears 9 (some .boolean), Cond.methodLink RL 97 yL_refused, Cond.static yL_refused] : List Cond), w ∈ lw_tbl := x_in_by [302, 303, 304, 415, 416] (by decide +kernel)
set_option maxRecDepth 20000 in
theorem x_in_wsL_law_r14_1 : (Cond.code yL_refused cL_refused 4 (some .boolean) : Cond) ∈ lw_tbl := List.mem_of_getElem? (i := 417) rfl
end
section
set_option maxRecDepth 20000 in
theorem x_in_wsL_law_r14_2 : ∀ w ∈ ([Cond.methodLink RL 85 yL_seen, Cond.static yL_seen] : List Cond), w ∈ lw_tbl := x_in_by [380, 381] (by decide +kernel)
set_option maxRecDepth 20000 in
theorem x_in_wsL_law_r14_3 : (Cond.code yL_seen cL_seen 4 (some .long) : Cond) ∈ lw_tbl := List.mem_of_getElem? (i := 382) rfl
set_option maxRecDepth 20000 in
theorem x_in_wsL_law_r14_4 : ∀ w ∈ ([Cond.constantLong RL 9 (59), Cond.constantLong RL 11 (31), Cond.methodLink RL 89 yL_refusesAny, Cond.static yL_refusesAny] : List Cond), w ∈ lw_tbl := x_in_by [383, 384, 418, 419] (by decide +kernel)
set_option maxRecDepth 20000 in
theorem x_in_wsL_law_r14_5 : (Cond.code yL_refusesAny cL_refusesAny 5 (some .boolean) : Cond) ∈ lw_tbl := List.mem_of_getElem? (i := 420) rfl
set_option maxRecDepth 20000 in
theorem x_in_wsL_law_r14_6 : ∀ w ∈ ([Cond.constantLong RL 75 (32), Cond.constantLong RL 81 (127), Cond.constantLong RL 83 (11008), Cond.methodLink RL 26 yX6_set, Cond.instanceMethod yX6_set, Cond.selects RX6 yX6_set yX6_set, Cond.code yX6_set cX6_set 3 (some .int), Cond.methodLink RX6 57 yX3_changeSetting, Cond.instanceMethod yX3_changeSetting, Cond.selects RX3 yX3_changeSetting yX3_changeSetting] : List Cond), w ∈ lw_tbl := x_in_by [546, 566, 567, 149, 150, 151, 152, 164, 165, 166] (by decide +kernel)
set_option maxRecDepth 20000 in
theorem x_in_wsL_law_r14 : ∀ w ∈ wsL_law_r14, w ∈ lw_tbl := by
  show ∀ w ∈ ([Cond.instanceMethod yX5_tears, Cond.selects RX5 yX5_tears yX5_tears, Cond.code yX5_tears cX5_tears 9 (some .boolean), Cond.methodLink RL 97 yL_refused, Cond.static yL_refused] ++ (Cond.code yL_refused cL_refused 4 (some .boolean) :: ([Cond.methodLink RL 85 yL_seen, Cond.static yL_seen] ++ (Cond.code yL_seen cL_seen 4 (some .long) :: ([Cond.constantLong RL 9 (59), Cond.constantLong RL 11 (31), Cond.methodLink RL 89 yL_refusesAny, Cond.static yL_refusesAny] ++ (Cond.code yL_refusesAny cL_refusesAny 5 (some .boolean) :: ([Cond.constantLong RL 75 (32), Cond.constantLong RL 81 (127), Cond.constantLong RL 83 (11008), Cond.methodLink RL 26 yX6_set, Cond.instanceMethod yX6_set, Cond.selects RX6 yX6_set yX6_set, Cond.code yX6_set cX6_set 3 (some .int), Cond.methodLink RX6 57 yX3_changeSetting, Cond.instanceMethod yX3_changeSetting, Cond.selects RX3 yX3_changeSetting yX3_changeSetting] ++ []))))))), w ∈ lw_tbl
  exact (List.forall_mem_append.mpr ⟨x_in_wsL_law_r14_0, (List.forall_mem_cons.mpr ⟨x_in_wsL_law_r14_1, (List.forall_mem_append.mpr ⟨x_in_wsL_law_r14_2, (List.forall_mem_cons.mpr ⟨x_in_wsL_law_r14_3, (List.forall_mem_append.mpr ⟨x_in_wsL_law_r14_4, (List.forall_mem_cons.mpr ⟨x_in_wsL_law_r14_5, (List.forall_mem_append.mpr ⟨x_in_wsL_law_r14_6, fun _ h => absurd h List.not_mem_nil⟩)⟩)⟩)⟩)⟩)⟩)⟩)
set_option maxRecDepth 20000 in
theorem x_in_wsL_law_r15 : ∀ w ∈ wsL_law_r15, w ∈ lw_tbl := x_in_by [167, 171, 233, 234, 235, 236, 237, 238, 239, 240, 241, 242, 243, 244, 245, 246, 247, 248, 421, 422, 423, 424, 425, 426] (by decide +kernel)
set_option maxRecDepth 20000 in
theorem x_in_wsL_law_r16 : ∀ w ∈ wsL_law_r16, w ∈ lw_tbl := x_in_by [427, 428, 99, 429, 430, 431, 432, 433, 434, 435, 436, 97, 98, 437, 438, 439, 440, 441, 442, 443, 444, 445, 447, 7] (by decide +kernel)
set_option maxRecDepth 20000 in
theorem x_in_wsL_law_r17 : ∀ w ∈ wsL_law_r17, w ∈ lw_tbl := x_in_by [448, 449, 451, 8, 452, 453, 455, 9, 456, 458, 460, 10, 461, 462, 464, 11, 465, 466, 468, 12, 469, 470, 471, 472] (by decide +kernel)
end
section
set_option maxRecDepth 20000 in
theorem x_in_wsL_law_r18 : ∀ w ∈ wsL_law_r18, w ∈ lw_tbl := x_in_by [473, 475, 13, 476, 477, 478, 479, 480, 481, 483, 14, 484, 485, 486, 487, 488, 489, 490, 491, 492, 253, 255, 3, 256] (by decide +kernel)
set_option maxRecDepth 20000 in
theorem x_in_wsL_law_r19 : ∀ w ∈ wsL_law_r19, w ∈ lw_tbl := x_in_by [308, 309, 310, 311, 312, 313, 314, 315, 316, 317, 318, 319, 320, 324, 326, 6, 327, 493, 494, 495, 496, 497, 249, 250] (by decide +kernel)
set_option maxRecDepth 20000 in
theorem x_in_wsL_law_r20 : ∀ w ∈ wsL_law_r20, w ∈ lw_tbl := x_in_by [251, 252, 352, 353, 354, 355, 356, 357, 358, 359, 361, 547, 548, 549, 550, 551, 552, 553, 554, 555, 556, 557, 558, 559] (by decide +kernel)
set_option maxRecDepth 20000 in
theorem x_in_wsL_law_r21_0 : ∀ w ∈ ([Cond.code yX1_codeIn cX1_codeIn 3 (some .int), Cond.methodLink RX1 27 yX1_add, Cond.instanceMethod yX1_add, Cond.selects RX1 yX1_add yX1_add, Cond.code yX1_add cX1_add 2 none, Cond.methodLink RL 163 yL_limits, Cond.static yL_limits] : List Cond), w ∈ lw_tbl := x_in_by [560, 562, 564, 17, 565, 571, 572] (by decide +kernel)
set_option maxRecDepth 20000 in
theorem x_in_wsL_law_r21_1 : (Cond.code yL_limits cL_limits 2 (some .boolean) : Cond) ∈ lw_tbl := List.mem_of_getElem? (i := 573) rfl
set_option maxRecDepth 20000 in
theorem x_in_wsL_law_r21_2 : ∀ w ∈ ([Cond.methodLink RL 166 yL_texts, Cond.static yL_texts] : List Cond), w ∈ lw_tbl := x_in_by [574, 575] (by decide +kernel)
set_option maxRecDepth 20000 in
theorem x_in_wsL_law_r21_3 : (Cond.code yL_texts cL_texts 2 (some .boolean) : Cond) ∈ lw_tbl := List.mem_of_getElem? (i := 576) rfl
set_option maxRecDepth 20000 in
theorem x_in_wsL_law_r21_4 : ∀ w ∈ ([Cond.constantLong RL 104 (43), Cond.constantLong RL 109 (2830640), Cond.constantLong RL 111 (2830636), Cond.constantLong RL 113 (11053), Cond.constantLong RL 115 (7155767), Cond.constantLong RL 117 (1831940144), Cond.constantLong RL 119 (438911775293), Cond.constantLong RL 121 (12157489805143091), Cond.constantLong RL 123 (469111631152), Cond.constantLong RL 125 (120), Cond.constantLong RL 127 (28764530627591481), Cond.constantLong RL 129 (32142226121306975), Cond.constantLong RL 131 (7156027)] : List Cond), w ∈ lw_tbl := x_in_by [581, 586, 587, 588, 589, 590, 591, 592, 593, 594, 595, 596, 597] (by decide +kernel)
set_option maxRecDepth 20000 in
theorem x_in_wsL_law_r21 : ∀ w ∈ wsL_law_r21, w ∈ lw_tbl := by
  show ∀ w ∈ ([Cond.code yX1_codeIn cX1_codeIn 3 (some .int), Cond.methodLink RX1 27 yX1_add, Cond.instanceMethod yX1_add, Cond.selects RX1 yX1_add yX1_add, Cond.code yX1_add cX1_add 2 none, Cond.methodLink RL 163 yL_limits, Cond.static yL_limits] ++ (Cond.code yL_limits cL_limits 2 (some .boolean) :: ([Cond.methodLink RL 166 yL_texts, Cond.static yL_texts] ++ (Cond.code yL_texts cL_texts 2 (some .boolean) :: ([Cond.constantLong RL 104 (43), Cond.constantLong RL 109 (2830640), Cond.constantLong RL 111 (2830636), Cond.constantLong RL 113 (11053), Cond.constantLong RL 115 (7155767), Cond.constantLong RL 117 (1831940144), Cond.constantLong RL 119 (438911775293), Cond.constantLong RL 121 (12157489805143091), Cond.constantLong RL 123 (469111631152), Cond.constantLong RL 125 (120), Cond.constantLong RL 127 (28764530627591481), Cond.constantLong RL 129 (32142226121306975), Cond.constantLong RL 131 (7156027)] ++ []))))), w ∈ lw_tbl
  exact (List.forall_mem_append.mpr ⟨x_in_wsL_law_r21_0, (List.forall_mem_cons.mpr ⟨x_in_wsL_law_r21_1, (List.forall_mem_append.mpr ⟨x_in_wsL_law_r21_2, (List.forall_mem_cons.mpr ⟨x_in_wsL_law_r21_3, (List.forall_mem_append.mpr ⟨x_in_wsL_law_r21_4, fun _ h => absurd h List.not_mem_nil⟩)⟩)⟩)⟩)⟩)
end
section
set_option maxRecDepth 20000 in
theorem x_in_wsL_law_r22_0 : ∀ w ∈ ([Cond.constantLong RL 133 (112361414475053), Cond.constantLong RL 135 (28764522105616689), Cond.constantLong RL 137 (8228409887054585652), Cond.constantLong RL 139 (976562742), Cond.constantLong RL 141 (3112598877877645612), Cond.constantLong RL 143 (3475419010561749036), Cond.constantLong RL 145 (3543256692012757039), Cond.constantLong RL 147 (3548889691773874986), Cond.constantLong RL 149 (3763714270717558061), Cond.constantLong RL 151 (4124009942001332539), Cond.constantLong RL 153 (27952), Cond.constantLong RL 155 (7868135364173196595), Cond.constantLong RL 157 (52), Cond.methodLink RL 101 yX6_fault, Cond.instanceMethod yX6_fault, Cond.selects RX6 yX6_fault yX6_fault, Cond.code yX6_fault cX6_fault 1 (some .int), Cond.methodLink RL 106 yX6_wipe, Cond.instanceMethod yX6_wipe, Cond.selects RX6 yX6_wipe yX6_wipe, Cond.code yX6_wipe cX6_wipe 1 (some .int), Cond.methodLink RL 169 yL_drawn, Cond.static yL_drawn] : List Cond), w ∈ lw_tbl := x_in_by [598, 599, 600, 601, 602, 603, 604, 605, 606, 607, 608, 609, 610, 577, 578, 579, 580, 582, 583, 584, 585, 376, 377] (by decide +kernel)
set_option maxRecDepth 20000 in
theorem x_in_wsL_law_r22_1 : (Cond.code yL_drawn cL_drawn 2 (some .int) : Cond) ∈ lw_tbl := List.mem_of_getElem? (i := 378) rfl
set_option maxRecDepth 20000 in
theorem x_in_wsL_law_r22 : ∀ w ∈ wsL_law_r22, w ∈ lw_tbl := by
  show ∀ w ∈ ([Cond.constantLong RL 133 (112361414475053), Cond.constantLong RL 135 (28764522105616689), Cond.constantLong RL 137 (8228409887054585652), Cond.constantLong RL 139 (976562742), Cond.constantLong RL 141 (3112598877877645612), Cond.constantLong RL 143 (3475419010561749036), Cond.constantLong RL 145 (3543256692012757039), Cond.constantLong RL 147 (3548889691773874986), Cond.constantLong RL 149 (3763714270717558061), Cond.constantLong RL 151 (4124009942001332539), Cond.constantLong RL 153 (27952), Cond.constantLong RL 155 (7868135364173196595), Cond.constantLong RL 157 (52), Cond.methodLink RL 101 yX6_fault, Cond.instanceMethod yX6_fault, Cond.selects RX6 yX6_fault yX6_fault, Cond.code yX6_fault cX6_fault 1 (some .int), Cond.methodLink RL 106 yX6_wipe, Cond.instanceMethod yX6_wipe, Cond.selects RX6 yX6_wipe yX6_wipe, Cond.code yX6_wipe cX6_wipe 1 (some .int), Cond.methodLink RL 169 yL_drawn, Cond.static yL_drawn] ++ (Cond.code yL_drawn cL_drawn 2 (some .int) :: [])), w ∈ lw_tbl
  exact (List.forall_mem_append.mpr ⟨x_in_wsL_law_r22_0, (List.forall_mem_cons.mpr ⟨x_in_wsL_law_r22_1, fun _ h => absurd h List.not_mem_nil⟩)⟩)
set_option maxRecDepth 20000 in
theorem x_in_wsL_law_r23_0 : ∀ w ∈ ([Cond.constant RL 8 (2654435), Cond.methodLink RL 173 yL_part, Cond.static yL_part] : List Cond), w ∈ lw_tbl := x_in_by [379, 372, 373] (by decide +kernel)
set_option maxRecDepth 20000 in
theorem x_in_wsL_law_r23_1 : (Cond.code yL_part cL_part 2 (some .int) : Cond) ∈ lw_tbl := List.mem_of_getElem? (i := 374) rfl
set_option maxRecDepth 20000 in
theorem x_in_wsL_law_r23_2 : ∀ w ∈ ([Cond.constant RL 7 (2147483647)] : List Cond), w ∈ lw_tbl := x_in_by [375] (by decide +kernel)
set_option maxRecDepth 20000 in
theorem x_in_wsL_law_r23 : ∀ w ∈ wsL_law_r23, w ∈ lw_tbl := by
  show ∀ w ∈ ([Cond.constant RL 8 (2654435), Cond.methodLink RL 173 yL_part, Cond.static yL_part] ++ (Cond.code yL_part cL_part 2 (some .int) :: ([Cond.constant RL 7 (2147483647)] ++ []))), w ∈ lw_tbl
  exact (List.forall_mem_append.mpr ⟨x_in_wsL_law_r23_0, (List.forall_mem_cons.mpr ⟨x_in_wsL_law_r23_1, (List.forall_mem_append.mpr ⟨x_in_wsL_law_r23_2, fun _ h => absurd h List.not_mem_nil⟩)⟩)⟩)
set_option maxRecDepth 20000 in
theorem x_in_wsX60 : ∀ w ∈ wsX60, w ∈ lw_tbl := by decide +kernel
set_option maxRecDepth 20000 in
theorem x_in_wsX30 : ∀ w ∈ wsX30, w ∈ lw_tbl := by decide +kernel
end
section
set_option maxRecDepth 20000 in
theorem x_in_wsX00 : ∀ w ∈ wsX00, w ∈ lw_tbl := by decide +kernel
set_option maxRecDepth 20000 in
theorem x_in_wsX40 : ∀ w ∈ wsX40, w ∈ lw_tbl := by decide +kernel
set_option maxRecDepth 20000 in
theorem x_in_wsX10 : ∀ w ∈ wsX10, w ∈ lw_tbl := by decide +kernel
set_option maxRecDepth 20000 in
theorem x_in_wsX20 : ∀ w ∈ wsX20, w ∈ lw_tbl := by decide +kernel
set_option maxRecDepth 20000 in
theorem x_in_wsX50 : ∀ w ∈ wsX50, w ∈ lw_tbl := by decide +kernel
end
section
theorem wsL_law_in : ∀ w ∈ wsL_law, w ∈ lw_tbl := (List.forall_mem_append.mpr ⟨(List.forall_mem_append.mpr ⟨(List.forall_mem_append.mpr ⟨(List.forall_mem_append.mpr ⟨(List.forall_mem_append.mpr ⟨(List.forall_mem_append.mpr ⟨(List.forall_mem_append.mpr ⟨(List.forall_mem_append.mpr ⟨(List.forall_mem_append.mpr ⟨x_in_wsL_law_r1, (List.forall_mem_append.mpr ⟨x_in_wsL_law_r2, (List.forall_mem_append.mpr ⟨x_in_wsL_law_r3, (List.forall_mem_append.mpr ⟨x_in_wsL_law_r4, (List.forall_mem_append.mpr ⟨x_in_wsL_law_r5, (List.forall_mem_append.mpr ⟨x_in_wsL_law_r6, (List.forall_mem_append.mpr ⟨x_in_wsL_law_r7, (List.forall_mem_append.mpr ⟨x_in_wsL_law_r8, (List.forall_mem_append.mpr ⟨x_in_wsL_law_r9, (List.forall_mem_append.mpr ⟨x_in_wsL_law_r10, (List.forall_mem_append.mpr ⟨x_in_wsL_law_r11, (List.forall_mem_append.mpr ⟨x_in_wsL_law_r12, (List.forall_mem_append.mpr ⟨x_in_wsL_law_r13, (List.forall_mem_append.mpr ⟨x_in_wsL_law_r14, (List.forall_mem_append.mpr ⟨x_in_wsL_law_r15, (List.forall_mem_append.mpr ⟨x_in_wsL_law_r16, (List.forall_mem_append.mpr ⟨x_in_wsL_law_r17, (List.forall_mem_append.mpr ⟨x_in_wsL_law_r18, (List.forall_mem_append.mpr ⟨x_in_wsL_law_r19, (List.forall_mem_append.mpr ⟨x_in_wsL_law_r20, (List.forall_mem_append.mpr ⟨x_in_wsL_law_r21, (List.forall_mem_append.mpr ⟨x_in_wsL_law_r22, x_in_wsL_law_r23⟩)⟩)⟩)⟩)⟩)⟩)⟩)⟩)⟩)⟩)⟩)⟩)⟩)⟩)⟩)⟩)⟩)⟩)⟩)⟩)⟩)⟩), x_in_wsX60⟩), x_in_wsX30⟩), x_in_wsX00⟩), x_in_wsX40⟩), x_in_wsX10⟩), x_in_wsX20⟩), x_in_wsX50⟩), fun _ h => absurd h List.not_mem_nil⟩)
theorem inlX0 : ∀ w ∈ wsX00, w ∈ wsL_law := fun _ h => List.mem_append_left _ (List.mem_append_left _ (List.mem_append_left _ (List.mem_append_left _ (List.mem_append_left _ (List.mem_append_right _ h)))))
theorem inX0 : ∀ w ∈ wsX00, w ∈ lw_tbl := fun w h => wsL_law_in w (inlX0 w h)
theorem inlX1 : ∀ w ∈ wsX10, w ∈ wsL_law := fun _ h => List.mem_append_left _ (List.mem_append_left _ (List.mem_append_left _ (List.mem_append_right _ h)))
theorem inX1 : ∀ w ∈ wsX10, w ∈ lw_tbl := fun w h => wsL_law_in w (inlX1 w h)
theorem inlX2 : ∀ w ∈ wsX20, w ∈ wsL_law := fun _ h => List.mem_append_left _ (List.mem_append_left _ (List.mem_append_right _ h))
theorem inX2 : ∀ w ∈ wsX20, w ∈ lw_tbl := fun w h => wsL_law_in w (inlX2 w h)
theorem inlX3 : ∀ w ∈ wsX30, w ∈ wsL_law := fun _ h => List.mem_append_left _ (List.mem_append_left _ (List.mem_append_left _ (List.mem_append_left _ (List.mem_append_left _ (List.mem_append_left _ (List.mem_append_right _ h))))))
theorem inX3 : ∀ w ∈ wsX30, w ∈ lw_tbl := fun w h => wsL_law_in w (inlX3 w h)
theorem inlX4 : ∀ w ∈ wsX40, w ∈ wsL_law := fun _ h => List.mem_append_left _ (List.mem_append_left _ (List.mem_append_left _ (List.mem_append_left _ (List.mem_append_right _ h))))
theorem inX4 : ∀ w ∈ wsX40, w ∈ lw_tbl := fun w h => wsL_law_in w (inlX4 w h)
theorem inlX5 : ∀ w ∈ wsX50, w ∈ wsL_law := fun _ h => List.mem_append_left _ (List.mem_append_right _ h)
theorem inX5 : ∀ w ∈ wsX50, w ∈ lw_tbl := fun w h => wsL_law_in w (inlX5 w h)
theorem inlX6 : ∀ w ∈ wsX60, w ∈ wsL_law := fun _ h => List.mem_append_left _ (List.mem_append_left _ (List.mem_append_left _ (List.mem_append_left _ (List.mem_append_left _ (List.mem_append_left _ (List.mem_append_left _ (List.mem_append_right _ h)))))))
theorem inX6 : ∀ w ∈ wsX60, w ∈ lw_tbl := fun w h => wsL_law_in w (inlX6 w h)
theorem inX7 : ∀ w ∈ wsX70, w ∈ lw_tbl := by decide +kernel
theorem inJ9 : ∀ w ∈ wsJ90, w ∈ lw_tbl := by decide +kernel
theorem inJ10 : ∀ w ∈ wsJ100, w ∈ lw_tbl := by decide +kernel
abbrev vwCl : List vw_C := [(RX0, TX0, 3), (RX1, TX1, 2), (RX2, TX2, 5), (RX3, TX3, 1), (RX4, TX4, 2), (RX5, TX5, 4), (RX6, TX6, 6)]
end
section
theorem dX0_init_0 : decode cX0_init 0 = .ok (.aload_n 0, 1) := by decide +kernel
theorem dX0_init_1 : decode cX0_init 1 = .ok (.invokespecial 5, 3) := by decide +kernel
theorem dX0_init_4 : decode cX0_init 4 = .ok (.aload_n 0, 1) := by decide +kernel
theorem dX0_init_5 : decode cX0_init 5 = .ok (.sipush 1575, 3) := by decide +kernel
theorem dX0_init_8 : decode cX0_init 8 = .ok (.newarray .int, 2) := by decide +kernel
theorem dX0_init_10 : decode cX0_init 10 = .ok (.putfield 13, 3) := by decide +kernel
theorem dX0_init_13 : decode cX0_init 13 = .ok (.return_, 1) := by decide +kernel
theorem dX0_length_0 : decode cX0_length 0 = .ok (.aload_n 0, 1) := by decide +kernel
theorem dX0_length_1 : decode cX0_length 1 = .ok (.getfield 17, 3) := by decide +kernel
theorem dX0_length_4 : decode cX0_length 4 = .ok (.ireturn, 1) := by decide +kernel
set_option maxRecDepth 20000 in
theorem ggX0_prepare_X3_copyTo : GoodIn wsX0_prepare wsX3_copyTo := goodIn_r _ [7, 8, 9, 10, 11, 12, 16] (by decide +kernel) (by decide +kernel)
set_option maxRecDepth 20000 in
theorem gX0_prepare_X3_copyTo : GoodIn wsX0_prepare (wsV RX0 24 RX3 yX3_copyTo wsX3_copyTo) := goodIn_app (goodIn_of _ (by decide +kernel)) ggX0_prepare_X3_copyTo
theorem dX0_prepare_0 : decode cX0_prepare 0 = .ok (.aload_n 1, 1) := by decide +kernel
theorem dX0_prepare_1 : decode cX0_prepare 1 = .ok (.aload_n 0, 1) := by decide +kernel
theorem dX0_prepare_2 : decode cX0_prepare 2 = .ok (.getfield 13, 3) := by decide +kernel
theorem dX0_prepare_5 : decode cX0_prepare 5 = .ok (.aload_n 0, 1) := by decide +kernel
theorem dX0_prepare_6 : decode cX0_prepare 6 = .ok (.getfield 21, 3) := by decide +kernel
theorem dX0_prepare_9 : decode cX0_prepare 9 = .ok (.invokevirtual 24, 3) := by decide +kernel
theorem dX0_prepare_12 : decode cX0_prepare 12 = .ok (.return_, 1) := by decide +kernel
theorem dX0_recorded_0 : decode cX0_recorded 0 = .ok (.iload_n 1, 1) := by decide +kernel
theorem dX0_recorded_1 : decode cX0_recorded 1 = .ok (.ifCond .lt 43, 3) := by decide +kernel
theorem dX0_recorded_4 : decode cX0_recorded 4 = .ok (.aload_n 0, 1) := by decide +kernel
theorem dX0_recorded_5 : decode cX0_recorded 5 = .ok (.aload_n 0, 1) := by decide +kernel
theorem dX0_recorded_6 : decode cX0_recorded 6 = .ok (.getfield 21, 3) := by decide +kernel
theorem dX0_recorded_9 : decode cX0_recorded 9 = .ok (.iconst 1, 1) := by decide +kernel
theorem dX0_recorded_10 : decode cX0_recorded 10 = .ok (.iadd, 1) := by decide +kernel
theorem dX0_recorded_11 : decode cX0_recorded 11 = .ok (.bipush 7, 2) := by decide +kernel
theorem dX0_recorded_13 : decode cX0_recorded 13 = .ok (.if_icmp .ge 12, 3) := by decide +kernel
theorem dX0_recorded_16 : decode cX0_recorded 16 = .ok (.aload_n 0, 1) := by decide +kernel
theorem dX0_recorded_17 : decode cX0_recorded 17 = .ok (.getfield 21, 3) := by decide +kernel
theorem dX0_recorded_20 : decode cX0_recorded 20 = .ok (.iconst 1, 1) := by decide +kernel
theorem dX0_recorded_21 : decode cX0_recorded 21 = .ok (.iadd, 1) := by decide +kernel
theorem dX0_recorded_22 : decode cX0_recorded 22 = .ok (.goto 4, 3) := by decide +kernel
theorem dX0_recorded_25 : decode cX0_recorded 25 = .ok (.iconst 0, 1) := by decide +kernel
theorem dX0_recorded_26 : decode cX0_recorded 26 = .ok (.putfield 21, 3) := by decide +kernel
theorem dX0_recorded_29 : decode cX0_recorded 29 = .ok (.aload_n 0, 1) := by decide +kernel
theorem dX0_recorded_30 : decode cX0_recorded 30 = .ok (.aload_n 0, 1) := by decide +kernel
theorem dX0_recorded_31 : decode cX0_recorded 31 = .ok (.getfield 17, 3) := by decide +kernel
theorem dX0_recorded_34 : decode cX0_recorded 34 = .ok (.iconst 1, 1) := by decide +kernel
theorem dX0_recorded_35 : decode cX0_recorded 35 = .ok (.iadd, 1) := by decide +kernel
theorem dX0_recorded_36 : decode cX0_recorded 36 = .ok (.bipush 6, 2) := by decide +kernel
theorem dX0_recorded_38 : decode cX0_recorded 38 = .ok (.invokestatic 28, 3) := by decide +kernel
theorem dX0_recorded_41 : decode cX0_recorded 41 = .ok (.putfield 17, 3) := by decide +kernel
theorem dX0_recorded_44 : decode cX0_recorded 44 = .ok (.iload_n 1, 1) := by decide +kernel
theorem dX0_recorded_45 : decode cX0_recorded 45 = .ok (.ireturn, 1) := by decide +kernel
set_option maxRecDepth 20000 in
theorem ggX0_stepBack_X3_copyFrom : GoodIn wsX0_stepBack wsX3_copyFrom := goodIn_r _ [8, 9, 10, 11, 12, 13, 17] (by decide +kernel) (by decide +kernel)
set_option maxRecDepth 20000 in
theorem gX0_stepBack_X3_copyFrom : GoodIn wsX0_stepBack (wsV RX0 34 RX3 yX3_copyFrom wsX3_copyFrom) := goodIn_app (goodIn_of _ (by decide +kernel)) ggX0_stepBack_X3_copyFrom
theorem dX0_stepBack_0 : decode cX0_stepBack 0 = .ok (.aload_n 0, 1) := by decide +kernel
theorem dX0_stepBack_1 : decode cX0_stepBack 1 = .ok (.getfield 17, 3) := by decide +kernel
theorem dX0_stepBack_4 : decode cX0_stepBack 4 = .ok (.ifCond .ne 6, 3) := by decide +kernel
theorem dX0_stepBack_7 : decode cX0_stepBack 7 = .ok (.bipush (-5), 2) := by decide +kernel
theorem dX0_stepBack_9 : decode cX0_stepBack 9 = .ok (.ireturn, 1) := by decide +kernel
theorem dX0_stepBack_10 : decode cX0_stepBack 10 = .ok (.aload_n 0, 1) := by decide +kernel
theorem dX0_stepBack_11 : decode cX0_stepBack 11 = .ok (.aload_n 0, 1) := by decide +kernel
theorem dX0_stepBack_12 : decode cX0_stepBack 12 = .ok (.getfield 21, 3) := by decide +kernel
theorem dX0_stepBack_15 : decode cX0_stepBack 15 = .ok (.ifCond .le 12, 3) := by decide +kernel
theorem dX0_stepBack_18 : decode cX0_stepBack 18 = .ok (.aload_n 0, 1) := by decide +kernel
theorem dX0_stepBack_19 : decode cX0_stepBack 19 = .ok (.getfield 21, 3) := by decide +kernel
theorem dX0_stepBack_22 : decode cX0_stepBack 22 = .ok (.iconst 1, 1) := by decide +kernel
theorem dX0_stepBack_23 : decode cX0_stepBack 23 = .ok (.isub, 1) := by decide +kernel
theorem dX0_stepBack_24 : decode cX0_stepBack 24 = .ok (.goto 5, 3) := by decide +kernel
theorem dX0_stepBack_27 : decode cX0_stepBack 27 = .ok (.bipush 6, 2) := by decide +kernel
theorem dX0_stepBack_29 : decode cX0_stepBack 29 = .ok (.putfield 21, 3) := by decide +kernel
theorem dX0_stepBack_32 : decode cX0_stepBack 32 = .ok (.aload_n 0, 1) := by decide +kernel
theorem dX0_stepBack_33 : decode cX0_stepBack 33 = .ok (.dup, 1) := by decide +kernel
theorem dX0_stepBack_34 : decode cX0_stepBack 34 = .ok (.getfield 17, 3) := by decide +kernel
theorem dX0_stepBack_37 : decode cX0_stepBack 37 = .ok (.iconst 1, 1) := by decide +kernel
theorem dX0_stepBack_38 : decode cX0_stepBack 38 = .ok (.isub, 1) := by decide +kernel
theorem dX0_stepBack_39 : decode cX0_stepBack 39 = .ok (.putfield 17, 3) := by decide +kernel
theorem dX0_stepBack_42 : decode cX0_stepBack 42 = .ok (.aload_n 1, 1) := by decide +kernel
theorem dX0_stepBack_43 : decode cX0_stepBack 43 = .ok (.aload_n 0, 1) := by decide +kernel
theorem dX0_stepBack_44 : decode cX0_stepBack 44 = .ok (.getfield 13, 3) := by decide +kernel
theorem dX0_stepBack_47 : decode cX0_stepBack 47 = .ok (.aload_n 0, 1) := by decide +kernel
theorem dX0_stepBack_48 : decode cX0_stepBack 48 = .ok (.getfield 21, 3) := by decide +kernel
theorem dX0_stepBack_51 : decode cX0_stepBack 51 = .ok (.invokevirtual 34, 3) := by decide +kernel
theorem dX0_stepBack_54 : decode cX0_stepBack 54 = .ok (.aload_n 0, 1) := by decide +kernel
theorem dX0_stepBack_55 : decode cX0_stepBack 55 = .ok (.getfield 17, 3) := by decide +kernel
theorem dX0_stepBack_58 : decode cX0_stepBack 58 = .ok (.ireturn, 1) := by decide +kernel
theorem dX1_init_0 : decode cX1_init 0 = .ok (.aload_n 0, 1) := by decide +kernel
theorem dX1_init_1 : decode cX1_init 1 = .ok (.invokespecial 3, 3) := by decide +kernel
theorem dX1_init_4 : decode cX1_init 4 = .ok (.aload_n 0, 1) := by decide +kernel
theorem dX1_init_5 : decode cX1_init 5 = .ok (.bipush 80, 2) := by decide +kernel
theorem dX1_init_7 : decode cX1_init 7 = .ok (.newarray .int, 2) := by decide +kernel
theorem dX1_init_9 : decode cX1_init 9 = .ok (.putfield 11, 3) := by decide +kernel
theorem dX1_init_12 : decode cX1_init 12 = .ok (.return_, 1) := by decide +kernel
theorem dX1_length_0 : decode cX1_length 0 = .ok (.aload_n 0, 1) := by decide +kernel
theorem dX1_length_1 : decode cX1_length 1 = .ok (.getfield 15, 3) := by decide +kernel
theorem dX1_length_4 : decode cX1_length 4 = .ok (.ireturn, 1) := by decide +kernel
theorem dX1_codeAt_0 : decode cX1_codeAt 0 = .ok (.iload_n 1, 1) := by decide +kernel
theorem dX1_codeAt_1 : decode cX1_codeAt 1 = .ok (.ifCond .lt 29, 3) := by decide +kernel
theorem dX1_codeAt_4 : decode cX1_codeAt 4 = .ok (.iload_n 1, 1) := by decide +kernel
theorem dX1_codeAt_5 : decode cX1_codeAt 5 = .ok (.aload_n 0, 1) := by decide +kernel
theorem dX1_codeAt_6 : decode cX1_codeAt 6 = .ok (.getfield 15, 3) := by decide +kernel
theorem dX1_codeAt_9 : decode cX1_codeAt 9 = .ok (.if_icmp .ge 21, 3) := by decide +kernel
theorem dX1_codeAt_12 : decode cX1_codeAt 12 = .ok (.iload_n 1, 1) := by decide +kernel
theorem dX1_codeAt_13 : decode cX1_codeAt 13 = .ok (.aload_n 0, 1) := by decide +kernel
theorem dX1_codeAt_14 : decode cX1_codeAt 14 = .ok (.getfield 11, 3) := by decide +kernel
theorem dX1_codeAt_17 : decode cX1_codeAt 17 = .ok (.arraylength, 1) := by decide +kernel
theorem dX1_codeAt_18 : decode cX1_codeAt 18 = .ok (.if_icmp .ge 12, 3) := by decide +kernel
theorem dX1_codeAt_21 : decode cX1_codeAt 21 = .ok (.aload_n 0, 1) := by decide +kernel
theorem dX1_codeAt_22 : decode cX1_codeAt 22 = .ok (.getfield 11, 3) := by decide +kernel
theorem dX1_codeAt_25 : decode cX1_codeAt 25 = .ok (.iload_n 1, 1) := by decide +kernel
theorem dX1_codeAt_26 : decode cX1_codeAt 26 = .ok (.iaload, 1) := by decide +kernel
theorem dX1_codeAt_27 : decode cX1_codeAt 27 = .ok (.goto 4, 3) := by decide +kernel
theorem dX1_codeAt_30 : decode cX1_codeAt 30 = .ok (.iconst 0, 1) := by decide +kernel
theorem dX1_codeAt_31 : decode cX1_codeAt 31 = .ok (.ireturn, 1) := by decide +kernel
theorem dX1_clear_0 : decode cX1_clear 0 = .ok (.aload_n 0, 1) := by decide +kernel
theorem dX1_clear_1 : decode cX1_clear 1 = .ok (.getfield 15, 3) := by decide +kernel
theorem dX1_clear_4 : decode cX1_clear 4 = .ok (.istore_n 1, 1) := by decide +kernel
theorem dX1_clear_5 : decode cX1_clear 5 = .ok (.aload_n 0, 1) := by decide +kernel
theorem dX1_clear_6 : decode cX1_clear 6 = .ok (.iconst 0, 1) := by decide +kernel
theorem dX1_clear_7 : decode cX1_clear 7 = .ok (.putfield 15, 3) := by decide +kernel
theorem dX1_clear_10 : decode cX1_clear 10 = .ok (.iload_n 1, 1) := by decide +kernel
theorem dX1_clear_11 : decode cX1_clear 11 = .ok (.ireturn, 1) := by decide +kernel
set_option maxRecDepth 20000 in
theorem ggX1_append_X1_amountOf : GoodIn wsX1_append wsX1_amountOf := goodIn_r _ [5, 6, 7, 4, 8, 9, 10, 11] (by decide +kernel) (by decide +kernel)
set_option maxRecDepth 20000 in
theorem gX1_append_X1_amountOf : GoodIn wsX1_append (va_wsS RX1 19 yX1_amountOf wsX1_amountOf) := goodIn_app (goodIn_of _ (by decide +kernel)) ggX1_append_X1_amountOf
set_option maxRecDepth 20000 in
theorem ggX1_append_X1_codeIn : GoodIn wsX1_append wsX1_codeIn := goodIn_r _ [8] (by decide +kernel) (by decide +kernel)
set_option maxRecDepth 20000 in
theorem gX1_append_X1_codeIn : GoodIn wsX1_append (va_wsS RX1 23 yX1_codeIn wsX1_codeIn) := goodIn_app (goodIn_of _ (by decide +kernel)) ggX1_append_X1_codeIn
set_option maxRecDepth 20000 in
theorem ggX1_append_X1_add : GoodIn wsX1_append wsX1_add := goodIn_r _ [15, 1, 16, 17, 18] (by decide +kernel) (by decide +kernel)
set_option maxRecDepth 20000 in
theorem gX1_append_X1_add : GoodIn wsX1_append (wsV RX1 27 RX1 yX1_add wsX1_add) := goodIn_app (goodIn_of _ (by decide +kernel)) ggX1_append_X1_add
theorem dX1_append_0 : decode cX1_append 0 = .ok (.lload_n 1, 1) := by decide +kernel
theorem dX1_append_1 : decode cX1_append 1 = .ok (.invokestatic 19, 3) := by decide +kernel
theorem dX1_append_4 : decode cX1_append 4 = .ok (.istore_n 3, 1) := by decide +kernel
theorem dX1_append_5 : decode cX1_append 5 = .ok (.iload_n 3, 1) := by decide +kernel
theorem dX1_append_6 : decode cX1_append 6 = .ok (.ifCond .ne 6, 3) := by decide +kernel
theorem dX1_append_9 : decode cX1_append 9 = .ok (.bipush (-2), 2) := by decide +kernel
theorem dX1_append_11 : decode cX1_append 11 = .ok (.ireturn, 1) := by decide +kernel
theorem dX1_append_12 : decode cX1_append 12 = .ok (.aload_n 0, 1) := by decide +kernel
theorem dX1_append_13 : decode cX1_append 13 = .ok (.getfield 15, 3) := by decide +kernel
theorem dX1_append_16 : decode cX1_append 16 = .ok (.iload_n 3, 1) := by decide +kernel
theorem dX1_append_17 : decode cX1_append 17 = .ok (.iadd, 1) := by decide +kernel
theorem dX1_append_18 : decode cX1_append 18 = .ok (.bipush 80, 2) := by decide +kernel
theorem dX1_append_20 : decode cX1_append 20 = .ok (.if_icmp .le 6, 3) := by decide +kernel
theorem dX1_append_23 : decode cX1_append 23 = .ok (.bipush (-4), 2) := by decide +kernel
theorem dX1_append_25 : decode cX1_append 25 = .ok (.ireturn, 1) := by decide +kernel
theorem dX1_append_26 : decode cX1_append 26 = .ok (.iload_n 3, 1) := by decide +kernel
theorem dX1_append_27 : decode cX1_append 27 = .ok (.iconst 1, 1) := by decide +kernel
theorem dX1_append_28 : decode cX1_append 28 = .ok (.isub, 1) := by decide +kernel
theorem dX1_append_29 : decode cX1_append 29 = .ok (.istore 4, 2) := by decide +kernel
theorem dX1_append_31 : decode cX1_append 31 = .ok (.iload 4, 2) := by decide +kernel
theorem dX1_append_33 : decode cX1_append 33 = .ok (.ifCond .lt 19, 3) := by decide +kernel
theorem dX1_append_36 : decode cX1_append 36 = .ok (.aload_n 0, 1) := by decide +kernel
theorem dX1_append_37 : decode cX1_append 37 = .ok (.lload_n 1, 1) := by decide +kernel
theorem dX1_append_38 : decode cX1_append 38 = .ok (.iload 4, 2) := by decide +kernel
theorem dX1_append_40 : decode cX1_append 40 = .ok (.invokestatic 23, 3) := by decide +kernel
theorem dX1_append_43 : decode cX1_append 43 = .ok (.invokevirtual 27, 3) := by decide +kernel
theorem dX1_append_46 : decode cX1_append 46 = .ok (.iinc 4 (-1), 3) := by decide +kernel
theorem dX1_append_49 : decode cX1_append 49 = .ok (.goto (-18), 3) := by decide +kernel
theorem dX1_append_52 : decode cX1_append 52 = .ok (.aload_n 0, 1) := by decide +kernel
theorem dX1_append_53 : decode cX1_append 53 = .ok (.getfield 15, 3) := by decide +kernel
theorem dX1_append_56 : decode cX1_append 56 = .ok (.ireturn, 1) := by decide +kernel
theorem dX1_add_0 : decode cX1_add 0 = .ok (.aload_n 0, 1) := by decide +kernel
theorem dX1_add_1 : decode cX1_add 1 = .ok (.getfield 15, 3) := by decide +kernel
theorem dX1_add_4 : decode cX1_add 4 = .ok (.ifCond .lt 35, 3) := by decide +kernel
theorem dX1_add_7 : decode cX1_add 7 = .ok (.aload_n 0, 1) := by decide +kernel
theorem dX1_add_8 : decode cX1_add 8 = .ok (.getfield 15, 3) := by decide +kernel
theorem dX1_add_11 : decode cX1_add 11 = .ok (.aload_n 0, 1) := by decide +kernel
theorem dX1_add_12 : decode cX1_add 12 = .ok (.getfield 11, 3) := by decide +kernel
theorem dX1_add_15 : decode cX1_add 15 = .ok (.arraylength, 1) := by decide +kernel
theorem dX1_add_16 : decode cX1_add 16 = .ok (.if_icmp .ge 23, 3) := by decide +kernel
theorem dX1_add_19 : decode cX1_add 19 = .ok (.aload_n 0, 1) := by decide +kernel
theorem dX1_add_20 : decode cX1_add 20 = .ok (.getfield 11, 3) := by decide +kernel
theorem dX1_add_23 : decode cX1_add 23 = .ok (.aload_n 0, 1) := by decide +kernel
theorem dX1_add_24 : decode cX1_add 24 = .ok (.getfield 15, 3) := by decide +kernel
theorem dX1_add_27 : decode cX1_add 27 = .ok (.iload_n 1, 1) := by decide +kernel
theorem dX1_add_28 : decode cX1_add 28 = .ok (.iastore, 1) := by decide +kernel
theorem dX1_add_29 : decode cX1_add 29 = .ok (.aload_n 0, 1) := by decide +kernel
theorem dX1_add_30 : decode cX1_add 30 = .ok (.dup, 1) := by decide +kernel
theorem dX1_add_31 : decode cX1_add 31 = .ok (.getfield 15, 3) := by decide +kernel
theorem dX1_add_34 : decode cX1_add 34 = .ok (.iconst 1, 1) := by decide +kernel
theorem dX1_add_35 : decode cX1_add 35 = .ok (.iadd, 1) := by decide +kernel
theorem dX1_add_36 : decode cX1_add 36 = .ok (.putfield 15, 3) := by decide +kernel
theorem dX1_add_39 : decode cX1_add 39 = .ok (.return_, 1) := by decide +kernel
set_option maxRecDepth 20000 in
theorem ggX1_amountOf_X1_codeIn : GoodIn wsX1_amountOf wsX1_codeIn := goodIn_r _ [4] (by decide +kernel) (by decide +kernel)
set_option maxRecDepth 20000 in
theorem gX1_amountOf_X1_codeIn : GoodIn wsX1_amountOf (va_wsS RX1 23 yX1_codeIn wsX1_codeIn) := goodIn_app (goodIn_of _ (by decide +kernel)) ggX1_amountOf_X1_codeIn
set_option maxRecDepth 20000 in
theorem ggX1_amountOf_X6_outside : GoodIn wsX1_amountOf wsX6_outside := goodIn_r _ [7] (by decide +kernel) (by decide +kernel)
set_option maxRecDepth 20000 in
theorem gX1_amountOf_X6_outside_n31 : GoodIn wsX1_amountOf (wsX6_outside) := ggX1_amountOf_X6_outside
theorem dX1_amountOf_0 : decode cX1_amountOf 0 = .ok (.iconst 0, 1) := by decide +kernel
theorem dX1_amountOf_1 : decode cX1_amountOf 1 = .ok (.istore_n 2, 1) := by decide +kernel
theorem dX1_amountOf_2 : decode cX1_amountOf 2 = .ok (.iload_n 2, 1) := by decide +kernel
theorem dX1_amountOf_3 : decode cX1_amountOf 3 = .ok (.bipush 8, 2) := by decide +kernel
theorem dX1_amountOf_5 : decode cX1_amountOf 5 = .ok (.if_icmp .ge 34, 3) := by decide +kernel
theorem dX1_amountOf_8 : decode cX1_amountOf 8 = .ok (.lload_n 0, 1) := by decide +kernel
theorem dX1_amountOf_9 : decode cX1_amountOf 9 = .ok (.iload_n 2, 1) := by decide +kernel
theorem dX1_amountOf_10 : decode cX1_amountOf 10 = .ok (.invokestatic 23, 3) := by decide +kernel
theorem dX1_amountOf_13 : decode cX1_amountOf 13 = .ok (.ifCond .eq 26, 3) := by decide +kernel
theorem dX1_amountOf_16 : decode cX1_amountOf 16 = .ok (.lload_n 0, 1) := by decide +kernel
theorem dX1_amountOf_17 : decode cX1_amountOf 17 = .ok (.iload_n 2, 1) := by decide +kernel
theorem dX1_amountOf_18 : decode cX1_amountOf 18 = .ok (.invokestatic 23, 3) := by decide +kernel
theorem dX1_amountOf_21 : decode cX1_amountOf 21 = .ok (.bipush 33, 2) := by decide +kernel
theorem dX1_amountOf_23 : decode cX1_amountOf 23 = .ok (.bipush 126, 2) := by decide +kernel
theorem dX1_amountOf_25 : decode cX1_amountOf 25 = .ok (.invokestatic 31, 3) := by decide +kernel
theorem dX1_amountOf_28 : decode cX1_amountOf 28 = .ok (.ifCond .eq 5, 3) := by decide +kernel
theorem dX1_amountOf_31 : decode cX1_amountOf 31 = .ok (.iconst 0, 1) := by decide +kernel
theorem dX1_amountOf_32 : decode cX1_amountOf 32 = .ok (.ireturn, 1) := by decide +kernel
theorem dX1_amountOf_33 : decode cX1_amountOf 33 = .ok (.iinc 2 1, 3) := by decide +kernel
theorem dX1_amountOf_36 : decode cX1_amountOf 36 = .ok (.goto (-34), 3) := by decide +kernel
theorem dX1_amountOf_39 : decode cX1_amountOf 39 = .ok (.iload_n 2, 1) := by decide +kernel
theorem dX1_amountOf_40 : decode cX1_amountOf 40 = .ok (.bipush 8, 2) := by decide +kernel
theorem dX1_amountOf_42 : decode cX1_amountOf 42 = .ok (.if_icmp .ne 7, 3) := by decide +kernel
theorem dX1_amountOf_45 : decode cX1_amountOf 45 = .ok (.iconst 1, 1) := by decide +kernel
theorem dX1_amountOf_46 : decode cX1_amountOf 46 = .ok (.goto 4, 3) := by decide +kernel
theorem dX1_amountOf_49 : decode cX1_amountOf 49 = .ok (.iconst 0, 1) := by decide +kernel
theorem dX1_amountOf_50 : decode cX1_amountOf 50 = .ok (.istore_n 3, 1) := by decide +kernel
theorem dX1_amountOf_51 : decode cX1_amountOf 51 = .ok (.iload_n 3, 1) := by decide +kernel
theorem dX1_amountOf_52 : decode cX1_amountOf 52 = .ok (.ifCond .ne 14, 3) := by decide +kernel
theorem dX1_amountOf_55 : decode cX1_amountOf 55 = .ok (.lload_n 0, 1) := by decide +kernel
theorem dX1_amountOf_56 : decode cX1_amountOf 56 = .ok (.bipush 8, 2) := by decide +kernel
theorem dX1_amountOf_58 : decode cX1_amountOf 58 = .ok (.iload_n 2, 1) := by decide +kernel
theorem dX1_amountOf_59 : decode cX1_amountOf 59 = .ok (.imul, 1) := by decide +kernel
theorem dX1_amountOf_60 : decode cX1_amountOf 60 = .ok (.lushr, 1) := by decide +kernel
theorem dX1_amountOf_61 : decode cX1_amountOf 61 = .ok (.lconst 0, 1) := by decide +kernel
theorem dX1_amountOf_62 : decode cX1_amountOf 62 = .ok (.lcmp, 1) := by decide +kernel
theorem dX1_amountOf_63 : decode cX1_amountOf 63 = .ok (.ifCond .ne 7, 3) := by decide +kernel
theorem dX1_amountOf_66 : decode cX1_amountOf 66 = .ok (.iload_n 2, 1) := by decide +kernel
theorem dX1_amountOf_67 : decode cX1_amountOf 67 = .ok (.goto 4, 3) := by decide +kernel
theorem dX1_amountOf_70 : decode cX1_amountOf 70 = .ok (.iconst 0, 1) := by decide +kernel
theorem dX1_amountOf_71 : decode cX1_amountOf 71 = .ok (.ireturn, 1) := by decide +kernel
theorem dX1_codeIn_0 : decode cX1_codeIn 0 = .ok (.lload_n 0, 1) := by decide +kernel
theorem dX1_codeIn_1 : decode cX1_codeIn 1 = .ok (.bipush 8, 2) := by decide +kernel
theorem dX1_codeIn_3 : decode cX1_codeIn 3 = .ok (.iload_n 2, 1) := by decide +kernel
theorem dX1_codeIn_4 : decode cX1_codeIn 4 = .ok (.imul, 1) := by decide +kernel
theorem dX1_codeIn_5 : decode cX1_codeIn 5 = .ok (.lushr, 1) := by decide +kernel
theorem dX1_codeIn_6 : decode cX1_codeIn 6 = .ok (.l2i, 1) := by decide +kernel
theorem dX1_codeIn_7 : decode cX1_codeIn 7 = .ok (.sipush 255, 3) := by decide +kernel
theorem dX1_codeIn_10 : decode cX1_codeIn 10 = .ok (.iand, 1) := by decide +kernel
theorem dX1_codeIn_11 : decode cX1_codeIn 11 = .ok (.ireturn, 1) := by decide +kernel
theorem dX2_init_0 : decode cX2_init 0 = .ok (.aload_n 0, 1) := by decide +kernel
theorem dX2_init_1 : decode cX2_init 1 = .ok (.invokespecial 5, 3) := by decide +kernel
theorem dX2_init_4 : decode cX2_init 4 = .ok (.aload_n 0, 1) := by decide +kernel
theorem dX2_init_5 : decode cX2_init 5 = .ok (.bipush 40, 2) := by decide +kernel
theorem dX2_init_7 : decode cX2_init 7 = .ok (.newarray .int, 2) := by decide +kernel
theorem dX2_init_9 : decode cX2_init 9 = .ok (.putfield 13, 3) := by decide +kernel
theorem dX2_init_12 : decode cX2_init 12 = .ok (.aload_n 0, 1) := by decide +kernel
theorem dX2_init_13 : decode cX2_init 13 = .ok (.aload_n 1, 1) := by decide +kernel
theorem dX2_init_14 : decode cX2_init 14 = .ok (.putfield 17, 3) := by decide +kernel
theorem dX2_init_17 : decode cX2_init 17 = .ok (.return_, 1) := by decide +kernel
theorem dX2_kind_0 : decode cX2_kind 0 = .ok (.aload_n 0, 1) := by decide +kernel
theorem dX2_kind_1 : decode cX2_kind 1 = .ok (.getfield 21, 3) := by decide +kernel
theorem dX2_kind_4 : decode cX2_kind 4 = .ok (.ireturn, 1) := by decide +kernel
theorem dX2_numbers_0 : decode cX2_numbers 0 = .ok (.aload_n 0, 1) := by decide +kernel
theorem dX2_numbers_1 : decode cX2_numbers 1 = .ok (.getfield 25, 3) := by decide +kernel
theorem dX2_numbers_4 : decode cX2_numbers 4 = .ok (.ireturn, 1) := by decide +kernel
theorem dX2_number_0 : decode cX2_number 0 = .ok (.iload_n 1, 1) := by decide +kernel
theorem dX2_number_1 : decode cX2_number 1 = .ok (.ifCond .lt 21, 3) := by decide +kernel
theorem dX2_number_4 : decode cX2_number 4 = .ok (.iload_n 1, 1) := by decide +kernel
theorem dX2_number_5 : decode cX2_number 5 = .ok (.aload_n 0, 1) := by decide +kernel
theorem dX2_number_6 : decode cX2_number 6 = .ok (.getfield 13, 3) := by decide +kernel
theorem dX2_number_9 : decode cX2_number 9 = .ok (.arraylength, 1) := by decide +kernel
theorem dX2_number_10 : decode cX2_number 10 = .ok (.if_icmp .ge 12, 3) := by decide +kernel
theorem dX2_number_13 : decode cX2_number 13 = .ok (.aload_n 0, 1) := by decide +kernel
theorem dX2_number_14 : decode cX2_number 14 = .ok (.getfield 13, 3) := by decide +kernel
theorem dX2_number_17 : decode cX2_number 17 = .ok (.iload_n 1, 1) := by decide +kernel
theorem dX2_number_18 : decode cX2_number 18 = .ok (.iaload, 1) := by decide +kernel
theorem dX2_number_19 : decode cX2_number 19 = .ok (.goto 4, 3) := by decide +kernel
theorem dX2_number_22 : decode cX2_number 22 = .ok (.iconst 0, 1) := by decide +kernel
theorem dX2_number_23 : decode cX2_number 23 = .ok (.ireturn, 1) := by decide +kernel
theorem dX2_begin_0 : decode cX2_begin 0 = .ok (.aload_n 0, 1) := by decide +kernel
theorem dX2_begin_1 : decode cX2_begin 1 = .ok (.iconst 0, 1) := by decide +kernel
theorem dX2_begin_2 : decode cX2_begin 2 = .ok (.putfield 28, 3) := by decide +kernel
theorem dX2_begin_5 : decode cX2_begin 5 = .ok (.return_, 1) := by decide +kernel
set_option maxRecDepth 20000 in
theorem ggX2_firstFault_X2_begin : GoodIn wsX2_firstFault wsX2_begin := goodIn_r _ [7, 1, 57, 58, 59, 60, 61] (by decide +kernel) (by decide +kernel)
set_option maxRecDepth 20000 in
theorem gX2_firstFault_X2_begin : GoodIn wsX2_firstFault (wsV RX2 31 RX2 yX2_begin wsX2_begin) := goodIn_app (goodIn_of _ (by decide +kernel)) ggX2_firstFault_X2_begin
set_option maxRecDepth 20000 in
theorem ggX2_firstFault_X2_readOrder : GoodIn wsX2_firstFault wsX2_readOrder := goodIn_r _ [11, 12, 2, 1, 13, 14, 15, 16, 17, 18, 19, 20, 21, 22, 23, 6, 24, 25, 26, 27, 28, 29, 30, 31, 32, 33, 34, 35, 36, 37, 38, 39, 40, 41, 42, 43, 44, 45, 46, 47, 48, 49, 50, 51, 52, 57, 58, 59, 60, 61, 62, 63] (by decide +kernel) (by decide +kernel)
set_option maxRecDepth 20000 in
theorem gX2_firstFault_X2_readOrder : GoodIn wsX2_firstFault (wsV RX2 34 RX2 yX2_readOrder wsX2_readOrder) := goodIn_app (goodIn_of _ (by decide +kernel)) ggX2_firstFault_X2_readOrder
set_option maxRecDepth 20000 in
theorem ggX2_firstFault_X1_length : GoodIn wsX2_firstFault wsX1_length := goodIn_r _ [56, 19, 62, 63] (by decide +kernel) (by decide +kernel)
set_option maxRecDepth 20000 in
theorem gX2_firstFault_X1_length : GoodIn wsX2_firstFault (wsV RX2 38 RX1 yX1_length wsX1_length) := goodIn_app (goodIn_of _ (by decide +kernel)) ggX2_firstFault_X1_length
set_option maxRecDepth 20000 in
theorem ggX2_firstFault_X2_skip : GoodIn wsX2_firstFault wsX2_skip := goodIn_r _ [24, 2, 1, 14, 15, 16, 17, 18, 19, 20, 57, 58, 59, 60, 61, 62, 63] (by decide +kernel) (by decide +kernel)
set_option maxRecDepth 20000 in
theorem gX2_firstFault_X2_skip : GoodIn wsX2_firstFault (wsV RX2 42 RX2 yX2_skip wsX2_skip) := goodIn_app (goodIn_of _ (by decide +kernel)) ggX2_firstFault_X2_skip
theorem dX2_firstFault_0 : decode cX2_firstFault 0 = .ok (.aload_n 0, 1) := by decide +kernel
theorem dX2_firstFault_1 : decode cX2_firstFault 1 = .ok (.invokevirtual 31, 3) := by decide +kernel
theorem dX2_firstFault_4 : decode cX2_firstFault 4 = .ok (.iconst 0, 1) := by decide +kernel
theorem dX2_firstFault_5 : decode cX2_firstFault 5 = .ok (.istore_n 1, 1) := by decide +kernel
theorem dX2_firstFault_6 : decode cX2_firstFault 6 = .ok (.iload_n 1, 1) := by decide +kernel
theorem dX2_firstFault_7 : decode cX2_firstFault 7 = .ok (.bipush 80, 2) := by decide +kernel
theorem dX2_firstFault_9 : decode cX2_firstFault 9 = .ok (.if_icmp .ge 52, 3) := by decide +kernel
theorem dX2_firstFault_12 : decode cX2_firstFault 12 = .ok (.aload_n 0, 1) := by decide +kernel
theorem dX2_firstFault_13 : decode cX2_firstFault 13 = .ok (.invokevirtual 34, 3) := by decide +kernel
theorem dX2_firstFault_16 : decode cX2_firstFault 16 = .ok (.ifCond .ne 8, 3) := by decide +kernel
theorem dX2_firstFault_19 : decode cX2_firstFault 19 = .ok (.aload_n 0, 1) := by decide +kernel
theorem dX2_firstFault_20 : decode cX2_firstFault 20 = .ok (.getfield 28, 3) := by decide +kernel
theorem dX2_firstFault_23 : decode cX2_firstFault 23 = .ok (.ireturn, 1) := by decide +kernel
theorem dX2_firstFault_24 : decode cX2_firstFault 24 = .ok (.aload_n 0, 1) := by decide +kernel
theorem dX2_firstFault_25 : decode cX2_firstFault 25 = .ok (.getfield 28, 3) := by decide +kernel
theorem dX2_firstFault_28 : decode cX2_firstFault 28 = .ok (.aload_n 0, 1) := by decide +kernel
theorem dX2_firstFault_29 : decode cX2_firstFault 29 = .ok (.getfield 17, 3) := by decide +kernel
theorem dX2_firstFault_32 : decode cX2_firstFault 32 = .ok (.invokevirtual 38, 3) := by decide +kernel
theorem dX2_firstFault_35 : decode cX2_firstFault 35 = .ok (.if_icmp .ne 6, 3) := by decide +kernel
theorem dX2_firstFault_38 : decode cX2_firstFault 38 = .ok (.bipush (-6), 2) := by decide +kernel
theorem dX2_firstFault_40 : decode cX2_firstFault 40 = .ok (.ireturn, 1) := by decide +kernel
theorem dX2_firstFault_41 : decode cX2_firstFault 41 = .ok (.aload_n 0, 1) := by decide +kernel
theorem dX2_firstFault_42 : decode cX2_firstFault 42 = .ok (.bipush 59, 2) := by decide +kernel
theorem dX2_firstFault_44 : decode cX2_firstFault 44 = .ok (.invokevirtual 42, 3) := by decide +kernel
theorem dX2_firstFault_47 : decode cX2_firstFault 47 = .ok (.ifCond .ne 8, 3) := by decide +kernel
theorem dX2_firstFault_50 : decode cX2_firstFault 50 = .ok (.aload_n 0, 1) := by decide +kernel
theorem dX2_firstFault_51 : decode cX2_firstFault 51 = .ok (.getfield 28, 3) := by decide +kernel
theorem dX2_firstFault_54 : decode cX2_firstFault 54 = .ok (.ireturn, 1) := by decide +kernel
theorem dX2_firstFault_55 : decode cX2_firstFault 55 = .ok (.iinc 1 1, 3) := by decide +kernel
theorem dX2_firstFault_58 : decode cX2_firstFault 58 = .ok (.goto (-52), 3) := by decide +kernel
theorem dX2_firstFault_61 : decode cX2_firstFault 61 = .ok (.aload_n 0, 1) := by decide +kernel
theorem dX2_firstFault_62 : decode cX2_firstFault 62 = .ok (.getfield 28, 3) := by decide +kernel
theorem dX2_firstFault_65 : decode cX2_firstFault 65 = .ok (.ireturn, 1) := by decide +kernel
set_option maxRecDepth 20000 in
theorem ggX2_readOrder_X1_codeAt : GoodIn wsX2_readOrder wsX1_codeAt := goodIn_r _ [9, 10, 11, 50, 51] (by decide +kernel) (by decide +kernel)
set_option maxRecDepth 20000 in
theorem gX2_readOrder_X1_codeAt : GoodIn wsX2_readOrder (wsV RX2 46 RX1 yX1_codeAt wsX1_codeAt) := goodIn_app (goodIn_of _ (by decide +kernel)) ggX2_readOrder_X1_codeAt
set_option maxRecDepth 20000 in
theorem ggX2_readOrder_X2_skip : GoodIn wsX2_readOrder wsX2_skip := goodIn_r _ [16, 2, 3, 5, 6, 7, 8, 9, 10, 11, 45, 46, 47, 48, 49, 50, 51] (by decide +kernel) (by decide +kernel)
set_option maxRecDepth 20000 in
theorem gX2_readOrder_X2_skip : GoodIn wsX2_readOrder (wsV RX2 42 RX2 yX2_skip wsX2_skip) := goodIn_app (goodIn_of _ (by decide +kernel)) ggX2_readOrder_X2_skip
set_option maxRecDepth 20000 in
theorem ggX2_readOrder_X2_readValues : GoodIn wsX2_readOrder wsX2_readValues := goodIn_r _ [20, 21, 22, 23, 15, 24, 12, 13, 14, 16, 2, 3, 5, 6, 7, 8, 9, 10, 11, 25, 26, 27, 28, 29, 30, 31, 32, 33, 34, 35, 36, 37, 38, 39, 1, 40, 45, 46, 47, 48, 49, 50, 51] (by decide +kernel) (by decide +kernel)
set_option maxRecDepth 20000 in
theorem gX2_readOrder_X2_readValues : GoodIn wsX2_readOrder (wsV RX2 50 RX2 yX2_readValues wsX2_readValues) := goodIn_app (goodIn_of _ (by decide +kernel)) ggX2_readOrder_X2_readValues
set_option maxRecDepth 20000 in
theorem ggX2_readOrder_X2_readNumber : GoodIn wsX2_readOrder wsX2_readNumber := goodIn_r _ [44, 25, 26, 27, 15, 28, 2, 3, 5, 6, 7, 8, 9, 10, 11, 29, 30, 31, 32, 33, 34, 35, 36, 37, 38, 39, 1, 40, 45, 46, 47, 48, 49, 50, 51] (by decide +kernel) (by decide +kernel)
set_option maxRecDepth 20000 in
theorem gX2_readOrder_X2_readNumber : GoodIn wsX2_readOrder (wsV RX2 53 RX2 yX2_readNumber wsX2_readNumber) := goodIn_app (goodIn_of _ (by decide +kernel)) ggX2_readOrder_X2_readNumber
set_option maxRecDepth 20000 in
theorem ggX2_readOrder_X2_readValue : GoodIn wsX2_readOrder wsX2_readValue := goodIn_r _ [24, 12, 13, 14, 15, 16, 2, 3, 5, 6, 7, 8, 9, 10, 11, 25, 26, 27, 28, 29, 30, 31, 32, 33, 34, 35, 36, 37, 38, 39, 1, 40, 45, 46, 47, 48, 49, 50, 51] (by decide +kernel) (by decide +kernel)
set_option maxRecDepth 20000 in
theorem gX2_readOrder_X2_readValue : GoodIn wsX2_readOrder (wsV RX2 56 RX2 yX2_readValue wsX2_readValue) := goodIn_app (goodIn_of _ (by decide +kernel)) ggX2_readOrder_X2_readValue
theorem dX2_readOrder_0 : decode cX2_readOrder 0 = .ok (.aload_n 0, 1) := by decide +kernel
theorem dX2_readOrder_1 : decode cX2_readOrder 1 = .ok (.iconst 0, 1) := by decide +kernel
theorem dX2_readOrder_2 : decode cX2_readOrder 2 = .ok (.putfield 25, 3) := by decide +kernel
theorem dX2_readOrder_5 : decode cX2_readOrder 5 = .ok (.aload_n 0, 1) := by decide +kernel
theorem dX2_readOrder_6 : decode cX2_readOrder 6 = .ok (.aload_n 0, 1) := by decide +kernel
theorem dX2_readOrder_7 : decode cX2_readOrder 7 = .ok (.getfield 17, 3) := by decide +kernel
theorem dX2_readOrder_10 : decode cX2_readOrder 10 = .ok (.aload_n 0, 1) := by decide +kernel
theorem dX2_readOrder_11 : decode cX2_readOrder 11 = .ok (.getfield 28, 3) := by decide +kernel
theorem dX2_readOrder_14 : decode cX2_readOrder 14 = .ok (.invokevirtual 46, 3) := by decide +kernel
theorem dX2_readOrder_17 : decode cX2_readOrder 17 = .ok (.putfield 21, 3) := by decide +kernel
theorem dX2_readOrder_20 : decode cX2_readOrder 20 = .ok (.aload_n 0, 1) := by decide +kernel
theorem dX2_readOrder_21 : decode cX2_readOrder 21 = .ok (.getfield 21, 3) := by decide +kernel
theorem dX2_readOrder_24 : decode cX2_readOrder 24 = .ok (.lookupswitch 244 #[(43, 44), (102, 190), (109, 168), (114, 66)], 44) := by decide +kernel
theorem dX2_readOrder_68 : decode cX2_readOrder 68 = .ok (.aload_n 0, 1) := by decide +kernel
theorem dX2_readOrder_69 : decode cX2_readOrder 69 = .ok (.bipush 43, 2) := by decide +kernel
theorem dX2_readOrder_71 : decode cX2_readOrder 71 = .ok (.invokevirtual 42, 3) := by decide +kernel
theorem dX2_readOrder_74 : decode cX2_readOrder 74 = .ok (.ifCond .eq 14, 3) := by decide +kernel
theorem dX2_readOrder_77 : decode cX2_readOrder 77 = .ok (.aload_n 0, 1) := by decide +kernel
theorem dX2_readOrder_78 : decode cX2_readOrder 78 = .ok (.invokevirtual 50, 3) := by decide +kernel
theorem dX2_readOrder_81 : decode cX2_readOrder 81 = .ok (.ifCond .eq 7, 3) := by decide +kernel
theorem dX2_readOrder_84 : decode cX2_readOrder 84 = .ok (.iconst 1, 1) := by decide +kernel
theorem dX2_readOrder_85 : decode cX2_readOrder 85 = .ok (.goto 4, 3) := by decide +kernel
theorem dX2_readOrder_88 : decode cX2_readOrder 88 = .ok (.iconst 0, 1) := by decide +kernel
theorem dX2_readOrder_89 : decode cX2_readOrder 89 = .ok (.ireturn, 1) := by decide +kernel
theorem dX2_readOrder_90 : decode cX2_readOrder 90 = .ok (.aload_n 0, 1) := by decide +kernel
theorem dX2_readOrder_91 : decode cX2_readOrder 91 = .ok (.bipush 114, 2) := by decide +kernel
theorem dX2_readOrder_93 : decode cX2_readOrder 93 = .ok (.invokevirtual 42, 3) := by decide +kernel
theorem dX2_readOrder_96 : decode cX2_readOrder 96 = .ok (.ifCond .eq 94, 3) := by decide +kernel
theorem dX2_readOrder_99 : decode cX2_readOrder 99 = .ok (.aload_n 0, 1) := by decide +kernel
theorem dX2_readOrder_100 : decode cX2_readOrder 100 = .ok (.invokevirtual 53, 3) := by decide +kernel
theorem dX2_readOrder_103 : decode cX2_readOrder 103 = .ok (.ifCond .eq 87, 3) := by decide +kernel
theorem dX2_readOrder_106 : decode cX2_readOrder 106 = .ok (.aload_n 0, 1) := by decide +kernel
theorem dX2_readOrder_107 : decode cX2_readOrder 107 = .ok (.bipush 47, 2) := by decide +kernel
theorem dX2_readOrder_109 : decode cX2_readOrder 109 = .ok (.invokevirtual 42, 3) := by decide +kernel
theorem dX2_readOrder_112 : decode cX2_readOrder 112 = .ok (.ifCond .eq 78, 3) := by decide +kernel
theorem dX2_readOrder_115 : decode cX2_readOrder 115 = .ok (.aload_n 0, 1) := by decide +kernel
theorem dX2_readOrder_116 : decode cX2_readOrder 116 = .ok (.invokevirtual 53, 3) := by decide +kernel
theorem dX2_readOrder_119 : decode cX2_readOrder 119 = .ok (.ifCond .eq 71, 3) := by decide +kernel
theorem dX2_readOrder_122 : decode cX2_readOrder 122 = .ok (.aload_n 0, 1) := by decide +kernel
theorem dX2_readOrder_123 : decode cX2_readOrder 123 = .ok (.bipush 64, 2) := by decide +kernel
theorem dX2_readOrder_125 : decode cX2_readOrder 125 = .ok (.invokevirtual 42, 3) := by decide +kernel
theorem dX2_readOrder_128 : decode cX2_readOrder 128 = .ok (.ifCond .eq 62, 3) := by decide +kernel
theorem dX2_readOrder_131 : decode cX2_readOrder 131 = .ok (.aload_n 0, 1) := by decide +kernel
theorem dX2_readOrder_132 : decode cX2_readOrder 132 = .ok (.invokevirtual 53, 3) := by decide +kernel
theorem dX2_readOrder_135 : decode cX2_readOrder 135 = .ok (.ifCond .eq 55, 3) := by decide +kernel
theorem dX2_readOrder_138 : decode cX2_readOrder 138 = .ok (.aload_n 0, 1) := by decide +kernel
theorem dX2_readOrder_139 : decode cX2_readOrder 139 = .ok (.bipush 95, 2) := by decide +kernel
theorem dX2_readOrder_141 : decode cX2_readOrder 141 = .ok (.invokevirtual 42, 3) := by decide +kernel
theorem dX2_readOrder_144 : decode cX2_readOrder 144 = .ok (.ifCond .eq 46, 3) := by decide +kernel
theorem dX2_readOrder_147 : decode cX2_readOrder 147 = .ok (.aload_n 0, 1) := by decide +kernel
theorem dX2_readOrder_148 : decode cX2_readOrder 148 = .ok (.invokevirtual 53, 3) := by decide +kernel
theorem dX2_readOrder_151 : decode cX2_readOrder 151 = .ok (.ifCond .eq 39, 3) := by decide +kernel
theorem dX2_readOrder_154 : decode cX2_readOrder 154 = .ok (.aload_n 0, 1) := by decide +kernel
theorem dX2_readOrder_155 : decode cX2_readOrder 155 = .ok (.bipush 58, 2) := by decide +kernel
theorem dX2_readOrder_157 : decode cX2_readOrder 157 = .ok (.invokevirtual 42, 3) := by decide +kernel
theorem dX2_readOrder_160 : decode cX2_readOrder 160 = .ok (.ifCond .eq 30, 3) := by decide +kernel
theorem dX2_readOrder_163 : decode cX2_readOrder 163 = .ok (.aload_n 0, 1) := by decide +kernel
theorem dX2_readOrder_164 : decode cX2_readOrder 164 = .ok (.invokevirtual 53, 3) := by decide +kernel
theorem dX2_readOrder_167 : decode cX2_readOrder 167 = .ok (.ifCond .eq 23, 3) := by decide +kernel
theorem dX2_readOrder_170 : decode cX2_readOrder 170 = .ok (.aload_n 0, 1) := by decide +kernel
theorem dX2_readOrder_171 : decode cX2_readOrder 171 = .ok (.bipush 42, 2) := by decide +kernel
theorem dX2_readOrder_173 : decode cX2_readOrder 173 = .ok (.invokevirtual 42, 3) := by decide +kernel
theorem dX2_readOrder_176 : decode cX2_readOrder 176 = .ok (.ifCond .eq 14, 3) := by decide +kernel
theorem dX2_readOrder_179 : decode cX2_readOrder 179 = .ok (.aload_n 0, 1) := by decide +kernel
theorem dX2_readOrder_180 : decode cX2_readOrder 180 = .ok (.invokevirtual 53, 3) := by decide +kernel
theorem dX2_readOrder_183 : decode cX2_readOrder 183 = .ok (.ifCond .eq 7, 3) := by decide +kernel
theorem dX2_readOrder_186 : decode cX2_readOrder 186 = .ok (.iconst 1, 1) := by decide +kernel
theorem dX2_readOrder_187 : decode cX2_readOrder 187 = .ok (.goto 4, 3) := by decide +kernel
theorem dX2_readOrder_190 : decode cX2_readOrder 190 = .ok (.iconst 0, 1) := by decide +kernel
theorem dX2_readOrder_191 : decode cX2_readOrder 191 = .ok (.ireturn, 1) := by decide +kernel
theorem dX2_readOrder_192 : decode cX2_readOrder 192 = .ok (.aload_n 0, 1) := by decide +kernel
theorem dX2_readOrder_193 : decode cX2_readOrder 193 = .ok (.bipush 109, 2) := by decide +kernel
theorem dX2_readOrder_195 : decode cX2_readOrder 195 = .ok (.invokevirtual 42, 3) := by decide +kernel
theorem dX2_readOrder_198 : decode cX2_readOrder 198 = .ok (.ifCond .eq 14, 3) := by decide +kernel
theorem dX2_readOrder_201 : decode cX2_readOrder 201 = .ok (.aload_n 0, 1) := by decide +kernel
theorem dX2_readOrder_202 : decode cX2_readOrder 202 = .ok (.invokevirtual 53, 3) := by decide +kernel
theorem dX2_readOrder_205 : decode cX2_readOrder 205 = .ok (.ifCond .eq 7, 3) := by decide +kernel
theorem dX2_readOrder_208 : decode cX2_readOrder 208 = .ok (.iconst 1, 1) := by decide +kernel
theorem dX2_readOrder_209 : decode cX2_readOrder 209 = .ok (.goto 4, 3) := by decide +kernel
theorem dX2_readOrder_212 : decode cX2_readOrder 212 = .ok (.iconst 0, 1) := by decide +kernel
theorem dX2_readOrder_213 : decode cX2_readOrder 213 = .ok (.ireturn, 1) := by decide +kernel
theorem dX2_readOrder_214 : decode cX2_readOrder 214 = .ok (.aload_n 0, 1) := by decide +kernel
theorem dX2_readOrder_215 : decode cX2_readOrder 215 = .ok (.bipush 102, 2) := by decide +kernel
theorem dX2_readOrder_217 : decode cX2_readOrder 217 = .ok (.invokevirtual 42, 3) := by decide +kernel
theorem dX2_readOrder_220 : decode cX2_readOrder 220 = .ok (.ifCond .eq 46, 3) := by decide +kernel
theorem dX2_readOrder_223 : decode cX2_readOrder 223 = .ok (.aload_n 0, 1) := by decide +kernel
theorem dX2_readOrder_224 : decode cX2_readOrder 224 = .ok (.invokevirtual 53, 3) := by decide +kernel
theorem dX2_readOrder_227 : decode cX2_readOrder 227 = .ok (.ifCond .eq 39, 3) := by decide +kernel
theorem dX2_readOrder_230 : decode cX2_readOrder 230 = .ok (.aload_n 0, 1) := by decide +kernel
theorem dX2_readOrder_231 : decode cX2_readOrder 231 = .ok (.bipush 46, 2) := by decide +kernel
theorem dX2_readOrder_233 : decode cX2_readOrder 233 = .ok (.invokevirtual 42, 3) := by decide +kernel
theorem dX2_readOrder_236 : decode cX2_readOrder 236 = .ok (.ifCond .eq 30, 3) := by decide +kernel
theorem dX2_readOrder_239 : decode cX2_readOrder 239 = .ok (.aload_n 0, 1) := by decide +kernel
theorem dX2_readOrder_240 : decode cX2_readOrder 240 = .ok (.invokevirtual 53, 3) := by decide +kernel
theorem dX2_readOrder_243 : decode cX2_readOrder 243 = .ok (.ifCond .eq 23, 3) := by decide +kernel
theorem dX2_readOrder_246 : decode cX2_readOrder 246 = .ok (.aload_n 0, 1) := by decide +kernel
theorem dX2_readOrder_247 : decode cX2_readOrder 247 = .ok (.bipush 61, 2) := by decide +kernel
theorem dX2_readOrder_249 : decode cX2_readOrder 249 = .ok (.invokevirtual 42, 3) := by decide +kernel
theorem dX2_readOrder_252 : decode cX2_readOrder 252 = .ok (.ifCond .eq 14, 3) := by decide +kernel
theorem dX2_readOrder_255 : decode cX2_readOrder 255 = .ok (.aload_n 0, 1) := by decide +kernel
theorem dX2_readOrder_256 : decode cX2_readOrder 256 = .ok (.invokevirtual 56, 3) := by decide +kernel
theorem dX2_readOrder_259 : decode cX2_readOrder 259 = .ok (.ifCond .eq 7, 3) := by decide +kernel
theorem dX2_readOrder_262 : decode cX2_readOrder 262 = .ok (.iconst 1, 1) := by decide +kernel
theorem dX2_readOrder_263 : decode cX2_readOrder 263 = .ok (.goto 4, 3) := by decide +kernel
theorem dX2_readOrder_266 : decode cX2_readOrder 266 = .ok (.iconst 0, 1) := by decide +kernel
theorem dX2_readOrder_267 : decode cX2_readOrder 267 = .ok (.ireturn, 1) := by decide +kernel
theorem dX2_readOrder_268 : decode cX2_readOrder 268 = .ok (.iconst 0, 1) := by decide +kernel
theorem dX2_readOrder_269 : decode cX2_readOrder 269 = .ok (.ireturn, 1) := by decide +kernel
set_option maxRecDepth 20000 in
theorem ggX2_skip_X1_codeAt : GoodIn wsX2_skip wsX1_codeAt := goodIn_r _ [7, 8, 9, 15, 16] (by decide +kernel) (by decide +kernel)
set_option maxRecDepth 20000 in
theorem gX2_skip_X1_codeAt : GoodIn wsX2_skip (wsV RX2 46 RX1 yX1_codeAt wsX1_codeAt) := goodIn_app (goodIn_of _ (by decide +kernel)) ggX2_skip_X1_codeAt
theorem dX2_skip_0 : decode cX2_skip 0 = .ok (.aload_n 0, 1) := by decide +kernel
theorem dX2_skip_1 : decode cX2_skip 1 = .ok (.getfield 17, 3) := by decide +kernel
theorem dX2_skip_4 : decode cX2_skip 4 = .ok (.aload_n 0, 1) := by decide +kernel
theorem dX2_skip_5 : decode cX2_skip 5 = .ok (.getfield 28, 3) := by decide +kernel
theorem dX2_skip_8 : decode cX2_skip 8 = .ok (.invokevirtual 46, 3) := by decide +kernel
theorem dX2_skip_11 : decode cX2_skip 11 = .ok (.iload_n 1, 1) := by decide +kernel
theorem dX2_skip_12 : decode cX2_skip 12 = .ok (.if_icmp .eq 5, 3) := by decide +kernel
theorem dX2_skip_15 : decode cX2_skip 15 = .ok (.iconst 0, 1) := by decide +kernel
theorem dX2_skip_16 : decode cX2_skip 16 = .ok (.ireturn, 1) := by decide +kernel
theorem dX2_skip_17 : decode cX2_skip 17 = .ok (.aload_n 0, 1) := by decide +kernel
theorem dX2_skip_18 : decode cX2_skip 18 = .ok (.dup, 1) := by decide +kernel
theorem dX2_skip_19 : decode cX2_skip 19 = .ok (.getfield 28, 3) := by decide +kernel
theorem dX2_skip_22 : decode cX2_skip 22 = .ok (.iconst 1, 1) := by decide +kernel
theorem dX2_skip_23 : decode cX2_skip 23 = .ok (.iadd, 1) := by decide +kernel
theorem dX2_skip_24 : decode cX2_skip 24 = .ok (.putfield 28, 3) := by decide +kernel
theorem dX2_skip_27 : decode cX2_skip 27 = .ok (.iconst 1, 1) := by decide +kernel
theorem dX2_skip_28 : decode cX2_skip 28 = .ok (.ireturn, 1) := by decide +kernel
set_option maxRecDepth 20000 in
theorem ggX2_readValues_X2_readValue : GoodIn wsX2_readValues wsX2_readValue := goodIn_r _ [5, 6, 7, 8, 4, 9, 10, 11, 12, 13, 14, 15, 16, 17, 18, 19, 20, 21, 22, 23, 24, 25, 26, 27, 28, 29, 30, 31, 32, 33, 34, 35, 36, 37, 38, 39, 40, 41, 42] (by decide +kernel) (by decide +kernel)
set_option maxRecDepth 20000 in
theorem gX2_readValues_X2_readValue : GoodIn wsX2_readValues (wsV RX2 56 RX2 yX2_readValue wsX2_readValue) := goodIn_app (goodIn_of _ (by decide +kernel)) ggX2_readValues_X2_readValue
set_option maxRecDepth 20000 in
theorem ggX2_readValues_X2_skip : GoodIn wsX2_readValues wsX2_skip := goodIn_r _ [9, 10, 11, 12, 13, 14, 15, 16, 17, 18, 36, 37, 38, 39, 40, 41, 42] (by decide +kernel) (by decide +kernel)
set_option maxRecDepth 20000 in
theorem gX2_readValues_X2_skip : GoodIn wsX2_readValues (wsV RX2 42 RX2 yX2_skip wsX2_skip) := goodIn_app (goodIn_of _ (by decide +kernel)) ggX2_readValues_X2_skip
theorem dX2_readValues_0 : decode cX2_readValues 0 = .ok (.aload_n 0, 1) := by decide +kernel
theorem dX2_readValues_1 : decode cX2_readValues 1 = .ok (.invokevirtual 56, 3) := by decide +kernel
theorem dX2_readValues_4 : decode cX2_readValues 4 = .ok (.istore_n 1, 1) := by decide +kernel
theorem dX2_readValues_5 : decode cX2_readValues 5 = .ok (.iconst 1, 1) := by decide +kernel
theorem dX2_readValues_6 : decode cX2_readValues 6 = .ok (.istore_n 2, 1) := by decide +kernel
theorem dX2_readValues_7 : decode cX2_readValues 7 = .ok (.iload_n 2, 1) := by decide +kernel
theorem dX2_readValues_8 : decode cX2_readValues 8 = .ok (.bipush 40, 2) := by decide +kernel
theorem dX2_readValues_10 : decode cX2_readValues 10 = .ok (.if_icmp .ge 27, 3) := by decide +kernel
theorem dX2_readValues_13 : decode cX2_readValues 13 = .ok (.iload_n 1, 1) := by decide +kernel
theorem dX2_readValues_14 : decode cX2_readValues 14 = .ok (.ifCond .eq 23, 3) := by decide +kernel
theorem dX2_readValues_17 : decode cX2_readValues 17 = .ok (.aload_n 0, 1) := by decide +kernel
theorem dX2_readValues_18 : decode cX2_readValues 18 = .ok (.bipush 44, 2) := by decide +kernel
theorem dX2_readValues_20 : decode cX2_readValues 20 = .ok (.invokevirtual 42, 3) := by decide +kernel
theorem dX2_readValues_23 : decode cX2_readValues 23 = .ok (.ifCond .eq 14, 3) := by decide +kernel
theorem dX2_readValues_26 : decode cX2_readValues 26 = .ok (.aload_n 0, 1) := by decide +kernel
theorem dX2_readValues_27 : decode cX2_readValues 27 = .ok (.invokevirtual 56, 3) := by decide +kernel
theorem dX2_readValues_30 : decode cX2_readValues 30 = .ok (.istore_n 1, 1) := by decide +kernel
theorem dX2_readValues_31 : decode cX2_readValues 31 = .ok (.iinc 2 1, 3) := by decide +kernel
theorem dX2_readValues_34 : decode cX2_readValues 34 = .ok (.goto (-27), 3) := by decide +kernel
theorem dX2_readValues_37 : decode cX2_readValues 37 = .ok (.iload_n 1, 1) := by decide +kernel
theorem dX2_readValues_38 : decode cX2_readValues 38 = .ok (.ireturn, 1) := by decide +kernel
set_option maxRecDepth 20000 in
theorem ggX2_readValue_X2_skip : GoodIn wsX2_readValue wsX2_skip := goodIn_r _ [5, 6, 7, 8, 9, 10, 11, 12, 13, 14, 32, 33, 34, 35, 36, 37, 38] (by decide +kernel) (by decide +kernel)
set_option maxRecDepth 20000 in
theorem gX2_readValue_X2_skip : GoodIn wsX2_readValue (wsV RX2 42 RX2 yX2_skip wsX2_skip) := goodIn_app (goodIn_of _ (by decide +kernel)) ggX2_readValue_X2_skip
set_option maxRecDepth 20000 in
theorem ggX2_readValue_X2_isDigit : GoodIn wsX2_readValue wsX2_isDigit := goodIn_r _ [18, 6, 7, 8, 9, 10, 11, 12, 13, 14, 19, 20, 21, 32, 33, 34, 35, 36, 37, 38] (by decide +kernel) (by decide +kernel)
set_option maxRecDepth 20000 in
theorem gX2_readValue_X2_isDigit : GoodIn wsX2_readValue (wsV RX2 59 RX2 yX2_isDigit wsX2_isDigit) := goodIn_app (goodIn_of _ (by decide +kernel)) ggX2_readValue_X2_isDigit
set_option maxRecDepth 20000 in
theorem ggX2_readValue_X2_readDigit : GoodIn wsX2_readValue wsX2_readDigit := goodIn_r _ [25, 6, 7, 8, 9, 10, 11, 12, 13, 14, 32, 33, 34, 35, 36, 37, 38] (by decide +kernel) (by decide +kernel)
set_option maxRecDepth 20000 in
theorem gX2_readValue_X2_readDigit : GoodIn wsX2_readValue (wsV RX2 62 RX2 yX2_readDigit wsX2_readDigit) := goodIn_app (goodIn_of _ (by decide +kernel)) ggX2_readValue_X2_readDigit
set_option maxRecDepth 20000 in
theorem ggX2_readValue_X2_note : GoodIn wsX2_readValue wsX2_note := goodIn_r _ [29, 30, 31, 32, 33, 34, 35, 36] (by decide +kernel) (by decide +kernel)
set_option maxRecDepth 20000 in
theorem gX2_readValue_X2_note : GoodIn wsX2_readValue (wsV RX2 65 RX2 yX2_note wsX2_note) := goodIn_app (goodIn_of _ (by decide +kernel)) ggX2_readValue_X2_note
theorem dX2_readValue_0 : decode cX2_readValue 0 = .ok (.aload_n 0, 1) := by decide +kernel
theorem dX2_readValue_1 : decode cX2_readValue 1 = .ok (.bipush 45, 2) := by decide +kernel
theorem dX2_readValue_3 : decode cX2_readValue 3 = .ok (.invokevirtual 42, 3) := by decide +kernel
theorem dX2_readValue_6 : decode cX2_readValue 6 = .ok (.ifCond .eq 7, 3) := by decide +kernel
theorem dX2_readValue_9 : decode cX2_readValue 9 = .ok (.iconst (-1), 1) := by decide +kernel
theorem dX2_readValue_10 : decode cX2_readValue 10 = .ok (.goto 4, 3) := by decide +kernel
theorem dX2_readValue_13 : decode cX2_readValue 13 = .ok (.iconst 1, 1) := by decide +kernel
theorem dX2_readValue_14 : decode cX2_readValue 14 = .ok (.istore_n 1, 1) := by decide +kernel
theorem dX2_readValue_15 : decode cX2_readValue 15 = .ok (.aload_n 0, 1) := by decide +kernel
theorem dX2_readValue_16 : decode cX2_readValue 16 = .ok (.invokevirtual 59, 3) := by decide +kernel
theorem dX2_readValue_19 : decode cX2_readValue 19 = .ok (.ifCond .ne 5, 3) := by decide +kernel
theorem dX2_readValue_22 : decode cX2_readValue 22 = .ok (.iconst 0, 1) := by decide +kernel
theorem dX2_readValue_23 : decode cX2_readValue 23 = .ok (.ireturn, 1) := by decide +kernel
theorem dX2_readValue_24 : decode cX2_readValue 24 = .ok (.aload_n 0, 1) := by decide +kernel
theorem dX2_readValue_25 : decode cX2_readValue 25 = .ok (.iload_n 1, 1) := by decide +kernel
theorem dX2_readValue_26 : decode cX2_readValue 26 = .ok (.aload_n 0, 1) := by decide +kernel
theorem dX2_readValue_27 : decode cX2_readValue 27 = .ok (.invokevirtual 62, 3) := by decide +kernel
theorem dX2_readValue_30 : decode cX2_readValue 30 = .ok (.imul, 1) := by decide +kernel
theorem dX2_readValue_31 : decode cX2_readValue 31 = .ok (.invokevirtual 65, 3) := by decide +kernel
theorem dX2_readValue_34 : decode cX2_readValue 34 = .ok (.iconst 1, 1) := by decide +kernel
theorem dX2_readValue_35 : decode cX2_readValue 35 = .ok (.ireturn, 1) := by decide +kernel
set_option maxRecDepth 20000 in
theorem ggX2_readNumber_X2_isDigit : GoodIn wsX2_readNumber wsX2_isDigit := goodIn_r _ [5, 6, 7, 8, 9, 10, 11, 12, 13, 14, 15, 16, 17, 28, 29, 30, 31, 32, 33, 34] (by decide +kernel) (by decide +kernel)
set_option maxRecDepth 20000 in
theorem gX2_readNumber_X2_isDigit : GoodIn wsX2_readNumber (wsV RX2 59 RX2 yX2_isDigit wsX2_isDigit) := goodIn_app (goodIn_of _ (by decide +kernel)) ggX2_readNumber_X2_isDigit
set_option maxRecDepth 20000 in
theorem ggX2_readNumber_X2_readDigit : GoodIn wsX2_readNumber wsX2_readDigit := goodIn_r _ [21, 6, 7, 8, 9, 10, 11, 12, 13, 14, 28, 29, 30, 31, 32, 33, 34] (by decide +kernel) (by decide +kernel)
set_option maxRecDepth 20000 in
theorem gX2_readNumber_X2_readDigit : GoodIn wsX2_readNumber (wsV RX2 62 RX2 yX2_readDigit wsX2_readDigit) := goodIn_app (goodIn_of _ (by decide +kernel)) ggX2_readNumber_X2_readDigit
set_option maxRecDepth 20000 in
theorem ggX2_readNumber_X2_note : GoodIn wsX2_readNumber wsX2_note := goodIn_r _ [25, 26, 27, 28, 29, 30, 31, 32] (by decide +kernel) (by decide +kernel)
set_option maxRecDepth 20000 in
theorem gX2_readNumber_X2_note : GoodIn wsX2_readNumber (wsV RX2 65 RX2 yX2_note wsX2_note) := goodIn_app (goodIn_of _ (by decide +kernel)) ggX2_readNumber_X2_note
theorem dX2_readNumber_0 : decode cX2_readNumber 0 = .ok (.aload_n 0, 1) := by decide +kernel
theorem dX2_readNumber_1 : decode cX2_readNumber 1 = .ok (.invokevirtual 59, 3) := by decide +kernel
theorem dX2_readNumber_4 : decode cX2_readNumber 4 = .ok (.ifCond .ne 5, 3) := by decide +kernel
theorem dX2_readNumber_7 : decode cX2_readNumber 7 = .ok (.iconst 0, 1) := by decide +kernel
theorem dX2_readNumber_8 : decode cX2_readNumber 8 = .ok (.ireturn, 1) := by decide +kernel
theorem dX2_readNumber_9 : decode cX2_readNumber 9 = .ok (.aload_n 0, 1) := by decide +kernel
theorem dX2_readNumber_10 : decode cX2_readNumber 10 = .ok (.invokevirtual 62, 3) := by decide +kernel
theorem dX2_readNumber_13 : decode cX2_readNumber 13 = .ok (.istore_n 1, 1) := by decide +kernel
theorem dX2_readNumber_14 : decode cX2_readNumber 14 = .ok (.iload_n 1, 1) := by decide +kernel
theorem dX2_readNumber_15 : decode cX2_readNumber 15 = .ok (.ifCond .le 20, 3) := by decide +kernel
theorem dX2_readNumber_18 : decode cX2_readNumber 18 = .ok (.aload_n 0, 1) := by decide +kernel
theorem dX2_readNumber_19 : decode cX2_readNumber 19 = .ok (.invokevirtual 59, 3) := by decide +kernel
theorem dX2_readNumber_22 : decode cX2_readNumber 22 = .ok (.ifCond .eq 13, 3) := by decide +kernel
theorem dX2_readNumber_25 : decode cX2_readNumber 25 = .ok (.bipush 10, 2) := by decide +kernel
theorem dX2_readNumber_27 : decode cX2_readNumber 27 = .ok (.iload_n 1, 1) := by decide +kernel
theorem dX2_readNumber_28 : decode cX2_readNumber 28 = .ok (.imul, 1) := by decide +kernel
theorem dX2_readNumber_29 : decode cX2_readNumber 29 = .ok (.aload_n 0, 1) := by decide +kernel
theorem dX2_readNumber_30 : decode cX2_readNumber 30 = .ok (.invokevirtual 62, 3) := by decide +kernel
theorem dX2_readNumber_33 : decode cX2_readNumber 33 = .ok (.iadd, 1) := by decide +kernel
theorem dX2_readNumber_34 : decode cX2_readNumber 34 = .ok (.istore_n 1, 1) := by decide +kernel
theorem dX2_readNumber_35 : decode cX2_readNumber 35 = .ok (.aload_n 0, 1) := by decide +kernel
theorem dX2_readNumber_36 : decode cX2_readNumber 36 = .ok (.iload_n 1, 1) := by decide +kernel
theorem dX2_readNumber_37 : decode cX2_readNumber 37 = .ok (.invokevirtual 65, 3) := by decide +kernel
theorem dX2_readNumber_40 : decode cX2_readNumber 40 = .ok (.iconst 1, 1) := by decide +kernel
theorem dX2_readNumber_41 : decode cX2_readNumber 41 = .ok (.ireturn, 1) := by decide +kernel
set_option maxRecDepth 20000 in
theorem ggX2_isDigit_X1_codeAt : GoodIn wsX2_isDigit wsX1_codeAt := goodIn_r _ [7, 8, 9, 18, 19] (by decide +kernel) (by decide +kernel)
set_option maxRecDepth 20000 in
theorem gX2_isDigit_X1_codeAt : GoodIn wsX2_isDigit (wsV RX2 46 RX1 yX1_codeAt wsX1_codeAt) := goodIn_app (goodIn_of _ (by decide +kernel)) ggX2_isDigit_X1_codeAt
set_option maxRecDepth 20000 in
theorem ggX2_isDigit_X6_outside : GoodIn wsX2_isDigit wsX6_outside := goodIn_r _ [12] (by decide +kernel) (by decide +kernel)
set_option maxRecDepth 20000 in
theorem gX2_isDigit_X6_outside_n69 : GoodIn wsX2_isDigit (wsX6_outside) := ggX2_isDigit_X6_outside
theorem dX2_isDigit_0 : decode cX2_isDigit 0 = .ok (.aload_n 0, 1) := by decide +kernel
theorem dX2_isDigit_1 : decode cX2_isDigit 1 = .ok (.getfield 17, 3) := by decide +kernel
theorem dX2_isDigit_4 : decode cX2_isDigit 4 = .ok (.aload_n 0, 1) := by decide +kernel
theorem dX2_isDigit_5 : decode cX2_isDigit 5 = .ok (.getfield 28, 3) := by decide +kernel
theorem dX2_isDigit_8 : decode cX2_isDigit 8 = .ok (.invokevirtual 46, 3) := by decide +kernel
theorem dX2_isDigit_11 : decode cX2_isDigit 11 = .ok (.bipush 48, 2) := by decide +kernel
theorem dX2_isDigit_13 : decode cX2_isDigit 13 = .ok (.bipush 57, 2) := by decide +kernel
theorem dX2_isDigit_15 : decode cX2_isDigit 15 = .ok (.invokestatic 69, 3) := by decide +kernel
theorem dX2_isDigit_18 : decode cX2_isDigit 18 = .ok (.ifCond .ne 7, 3) := by decide +kernel
theorem dX2_isDigit_21 : decode cX2_isDigit 21 = .ok (.iconst 1, 1) := by decide +kernel
theorem dX2_isDigit_22 : decode cX2_isDigit 22 = .ok (.goto 4, 3) := by decide +kernel
theorem dX2_isDigit_25 : decode cX2_isDigit 25 = .ok (.iconst 0, 1) := by decide +kernel
theorem dX2_isDigit_26 : decode cX2_isDigit 26 = .ok (.ireturn, 1) := by decide +kernel
set_option maxRecDepth 20000 in
theorem ggX2_readDigit_X1_codeAt : GoodIn wsX2_readDigit wsX1_codeAt := goodIn_r _ [7, 8, 9, 15, 16] (by decide +kernel) (by decide +kernel)
set_option maxRecDepth 20000 in
theorem gX2_readDigit_X1_codeAt : GoodIn wsX2_readDigit (wsV RX2 46 RX1 yX1_codeAt wsX1_codeAt) := goodIn_app (goodIn_of _ (by decide +kernel)) ggX2_readDigit_X1_codeAt
theorem dX2_readDigit_0 : decode cX2_readDigit 0 = .ok (.aload_n 0, 1) := by decide +kernel
theorem dX2_readDigit_1 : decode cX2_readDigit 1 = .ok (.getfield 17, 3) := by decide +kernel
theorem dX2_readDigit_4 : decode cX2_readDigit 4 = .ok (.aload_n 0, 1) := by decide +kernel
theorem dX2_readDigit_5 : decode cX2_readDigit 5 = .ok (.getfield 28, 3) := by decide +kernel
theorem dX2_readDigit_8 : decode cX2_readDigit 8 = .ok (.invokevirtual 46, 3) := by decide +kernel
theorem dX2_readDigit_11 : decode cX2_readDigit 11 = .ok (.bipush 48, 2) := by decide +kernel
theorem dX2_readDigit_13 : decode cX2_readDigit 13 = .ok (.isub, 1) := by decide +kernel
theorem dX2_readDigit_14 : decode cX2_readDigit 14 = .ok (.istore_n 1, 1) := by decide +kernel
theorem dX2_readDigit_15 : decode cX2_readDigit 15 = .ok (.aload_n 0, 1) := by decide +kernel
theorem dX2_readDigit_16 : decode cX2_readDigit 16 = .ok (.dup, 1) := by decide +kernel
theorem dX2_readDigit_17 : decode cX2_readDigit 17 = .ok (.getfield 28, 3) := by decide +kernel
theorem dX2_readDigit_20 : decode cX2_readDigit 20 = .ok (.iconst 1, 1) := by decide +kernel
theorem dX2_readDigit_21 : decode cX2_readDigit 21 = .ok (.iadd, 1) := by decide +kernel
theorem dX2_readDigit_22 : decode cX2_readDigit 22 = .ok (.putfield 28, 3) := by decide +kernel
theorem dX2_readDigit_25 : decode cX2_readDigit 25 = .ok (.iload_n 1, 1) := by decide +kernel
theorem dX2_readDigit_26 : decode cX2_readDigit 26 = .ok (.ireturn, 1) := by decide +kernel
theorem dX2_note_0 : decode cX2_note 0 = .ok (.aload_n 0, 1) := by decide +kernel
theorem dX2_note_1 : decode cX2_note 1 = .ok (.getfield 25, 3) := by decide +kernel
theorem dX2_note_4 : decode cX2_note 4 = .ok (.ifCond .lt 35, 3) := by decide +kernel
theorem dX2_note_7 : decode cX2_note 7 = .ok (.aload_n 0, 1) := by decide +kernel
theorem dX2_note_8 : decode cX2_note 8 = .ok (.getfield 25, 3) := by decide +kernel
theorem dX2_note_11 : decode cX2_note 11 = .ok (.aload_n 0, 1) := by decide +kernel
theorem dX2_note_12 : decode cX2_note 12 = .ok (.getfield 13, 3) := by decide +kernel
theorem dX2_note_15 : decode cX2_note 15 = .ok (.arraylength, 1) := by decide +kernel
theorem dX2_note_16 : decode cX2_note 16 = .ok (.if_icmp .ge 23, 3) := by decide +kernel
theorem dX2_note_19 : decode cX2_note 19 = .ok (.aload_n 0, 1) := by decide +kernel
theorem dX2_note_20 : decode cX2_note 20 = .ok (.getfield 13, 3) := by decide +kernel
theorem dX2_note_23 : decode cX2_note 23 = .ok (.aload_n 0, 1) := by decide +kernel
theorem dX2_note_24 : decode cX2_note 24 = .ok (.getfield 25, 3) := by decide +kernel
theorem dX2_note_27 : decode cX2_note 27 = .ok (.iload_n 1, 1) := by decide +kernel
theorem dX2_note_28 : decode cX2_note 28 = .ok (.iastore, 1) := by decide +kernel
theorem dX2_note_29 : decode cX2_note 29 = .ok (.aload_n 0, 1) := by decide +kernel
theorem dX2_note_30 : decode cX2_note 30 = .ok (.dup, 1) := by decide +kernel
theorem dX2_note_31 : decode cX2_note 31 = .ok (.getfield 25, 3) := by decide +kernel
theorem dX2_note_34 : decode cX2_note 34 = .ok (.iconst 1, 1) := by decide +kernel
theorem dX2_note_35 : decode cX2_note 35 = .ok (.iadd, 1) := by decide +kernel
theorem dX2_note_36 : decode cX2_note 36 = .ok (.putfield 25, 3) := by decide +kernel
theorem dX2_note_39 : decode cX2_note 39 = .ok (.return_, 1) := by decide +kernel
theorem dX3_init_0 : decode cX3_init 0 = .ok (.aload_n 0, 1) := by decide +kernel
theorem dX3_init_1 : decode cX3_init 1 = .ok (.invokespecial 5, 3) := by decide +kernel
theorem dX3_init_4 : decode cX3_init 4 = .ok (.aload_n 0, 1) := by decide +kernel
theorem dX3_init_5 : decode cX3_init 5 = .ok (.sipush 225, 3) := by decide +kernel
theorem dX3_init_8 : decode cX3_init 8 = .ok (.newarray .int, 2) := by decide +kernel
theorem dX3_init_10 : decode cX3_init 10 = .ok (.putfield 11, 3) := by decide +kernel
theorem dX3_init_13 : decode cX3_init 13 = .ok (.aload_n 0, 1) := by decide +kernel
theorem dX3_init_14 : decode cX3_init 14 = .ok (.getfield 11, 3) := by decide +kernel
theorem dX3_init_17 : decode cX3_init 17 = .ok (.iconst 1, 1) := by decide +kernel
theorem dX3_init_18 : decode cX3_init 18 = .ok (.iconst 5, 1) := by decide +kernel
theorem dX3_init_19 : decode cX3_init 19 = .ok (.iastore, 1) := by decide +kernel
theorem dX3_init_20 : decode cX3_init 20 = .ok (.aload_n 0, 1) := by decide +kernel
theorem dX3_init_21 : decode cX3_init 21 = .ok (.getfield 11, 3) := by decide +kernel
theorem dX3_init_24 : decode cX3_init 24 = .ok (.iconst 2, 1) := by decide +kernel
theorem dX3_init_25 : decode cX3_init 25 = .ok (.iconst 5, 1) := by decide +kernel
theorem dX3_init_26 : decode cX3_init 26 = .ok (.iastore, 1) := by decide +kernel
theorem dX3_init_27 : decode cX3_init 27 = .ok (.aload_n 0, 1) := by decide +kernel
theorem dX3_init_28 : decode cX3_init 28 = .ok (.getfield 11, 3) := by decide +kernel
theorem dX3_init_31 : decode cX3_init 31 = .ok (.bipush 6, 2) := by decide +kernel
theorem dX3_init_33 : decode cX3_init 33 = .ok (.bipush 6, 2) := by decide +kernel
theorem dX3_init_35 : decode cX3_init 35 = .ok (.iastore, 1) := by decide +kernel
theorem dX3_init_36 : decode cX3_init 36 = .ok (.aload_n 0, 1) := by decide +kernel
theorem dX3_init_37 : decode cX3_init 37 = .ok (.getfield 11, 3) := by decide +kernel
theorem dX3_init_40 : decode cX3_init 40 = .ok (.bipush 7, 2) := by decide +kernel
theorem dX3_init_42 : decode cX3_init 42 = .ok (.iconst 4, 1) := by decide +kernel
theorem dX3_init_43 : decode cX3_init 43 = .ok (.iastore, 1) := by decide +kernel
theorem dX3_init_44 : decode cX3_init 44 = .ok (.aload_n 0, 1) := by decide +kernel
theorem dX3_init_45 : decode cX3_init 45 = .ok (.getfield 11, 3) := by decide +kernel
theorem dX3_init_48 : decode cX3_init 48 = .ok (.bipush 8, 2) := by decide +kernel
theorem dX3_init_50 : decode cX3_init 50 = .ok (.bipush 20, 2) := by decide +kernel
theorem dX3_init_52 : decode cX3_init 52 = .ok (.iastore, 1) := by decide +kernel
theorem dX3_init_53 : decode cX3_init 53 = .ok (.return_, 1) := by decide +kernel
theorem dX3_cell_0 : decode cX3_cell 0 = .ok (.iload_n 1, 1) := by decide +kernel
theorem dX3_cell_1 : decode cX3_cell 1 = .ok (.ifCond .lt 21, 3) := by decide +kernel
theorem dX3_cell_4 : decode cX3_cell 4 = .ok (.iload_n 1, 1) := by decide +kernel
theorem dX3_cell_5 : decode cX3_cell 5 = .ok (.aload_n 0, 1) := by decide +kernel
theorem dX3_cell_6 : decode cX3_cell 6 = .ok (.getfield 11, 3) := by decide +kernel
theorem dX3_cell_9 : decode cX3_cell 9 = .ok (.arraylength, 1) := by decide +kernel
theorem dX3_cell_10 : decode cX3_cell 10 = .ok (.if_icmp .ge 12, 3) := by decide +kernel
theorem dX3_cell_13 : decode cX3_cell 13 = .ok (.aload_n 0, 1) := by decide +kernel
theorem dX3_cell_14 : decode cX3_cell 14 = .ok (.getfield 11, 3) := by decide +kernel
theorem dX3_cell_17 : decode cX3_cell 17 = .ok (.iload_n 1, 1) := by decide +kernel
theorem dX3_cell_18 : decode cX3_cell 18 = .ok (.iaload, 1) := by decide +kernel
theorem dX3_cell_19 : decode cX3_cell 19 = .ok (.goto 4, 3) := by decide +kernel
theorem dX3_cell_22 : decode cX3_cell 22 = .ok (.iconst 0, 1) := by decide +kernel
theorem dX3_cell_23 : decode cX3_cell 23 = .ok (.ireturn, 1) := by decide +kernel
theorem dX3_change_0 : decode cX3_change 0 = .ok (.iload_n 1, 1) := by decide +kernel
theorem dX3_change_1 : decode cX3_change 1 = .ok (.ifCond .lt 19, 3) := by decide +kernel
theorem dX3_change_4 : decode cX3_change 4 = .ok (.iload_n 1, 1) := by decide +kernel
theorem dX3_change_5 : decode cX3_change 5 = .ok (.aload_n 0, 1) := by decide +kernel
theorem dX3_change_6 : decode cX3_change 6 = .ok (.getfield 11, 3) := by decide +kernel
theorem dX3_change_9 : decode cX3_change 9 = .ok (.arraylength, 1) := by decide +kernel
theorem dX3_change_10 : decode cX3_change 10 = .ok (.if_icmp .ge 10, 3) := by decide +kernel
theorem dX3_change_13 : decode cX3_change 13 = .ok (.aload_n 0, 1) := by decide +kernel
theorem dX3_change_14 : decode cX3_change 14 = .ok (.getfield 11, 3) := by decide +kernel
theorem dX3_change_17 : decode cX3_change 17 = .ok (.iload_n 1, 1) := by decide +kernel
theorem dX3_change_18 : decode cX3_change 18 = .ok (.iload_n 2, 1) := by decide +kernel
theorem dX3_change_19 : decode cX3_change 19 = .ok (.iastore, 1) := by decide +kernel
theorem dX3_change_20 : decode cX3_change 20 = .ok (.return_, 1) := by decide +kernel
set_option maxRecDepth 20000 in
theorem ggX3_raise_X3_cell : GoodIn wsX3_raise wsX3_cell := goodIn_r _ [5, 6, 11] (by decide +kernel) (by decide +kernel)
set_option maxRecDepth 20000 in
theorem gX3_raise_X3_cell : GoodIn wsX3_raise (wsV RX3 15 RX3 yX3_cell wsX3_cell) := goodIn_app (goodIn_of _ (by decide +kernel)) ggX3_raise_X3_cell
set_option maxRecDepth 20000 in
theorem ggX3_raise_X3_change : GoodIn wsX3_raise wsX3_change := goodIn_r _ [10, 6, 11] (by decide +kernel) (by decide +kernel)
set_option maxRecDepth 20000 in
theorem gX3_raise_X3_change : GoodIn wsX3_raise (wsV RX3 19 RX3 yX3_change wsX3_change) := goodIn_app (goodIn_of _ (by decide +kernel)) ggX3_raise_X3_change
theorem dX3_raise_0 : decode cX3_raise 0 = .ok (.aload_n 0, 1) := by decide +kernel
theorem dX3_raise_1 : decode cX3_raise 1 = .ok (.iload_n 1, 1) := by decide +kernel
theorem dX3_raise_2 : decode cX3_raise 2 = .ok (.aload_n 0, 1) := by decide +kernel
theorem dX3_raise_3 : decode cX3_raise 3 = .ok (.iload_n 1, 1) := by decide +kernel
theorem dX3_raise_4 : decode cX3_raise 4 = .ok (.invokevirtual 15, 3) := by decide +kernel
theorem dX3_raise_7 : decode cX3_raise 7 = .ok (.iload_n 2, 1) := by decide +kernel
theorem dX3_raise_8 : decode cX3_raise 8 = .ok (.iadd, 1) := by decide +kernel
theorem dX3_raise_9 : decode cX3_raise 9 = .ok (.invokevirtual 19, 3) := by decide +kernel
theorem dX3_raise_12 : decode cX3_raise 12 = .ok (.return_, 1) := by decide +kernel
set_option maxRecDepth 20000 in
theorem ggX3_setting_X3_cell : GoodIn wsX3_setting wsX3_cell := goodIn_r _ [5, 6, 7] (by decide +kernel) (by decide +kernel)
set_option maxRecDepth 20000 in
theorem gX3_setting_X3_cell : GoodIn wsX3_setting (wsV RX3 15 RX3 yX3_cell wsX3_cell) := goodIn_app (goodIn_of _ (by decide +kernel)) ggX3_setting_X3_cell
theorem dX3_setting_0 : decode cX3_setting 0 = .ok (.aload_n 0, 1) := by decide +kernel
theorem dX3_setting_1 : decode cX3_setting 1 = .ok (.bipush 6, 2) := by decide +kernel
theorem dX3_setting_3 : decode cX3_setting 3 = .ok (.iload_n 1, 1) := by decide +kernel
theorem dX3_setting_4 : decode cX3_setting 4 = .ok (.iadd, 1) := by decide +kernel
theorem dX3_setting_5 : decode cX3_setting 5 = .ok (.invokevirtual 15, 3) := by decide +kernel
theorem dX3_setting_8 : decode cX3_setting 8 = .ok (.ireturn, 1) := by decide +kernel
set_option maxRecDepth 20000 in
theorem ggX3_changeSetting_X6_outside : GoodIn wsX3_changeSetting wsX6_outside := goodIn_r _ [3] (by decide +kernel) (by decide +kernel)
set_option maxRecDepth 20000 in
theorem gX3_changeSetting_X6_outside_n23 : GoodIn wsX3_changeSetting (wsX6_outside) := ggX3_changeSetting_X6_outside
set_option maxRecDepth 20000 in
theorem ggX3_changeSetting_X3_setting : GoodIn wsX3_changeSetting wsX3_setting := goodIn_r _ [8, 9, 10, 11, 7, 12, 13, 18] (by decide +kernel) (by decide +kernel)
set_option maxRecDepth 20000 in
theorem gX3_changeSetting_X3_setting : GoodIn wsX3_changeSetting (wsV RX3 27 RX3 yX3_setting wsX3_setting) := goodIn_app (goodIn_of _ (by decide +kernel)) ggX3_changeSetting_X3_setting
set_option maxRecDepth 20000 in
theorem ggX3_changeSetting_X3_change : GoodIn wsX3_changeSetting wsX3_change := goodIn_r _ [17, 13, 18] (by decide +kernel) (by decide +kernel)
set_option maxRecDepth 20000 in
theorem gX3_changeSetting_X3_change : GoodIn wsX3_changeSetting (wsV RX3 19 RX3 yX3_change wsX3_change) := goodIn_app (goodIn_of _ (by decide +kernel)) ggX3_changeSetting_X3_change
theorem dX3_changeSetting_0 : decode cX3_changeSetting 0 = .ok (.iload_n 1, 1) := by decide +kernel
theorem dX3_changeSetting_1 : decode cX3_changeSetting 1 = .ok (.iconst 0, 1) := by decide +kernel
theorem dX3_changeSetting_2 : decode cX3_changeSetting 2 = .ok (.iconst 2, 1) := by decide +kernel
theorem dX3_changeSetting_3 : decode cX3_changeSetting 3 = .ok (.invokestatic 23, 3) := by decide +kernel
theorem dX3_changeSetting_6 : decode cX3_changeSetting 6 = .ok (.ifCond .eq 6, 3) := by decide +kernel
theorem dX3_changeSetting_9 : decode cX3_changeSetting 9 = .ok (.bipush (-2), 2) := by decide +kernel
theorem dX3_changeSetting_11 : decode cX3_changeSetting 11 = .ok (.ireturn, 1) := by decide +kernel
theorem dX3_changeSetting_12 : decode cX3_changeSetting 12 = .ok (.iload_n 1, 1) := by decide +kernel
theorem dX3_changeSetting_13 : decode cX3_changeSetting 13 = .ok (.iconst 2, 1) := by decide +kernel
theorem dX3_changeSetting_14 : decode cX3_changeSetting 14 = .ok (.if_icmp .ne 13, 3) := by decide +kernel
theorem dX3_changeSetting_17 : decode cX3_changeSetting 17 = .ok (.iload_n 2, 1) := by decide +kernel
theorem dX3_changeSetting_18 : decode cX3_changeSetting 18 = .ok (.iconst 1, 1) := by decide +kernel
theorem dX3_changeSetting_19 : decode cX3_changeSetting 19 = .ok (.bipush 99, 2) := by decide +kernel
theorem dX3_changeSetting_21 : decode cX3_changeSetting 21 = .ok (.invokestatic 23, 3) := by decide +kernel
theorem dX3_changeSetting_24 : decode cX3_changeSetting 24 = .ok (.goto 10, 3) := by decide +kernel
theorem dX3_changeSetting_27 : decode cX3_changeSetting 27 = .ok (.iload_n 2, 1) := by decide +kernel
theorem dX3_changeSetting_28 : decode cX3_changeSetting 28 = .ok (.iconst 0, 1) := by decide +kernel
theorem dX3_changeSetting_29 : decode cX3_changeSetting 29 = .ok (.bipush 30, 2) := by decide +kernel
theorem dX3_changeSetting_31 : decode cX3_changeSetting 31 = .ok (.invokestatic 23, 3) := by decide +kernel
theorem dX3_changeSetting_34 : decode cX3_changeSetting 34 = .ok (.istore_n 3, 1) := by decide +kernel
theorem dX3_changeSetting_35 : decode cX3_changeSetting 35 = .ok (.iload_n 3, 1) := by decide +kernel
theorem dX3_changeSetting_36 : decode cX3_changeSetting 36 = .ok (.ifCond .eq 6, 3) := by decide +kernel
theorem dX3_changeSetting_39 : decode cX3_changeSetting 39 = .ok (.bipush (-2), 2) := by decide +kernel
theorem dX3_changeSetting_41 : decode cX3_changeSetting 41 = .ok (.ireturn, 1) := by decide +kernel
theorem dX3_changeSetting_42 : decode cX3_changeSetting 42 = .ok (.aload_n 0, 1) := by decide +kernel
theorem dX3_changeSetting_43 : decode cX3_changeSetting 43 = .ok (.iload_n 1, 1) := by decide +kernel
theorem dX3_changeSetting_44 : decode cX3_changeSetting 44 = .ok (.invokevirtual 27, 3) := by decide +kernel
theorem dX3_changeSetting_47 : decode cX3_changeSetting 47 = .ok (.istore 4, 2) := by decide +kernel
theorem dX3_changeSetting_49 : decode cX3_changeSetting 49 = .ok (.aload_n 0, 1) := by decide +kernel
theorem dX3_changeSetting_50 : decode cX3_changeSetting 50 = .ok (.bipush 6, 2) := by decide +kernel
theorem dX3_changeSetting_52 : decode cX3_changeSetting 52 = .ok (.iload_n 1, 1) := by decide +kernel
theorem dX3_changeSetting_53 : decode cX3_changeSetting 53 = .ok (.iadd, 1) := by decide +kernel
theorem dX3_changeSetting_54 : decode cX3_changeSetting 54 = .ok (.iload_n 2, 1) := by decide +kernel
theorem dX3_changeSetting_55 : decode cX3_changeSetting 55 = .ok (.invokevirtual 19, 3) := by decide +kernel
theorem dX3_changeSetting_58 : decode cX3_changeSetting 58 = .ok (.iload 4, 2) := by decide +kernel
theorem dX3_changeSetting_60 : decode cX3_changeSetting 60 = .ok (.ireturn, 1) := by decide +kernel
set_option maxRecDepth 20000 in
theorem ggX3_changeCard_X6_outside : GoodIn wsX3_changeCard wsX6_outside := goodIn_r _ [3] (by decide +kernel) (by decide +kernel)
set_option maxRecDepth 20000 in
theorem gX3_changeCard_X6_outside_n23 : GoodIn wsX3_changeCard (wsX6_outside) := ggX3_changeCard_X6_outside
set_option maxRecDepth 20000 in
theorem ggX3_changeCard_X3_cell : GoodIn wsX3_changeCard wsX3_cell := goodIn_r _ [8, 9, 14] (by decide +kernel) (by decide +kernel)
set_option maxRecDepth 20000 in
theorem gX3_changeCard_X3_cell : GoodIn wsX3_changeCard (wsV RX3 15 RX3 yX3_cell wsX3_cell) := goodIn_app (goodIn_of _ (by decide +kernel)) ggX3_changeCard_X3_cell
set_option maxRecDepth 20000 in
theorem ggX3_changeCard_X3_change : GoodIn wsX3_changeCard wsX3_change := goodIn_r _ [13, 9, 14] (by decide +kernel) (by decide +kernel)
set_option maxRecDepth 20000 in
theorem gX3_changeCard_X3_change : GoodIn wsX3_changeCard (wsV RX3 19 RX3 yX3_change wsX3_change) := goodIn_app (goodIn_of _ (by decide +kernel)) ggX3_changeCard_X3_change
theorem dX3_changeCard_0 : decode cX3_changeCard 0 = .ok (.iload_n 1, 1) := by decide +kernel
theorem dX3_changeCard_1 : decode cX3_changeCard 1 = .ok (.iconst 1, 1) := by decide +kernel
theorem dX3_changeCard_2 : decode cX3_changeCard 2 = .ok (.bipush 30, 2) := by decide +kernel
theorem dX3_changeCard_4 : decode cX3_changeCard 4 = .ok (.invokestatic 23, 3) := by decide +kernel
theorem dX3_changeCard_7 : decode cX3_changeCard 7 = .ok (.ifCond .ne 13, 3) := by decide +kernel
theorem dX3_changeCard_10 : decode cX3_changeCard 10 = .ok (.iload_n 2, 1) := by decide +kernel
theorem dX3_changeCard_11 : decode cX3_changeCard 11 = .ok (.iconst 0, 1) := by decide +kernel
theorem dX3_changeCard_12 : decode cX3_changeCard 12 = .ok (.bipush 30, 2) := by decide +kernel
theorem dX3_changeCard_14 : decode cX3_changeCard 14 = .ok (.invokestatic 23, 3) := by decide +kernel
theorem dX3_changeCard_17 : decode cX3_changeCard 17 = .ok (.ifCond .eq 6, 3) := by decide +kernel
theorem dX3_changeCard_20 : decode cX3_changeCard 20 = .ok (.bipush (-2), 2) := by decide +kernel
theorem dX3_changeCard_22 : decode cX3_changeCard 22 = .ok (.ireturn, 1) := by decide +kernel
theorem dX3_changeCard_23 : decode cX3_changeCard 23 = .ok (.aload_n 0, 1) := by decide +kernel
theorem dX3_changeCard_24 : decode cX3_changeCard 24 = .ok (.iconst 1, 1) := by decide +kernel
theorem dX3_changeCard_25 : decode cX3_changeCard 25 = .ok (.invokevirtual 15, 3) := by decide +kernel
theorem dX3_changeCard_28 : decode cX3_changeCard 28 = .ok (.istore_n 3, 1) := by decide +kernel
theorem dX3_changeCard_29 : decode cX3_changeCard 29 = .ok (.aload_n 0, 1) := by decide +kernel
theorem dX3_changeCard_30 : decode cX3_changeCard 30 = .ok (.iconst 1, 1) := by decide +kernel
theorem dX3_changeCard_31 : decode cX3_changeCard 31 = .ok (.iload_n 1, 1) := by decide +kernel
theorem dX3_changeCard_32 : decode cX3_changeCard 32 = .ok (.invokevirtual 19, 3) := by decide +kernel
theorem dX3_changeCard_35 : decode cX3_changeCard 35 = .ok (.aload_n 0, 1) := by decide +kernel
theorem dX3_changeCard_36 : decode cX3_changeCard 36 = .ok (.iconst 2, 1) := by decide +kernel
theorem dX3_changeCard_37 : decode cX3_changeCard 37 = .ok (.iload_n 2, 1) := by decide +kernel
theorem dX3_changeCard_38 : decode cX3_changeCard 38 = .ok (.invokevirtual 19, 3) := by decide +kernel
theorem dX3_changeCard_41 : decode cX3_changeCard 41 = .ok (.iload_n 3, 1) := by decide +kernel
theorem dX3_changeCard_42 : decode cX3_changeCard 42 = .ok (.ireturn, 1) := by decide +kernel
set_option maxRecDepth 20000 in
theorem ggX3_has_X3_cell : GoodIn wsX3_has wsX3_cell := goodIn_r _ [5, 6, 7] (by decide +kernel) (by decide +kernel)
set_option maxRecDepth 20000 in
theorem gX3_has_X3_cell : GoodIn wsX3_has (wsV RX3 15 RX3 yX3_cell wsX3_cell) := goodIn_app (goodIn_of _ (by decide +kernel)) ggX3_has_X3_cell
theorem dX3_has_0 : decode cX3_has 0 = .ok (.iload_n 1, 1) := by decide +kernel
theorem dX3_has_1 : decode cX3_has 1 = .ok (.ifCond .lt 16, 3) := by decide +kernel
theorem dX3_has_4 : decode cX3_has 4 = .ok (.iload_n 1, 1) := by decide +kernel
theorem dX3_has_5 : decode cX3_has 5 = .ok (.aload_n 0, 1) := by decide +kernel
theorem dX3_has_6 : decode cX3_has 6 = .ok (.iconst 0, 1) := by decide +kernel
theorem dX3_has_7 : decode cX3_has 7 = .ok (.invokevirtual 15, 3) := by decide +kernel
theorem dX3_has_10 : decode cX3_has 10 = .ok (.if_icmp .ge 7, 3) := by decide +kernel
theorem dX3_has_13 : decode cX3_has 13 = .ok (.iconst 1, 1) := by decide +kernel
theorem dX3_has_14 : decode cX3_has 14 = .ok (.goto 4, 3) := by decide +kernel
theorem dX3_has_17 : decode cX3_has 17 = .ok (.iconst 0, 1) := by decide +kernel
theorem dX3_has_18 : decode cX3_has 18 = .ok (.ireturn, 1) := by decide +kernel
set_option maxRecDepth 20000 in
theorem ggX3_hasTooth_X3_has : GoodIn wsX3_hasTooth wsX3_has := goodIn_r _ [5, 6, 7, 8, 4, 9, 10, 18] (by decide +kernel) (by decide +kernel)
set_option maxRecDepth 20000 in
theorem gX3_hasTooth_X3_has : GoodIn wsX3_hasTooth (wsV RX3 30 RX3 yX3_has wsX3_has) := goodIn_app (goodIn_of _ (by decide +kernel)) ggX3_hasTooth_X3_has
set_option maxRecDepth 20000 in
theorem ggX3_hasTooth_X3_teeth : GoodIn wsX3_hasTooth wsX3_teeth := goodIn_r _ [14, 15, 16, 4, 17, 6, 7, 8, 9, 10, 18] (by decide +kernel) (by decide +kernel)
set_option maxRecDepth 20000 in
theorem gX3_hasTooth_X3_teeth : GoodIn wsX3_hasTooth (wsV RX3 34 RX3 yX3_teeth wsX3_teeth) := goodIn_app (goodIn_of _ (by decide +kernel)) ggX3_hasTooth_X3_teeth
theorem dX3_hasTooth_0 : decode cX3_hasTooth 0 = .ok (.aload_n 0, 1) := by decide +kernel
theorem dX3_hasTooth_1 : decode cX3_hasTooth 1 = .ok (.iload_n 1, 1) := by decide +kernel
theorem dX3_hasTooth_2 : decode cX3_hasTooth 2 = .ok (.invokevirtual 30, 3) := by decide +kernel
theorem dX3_hasTooth_5 : decode cX3_hasTooth 5 = .ok (.ifCond .eq 20, 3) := by decide +kernel
theorem dX3_hasTooth_8 : decode cX3_hasTooth 8 = .ok (.iload_n 2, 1) := by decide +kernel
theorem dX3_hasTooth_9 : decode cX3_hasTooth 9 = .ok (.ifCond .lt 16, 3) := by decide +kernel
theorem dX3_hasTooth_12 : decode cX3_hasTooth 12 = .ok (.iload_n 2, 1) := by decide +kernel
theorem dX3_hasTooth_13 : decode cX3_hasTooth 13 = .ok (.aload_n 0, 1) := by decide +kernel
theorem dX3_hasTooth_14 : decode cX3_hasTooth 14 = .ok (.iload_n 1, 1) := by decide +kernel
theorem dX3_hasTooth_15 : decode cX3_hasTooth 15 = .ok (.invokevirtual 34, 3) := by decide +kernel
theorem dX3_hasTooth_18 : decode cX3_hasTooth 18 = .ok (.if_icmp .ge 7, 3) := by decide +kernel
theorem dX3_hasTooth_21 : decode cX3_hasTooth 21 = .ok (.iconst 1, 1) := by decide +kernel
theorem dX3_hasTooth_22 : decode cX3_hasTooth 22 = .ok (.goto 4, 3) := by decide +kernel
theorem dX3_hasTooth_25 : decode cX3_hasTooth 25 = .ok (.iconst 0, 1) := by decide +kernel
theorem dX3_hasTooth_26 : decode cX3_hasTooth 26 = .ok (.ireturn, 1) := by decide +kernel
theorem dX3_placeOf_0 : decode cX3_placeOf 0 = .ok (.bipush 9, 2) := by decide +kernel
theorem dX3_placeOf_2 : decode cX3_placeOf 2 = .ok (.iload_n 0, 1) := by decide +kernel
theorem dX3_placeOf_3 : decode cX3_placeOf 3 = .ok (.bipush 27, 2) := by decide +kernel
theorem dX3_placeOf_5 : decode cX3_placeOf 5 = .ok (.imul, 1) := by decide +kernel
theorem dX3_placeOf_6 : decode cX3_placeOf 6 = .ok (.iadd, 1) := by decide +kernel
theorem dX3_placeOf_7 : decode cX3_placeOf 7 = .ok (.ireturn, 1) := by decide +kernel
set_option maxRecDepth 20000 in
theorem ggX3_teeth_X3_placeOf : GoodIn wsX3_teeth wsX3_placeOf := goodIn_r _ [4] (by decide +kernel) (by decide +kernel)
set_option maxRecDepth 20000 in
theorem gX3_teeth_X3_placeOf : GoodIn wsX3_teeth (va_wsS RX3 37 yX3_placeOf wsX3_placeOf) := goodIn_app (goodIn_of _ (by decide +kernel)) ggX3_teeth_X3_placeOf
set_option maxRecDepth 20000 in
theorem ggX3_teeth_X3_cell : GoodIn wsX3_teeth wsX3_cell := goodIn_r _ [8, 9, 10] (by decide +kernel) (by decide +kernel)
set_option maxRecDepth 20000 in
theorem gX3_teeth_X3_cell : GoodIn wsX3_teeth (wsV RX3 15 RX3 yX3_cell wsX3_cell) := goodIn_app (goodIn_of _ (by decide +kernel)) ggX3_teeth_X3_cell
theorem dX3_teeth_0 : decode cX3_teeth 0 = .ok (.aload_n 0, 1) := by decide +kernel
theorem dX3_teeth_1 : decode cX3_teeth 1 = .ok (.iload_n 1, 1) := by decide +kernel
theorem dX3_teeth_2 : decode cX3_teeth 2 = .ok (.invokestatic 37, 3) := by decide +kernel
theorem dX3_teeth_5 : decode cX3_teeth 5 = .ok (.iconst 0, 1) := by decide +kernel
theorem dX3_teeth_6 : decode cX3_teeth 6 = .ok (.iadd, 1) := by decide +kernel
theorem dX3_teeth_7 : decode cX3_teeth 7 = .ok (.invokevirtual 15, 3) := by decide +kernel
theorem dX3_teeth_10 : decode cX3_teeth 10 = .ok (.ireturn, 1) := by decide +kernel
set_option maxRecDepth 20000 in
theorem ggX3_stepsSinceWorn_X3_placeOf : GoodIn wsX3_stepsSinceWorn wsX3_placeOf := goodIn_r _ [4] (by decide +kernel) (by decide +kernel)
set_option maxRecDepth 20000 in
theorem gX3_stepsSinceWorn_X3_placeOf : GoodIn wsX3_stepsSinceWorn (va_wsS RX3 37 yX3_placeOf wsX3_placeOf) := goodIn_app (goodIn_of _ (by decide +kernel)) ggX3_stepsSinceWorn_X3_placeOf
set_option maxRecDepth 20000 in
theorem ggX3_stepsSinceWorn_X3_cell : GoodIn wsX3_stepsSinceWorn wsX3_cell := goodIn_r _ [8, 9, 10] (by decide +kernel) (by decide +kernel)
set_option maxRecDepth 20000 in
theorem gX3_stepsSinceWorn_X3_cell : GoodIn wsX3_stepsSinceWorn (wsV RX3 15 RX3 yX3_cell wsX3_cell) := goodIn_app (goodIn_of _ (by decide +kernel)) ggX3_stepsSinceWorn_X3_cell
theorem dX3_stepsSinceWorn_0 : decode cX3_stepsSinceWorn 0 = .ok (.aload_n 0, 1) := by decide +kernel
theorem dX3_stepsSinceWorn_1 : decode cX3_stepsSinceWorn 1 = .ok (.iload_n 1, 1) := by decide +kernel
theorem dX3_stepsSinceWorn_2 : decode cX3_stepsSinceWorn 2 = .ok (.invokestatic 37, 3) := by decide +kernel
theorem dX3_stepsSinceWorn_5 : decode cX3_stepsSinceWorn 5 = .ok (.iconst 1, 1) := by decide +kernel
theorem dX3_stepsSinceWorn_6 : decode cX3_stepsSinceWorn 6 = .ok (.iadd, 1) := by decide +kernel
theorem dX3_stepsSinceWorn_7 : decode cX3_stepsSinceWorn 7 = .ok (.invokevirtual 15, 3) := by decide +kernel
theorem dX3_stepsSinceWorn_10 : decode cX3_stepsSinceWorn 10 = .ok (.ireturn, 1) := by decide +kernel
set_option maxRecDepth 20000 in
theorem ggX3_timesWorn_X3_placeOf : GoodIn wsX3_timesWorn wsX3_placeOf := goodIn_r _ [4] (by decide +kernel) (by decide +kernel)
set_option maxRecDepth 20000 in
theorem gX3_timesWorn_X3_placeOf : GoodIn wsX3_timesWorn (va_wsS RX3 37 yX3_placeOf wsX3_placeOf) := goodIn_app (goodIn_of _ (by decide +kernel)) ggX3_timesWorn_X3_placeOf
set_option maxRecDepth 20000 in
theorem ggX3_timesWorn_X3_cell : GoodIn wsX3_timesWorn wsX3_cell := goodIn_r _ [8, 9, 10] (by decide +kernel) (by decide +kernel)
set_option maxRecDepth 20000 in
theorem gX3_timesWorn_X3_cell : GoodIn wsX3_timesWorn (wsV RX3 15 RX3 yX3_cell wsX3_cell) := goodIn_app (goodIn_of _ (by decide +kernel)) ggX3_timesWorn_X3_cell
theorem dX3_timesWorn_0 : decode cX3_timesWorn 0 = .ok (.aload_n 0, 1) := by decide +kernel
theorem dX3_timesWorn_1 : decode cX3_timesWorn 1 = .ok (.iload_n 1, 1) := by decide +kernel
theorem dX3_timesWorn_2 : decode cX3_timesWorn 2 = .ok (.invokestatic 37, 3) := by decide +kernel
theorem dX3_timesWorn_5 : decode cX3_timesWorn 5 = .ok (.iconst 2, 1) := by decide +kernel
theorem dX3_timesWorn_6 : decode cX3_timesWorn 6 = .ok (.iadd, 1) := by decide +kernel
theorem dX3_timesWorn_7 : decode cX3_timesWorn 7 = .ok (.invokevirtual 15, 3) := by decide +kernel
theorem dX3_timesWorn_10 : decode cX3_timesWorn 10 = .ok (.ireturn, 1) := by decide +kernel
end
section
set_option maxRecDepth 20000 in
theorem ggX3_height_X3_placeOf : GoodIn wsX3_height wsX3_placeOf := goodIn_r _ [4] (by decide +kernel) (by decide +kernel)
set_option maxRecDepth 20000 in
theorem gX3_height_X3_placeOf : GoodIn wsX3_height (va_wsS RX3 37 yX3_placeOf wsX3_placeOf) := goodIn_app (goodIn_of _ (by decide +kernel)) ggX3_height_X3_placeOf
set_option maxRecDepth 20000 in
theorem ggX3_height_X3_cell : GoodIn wsX3_height wsX3_cell := goodIn_r _ [8, 9, 10] (by decide +kernel) (by decide +kernel)
set_option maxRecDepth 20000 in
theorem gX3_height_X3_cell : GoodIn wsX3_height (wsV RX3 15 RX3 yX3_cell wsX3_cell) := goodIn_app (goodIn_of _ (by decide +kernel)) ggX3_height_X3_cell
theorem dX3_height_0 : decode cX3_height 0 = .ok (.aload_n 0, 1) := by decide +kernel
theorem dX3_height_1 : decode cX3_height 1 = .ok (.iload_n 1, 1) := by decide +kernel
theorem dX3_height_2 : decode cX3_height 2 = .ok (.invokestatic 37, 3) := by decide +kernel
theorem dX3_height_5 : decode cX3_height 5 = .ok (.iconst 3, 1) := by decide +kernel
theorem dX3_height_6 : decode cX3_height 6 = .ok (.iadd, 1) := by decide +kernel
theorem dX3_height_7 : decode cX3_height 7 = .ok (.iload_n 2, 1) := by decide +kernel
theorem dX3_height_8 : decode cX3_height 8 = .ok (.iadd, 1) := by decide +kernel
theorem dX3_height_9 : decode cX3_height 9 = .ok (.invokevirtual 15, 3) := by decide +kernel
theorem dX3_height_12 : decode cX3_height 12 = .ok (.ireturn, 1) := by decide +kernel
set_option maxRecDepth 20000 in
theorem ggX3_shape_X3_placeOf : GoodIn wsX3_shape wsX3_placeOf := goodIn_r _ [4] (by decide +kernel) (by decide +kernel)
set_option maxRecDepth 20000 in
theorem gX3_shape_X3_placeOf : GoodIn wsX3_shape (va_wsS RX3 37 yX3_placeOf wsX3_placeOf) := goodIn_app (goodIn_of _ (by decide +kernel)) ggX3_shape_X3_placeOf
set_option maxRecDepth 20000 in
theorem ggX3_shape_X3_change : GoodIn wsX3_shape wsX3_change := goodIn_r _ [8, 9, 10] (by decide +kernel) (by decide +kernel)
set_option maxRecDepth 20000 in
theorem gX3_shape_X3_change : GoodIn wsX3_shape (wsV RX3 19 RX3 yX3_change wsX3_change) := goodIn_app (goodIn_of _ (by decide +kernel)) ggX3_shape_X3_change
theorem dX3_shape_0 : decode cX3_shape 0 = .ok (.aload_n 0, 1) := by decide +kernel
theorem dX3_shape_1 : decode cX3_shape 1 = .ok (.iload_n 1, 1) := by decide +kernel
theorem dX3_shape_2 : decode cX3_shape 2 = .ok (.invokestatic 37, 3) := by decide +kernel
theorem dX3_shape_5 : decode cX3_shape 5 = .ok (.iconst 3, 1) := by decide +kernel
theorem dX3_shape_6 : decode cX3_shape 6 = .ok (.iadd, 1) := by decide +kernel
theorem dX3_shape_7 : decode cX3_shape 7 = .ok (.iload_n 2, 1) := by decide +kernel
theorem dX3_shape_8 : decode cX3_shape 8 = .ok (.iadd, 1) := by decide +kernel
theorem dX3_shape_9 : decode cX3_shape 9 = .ok (.iload_n 3, 1) := by decide +kernel
theorem dX3_shape_10 : decode cX3_shape 10 = .ok (.invokevirtual 19, 3) := by decide +kernel
theorem dX3_shape_13 : decode cX3_shape 13 = .ok (.return_, 1) := by decide +kernel
set_option maxRecDepth 20000 in
theorem ggX3_addRoller_X6_outside : GoodIn wsX3_addRoller wsX6_outside := goodIn_r _ [3] (by decide +kernel) (by decide +kernel)
set_option maxRecDepth 20000 in
theorem gX3_addRoller_X6_outside_n23 : GoodIn wsX3_addRoller (wsX6_outside) := ggX3_addRoller_X6_outside
set_option maxRecDepth 20000 in
theorem ggX3_addRoller_X3_cell : GoodIn wsX3_addRoller wsX3_cell := goodIn_r _ [8, 9, 25] (by decide +kernel) (by decide +kernel)
set_option maxRecDepth 20000 in
theorem gX3_addRoller_X3_cell : GoodIn wsX3_addRoller (wsV RX3 15 RX3 yX3_cell wsX3_cell) := goodIn_app (goodIn_of _ (by decide +kernel)) ggX3_addRoller_X3_cell
set_option maxRecDepth 20000 in
theorem ggX3_addRoller_X3_placeOf : GoodIn wsX3_addRoller wsX3_placeOf := goodIn_r _ [12] (by decide +kernel) (by decide +kernel)
set_option maxRecDepth 20000 in
theorem gX3_addRoller_X3_placeOf : GoodIn wsX3_addRoller (va_wsS RX3 37 yX3_placeOf wsX3_placeOf) := goodIn_app (goodIn_of _ (by decide +kernel)) ggX3_addRoller_X3_placeOf
set_option maxRecDepth 20000 in
theorem ggX3_addRoller_X3_change : GoodIn wsX3_addRoller wsX3_change := goodIn_r _ [16, 9, 25] (by decide +kernel) (by decide +kernel)
set_option maxRecDepth 20000 in
theorem gX3_addRoller_X3_change : GoodIn wsX3_addRoller (wsV RX3 19 RX3 yX3_change wsX3_change) := goodIn_app (goodIn_of _ (by decide +kernel)) ggX3_addRoller_X3_change
set_option maxRecDepth 20000 in
theorem ggX3_addRoller_X3_shape : GoodIn wsX3_addRoller wsX3_shape := goodIn_r _ [20, 10, 11, 7, 12, 13, 14, 15, 16, 9, 25] (by decide +kernel) (by decide +kernel)
set_option maxRecDepth 20000 in
theorem gX3_addRoller_X3_shape : GoodIn wsX3_addRoller (wsV RX3 40 RX3 yX3_shape wsX3_shape) := goodIn_app (goodIn_of _ (by decide +kernel)) ggX3_addRoller_X3_shape
set_option maxRecDepth 20000 in
theorem ggX3_addRoller_X3_raise : GoodIn wsX3_addRoller wsX3_raise := goodIn_r _ [24, 4, 5, 6, 7, 8, 9, 13, 14, 15, 16, 25] (by decide +kernel) (by decide +kernel)
set_option maxRecDepth 20000 in
theorem gX3_addRoller_X3_raise : GoodIn wsX3_addRoller (wsV RX3 44 RX3 yX3_raise wsX3_raise) := goodIn_app (goodIn_of _ (by decide +kernel)) ggX3_addRoller_X3_raise
theorem dX3_addRoller_0 : decode cX3_addRoller 0 = .ok (.iload_n 1, 1) := by decide +kernel
theorem dX3_addRoller_1 : decode cX3_addRoller 1 = .ok (.iconst 2, 1) := by decide +kernel
theorem dX3_addRoller_2 : decode cX3_addRoller 2 = .ok (.bipush 24, 2) := by decide +kernel
theorem dX3_addRoller_4 : decode cX3_addRoller 4 = .ok (.invokestatic 23, 3) := by decide +kernel
theorem dX3_addRoller_7 : decode cX3_addRoller 7 = .ok (.ifCond .ne 14, 3) := by decide +kernel
theorem dX3_addRoller_10 : decode cX3_addRoller 10 = .ok (.iload_n 2, 1) := by decide +kernel
theorem dX3_addRoller_11 : decode cX3_addRoller 11 = .ok (.bipush (-9), 2) := by decide +kernel
theorem dX3_addRoller_13 : decode cX3_addRoller 13 = .ok (.bipush 9, 2) := by decide +kernel
theorem dX3_addRoller_15 : decode cX3_addRoller 15 = .ok (.invokestatic 23, 3) := by decide +kernel
theorem dX3_addRoller_18 : decode cX3_addRoller 18 = .ok (.ifCond .eq 6, 3) := by decide +kernel
theorem dX3_addRoller_21 : decode cX3_addRoller 21 = .ok (.bipush (-2), 2) := by decide +kernel
theorem dX3_addRoller_23 : decode cX3_addRoller 23 = .ok (.ireturn, 1) := by decide +kernel
theorem dX3_addRoller_24 : decode cX3_addRoller 24 = .ok (.aload_n 0, 1) := by decide +kernel
theorem dX3_addRoller_25 : decode cX3_addRoller 25 = .ok (.iconst 0, 1) := by decide +kernel
theorem dX3_addRoller_26 : decode cX3_addRoller 26 = .ok (.invokevirtual 15, 3) := by decide +kernel
theorem dX3_addRoller_29 : decode cX3_addRoller 29 = .ok (.istore_n 3, 1) := by decide +kernel
theorem dX3_addRoller_30 : decode cX3_addRoller 30 = .ok (.iload_n 3, 1) := by decide +kernel
theorem dX3_addRoller_31 : decode cX3_addRoller 31 = .ok (.bipush 8, 2) := by decide +kernel
theorem dX3_addRoller_33 : decode cX3_addRoller 33 = .ok (.if_icmp .lt 6, 3) := by decide +kernel
theorem dX3_addRoller_36 : decode cX3_addRoller 36 = .ok (.bipush (-4), 2) := by decide +kernel
theorem dX3_addRoller_38 : decode cX3_addRoller 38 = .ok (.ireturn, 1) := by decide +kernel
theorem dX3_addRoller_39 : decode cX3_addRoller 39 = .ok (.aload_n 0, 1) := by decide +kernel
theorem dX3_addRoller_40 : decode cX3_addRoller 40 = .ok (.iload_n 3, 1) := by decide +kernel
theorem dX3_addRoller_41 : decode cX3_addRoller 41 = .ok (.invokestatic 37, 3) := by decide +kernel
theorem dX3_addRoller_44 : decode cX3_addRoller 44 = .ok (.iconst 0, 1) := by decide +kernel
theorem dX3_addRoller_45 : decode cX3_addRoller 45 = .ok (.iadd, 1) := by decide +kernel
theorem dX3_addRoller_46 : decode cX3_addRoller 46 = .ok (.iload_n 1, 1) := by decide +kernel
theorem dX3_addRoller_47 : decode cX3_addRoller 47 = .ok (.invokevirtual 19, 3) := by decide +kernel
theorem dX3_addRoller_50 : decode cX3_addRoller 50 = .ok (.aload_n 0, 1) := by decide +kernel
theorem dX3_addRoller_51 : decode cX3_addRoller 51 = .ok (.iload_n 3, 1) := by decide +kernel
theorem dX3_addRoller_52 : decode cX3_addRoller 52 = .ok (.invokestatic 37, 3) := by decide +kernel
theorem dX3_addRoller_55 : decode cX3_addRoller 55 = .ok (.iconst 1, 1) := by decide +kernel
theorem dX3_addRoller_56 : decode cX3_addRoller 56 = .ok (.iadd, 1) := by decide +kernel
theorem dX3_addRoller_57 : decode cX3_addRoller 57 = .ok (.iconst 0, 1) := by decide +kernel
theorem dX3_addRoller_58 : decode cX3_addRoller 58 = .ok (.invokevirtual 19, 3) := by decide +kernel
theorem dX3_addRoller_61 : decode cX3_addRoller 61 = .ok (.aload_n 0, 1) := by decide +kernel
theorem dX3_addRoller_62 : decode cX3_addRoller 62 = .ok (.iload_n 3, 1) := by decide +kernel
theorem dX3_addRoller_63 : decode cX3_addRoller 63 = .ok (.invokestatic 37, 3) := by decide +kernel
theorem dX3_addRoller_66 : decode cX3_addRoller 66 = .ok (.iconst 2, 1) := by decide +kernel
theorem dX3_addRoller_67 : decode cX3_addRoller 67 = .ok (.iadd, 1) := by decide +kernel
theorem dX3_addRoller_68 : decode cX3_addRoller 68 = .ok (.iconst 0, 1) := by decide +kernel
theorem dX3_addRoller_69 : decode cX3_addRoller 69 = .ok (.invokevirtual 19, 3) := by decide +kernel
theorem dX3_addRoller_72 : decode cX3_addRoller 72 = .ok (.iconst 0, 1) := by decide +kernel
theorem dX3_addRoller_73 : decode cX3_addRoller 73 = .ok (.istore 4, 2) := by decide +kernel
theorem dX3_addRoller_75 : decode cX3_addRoller 75 = .ok (.iload 4, 2) := by decide +kernel
theorem dX3_addRoller_77 : decode cX3_addRoller 77 = .ok (.iload_n 1, 1) := by decide +kernel
theorem dX3_addRoller_78 : decode cX3_addRoller 78 = .ok (.if_icmp .ge 17, 3) := by decide +kernel
theorem dX3_addRoller_81 : decode cX3_addRoller 81 = .ok (.aload_n 0, 1) := by decide +kernel
theorem dX3_addRoller_82 : decode cX3_addRoller 82 = .ok (.iload_n 3, 1) := by decide +kernel
theorem dX3_addRoller_83 : decode cX3_addRoller 83 = .ok (.iload 4, 2) := by decide +kernel
theorem dX3_addRoller_85 : decode cX3_addRoller 85 = .ok (.iload_n 2, 1) := by decide +kernel
theorem dX3_addRoller_86 : decode cX3_addRoller 86 = .ok (.invokevirtual 40, 3) := by decide +kernel
theorem dX3_addRoller_89 : decode cX3_addRoller 89 = .ok (.iinc 4 1, 3) := by decide +kernel
theorem dX3_addRoller_92 : decode cX3_addRoller 92 = .ok (.goto (-17), 3) := by decide +kernel
theorem dX3_addRoller_95 : decode cX3_addRoller 95 = .ok (.aload_n 0, 1) := by decide +kernel
theorem dX3_addRoller_96 : decode cX3_addRoller 96 = .ok (.iconst 0, 1) := by decide +kernel
theorem dX3_addRoller_97 : decode cX3_addRoller 97 = .ok (.iconst 1, 1) := by decide +kernel
theorem dX3_addRoller_98 : decode cX3_addRoller 98 = .ok (.invokevirtual 44, 3) := by decide +kernel
theorem dX3_addRoller_101 : decode cX3_addRoller 101 = .ok (.iload_n 3, 1) := by decide +kernel
theorem dX3_addRoller_102 : decode cX3_addRoller 102 = .ok (.ireturn, 1) := by decide +kernel
set_option maxRecDepth 20000 in
theorem ggX3_fileTooth_X3_hasTooth : GoodIn wsX3_fileTooth wsX3_hasTooth := goodIn_r _ [5, 6, 7, 8, 4, 9, 10, 11, 12, 13, 14, 15, 16, 17, 18, 19, 20, 21, 37] (by decide +kernel) (by decide +kernel)
set_option maxRecDepth 20000 in
theorem gX3_fileTooth_X3_hasTooth : GoodIn wsX3_fileTooth (wsV RX3 47 RX3 yX3_hasTooth wsX3_hasTooth) := goodIn_app (goodIn_of _ (by decide +kernel)) ggX3_fileTooth_X3_hasTooth
set_option maxRecDepth 20000 in
theorem ggX3_fileTooth_X6_outside : GoodIn wsX3_fileTooth wsX6_outside := goodIn_r _ [24] (by decide +kernel) (by decide +kernel)
set_option maxRecDepth 20000 in
theorem gX3_fileTooth_X6_outside_n23 : GoodIn wsX3_fileTooth (wsX6_outside) := ggX3_fileTooth_X6_outside
set_option maxRecDepth 20000 in
theorem ggX3_fileTooth_X3_height : GoodIn wsX3_fileTooth wsX3_height := goodIn_r _ [28, 19, 20, 4, 21, 10, 11, 12, 13, 14, 37] (by decide +kernel) (by decide +kernel)
set_option maxRecDepth 20000 in
theorem gX3_fileTooth_X3_height : GoodIn wsX3_fileTooth (wsV RX3 51 RX3 yX3_height wsX3_height) := goodIn_app (goodIn_of _ (by decide +kernel)) ggX3_fileTooth_X3_height
set_option maxRecDepth 20000 in
theorem ggX3_fileTooth_X3_shape : GoodIn wsX3_fileTooth wsX3_shape := goodIn_r _ [32, 19, 20, 4, 21, 33, 34, 35, 36, 14, 37] (by decide +kernel) (by decide +kernel)
set_option maxRecDepth 20000 in
theorem gX3_fileTooth_X3_shape : GoodIn wsX3_fileTooth (wsV RX3 40 RX3 yX3_shape wsX3_shape) := goodIn_app (goodIn_of _ (by decide +kernel)) ggX3_fileTooth_X3_shape
theorem dX3_fileTooth_0 : decode cX3_fileTooth 0 = .ok (.aload_n 0, 1) := by decide +kernel
theorem dX3_fileTooth_1 : decode cX3_fileTooth 1 = .ok (.iload_n 1, 1) := by decide +kernel
theorem dX3_fileTooth_2 : decode cX3_fileTooth 2 = .ok (.iload_n 2, 1) := by decide +kernel
theorem dX3_fileTooth_3 : decode cX3_fileTooth 3 = .ok (.invokevirtual 47, 3) := by decide +kernel
theorem dX3_fileTooth_6 : decode cX3_fileTooth 6 = .ok (.ifCond .ne 5, 3) := by decide +kernel
theorem dX3_fileTooth_9 : decode cX3_fileTooth 9 = .ok (.iconst (-1), 1) := by decide +kernel
theorem dX3_fileTooth_10 : decode cX3_fileTooth 10 = .ok (.ireturn, 1) := by decide +kernel
theorem dX3_fileTooth_11 : decode cX3_fileTooth 11 = .ok (.iload_n 3, 1) := by decide +kernel
theorem dX3_fileTooth_12 : decode cX3_fileTooth 12 = .ok (.bipush (-9), 2) := by decide +kernel
theorem dX3_fileTooth_14 : decode cX3_fileTooth 14 = .ok (.bipush 9, 2) := by decide +kernel
theorem dX3_fileTooth_16 : decode cX3_fileTooth 16 = .ok (.invokestatic 23, 3) := by decide +kernel
theorem dX3_fileTooth_19 : decode cX3_fileTooth 19 = .ok (.ifCond .eq 6, 3) := by decide +kernel
theorem dX3_fileTooth_22 : decode cX3_fileTooth 22 = .ok (.bipush (-2), 2) := by decide +kernel
theorem dX3_fileTooth_24 : decode cX3_fileTooth 24 = .ok (.ireturn, 1) := by decide +kernel
theorem dX3_fileTooth_25 : decode cX3_fileTooth 25 = .ok (.aload_n 0, 1) := by decide +kernel
theorem dX3_fileTooth_26 : decode cX3_fileTooth 26 = .ok (.iload_n 1, 1) := by decide +kernel
theorem dX3_fileTooth_27 : decode cX3_fileTooth 27 = .ok (.iload_n 2, 1) := by decide +kernel
theorem dX3_fileTooth_28 : decode cX3_fileTooth 28 = .ok (.invokevirtual 51, 3) := by decide +kernel
theorem dX3_fileTooth_31 : decode cX3_fileTooth 31 = .ok (.istore 4, 2) := by decide +kernel
theorem dX3_fileTooth_33 : decode cX3_fileTooth 33 = .ok (.aload_n 0, 1) := by decide +kernel
theorem dX3_fileTooth_34 : decode cX3_fileTooth 34 = .ok (.iload_n 1, 1) := by decide +kernel
theorem dX3_fileTooth_35 : decode cX3_fileTooth 35 = .ok (.iload_n 2, 1) := by decide +kernel
theorem dX3_fileTooth_36 : decode cX3_fileTooth 36 = .ok (.iload_n 3, 1) := by decide +kernel
theorem dX3_fileTooth_37 : decode cX3_fileTooth 37 = .ok (.invokevirtual 40, 3) := by decide +kernel
theorem dX3_fileTooth_40 : decode cX3_fileTooth 40 = .ok (.iload 4, 2) := by decide +kernel
theorem dX3_fileTooth_42 : decode cX3_fileTooth 42 = .ok (.bipush 9, 2) := by decide +kernel
theorem dX3_fileTooth_44 : decode cX3_fileTooth 44 = .ok (.iadd, 1) := by decide +kernel
theorem dX3_fileTooth_45 : decode cX3_fileTooth 45 = .ok (.ireturn, 1) := by decide +kernel
set_option maxRecDepth 20000 in
theorem ggX3_meltRoller_X3_has : GoodIn wsX3_meltRoller wsX3_has := goodIn_r _ [5, 6, 7, 8, 4, 9, 10, 18] (by decide +kernel) (by decide +kernel)
set_option maxRecDepth 20000 in
theorem gX3_meltRoller_X3_has : GoodIn wsX3_meltRoller (wsV RX3 30 RX3 yX3_has wsX3_has) := goodIn_app (goodIn_of _ (by decide +kernel)) ggX3_meltRoller_X3_has
set_option maxRecDepth 20000 in
theorem ggX3_meltRoller_X3_cell : GoodIn wsX3_meltRoller wsX3_cell := goodIn_r _ [9, 10, 18] (by decide +kernel) (by decide +kernel)
set_option maxRecDepth 20000 in
theorem gX3_meltRoller_X3_cell : GoodIn wsX3_meltRoller (wsV RX3 15 RX3 yX3_cell wsX3_cell) := goodIn_app (goodIn_of _ (by decide +kernel)) ggX3_meltRoller_X3_cell
set_option maxRecDepth 20000 in
theorem ggX3_meltRoller_X3_placeOf : GoodIn wsX3_meltRoller wsX3_placeOf := goodIn_r _ [13] (by decide +kernel) (by decide +kernel)
set_option maxRecDepth 20000 in
theorem gX3_meltRoller_X3_placeOf : GoodIn wsX3_meltRoller (va_wsS RX3 37 yX3_placeOf wsX3_placeOf) := goodIn_app (goodIn_of _ (by decide +kernel)) ggX3_meltRoller_X3_placeOf
set_option maxRecDepth 20000 in
theorem ggX3_meltRoller_X3_change : GoodIn wsX3_meltRoller wsX3_change := goodIn_r _ [17, 10, 18] (by decide +kernel) (by decide +kernel)
set_option maxRecDepth 20000 in
theorem gX3_meltRoller_X3_change : GoodIn wsX3_meltRoller (wsV RX3 19 RX3 yX3_change wsX3_change) := goodIn_app (goodIn_of _ (by decide +kernel)) ggX3_meltRoller_X3_change
theorem dX3_meltRoller_0 : decode cX3_meltRoller 0 = .ok (.aload_n 0, 1) := by decide +kernel
theorem dX3_meltRoller_1 : decode cX3_meltRoller 1 = .ok (.iload_n 1, 1) := by decide +kernel
theorem dX3_meltRoller_2 : decode cX3_meltRoller 2 = .ok (.invokevirtual 30, 3) := by decide +kernel
theorem dX3_meltRoller_5 : decode cX3_meltRoller 5 = .ok (.ifCond .ne 5, 3) := by decide +kernel
theorem dX3_meltRoller_8 : decode cX3_meltRoller 8 = .ok (.iconst (-1), 1) := by decide +kernel
theorem dX3_meltRoller_9 : decode cX3_meltRoller 9 = .ok (.ireturn, 1) := by decide +kernel
theorem dX3_meltRoller_10 : decode cX3_meltRoller 10 = .ok (.aload_n 0, 1) := by decide +kernel
theorem dX3_meltRoller_11 : decode cX3_meltRoller 11 = .ok (.iconst 0, 1) := by decide +kernel
theorem dX3_meltRoller_12 : decode cX3_meltRoller 12 = .ok (.invokevirtual 15, 3) := by decide +kernel
theorem dX3_meltRoller_15 : decode cX3_meltRoller 15 = .ok (.iconst 1, 1) := by decide +kernel
theorem dX3_meltRoller_16 : decode cX3_meltRoller 16 = .ok (.isub, 1) := by decide +kernel
theorem dX3_meltRoller_17 : decode cX3_meltRoller 17 = .ok (.istore_n 2, 1) := by decide +kernel
theorem dX3_meltRoller_18 : decode cX3_meltRoller 18 = .ok (.iload_n 1, 1) := by decide +kernel
theorem dX3_meltRoller_19 : decode cX3_meltRoller 19 = .ok (.invokestatic 37, 3) := by decide +kernel
theorem dX3_meltRoller_22 : decode cX3_meltRoller 22 = .ok (.istore_n 3, 1) := by decide +kernel
theorem dX3_meltRoller_23 : decode cX3_meltRoller 23 = .ok (.iload_n 3, 1) := by decide +kernel
theorem dX3_meltRoller_24 : decode cX3_meltRoller 24 = .ok (.iload_n 2, 1) := by decide +kernel
theorem dX3_meltRoller_25 : decode cX3_meltRoller 25 = .ok (.invokestatic 37, 3) := by decide +kernel
theorem dX3_meltRoller_28 : decode cX3_meltRoller 28 = .ok (.if_icmp .ge 22, 3) := by decide +kernel
theorem dX3_meltRoller_31 : decode cX3_meltRoller 31 = .ok (.aload_n 0, 1) := by decide +kernel
theorem dX3_meltRoller_32 : decode cX3_meltRoller 32 = .ok (.iload_n 3, 1) := by decide +kernel
theorem dX3_meltRoller_33 : decode cX3_meltRoller 33 = .ok (.aload_n 0, 1) := by decide +kernel
theorem dX3_meltRoller_34 : decode cX3_meltRoller 34 = .ok (.iload_n 3, 1) := by decide +kernel
theorem dX3_meltRoller_35 : decode cX3_meltRoller 35 = .ok (.bipush 27, 2) := by decide +kernel
theorem dX3_meltRoller_37 : decode cX3_meltRoller 37 = .ok (.iadd, 1) := by decide +kernel
theorem dX3_meltRoller_38 : decode cX3_meltRoller 38 = .ok (.invokevirtual 15, 3) := by decide +kernel
theorem dX3_meltRoller_41 : decode cX3_meltRoller 41 = .ok (.invokevirtual 19, 3) := by decide +kernel
theorem dX3_meltRoller_44 : decode cX3_meltRoller 44 = .ok (.iinc 3 1, 3) := by decide +kernel
theorem dX3_meltRoller_47 : decode cX3_meltRoller 47 = .ok (.goto (-24), 3) := by decide +kernel
theorem dX3_meltRoller_50 : decode cX3_meltRoller 50 = .ok (.aload_n 0, 1) := by decide +kernel
theorem dX3_meltRoller_51 : decode cX3_meltRoller 51 = .ok (.iconst 0, 1) := by decide +kernel
theorem dX3_meltRoller_52 : decode cX3_meltRoller 52 = .ok (.iload_n 2, 1) := by decide +kernel
theorem dX3_meltRoller_53 : decode cX3_meltRoller 53 = .ok (.invokevirtual 19, 3) := by decide +kernel
theorem dX3_meltRoller_56 : decode cX3_meltRoller 56 = .ok (.iload_n 2, 1) := by decide +kernel
theorem dX3_meltRoller_57 : decode cX3_meltRoller 57 = .ok (.ireturn, 1) := by decide +kernel
set_option maxRecDepth 20000 in
theorem ggX3_teethOfSign_X3_teeth : GoodIn wsX3_teethOfSign wsX3_teeth := goodIn_r _ [5, 6, 7, 4, 8, 9, 10, 11, 12, 13, 18] (by decide +kernel) (by decide +kernel)
set_option maxRecDepth 20000 in
theorem gX3_teethOfSign_X3_teeth : GoodIn wsX3_teethOfSign (wsV RX3 34 RX3 yX3_teeth wsX3_teeth) := goodIn_app (goodIn_of _ (by decide +kernel)) ggX3_teethOfSign_X3_teeth
set_option maxRecDepth 20000 in
theorem ggX3_teethOfSign_X3_height : GoodIn wsX3_teethOfSign wsX3_height := goodIn_r _ [17, 6, 7, 4, 8, 9, 10, 11, 12, 13, 18] (by decide +kernel) (by decide +kernel)
set_option maxRecDepth 20000 in
theorem gX3_teethOfSign_X3_height : GoodIn wsX3_teethOfSign (wsV RX3 51 RX3 yX3_height wsX3_height) := goodIn_app (goodIn_of _ (by decide +kernel)) ggX3_teethOfSign_X3_height
theorem dX3_teethOfSign_0 : decode cX3_teethOfSign 0 = .ok (.iconst 0, 1) := by decide +kernel
theorem dX3_teethOfSign_1 : decode cX3_teethOfSign 1 = .ok (.istore_n 3, 1) := by decide +kernel
theorem dX3_teethOfSign_2 : decode cX3_teethOfSign 2 = .ok (.iconst 0, 1) := by decide +kernel
theorem dX3_teethOfSign_3 : decode cX3_teethOfSign 3 = .ok (.istore 4, 2) := by decide +kernel
theorem dX3_teethOfSign_5 : decode cX3_teethOfSign 5 = .ok (.iload 4, 2) := by decide +kernel
theorem dX3_teethOfSign_7 : decode cX3_teethOfSign 7 = .ok (.aload_n 0, 1) := by decide +kernel
theorem dX3_teethOfSign_8 : decode cX3_teethOfSign 8 = .ok (.iload_n 1, 1) := by decide +kernel
theorem dX3_teethOfSign_9 : decode cX3_teethOfSign 9 = .ok (.invokevirtual 34, 3) := by decide +kernel
theorem dX3_teethOfSign_12 : decode cX3_teethOfSign 12 = .ok (.if_icmp .ge 28, 3) := by decide +kernel
theorem dX3_teethOfSign_15 : decode cX3_teethOfSign 15 = .ok (.aload_n 0, 1) := by decide +kernel
theorem dX3_teethOfSign_16 : decode cX3_teethOfSign 16 = .ok (.iload_n 1, 1) := by decide +kernel
theorem dX3_teethOfSign_17 : decode cX3_teethOfSign 17 = .ok (.iload 4, 2) := by decide +kernel
theorem dX3_teethOfSign_19 : decode cX3_teethOfSign 19 = .ok (.invokevirtual 51, 3) := by decide +kernel
theorem dX3_teethOfSign_22 : decode cX3_teethOfSign 22 = .ok (.iload_n 2, 1) := by decide +kernel
theorem dX3_teethOfSign_23 : decode cX3_teethOfSign 23 = .ok (.imul, 1) := by decide +kernel
theorem dX3_teethOfSign_24 : decode cX3_teethOfSign 24 = .ok (.ifCond .le 10, 3) := by decide +kernel
theorem dX3_teethOfSign_27 : decode cX3_teethOfSign 27 = .ok (.iload_n 3, 1) := by decide +kernel
theorem dX3_teethOfSign_28 : decode cX3_teethOfSign 28 = .ok (.iconst 1, 1) := by decide +kernel
theorem dX3_teethOfSign_29 : decode cX3_teethOfSign 29 = .ok (.iload 4, 2) := by decide +kernel
theorem dX3_teethOfSign_31 : decode cX3_teethOfSign 31 = .ok (.ishl, 1) := by decide +kernel
theorem dX3_teethOfSign_32 : decode cX3_teethOfSign 32 = .ok (.ior, 1) := by decide +kernel
theorem dX3_teethOfSign_33 : decode cX3_teethOfSign 33 = .ok (.istore_n 3, 1) := by decide +kernel
theorem dX3_teethOfSign_34 : decode cX3_teethOfSign 34 = .ok (.iinc 4 1, 3) := by decide +kernel
theorem dX3_teethOfSign_37 : decode cX3_teethOfSign 37 = .ok (.goto (-32), 3) := by decide +kernel
theorem dX3_teethOfSign_40 : decode cX3_teethOfSign 40 = .ok (.iload_n 3, 1) := by decide +kernel
theorem dX3_teethOfSign_41 : decode cX3_teethOfSign 41 = .ok (.ireturn, 1) := by decide +kernel
set_option maxRecDepth 20000 in
theorem ggX3_greatestHeight_X3_height : GoodIn wsX3_greatestHeight wsX3_height := goodIn_r _ [9, 10, 11, 8, 12, 13, 14, 15, 16, 17, 22] (by decide +kernel) (by decide +kernel)
set_option maxRecDepth 20000 in
theorem gX3_greatestHeight_X3_height : GoodIn wsX3_greatestHeight (wsV RX3 51 RX3 yX3_height wsX3_height) := goodIn_app (goodIn_of _ (by decide +kernel)) ggX3_greatestHeight_X3_height
set_option maxRecDepth 20000 in
theorem ggX3_greatestHeight_X3_teeth : GoodIn wsX3_greatestHeight wsX3_teeth := goodIn_r _ [21, 10, 11, 8, 12, 13, 14, 15, 16, 17, 22] (by decide +kernel) (by decide +kernel)
set_option maxRecDepth 20000 in
theorem gX3_greatestHeight_X3_teeth : GoodIn wsX3_greatestHeight (wsV RX3 34 RX3 yX3_teeth wsX3_teeth) := goodIn_app (goodIn_of _ (by decide +kernel)) ggX3_greatestHeight_X3_teeth
theorem dX3_greatestHeight_0 : decode cX3_greatestHeight 0 = .ok (.aload_n 0, 1) := by decide +kernel
theorem dX3_greatestHeight_1 : decode cX3_greatestHeight 1 = .ok (.iload_n 1, 1) := by decide +kernel
theorem dX3_greatestHeight_2 : decode cX3_greatestHeight 2 = .ok (.iconst 0, 1) := by decide +kernel
theorem dX3_greatestHeight_3 : decode cX3_greatestHeight 3 = .ok (.invokevirtual 51, 3) := by decide +kernel
theorem dX3_greatestHeight_6 : decode cX3_greatestHeight 6 = .ok (.istore_n 2, 1) := by decide +kernel
theorem dX3_greatestHeight_7 : decode cX3_greatestHeight 7 = .ok (.iconst 1, 1) := by decide +kernel
theorem dX3_greatestHeight_8 : decode cX3_greatestHeight 8 = .ok (.istore_n 3, 1) := by decide +kernel
theorem dX3_greatestHeight_9 : decode cX3_greatestHeight 9 = .ok (.iload_n 3, 1) := by decide +kernel
theorem dX3_greatestHeight_10 : decode cX3_greatestHeight 10 = .ok (.aload_n 0, 1) := by decide +kernel
theorem dX3_greatestHeight_11 : decode cX3_greatestHeight 11 = .ok (.iload_n 1, 1) := by decide +kernel
theorem dX3_greatestHeight_12 : decode cX3_greatestHeight 12 = .ok (.invokevirtual 34, 3) := by decide +kernel
theorem dX3_greatestHeight_15 : decode cX3_greatestHeight 15 = .ok (.if_icmp .ge 20, 3) := by decide +kernel
theorem dX3_greatestHeight_18 : decode cX3_greatestHeight 18 = .ok (.iload_n 2, 1) := by decide +kernel
theorem dX3_greatestHeight_19 : decode cX3_greatestHeight 19 = .ok (.aload_n 0, 1) := by decide +kernel
theorem dX3_greatestHeight_20 : decode cX3_greatestHeight 20 = .ok (.iload_n 1, 1) := by decide +kernel
theorem dX3_greatestHeight_21 : decode cX3_greatestHeight 21 = .ok (.iload_n 3, 1) := by decide +kernel
theorem dX3_greatestHeight_22 : decode cX3_greatestHeight 22 = .ok (.invokevirtual 51, 3) := by decide +kernel
theorem dX3_greatestHeight_25 : decode cX3_greatestHeight 25 = .ok (.invokestatic 55, 3) := by decide +kernel
theorem dX3_greatestHeight_28 : decode cX3_greatestHeight 28 = .ok (.istore_n 2, 1) := by decide +kernel
theorem dX3_greatestHeight_29 : decode cX3_greatestHeight 29 = .ok (.iinc 3 1, 3) := by decide +kernel
theorem dX3_greatestHeight_32 : decode cX3_greatestHeight 32 = .ok (.goto (-23), 3) := by decide +kernel
theorem dX3_greatestHeight_35 : decode cX3_greatestHeight 35 = .ok (.iload_n 2, 1) := by decide +kernel
theorem dX3_greatestHeight_36 : decode cX3_greatestHeight 36 = .ok (.ireturn, 1) := by decide +kernel
set_option maxRecDepth 20000 in
theorem ggX3_leastHeight_X3_height : GoodIn wsX3_leastHeight wsX3_height := goodIn_r _ [9, 10, 11, 8, 12, 13, 14, 15, 16, 17, 22] (by decide +kernel) (by decide +kernel)
set_option maxRecDepth 20000 in
theorem gX3_leastHeight_X3_height : GoodIn wsX3_leastHeight (wsV RX3 51 RX3 yX3_height wsX3_height) := goodIn_app (goodIn_of _ (by decide +kernel)) ggX3_leastHeight_X3_height
set_option maxRecDepth 20000 in
theorem ggX3_leastHeight_X3_teeth : GoodIn wsX3_leastHeight wsX3_teeth := goodIn_r _ [21, 10, 11, 8, 12, 13, 14, 15, 16, 17, 22] (by decide +kernel) (by decide +kernel)
set_option maxRecDepth 20000 in
theorem gX3_leastHeight_X3_teeth : GoodIn wsX3_leastHeight (wsV RX3 34 RX3 yX3_teeth wsX3_teeth) := goodIn_app (goodIn_of _ (by decide +kernel)) ggX3_leastHeight_X3_teeth
theorem dX3_leastHeight_0 : decode cX3_leastHeight 0 = .ok (.aload_n 0, 1) := by decide +kernel
theorem dX3_leastHeight_1 : decode cX3_leastHeight 1 = .ok (.iload_n 1, 1) := by decide +kernel
theorem dX3_leastHeight_2 : decode cX3_leastHeight 2 = .ok (.iconst 0, 1) := by decide +kernel
theorem dX3_leastHeight_3 : decode cX3_leastHeight 3 = .ok (.invokevirtual 51, 3) := by decide +kernel
theorem dX3_leastHeight_6 : decode cX3_leastHeight 6 = .ok (.istore_n 2, 1) := by decide +kernel
theorem dX3_leastHeight_7 : decode cX3_leastHeight 7 = .ok (.iconst 1, 1) := by decide +kernel
theorem dX3_leastHeight_8 : decode cX3_leastHeight 8 = .ok (.istore_n 3, 1) := by decide +kernel
theorem dX3_leastHeight_9 : decode cX3_leastHeight 9 = .ok (.iload_n 3, 1) := by decide +kernel
theorem dX3_leastHeight_10 : decode cX3_leastHeight 10 = .ok (.aload_n 0, 1) := by decide +kernel
theorem dX3_leastHeight_11 : decode cX3_leastHeight 11 = .ok (.iload_n 1, 1) := by decide +kernel
theorem dX3_leastHeight_12 : decode cX3_leastHeight 12 = .ok (.invokevirtual 34, 3) := by decide +kernel
theorem dX3_leastHeight_15 : decode cX3_leastHeight 15 = .ok (.if_icmp .ge 20, 3) := by decide +kernel
theorem dX3_leastHeight_18 : decode cX3_leastHeight 18 = .ok (.iload_n 2, 1) := by decide +kernel
theorem dX3_leastHeight_19 : decode cX3_leastHeight 19 = .ok (.aload_n 0, 1) := by decide +kernel
theorem dX3_leastHeight_20 : decode cX3_leastHeight 20 = .ok (.iload_n 1, 1) := by decide +kernel
theorem dX3_leastHeight_21 : decode cX3_leastHeight 21 = .ok (.iload_n 3, 1) := by decide +kernel
theorem dX3_leastHeight_22 : decode cX3_leastHeight 22 = .ok (.invokevirtual 51, 3) := by decide +kernel
theorem dX3_leastHeight_25 : decode cX3_leastHeight 25 = .ok (.invokestatic 60, 3) := by decide +kernel
theorem dX3_leastHeight_28 : decode cX3_leastHeight 28 = .ok (.istore_n 2, 1) := by decide +kernel
theorem dX3_leastHeight_29 : decode cX3_leastHeight 29 = .ok (.iinc 3 1, 3) := by decide +kernel
theorem dX3_leastHeight_32 : decode cX3_leastHeight 32 = .ok (.goto (-23), 3) := by decide +kernel
theorem dX3_leastHeight_35 : decode cX3_leastHeight 35 = .ok (.iload_n 2, 1) := by decide +kernel
theorem dX3_leastHeight_36 : decode cX3_leastHeight 36 = .ok (.ireturn, 1) := by decide +kernel
set_option maxRecDepth 20000 in
theorem ggX3_countRun_X3_raise : GoodIn wsX3_countRun wsX3_raise := goodIn_r _ [5, 6, 7, 8, 4, 9, 10, 11, 12, 13, 14, 15] (by decide +kernel) (by decide +kernel)
set_option maxRecDepth 20000 in
theorem gX3_countRun_X3_raise : GoodIn wsX3_countRun (wsV RX3 44 RX3 yX3_raise wsX3_raise) := goodIn_app (goodIn_of _ (by decide +kernel)) ggX3_countRun_X3_raise
theorem dX3_countRun_0 : decode cX3_countRun 0 = .ok (.aload_n 0, 1) := by decide +kernel
theorem dX3_countRun_1 : decode cX3_countRun 1 = .ok (.iconst 3, 1) := by decide +kernel
theorem dX3_countRun_2 : decode cX3_countRun 2 = .ok (.iload_n 1, 1) := by decide +kernel
theorem dX3_countRun_3 : decode cX3_countRun 3 = .ok (.invokevirtual 44, 3) := by decide +kernel
theorem dX3_countRun_6 : decode cX3_countRun 6 = .ok (.aload_n 0, 1) := by decide +kernel
theorem dX3_countRun_7 : decode cX3_countRun 7 = .ok (.iconst 4, 1) := by decide +kernel
theorem dX3_countRun_8 : decode cX3_countRun 8 = .ok (.iload_n 2, 1) := by decide +kernel
theorem dX3_countRun_9 : decode cX3_countRun 9 = .ok (.invokevirtual 44, 3) := by decide +kernel
theorem dX3_countRun_12 : decode cX3_countRun 12 = .ok (.aload_n 0, 1) := by decide +kernel
theorem dX3_countRun_13 : decode cX3_countRun 13 = .ok (.iconst 5, 1) := by decide +kernel
theorem dX3_countRun_14 : decode cX3_countRun 14 = .ok (.iload_n 3, 1) := by decide +kernel
theorem dX3_countRun_15 : decode cX3_countRun 15 = .ok (.invokevirtual 44, 3) := by decide +kernel
theorem dX3_countRun_18 : decode cX3_countRun 18 = .ok (.return_, 1) := by decide +kernel
set_option maxRecDepth 20000 in
theorem ggX3_turnRoller_X3_placeOf : GoodIn wsX3_turnRoller wsX3_placeOf := goodIn_r _ [4] (by decide +kernel) (by decide +kernel)
set_option maxRecDepth 20000 in
theorem gX3_turnRoller_X3_placeOf : GoodIn wsX3_turnRoller (va_wsS RX3 37 yX3_placeOf wsX3_placeOf) := goodIn_app (goodIn_of _ (by decide +kernel)) ggX3_turnRoller_X3_placeOf
set_option maxRecDepth 20000 in
theorem ggX3_turnRoller_X3_raise : GoodIn wsX3_turnRoller wsX3_raise := goodIn_r _ [8, 9, 10, 11, 3, 12, 13, 14, 15, 16, 17, 42] (by decide +kernel) (by decide +kernel)
set_option maxRecDepth 20000 in
theorem gX3_turnRoller_X3_raise : GoodIn wsX3_turnRoller (wsV RX3 44 RX3 yX3_raise wsX3_raise) := goodIn_app (goodIn_of _ (by decide +kernel)) ggX3_turnRoller_X3_raise
set_option maxRecDepth 20000 in
theorem ggX3_turnRoller_X3_stepsSinceWorn : GoodIn wsX3_turnRoller wsX3_stepsSinceWorn := goodIn_r _ [21, 1, 2, 3, 4, 9, 10, 11, 12, 13, 42] (by decide +kernel) (by decide +kernel)
set_option maxRecDepth 20000 in
theorem gX3_turnRoller_X3_stepsSinceWorn : GoodIn wsX3_turnRoller (wsV RX3 63 RX3 yX3_stepsSinceWorn wsX3_stepsSinceWorn) := goodIn_app (goodIn_of _ (by decide +kernel)) ggX3_turnRoller_X3_stepsSinceWorn
set_option maxRecDepth 20000 in
theorem ggX3_turnRoller_X3_setting : GoodIn wsX3_turnRoller wsX3_setting := goodIn_r _ [25, 9, 10, 11, 3, 12, 13, 42] (by decide +kernel) (by decide +kernel)
set_option maxRecDepth 20000 in
theorem gX3_turnRoller_X3_setting : GoodIn wsX3_turnRoller (wsV RX3 27 RX3 yX3_setting wsX3_setting) := goodIn_app (goodIn_of _ (by decide +kernel)) ggX3_turnRoller_X3_setting
set_option maxRecDepth 20000 in
theorem ggX3_turnRoller_X3_teeth : GoodIn wsX3_turnRoller wsX3_teeth := goodIn_r _ [29, 1, 2, 3, 4, 9, 10, 11, 12, 13, 42] (by decide +kernel) (by decide +kernel)
set_option maxRecDepth 20000 in
theorem gX3_turnRoller_X3_teeth : GoodIn wsX3_turnRoller (wsV RX3 34 RX3 yX3_teeth wsX3_teeth) := goodIn_app (goodIn_of _ (by decide +kernel)) ggX3_turnRoller_X3_teeth
set_option maxRecDepth 20000 in
theorem ggX3_turnRoller_X3_wearDown : GoodIn wsX3_turnRoller wsX3_wearDown := goodIn_r _ [33, 26, 27, 28, 3, 29, 1, 2, 4, 9, 10, 11, 12, 13, 34, 35, 36, 37, 38, 39, 40, 41, 14, 15, 16, 17, 5, 6, 7, 8, 42] (by decide +kernel) (by decide +kernel)
set_option maxRecDepth 20000 in
theorem gX3_turnRoller_X3_wearDown : GoodIn wsX3_turnRoller (wsV RX3 66 RX3 yX3_wearDown wsX3_wearDown) := goodIn_app (goodIn_of _ (by decide +kernel)) ggX3_turnRoller_X3_wearDown
theorem dX3_turnRoller_0 : decode cX3_turnRoller 0 = .ok (.aload_n 0, 1) := by decide +kernel
theorem dX3_turnRoller_1 : decode cX3_turnRoller 1 = .ok (.iload_n 1, 1) := by decide +kernel
theorem dX3_turnRoller_2 : decode cX3_turnRoller 2 = .ok (.invokestatic 37, 3) := by decide +kernel
theorem dX3_turnRoller_5 : decode cX3_turnRoller 5 = .ok (.iconst 1, 1) := by decide +kernel
theorem dX3_turnRoller_6 : decode cX3_turnRoller 6 = .ok (.iadd, 1) := by decide +kernel
theorem dX3_turnRoller_7 : decode cX3_turnRoller 7 = .ok (.iload_n 2, 1) := by decide +kernel
theorem dX3_turnRoller_8 : decode cX3_turnRoller 8 = .ok (.invokevirtual 44, 3) := by decide +kernel
theorem dX3_turnRoller_11 : decode cX3_turnRoller 11 = .ok (.aload_n 0, 1) := by decide +kernel
theorem dX3_turnRoller_12 : decode cX3_turnRoller 12 = .ok (.iload_n 1, 1) := by decide +kernel
theorem dX3_turnRoller_13 : decode cX3_turnRoller 13 = .ok (.invokevirtual 63, 3) := by decide +kernel
theorem dX3_turnRoller_16 : decode cX3_turnRoller 16 = .ok (.aload_n 0, 1) := by decide +kernel
theorem dX3_turnRoller_17 : decode cX3_turnRoller 17 = .ok (.iconst 2, 1) := by decide +kernel
theorem dX3_turnRoller_18 : decode cX3_turnRoller 18 = .ok (.invokevirtual 27, 3) := by decide +kernel
theorem dX3_turnRoller_21 : decode cX3_turnRoller 21 = .ok (.aload_n 0, 1) := by decide +kernel
theorem dX3_turnRoller_22 : decode cX3_turnRoller 22 = .ok (.iload_n 1, 1) := by decide +kernel
theorem dX3_turnRoller_23 : decode cX3_turnRoller 23 = .ok (.invokevirtual 34, 3) := by decide +kernel
theorem dX3_turnRoller_26 : decode cX3_turnRoller 26 = .ok (.imul, 1) := by decide +kernel
theorem dX3_turnRoller_27 : decode cX3_turnRoller 27 = .ok (.if_icmp .lt 8, 3) := by decide +kernel
theorem dX3_turnRoller_30 : decode cX3_turnRoller 30 = .ok (.aload_n 0, 1) := by decide +kernel
theorem dX3_turnRoller_31 : decode cX3_turnRoller 31 = .ok (.iload_n 1, 1) := by decide +kernel
theorem dX3_turnRoller_32 : decode cX3_turnRoller 32 = .ok (.invokevirtual 66, 3) := by decide +kernel
theorem dX3_turnRoller_35 : decode cX3_turnRoller 35 = .ok (.return_, 1) := by decide +kernel
set_option maxRecDepth 20000 in
theorem ggX3_wearDown_X3_teeth : GoodIn wsX3_wearDown wsX3_teeth := goodIn_r _ [5, 6, 7, 4, 8, 9, 10, 11, 12, 13, 30] (by decide +kernel) (by decide +kernel)
set_option maxRecDepth 20000 in
theorem gX3_wearDown_X3_teeth : GoodIn wsX3_wearDown (wsV RX3 34 RX3 yX3_teeth wsX3_teeth) := goodIn_app (goodIn_of _ (by decide +kernel)) ggX3_wearDown_X3_teeth
set_option maxRecDepth 20000 in
theorem ggX3_wearDown_X3_height : GoodIn wsX3_wearDown wsX3_height := goodIn_r _ [17, 6, 7, 4, 8, 9, 10, 11, 12, 13, 30] (by decide +kernel) (by decide +kernel)
set_option maxRecDepth 20000 in
theorem gX3_wearDown_X3_height : GoodIn wsX3_wearDown (wsV RX3 51 RX3 yX3_height wsX3_height) := goodIn_app (goodIn_of _ (by decide +kernel)) ggX3_wearDown_X3_height
set_option maxRecDepth 20000 in
theorem ggX3_wearDown_X3_shape : GoodIn wsX3_wearDown wsX3_shape := goodIn_r _ [21, 6, 7, 4, 8, 22, 23, 24, 25, 13, 30] (by decide +kernel) (by decide +kernel)
set_option maxRecDepth 20000 in
theorem gX3_wearDown_X3_shape : GoodIn wsX3_wearDown (wsV RX3 40 RX3 yX3_shape wsX3_shape) := goodIn_app (goodIn_of _ (by decide +kernel)) ggX3_wearDown_X3_shape
set_option maxRecDepth 20000 in
theorem ggX3_wearDown_X3_placeOf : GoodIn wsX3_wearDown wsX3_placeOf := goodIn_r _ [8] (by decide +kernel) (by decide +kernel)
set_option maxRecDepth 20000 in
theorem gX3_wearDown_X3_placeOf : GoodIn wsX3_wearDown (va_wsS RX3 37 yX3_placeOf wsX3_placeOf) := goodIn_app (goodIn_of _ (by decide +kernel)) ggX3_wearDown_X3_placeOf
set_option maxRecDepth 20000 in
theorem ggX3_wearDown_X3_change : GoodIn wsX3_wearDown wsX3_change := goodIn_r _ [25, 13, 30] (by decide +kernel) (by decide +kernel)
set_option maxRecDepth 20000 in
theorem gX3_wearDown_X3_change : GoodIn wsX3_wearDown (wsV RX3 19 RX3 yX3_change wsX3_change) := goodIn_app (goodIn_of _ (by decide +kernel)) ggX3_wearDown_X3_change
set_option maxRecDepth 20000 in
theorem ggX3_wearDown_X3_raise : GoodIn wsX3_wearDown wsX3_raise := goodIn_r _ [29, 9, 10, 11, 4, 12, 13, 22, 23, 24, 25, 30] (by decide +kernel) (by decide +kernel)
set_option maxRecDepth 20000 in
theorem gX3_wearDown_X3_raise : GoodIn wsX3_wearDown (wsV RX3 44 RX3 yX3_raise wsX3_raise) := goodIn_app (goodIn_of _ (by decide +kernel)) ggX3_wearDown_X3_raise
theorem dX3_wearDown_0 : decode cX3_wearDown 0 = .ok (.aload_n 0, 1) := by decide +kernel
theorem dX3_wearDown_1 : decode cX3_wearDown 1 = .ok (.iload_n 1, 1) := by decide +kernel
theorem dX3_wearDown_2 : decode cX3_wearDown 2 = .ok (.invokevirtual 34, 3) := by decide +kernel
theorem dX3_wearDown_5 : decode cX3_wearDown 5 = .ok (.istore_n 2, 1) := by decide +kernel
theorem dX3_wearDown_6 : decode cX3_wearDown 6 = .ok (.iconst 0, 1) := by decide +kernel
theorem dX3_wearDown_7 : decode cX3_wearDown 7 = .ok (.istore_n 3, 1) := by decide +kernel
theorem dX3_wearDown_8 : decode cX3_wearDown 8 = .ok (.iload_n 3, 1) := by decide +kernel
theorem dX3_wearDown_9 : decode cX3_wearDown 9 = .ok (.iload_n 2, 1) := by decide +kernel
theorem dX3_wearDown_10 : decode cX3_wearDown 10 = .ok (.if_icmp .ge 32, 3) := by decide +kernel
theorem dX3_wearDown_13 : decode cX3_wearDown 13 = .ok (.aload_n 0, 1) := by decide +kernel
theorem dX3_wearDown_14 : decode cX3_wearDown 14 = .ok (.iload_n 1, 1) := by decide +kernel
theorem dX3_wearDown_15 : decode cX3_wearDown 15 = .ok (.iload_n 3, 1) := by decide +kernel
theorem dX3_wearDown_16 : decode cX3_wearDown 16 = .ok (.invokevirtual 51, 3) := by decide +kernel
theorem dX3_wearDown_19 : decode cX3_wearDown 19 = .ok (.istore 4, 2) := by decide +kernel
theorem dX3_wearDown_21 : decode cX3_wearDown 21 = .ok (.iload 4, 2) := by decide +kernel
theorem dX3_wearDown_23 : decode cX3_wearDown 23 = .ok (.ifCond .le 13, 3) := by decide +kernel
theorem dX3_wearDown_26 : decode cX3_wearDown 26 = .ok (.aload_n 0, 1) := by decide +kernel
theorem dX3_wearDown_27 : decode cX3_wearDown 27 = .ok (.iload_n 1, 1) := by decide +kernel
theorem dX3_wearDown_28 : decode cX3_wearDown 28 = .ok (.iload_n 3, 1) := by decide +kernel
theorem dX3_wearDown_29 : decode cX3_wearDown 29 = .ok (.iload 4, 2) := by decide +kernel
theorem dX3_wearDown_31 : decode cX3_wearDown 31 = .ok (.iconst 1, 1) := by decide +kernel
theorem dX3_wearDown_32 : decode cX3_wearDown 32 = .ok (.isub, 1) := by decide +kernel
theorem dX3_wearDown_33 : decode cX3_wearDown 33 = .ok (.invokevirtual 40, 3) := by decide +kernel
theorem dX3_wearDown_36 : decode cX3_wearDown 36 = .ok (.iinc 3 1, 3) := by decide +kernel
theorem dX3_wearDown_39 : decode cX3_wearDown 39 = .ok (.goto (-31), 3) := by decide +kernel
theorem dX3_wearDown_42 : decode cX3_wearDown 42 = .ok (.aload_n 0, 1) := by decide +kernel
theorem dX3_wearDown_43 : decode cX3_wearDown 43 = .ok (.iload_n 1, 1) := by decide +kernel
theorem dX3_wearDown_44 : decode cX3_wearDown 44 = .ok (.invokestatic 37, 3) := by decide +kernel
theorem dX3_wearDown_47 : decode cX3_wearDown 47 = .ok (.iconst 1, 1) := by decide +kernel
theorem dX3_wearDown_48 : decode cX3_wearDown 48 = .ok (.iadd, 1) := by decide +kernel
theorem dX3_wearDown_49 : decode cX3_wearDown 49 = .ok (.iconst 0, 1) := by decide +kernel
theorem dX3_wearDown_50 : decode cX3_wearDown 50 = .ok (.invokevirtual 19, 3) := by decide +kernel
theorem dX3_wearDown_53 : decode cX3_wearDown 53 = .ok (.aload_n 0, 1) := by decide +kernel
theorem dX3_wearDown_54 : decode cX3_wearDown 54 = .ok (.iload_n 1, 1) := by decide +kernel
theorem dX3_wearDown_55 : decode cX3_wearDown 55 = .ok (.invokestatic 37, 3) := by decide +kernel
theorem dX3_wearDown_58 : decode cX3_wearDown 58 = .ok (.iconst 2, 1) := by decide +kernel
theorem dX3_wearDown_59 : decode cX3_wearDown 59 = .ok (.iadd, 1) := by decide +kernel
theorem dX3_wearDown_60 : decode cX3_wearDown 60 = .ok (.iconst 1, 1) := by decide +kernel
theorem dX3_wearDown_61 : decode cX3_wearDown 61 = .ok (.invokevirtual 44, 3) := by decide +kernel
theorem dX3_wearDown_64 : decode cX3_wearDown 64 = .ok (.return_, 1) := by decide +kernel
theorem dX3_copyTo_0 : decode cX3_copyTo 0 = .ok (.iload_n 2, 1) := by decide +kernel
theorem dX3_copyTo_1 : decode cX3_copyTo 1 = .ok (.ifCond .lt 30, 3) := by decide +kernel
theorem dX3_copyTo_4 : decode cX3_copyTo 4 = .ok (.iload_n 2, 1) := by decide +kernel
theorem dX3_copyTo_5 : decode cX3_copyTo 5 = .ok (.aload_n 1, 1) := by decide +kernel
theorem dX3_copyTo_6 : decode cX3_copyTo 6 = .ok (.arraylength, 1) := by decide +kernel
theorem dX3_copyTo_7 : decode cX3_copyTo 7 = .ok (.sipush 225, 3) := by decide +kernel
theorem dX3_copyTo_10 : decode cX3_copyTo 10 = .ok (.idiv, 1) := by decide +kernel
theorem dX3_copyTo_11 : decode cX3_copyTo 11 = .ok (.if_icmp .ge 20, 3) := by decide +kernel
theorem dX3_copyTo_14 : decode cX3_copyTo 14 = .ok (.aload_n 0, 1) := by decide +kernel
theorem dX3_copyTo_15 : decode cX3_copyTo 15 = .ok (.getfield 11, 3) := by decide +kernel
theorem dX3_copyTo_18 : decode cX3_copyTo 18 = .ok (.iconst 0, 1) := by decide +kernel
theorem dX3_copyTo_19 : decode cX3_copyTo 19 = .ok (.aload_n 1, 1) := by decide +kernel
theorem dX3_copyTo_20 : decode cX3_copyTo 20 = .ok (.iload_n 2, 1) := by decide +kernel
theorem dX3_copyTo_21 : decode cX3_copyTo 21 = .ok (.sipush 225, 3) := by decide +kernel
theorem dX3_copyTo_24 : decode cX3_copyTo 24 = .ok (.imul, 1) := by decide +kernel
theorem dX3_copyTo_25 : decode cX3_copyTo 25 = .ok (.sipush 225, 3) := by decide +kernel
theorem dX3_copyTo_28 : decode cX3_copyTo 28 = .ok (.invokestatic 70, 3) := by decide +kernel
theorem dX3_copyTo_31 : decode cX3_copyTo 31 = .ok (.return_, 1) := by decide +kernel
theorem dX3_copyFrom_0 : decode cX3_copyFrom 0 = .ok (.iload_n 2, 1) := by decide +kernel
theorem dX3_copyFrom_1 : decode cX3_copyFrom 1 = .ok (.ifCond .lt 30, 3) := by decide +kernel
theorem dX3_copyFrom_4 : decode cX3_copyFrom 4 = .ok (.iload_n 2, 1) := by decide +kernel
theorem dX3_copyFrom_5 : decode cX3_copyFrom 5 = .ok (.aload_n 1, 1) := by decide +kernel
theorem dX3_copyFrom_6 : decode cX3_copyFrom 6 = .ok (.arraylength, 1) := by decide +kernel
theorem dX3_copyFrom_7 : decode cX3_copyFrom 7 = .ok (.sipush 225, 3) := by decide +kernel
theorem dX3_copyFrom_10 : decode cX3_copyFrom 10 = .ok (.idiv, 1) := by decide +kernel
theorem dX3_copyFrom_11 : decode cX3_copyFrom 11 = .ok (.if_icmp .ge 20, 3) := by decide +kernel
theorem dX3_copyFrom_14 : decode cX3_copyFrom 14 = .ok (.aload_n 1, 1) := by decide +kernel
theorem dX3_copyFrom_15 : decode cX3_copyFrom 15 = .ok (.iload_n 2, 1) := by decide +kernel
theorem dX3_copyFrom_16 : decode cX3_copyFrom 16 = .ok (.sipush 225, 3) := by decide +kernel
theorem dX3_copyFrom_19 : decode cX3_copyFrom 19 = .ok (.imul, 1) := by decide +kernel
theorem dX3_copyFrom_20 : decode cX3_copyFrom 20 = .ok (.aload_n 0, 1) := by decide +kernel
theorem dX3_copyFrom_21 : decode cX3_copyFrom 21 = .ok (.getfield 11, 3) := by decide +kernel
theorem dX3_copyFrom_24 : decode cX3_copyFrom 24 = .ok (.iconst 0, 1) := by decide +kernel
theorem dX3_copyFrom_25 : decode cX3_copyFrom 25 = .ok (.sipush 225, 3) := by decide +kernel
theorem dX3_copyFrom_28 : decode cX3_copyFrom 28 = .ok (.invokestatic 70, 3) := by decide +kernel
theorem dX3_copyFrom_31 : decode cX3_copyFrom 31 = .ok (.return_, 1) := by decide +kernel
theorem dX4_init_0 : decode cX4_init 0 = .ok (.aload_n 0, 1) := by decide +kernel
theorem dX4_init_1 : decode cX4_init 1 = .ok (.invokespecial 3, 3) := by decide +kernel
theorem dX4_init_4 : decode cX4_init 4 = .ok (.aload_n 0, 1) := by decide +kernel
theorem dX4_init_5 : decode cX4_init 5 = .ok (.sipush 450, 3) := by decide +kernel
theorem dX4_init_8 : decode cX4_init 8 = .ok (.newarray .int, 2) := by decide +kernel
theorem dX4_init_10 : decode cX4_init 10 = .ok (.putfield 13, 3) := by decide +kernel
theorem dX4_init_13 : decode cX4_init 13 = .ok (.return_, 1) := by decide +kernel
set_option maxRecDepth 20000 in
theorem ggX4_keep_X6_outside : GoodIn wsX4_keep wsX6_outside := goodIn_r _ [5] (by decide +kernel) (by decide +kernel)
set_option maxRecDepth 20000 in
theorem gX4_keep_X6_outside_n17 : GoodIn wsX4_keep (wsX6_outside) := ggX4_keep_X6_outside
set_option maxRecDepth 20000 in
theorem ggX4_keep_X3_copyTo : GoodIn wsX4_keep wsX3_copyTo := goodIn_r _ [10, 11, 12, 13, 14, 15, 22] (by decide +kernel) (by decide +kernel)
set_option maxRecDepth 20000 in
theorem gX4_keep_X3_copyTo : GoodIn wsX4_keep (wsV RX4 21 RX3 yX3_copyTo wsX3_copyTo) := goodIn_app (goodIn_of _ (by decide +kernel)) ggX4_keep_X3_copyTo
set_option maxRecDepth 20000 in
theorem ggX4_keep_X3_cell : GoodIn wsX4_keep wsX3_cell := goodIn_r _ [19, 11, 22] (by decide +kernel) (by decide +kernel)
set_option maxRecDepth 20000 in
theorem gX4_keep_X3_cell : GoodIn wsX4_keep (wsV RX4 29 RX3 yX3_cell wsX3_cell) := goodIn_app (goodIn_of _ (by decide +kernel)) ggX4_keep_X3_cell
theorem dX4_keep_0 : decode cX4_keep 0 = .ok (.iload_n 1, 1) := by decide +kernel
theorem dX4_keep_1 : decode cX4_keep 1 = .ok (.iconst 0, 1) := by decide +kernel
theorem dX4_keep_2 : decode cX4_keep 2 = .ok (.iconst 1, 1) := by decide +kernel
theorem dX4_keep_3 : decode cX4_keep 3 = .ok (.invokestatic 17, 3) := by decide +kernel
theorem dX4_keep_6 : decode cX4_keep 6 = .ok (.ifCond .eq 6, 3) := by decide +kernel
theorem dX4_keep_9 : decode cX4_keep 9 = .ok (.bipush (-2), 2) := by decide +kernel
theorem dX4_keep_11 : decode cX4_keep 11 = .ok (.ireturn, 1) := by decide +kernel
theorem dX4_keep_12 : decode cX4_keep 12 = .ok (.aload_n 2, 1) := by decide +kernel
theorem dX4_keep_13 : decode cX4_keep 13 = .ok (.aload_n 0, 1) := by decide +kernel
theorem dX4_keep_14 : decode cX4_keep 14 = .ok (.getfield 13, 3) := by decide +kernel
theorem dX4_keep_17 : decode cX4_keep 17 = .ok (.iload_n 1, 1) := by decide +kernel
theorem dX4_keep_18 : decode cX4_keep 18 = .ok (.invokevirtual 21, 3) := by decide +kernel
theorem dX4_keep_21 : decode cX4_keep 21 = .ok (.aload_n 0, 1) := by decide +kernel
theorem dX4_keep_22 : decode cX4_keep 22 = .ok (.dup, 1) := by decide +kernel
theorem dX4_keep_23 : decode cX4_keep 23 = .ok (.getfield 25, 3) := by decide +kernel
theorem dX4_keep_26 : decode cX4_keep 26 = .ok (.iconst 1, 1) := by decide +kernel
theorem dX4_keep_27 : decode cX4_keep 27 = .ok (.iload_n 1, 1) := by decide +kernel
theorem dX4_keep_28 : decode cX4_keep 28 = .ok (.ishl, 1) := by decide +kernel
theorem dX4_keep_29 : decode cX4_keep 29 = .ok (.ior, 1) := by decide +kernel
theorem dX4_keep_30 : decode cX4_keep 30 = .ok (.putfield 25, 3) := by decide +kernel
theorem dX4_keep_33 : decode cX4_keep 33 = .ok (.aload_n 2, 1) := by decide +kernel
theorem dX4_keep_34 : decode cX4_keep 34 = .ok (.iconst 0, 1) := by decide +kernel
theorem dX4_keep_35 : decode cX4_keep 35 = .ok (.invokevirtual 29, 3) := by decide +kernel
theorem dX4_keep_38 : decode cX4_keep 38 = .ok (.ireturn, 1) := by decide +kernel
set_option maxRecDepth 20000 in
theorem ggX4_fetch_X6_outside : GoodIn wsX4_fetch wsX6_outside := goodIn_r _ [5] (by decide +kernel) (by decide +kernel)
set_option maxRecDepth 20000 in
theorem gX4_fetch_X6_outside_n17 : GoodIn wsX4_fetch (wsX6_outside) := ggX4_fetch_X6_outside
set_option maxRecDepth 20000 in
theorem ggX4_fetch_X3_copyFrom : GoodIn wsX4_fetch wsX3_copyFrom := goodIn_r _ [10, 11, 12, 13, 14, 15, 22] (by decide +kernel) (by decide +kernel)
set_option maxRecDepth 20000 in
theorem gX4_fetch_X3_copyFrom : GoodIn wsX4_fetch (wsV RX4 33 RX3 yX3_copyFrom wsX3_copyFrom) := goodIn_app (goodIn_of _ (by decide +kernel)) ggX4_fetch_X3_copyFrom
set_option maxRecDepth 20000 in
theorem ggX4_fetch_X3_cell : GoodIn wsX4_fetch wsX3_cell := goodIn_r _ [19, 11, 22] (by decide +kernel) (by decide +kernel)
set_option maxRecDepth 20000 in
theorem gX4_fetch_X3_cell : GoodIn wsX4_fetch (wsV RX4 29 RX3 yX3_cell wsX3_cell) := goodIn_app (goodIn_of _ (by decide +kernel)) ggX4_fetch_X3_cell
theorem dX4_fetch_0 : decode cX4_fetch 0 = .ok (.iload_n 1, 1) := by decide +kernel
theorem dX4_fetch_1 : decode cX4_fetch 1 = .ok (.iconst 0, 1) := by decide +kernel
theorem dX4_fetch_2 : decode cX4_fetch 2 = .ok (.iconst 1, 1) := by decide +kernel
theorem dX4_fetch_3 : decode cX4_fetch 3 = .ok (.invokestatic 17, 3) := by decide +kernel
theorem dX4_fetch_6 : decode cX4_fetch 6 = .ok (.ifCond .eq 6, 3) := by decide +kernel
theorem dX4_fetch_9 : decode cX4_fetch 9 = .ok (.bipush (-2), 2) := by decide +kernel
theorem dX4_fetch_11 : decode cX4_fetch 11 = .ok (.ireturn, 1) := by decide +kernel
theorem dX4_fetch_12 : decode cX4_fetch 12 = .ok (.aload_n 0, 1) := by decide +kernel
theorem dX4_fetch_13 : decode cX4_fetch 13 = .ok (.getfield 25, 3) := by decide +kernel
theorem dX4_fetch_16 : decode cX4_fetch 16 = .ok (.iconst 1, 1) := by decide +kernel
theorem dX4_fetch_17 : decode cX4_fetch 17 = .ok (.iload_n 1, 1) := by decide +kernel
theorem dX4_fetch_18 : decode cX4_fetch 18 = .ok (.ishl, 1) := by decide +kernel
theorem dX4_fetch_19 : decode cX4_fetch 19 = .ok (.iand, 1) := by decide +kernel
theorem dX4_fetch_20 : decode cX4_fetch 20 = .ok (.ifCond .ne 6, 3) := by decide +kernel
theorem dX4_fetch_23 : decode cX4_fetch 23 = .ok (.bipush (-5), 2) := by decide +kernel
theorem dX4_fetch_25 : decode cX4_fetch 25 = .ok (.ireturn, 1) := by decide +kernel
theorem dX4_fetch_26 : decode cX4_fetch 26 = .ok (.aload_n 2, 1) := by decide +kernel
theorem dX4_fetch_27 : decode cX4_fetch 27 = .ok (.aload_n 0, 1) := by decide +kernel
theorem dX4_fetch_28 : decode cX4_fetch 28 = .ok (.getfield 13, 3) := by decide +kernel
theorem dX4_fetch_31 : decode cX4_fetch 31 = .ok (.iload_n 1, 1) := by decide +kernel
theorem dX4_fetch_32 : decode cX4_fetch 32 = .ok (.invokevirtual 33, 3) := by decide +kernel
theorem dX4_fetch_35 : decode cX4_fetch 35 = .ok (.aload_n 2, 1) := by decide +kernel
theorem dX4_fetch_36 : decode cX4_fetch 36 = .ok (.iconst 0, 1) := by decide +kernel
theorem dX4_fetch_37 : decode cX4_fetch 37 = .ok (.invokevirtual 29, 3) := by decide +kernel
theorem dX4_fetch_40 : decode cX4_fetch 40 = .ok (.ireturn, 1) := by decide +kernel
theorem dX5_init_0 : decode cX5_init 0 = .ok (.aload_n 0, 1) := by decide +kernel
theorem dX5_init_1 : decode cX5_init 1 = .ok (.invokespecial 3, 3) := by decide +kernel
theorem dX5_init_4 : decode cX5_init 4 = .ok (.aload_n 0, 1) := by decide +kernel
theorem dX5_init_5 : decode cX5_init 5 = .ok (.sipush 552, 3) := by decide +kernel
theorem dX5_init_8 : decode cX5_init 8 = .ok (.newarray .int, 2) := by decide +kernel
theorem dX5_init_10 : decode cX5_init 10 = .ok (.putfield 11, 3) := by decide +kernel
theorem dX5_init_13 : decode cX5_init 13 = .ok (.return_, 1) := by decide +kernel
set_option maxRecDepth 20000 in
theorem ggX5_lay_X3_teeth : GoodIn wsX5_lay wsX3_teeth := goodIn_r _ [11, 12, 13, 10, 14, 15, 16, 17, 18, 19, 35] (by decide +kernel) (by decide +kernel)
set_option maxRecDepth 20000 in
theorem gX5_lay_X3_teeth : GoodIn wsX5_lay (wsV RX5 15 RX3 yX3_teeth wsX3_teeth) := goodIn_app (goodIn_of _ (by decide +kernel)) ggX5_lay_X3_teeth
set_option maxRecDepth 20000 in
theorem ggX5_lay_X5_leastMultiple : GoodIn wsX5_lay wsX5_leastMultiple := goodIn_r _ [23] (by decide +kernel) (by decide +kernel)
set_option maxRecDepth 20000 in
theorem gX5_lay_X5_leastMultiple : GoodIn wsX5_lay (va_wsS RX5 21 yX5_leastMultiple wsX5_leastMultiple) := goodIn_app (goodIn_of _ (by decide +kernel)) ggX5_lay_X5_leastMultiple
set_option maxRecDepth 20000 in
theorem ggX5_lay_X3_height : GoodIn wsX5_lay wsX3_height := goodIn_r _ [27, 12, 13, 10, 14, 15, 16, 17, 18, 19, 35] (by decide +kernel) (by decide +kernel)
set_option maxRecDepth 20000 in
theorem gX5_lay_X3_height : GoodIn wsX5_lay (wsV RX5 34 RX3 yX3_height wsX3_height) := goodIn_app (goodIn_of _ (by decide +kernel)) ggX5_lay_X3_height
set_option maxRecDepth 20000 in
theorem ggX5_lay_X5_next : GoodIn wsX5_lay wsX5_next := goodIn_r _ [30] (by decide +kernel) (by decide +kernel)
set_option maxRecDepth 20000 in
theorem gX5_lay_X5_next : GoodIn wsX5_lay (va_wsS RX5 37 yX5_next wsX5_next) := goodIn_app (goodIn_of _ (by decide +kernel)) ggX5_lay_X5_next
theorem dX5_lay_0 : decode cX5_lay 0 = .ok (.aload_n 1, 1) := by decide +kernel
theorem dX5_lay_1 : decode cX5_lay 1 = .ok (.iload_n 2, 1) := by decide +kernel
theorem dX5_lay_2 : decode cX5_lay 2 = .ok (.invokevirtual 15, 3) := by decide +kernel
theorem dX5_lay_5 : decode cX5_lay 5 = .ok (.istore 6, 2) := by decide +kernel
theorem dX5_lay_7 : decode cX5_lay 7 = .ok (.aload_n 1, 1) := by decide +kernel
theorem dX5_lay_8 : decode cX5_lay 8 = .ok (.iload_n 3, 1) := by decide +kernel
theorem dX5_lay_9 : decode cX5_lay 9 = .ok (.invokevirtual 15, 3) := by decide +kernel
theorem dX5_lay_12 : decode cX5_lay 12 = .ok (.istore 7, 2) := by decide +kernel
theorem dX5_lay_14 : decode cX5_lay 14 = .ok (.aload_n 0, 1) := by decide +kernel
theorem dX5_lay_15 : decode cX5_lay 15 = .ok (.iload 6, 2) := by decide +kernel
theorem dX5_lay_17 : decode cX5_lay 17 = .ok (.iload 7, 2) := by decide +kernel
theorem dX5_lay_19 : decode cX5_lay 19 = .ok (.invokestatic 21, 3) := by decide +kernel
theorem dX5_lay_22 : decode cX5_lay 22 = .ok (.sipush 552, 3) := by decide +kernel
theorem dX5_lay_25 : decode cX5_lay 25 = .ok (.invokestatic 25, 3) := by decide +kernel
theorem dX5_lay_28 : decode cX5_lay 28 = .ok (.putfield 30, 3) := by decide +kernel
theorem dX5_lay_31 : decode cX5_lay 31 = .ok (.iconst 0, 1) := by decide +kernel
theorem dX5_lay_32 : decode cX5_lay 32 = .ok (.istore 8, 2) := by decide +kernel
theorem dX5_lay_34 : decode cX5_lay 34 = .ok (.iload 7, 2) := by decide +kernel
theorem dX5_lay_36 : decode cX5_lay 36 = .ok (.ifCond .le 11, 3) := by decide +kernel
theorem dX5_lay_39 : decode cX5_lay 39 = .ok (.iload 4, 2) := by decide +kernel
theorem dX5_lay_41 : decode cX5_lay 41 = .ok (.iload 7, 2) := by decide +kernel
theorem dX5_lay_43 : decode cX5_lay 43 = .ok (.irem, 1) := by decide +kernel
theorem dX5_lay_44 : decode cX5_lay 44 = .ok (.goto 4, 3) := by decide +kernel
theorem dX5_lay_47 : decode cX5_lay 47 = .ok (.iconst 0, 1) := by decide +kernel
theorem dX5_lay_48 : decode cX5_lay 48 = .ok (.istore 9, 2) := by decide +kernel
theorem dX5_lay_50 : decode cX5_lay 50 = .ok (.iconst 0, 1) := by decide +kernel
theorem dX5_lay_51 : decode cX5_lay 51 = .ok (.istore 10, 2) := by decide +kernel
theorem dX5_lay_53 : decode cX5_lay 53 = .ok (.iload 10, 2) := by decide +kernel
theorem dX5_lay_55 : decode cX5_lay 55 = .ok (.aload_n 0, 1) := by decide +kernel
theorem dX5_lay_56 : decode cX5_lay 56 = .ok (.getfield 30, 3) := by decide +kernel
theorem dX5_lay_59 : decode cX5_lay 59 = .ok (.if_icmp .ge 62, 3) := by decide +kernel
theorem dX5_lay_62 : decode cX5_lay 62 = .ok (.iload 10, 2) := by decide +kernel
theorem dX5_lay_64 : decode cX5_lay 64 = .ok (.aload_n 0, 1) := by decide +kernel
theorem dX5_lay_65 : decode cX5_lay 65 = .ok (.getfield 11, 3) := by decide +kernel
theorem dX5_lay_68 : decode cX5_lay 68 = .ok (.arraylength, 1) := by decide +kernel
theorem dX5_lay_69 : decode cX5_lay 69 = .ok (.if_icmp .ge 52, 3) := by decide +kernel
theorem dX5_lay_72 : decode cX5_lay 72 = .ok (.aload_n 0, 1) := by decide +kernel
theorem dX5_lay_73 : decode cX5_lay 73 = .ok (.getfield 11, 3) := by decide +kernel
theorem dX5_lay_76 : decode cX5_lay 76 = .ok (.iload 10, 2) := by decide +kernel
theorem dX5_lay_78 : decode cX5_lay 78 = .ok (.iload 5, 2) := by decide +kernel
theorem dX5_lay_80 : decode cX5_lay 80 = .ok (.aload_n 1, 1) := by decide +kernel
theorem dX5_lay_81 : decode cX5_lay 81 = .ok (.iload_n 2, 1) := by decide +kernel
theorem dX5_lay_82 : decode cX5_lay 82 = .ok (.iload 8, 2) := by decide +kernel
theorem dX5_lay_84 : decode cX5_lay 84 = .ok (.invokevirtual 34, 3) := by decide +kernel
theorem dX5_lay_87 : decode cX5_lay 87 = .ok (.isub, 1) := by decide +kernel
theorem dX5_lay_88 : decode cX5_lay 88 = .ok (.aload_n 1, 1) := by decide +kernel
theorem dX5_lay_89 : decode cX5_lay 89 = .ok (.iload_n 3, 1) := by decide +kernel
theorem dX5_lay_90 : decode cX5_lay 90 = .ok (.iload 9, 2) := by decide +kernel
theorem dX5_lay_92 : decode cX5_lay 92 = .ok (.invokevirtual 34, 3) := by decide +kernel
theorem dX5_lay_95 : decode cX5_lay 95 = .ok (.isub, 1) := by decide +kernel
theorem dX5_lay_96 : decode cX5_lay 96 = .ok (.iastore, 1) := by decide +kernel
theorem dX5_lay_97 : decode cX5_lay 97 = .ok (.iload 8, 2) := by decide +kernel
theorem dX5_lay_99 : decode cX5_lay 99 = .ok (.iload 6, 2) := by decide +kernel
theorem dX5_lay_101 : decode cX5_lay 101 = .ok (.invokestatic 37, 3) := by decide +kernel
theorem dX5_lay_104 : decode cX5_lay 104 = .ok (.istore 8, 2) := by decide +kernel
theorem dX5_lay_106 : decode cX5_lay 106 = .ok (.iload 9, 2) := by decide +kernel
theorem dX5_lay_108 : decode cX5_lay 108 = .ok (.iload 7, 2) := by decide +kernel
theorem dX5_lay_110 : decode cX5_lay 110 = .ok (.invokestatic 37, 3) := by decide +kernel
theorem dX5_lay_113 : decode cX5_lay 113 = .ok (.istore 9, 2) := by decide +kernel
theorem dX5_lay_115 : decode cX5_lay 115 = .ok (.iinc 10 1, 3) := by decide +kernel
theorem dX5_lay_118 : decode cX5_lay 118 = .ok (.goto (-65), 3) := by decide +kernel
theorem dX5_lay_121 : decode cX5_lay 121 = .ok (.return_, 1) := by decide +kernel
theorem dX5_leastMultiple_0 : decode cX5_leastMultiple 0 = .ok (.iconst 1, 1) := by decide +kernel
theorem dX5_leastMultiple_1 : decode cX5_leastMultiple 1 = .ok (.istore_n 2, 1) := by decide +kernel
theorem dX5_leastMultiple_2 : decode cX5_leastMultiple 2 = .ok (.iload_n 2, 1) := by decide +kernel
theorem dX5_leastMultiple_3 : decode cX5_leastMultiple 3 = .ok (.iload_n 1, 1) := by decide +kernel
theorem dX5_leastMultiple_4 : decode cX5_leastMultiple 4 = .ok (.if_icmp .ge 21, 3) := by decide +kernel
theorem dX5_leastMultiple_7 : decode cX5_leastMultiple 7 = .ok (.iload_n 0, 1) := by decide +kernel
theorem dX5_leastMultiple_8 : decode cX5_leastMultiple 8 = .ok (.iload_n 2, 1) := by decide +kernel
theorem dX5_leastMultiple_9 : decode cX5_leastMultiple 9 = .ok (.imul, 1) := by decide +kernel
theorem dX5_leastMultiple_10 : decode cX5_leastMultiple 10 = .ok (.iload_n 1, 1) := by decide +kernel
theorem dX5_leastMultiple_11 : decode cX5_leastMultiple 11 = .ok (.irem, 1) := by decide +kernel
theorem dX5_leastMultiple_12 : decode cX5_leastMultiple 12 = .ok (.ifCond .ne 7, 3) := by decide +kernel
theorem dX5_leastMultiple_15 : decode cX5_leastMultiple 15 = .ok (.iload_n 0, 1) := by decide +kernel
theorem dX5_leastMultiple_16 : decode cX5_leastMultiple 16 = .ok (.iload_n 2, 1) := by decide +kernel
theorem dX5_leastMultiple_17 : decode cX5_leastMultiple 17 = .ok (.imul, 1) := by decide +kernel
theorem dX5_leastMultiple_18 : decode cX5_leastMultiple 18 = .ok (.ireturn, 1) := by decide +kernel
theorem dX5_leastMultiple_19 : decode cX5_leastMultiple 19 = .ok (.iinc 2 1, 3) := by decide +kernel
theorem dX5_leastMultiple_22 : decode cX5_leastMultiple 22 = .ok (.goto (-20), 3) := by decide +kernel
theorem dX5_leastMultiple_25 : decode cX5_leastMultiple 25 = .ok (.iload_n 0, 1) := by decide +kernel
theorem dX5_leastMultiple_26 : decode cX5_leastMultiple 26 = .ok (.iload_n 1, 1) := by decide +kernel
theorem dX5_leastMultiple_27 : decode cX5_leastMultiple 27 = .ok (.imul, 1) := by decide +kernel
theorem dX5_leastMultiple_28 : decode cX5_leastMultiple 28 = .ok (.ireturn, 1) := by decide +kernel
theorem dX5_next_0 : decode cX5_next 0 = .ok (.iload_n 0, 1) := by decide +kernel
theorem dX5_next_1 : decode cX5_next 1 = .ok (.iconst 1, 1) := by decide +kernel
theorem dX5_next_2 : decode cX5_next 2 = .ok (.iadd, 1) := by decide +kernel
theorem dX5_next_3 : decode cX5_next 3 = .ok (.iload_n 1, 1) := by decide +kernel
theorem dX5_next_4 : decode cX5_next 4 = .ok (.if_icmp .ge 9, 3) := by decide +kernel
theorem dX5_next_7 : decode cX5_next 7 = .ok (.iload_n 0, 1) := by decide +kernel
theorem dX5_next_8 : decode cX5_next 8 = .ok (.iconst 1, 1) := by decide +kernel
theorem dX5_next_9 : decode cX5_next 9 = .ok (.iadd, 1) := by decide +kernel
theorem dX5_next_10 : decode cX5_next 10 = .ok (.goto 4, 3) := by decide +kernel
theorem dX5_next_13 : decode cX5_next 13 = .ok (.iconst 0, 1) := by decide +kernel
theorem dX5_next_14 : decode cX5_next 14 = .ok (.ireturn, 1) := by decide +kernel
theorem dX5_length_0 : decode cX5_length 0 = .ok (.aload_n 0, 1) := by decide +kernel
theorem dX5_length_1 : decode cX5_length 1 = .ok (.getfield 30, 3) := by decide +kernel
theorem dX5_length_4 : decode cX5_length 4 = .ok (.ireturn, 1) := by decide +kernel
theorem dX5_press_0 : decode cX5_press 0 = .ok (.iload_n 1, 1) := by decide +kernel
theorem dX5_press_1 : decode cX5_press 1 = .ok (.ifCond .lt 21, 3) := by decide +kernel
theorem dX5_press_4 : decode cX5_press 4 = .ok (.iload_n 1, 1) := by decide +kernel
theorem dX5_press_5 : decode cX5_press 5 = .ok (.aload_n 0, 1) := by decide +kernel
theorem dX5_press_6 : decode cX5_press 6 = .ok (.getfield 11, 3) := by decide +kernel
theorem dX5_press_9 : decode cX5_press 9 = .ok (.arraylength, 1) := by decide +kernel
theorem dX5_press_10 : decode cX5_press 10 = .ok (.if_icmp .ge 12, 3) := by decide +kernel
theorem dX5_press_13 : decode cX5_press 13 = .ok (.aload_n 0, 1) := by decide +kernel
theorem dX5_press_14 : decode cX5_press 14 = .ok (.getfield 11, 3) := by decide +kernel
theorem dX5_press_17 : decode cX5_press 17 = .ok (.iload_n 1, 1) := by decide +kernel
theorem dX5_press_18 : decode cX5_press 18 = .ok (.iaload, 1) := by decide +kernel
theorem dX5_press_19 : decode cX5_press 19 = .ok (.goto 4, 3) := by decide +kernel
theorem dX5_press_22 : decode cX5_press 22 = .ok (.iconst 0, 1) := by decide +kernel
theorem dX5_press_23 : decode cX5_press 23 = .ok (.ireturn, 1) := by decide +kernel
set_option maxRecDepth 20000 in
theorem ggX5_leastPress_X5_press : GoodIn wsX5_leastPress wsX5_press := goodIn_r _ [10, 11, 12, 13, 14, 15] (by decide +kernel) (by decide +kernel)
set_option maxRecDepth 20000 in
theorem gX5_leastPress_X5_press : GoodIn wsX5_leastPress (wsV RX5 40 RX5 yX5_press wsX5_press) := goodIn_app (goodIn_of _ (by decide +kernel)) ggX5_leastPress_X5_press
theorem dX5_leastPress_0 : decode cX5_leastPress 0 = .ok (.aload_n 0, 1) := by decide +kernel
theorem dX5_leastPress_1 : decode cX5_leastPress 1 = .ok (.iconst 0, 1) := by decide +kernel
theorem dX5_leastPress_2 : decode cX5_leastPress 2 = .ok (.invokevirtual 40, 3) := by decide +kernel
theorem dX5_leastPress_5 : decode cX5_leastPress 5 = .ok (.istore_n 1, 1) := by decide +kernel
theorem dX5_leastPress_6 : decode cX5_leastPress 6 = .ok (.iconst 1, 1) := by decide +kernel
theorem dX5_leastPress_7 : decode cX5_leastPress 7 = .ok (.istore_n 2, 1) := by decide +kernel
theorem dX5_leastPress_8 : decode cX5_leastPress 8 = .ok (.iload_n 2, 1) := by decide +kernel
theorem dX5_leastPress_9 : decode cX5_leastPress 9 = .ok (.aload_n 0, 1) := by decide +kernel
theorem dX5_leastPress_10 : decode cX5_leastPress 10 = .ok (.getfield 30, 3) := by decide +kernel
theorem dX5_leastPress_13 : decode cX5_leastPress 13 = .ok (.if_icmp .ge 19, 3) := by decide +kernel
theorem dX5_leastPress_16 : decode cX5_leastPress 16 = .ok (.iload_n 1, 1) := by decide +kernel
theorem dX5_leastPress_17 : decode cX5_leastPress 17 = .ok (.aload_n 0, 1) := by decide +kernel
theorem dX5_leastPress_18 : decode cX5_leastPress 18 = .ok (.iload_n 2, 1) := by decide +kernel
theorem dX5_leastPress_19 : decode cX5_leastPress 19 = .ok (.invokevirtual 40, 3) := by decide +kernel
theorem dX5_leastPress_22 : decode cX5_leastPress 22 = .ok (.invokestatic 25, 3) := by decide +kernel
theorem dX5_leastPress_25 : decode cX5_leastPress 25 = .ok (.istore_n 1, 1) := by decide +kernel
theorem dX5_leastPress_26 : decode cX5_leastPress 26 = .ok (.iinc 2 1, 3) := by decide +kernel
theorem dX5_leastPress_29 : decode cX5_leastPress 29 = .ok (.goto (-21), 3) := by decide +kernel
theorem dX5_leastPress_32 : decode cX5_leastPress 32 = .ok (.iload_n 1, 1) := by decide +kernel
theorem dX5_leastPress_33 : decode cX5_leastPress 33 = .ok (.ireturn, 1) := by decide +kernel
set_option maxRecDepth 20000 in
theorem ggX5_greatestPress_X5_press : GoodIn wsX5_greatestPress wsX5_press := goodIn_r _ [10, 11, 12, 13, 14, 15] (by decide +kernel) (by decide +kernel)
set_option maxRecDepth 20000 in
theorem gX5_greatestPress_X5_press : GoodIn wsX5_greatestPress (wsV RX5 40 RX5 yX5_press wsX5_press) := goodIn_app (goodIn_of _ (by decide +kernel)) ggX5_greatestPress_X5_press
theorem dX5_greatestPress_0 : decode cX5_greatestPress 0 = .ok (.aload_n 0, 1) := by decide +kernel
theorem dX5_greatestPress_1 : decode cX5_greatestPress 1 = .ok (.iconst 0, 1) := by decide +kernel
theorem dX5_greatestPress_2 : decode cX5_greatestPress 2 = .ok (.invokevirtual 40, 3) := by decide +kernel
theorem dX5_greatestPress_5 : decode cX5_greatestPress 5 = .ok (.istore_n 1, 1) := by decide +kernel
theorem dX5_greatestPress_6 : decode cX5_greatestPress 6 = .ok (.iconst 1, 1) := by decide +kernel
theorem dX5_greatestPress_7 : decode cX5_greatestPress 7 = .ok (.istore_n 2, 1) := by decide +kernel
theorem dX5_greatestPress_8 : decode cX5_greatestPress 8 = .ok (.iload_n 2, 1) := by decide +kernel
theorem dX5_greatestPress_9 : decode cX5_greatestPress 9 = .ok (.aload_n 0, 1) := by decide +kernel
theorem dX5_greatestPress_10 : decode cX5_greatestPress 10 = .ok (.getfield 30, 3) := by decide +kernel
theorem dX5_greatestPress_13 : decode cX5_greatestPress 13 = .ok (.if_icmp .ge 19, 3) := by decide +kernel
theorem dX5_greatestPress_16 : decode cX5_greatestPress 16 = .ok (.iload_n 1, 1) := by decide +kernel
theorem dX5_greatestPress_17 : decode cX5_greatestPress 17 = .ok (.aload_n 0, 1) := by decide +kernel
theorem dX5_greatestPress_18 : decode cX5_greatestPress 18 = .ok (.iload_n 2, 1) := by decide +kernel
theorem dX5_greatestPress_19 : decode cX5_greatestPress 19 = .ok (.invokevirtual 40, 3) := by decide +kernel
theorem dX5_greatestPress_22 : decode cX5_greatestPress 22 = .ok (.invokestatic 43, 3) := by decide +kernel
theorem dX5_greatestPress_25 : decode cX5_greatestPress 25 = .ok (.istore_n 1, 1) := by decide +kernel
theorem dX5_greatestPress_26 : decode cX5_greatestPress 26 = .ok (.iinc 2 1, 3) := by decide +kernel
theorem dX5_greatestPress_29 : decode cX5_greatestPress 29 = .ok (.goto (-21), 3) := by decide +kernel
theorem dX5_greatestPress_32 : decode cX5_greatestPress 32 = .ok (.iload_n 1, 1) := by decide +kernel
theorem dX5_greatestPress_33 : decode cX5_greatestPress 33 = .ok (.ireturn, 1) := by decide +kernel
set_option maxRecDepth 20000 in
theorem ggX5_isSmoothAt_X5_press : GoodIn wsX5_isSmoothAt wsX5_press := goodIn_r _ [10, 11, 12, 13, 14, 15] (by decide +kernel) (by decide +kernel)
set_option maxRecDepth 20000 in
theorem gX5_isSmoothAt_X5_press : GoodIn wsX5_isSmoothAt (wsV RX5 40 RX5 yX5_press wsX5_press) := goodIn_app (goodIn_of _ (by decide +kernel)) ggX5_isSmoothAt_X5_press
theorem dX5_isSmoothAt_0 : decode cX5_isSmoothAt 0 = .ok (.iload_n 1, 1) := by decide +kernel
theorem dX5_isSmoothAt_1 : decode cX5_isSmoothAt 1 = .ok (.ifCond .le 9, 3) := by decide +kernel
theorem dX5_isSmoothAt_4 : decode cX5_isSmoothAt 4 = .ok (.iload_n 1, 1) := by decide +kernel
theorem dX5_isSmoothAt_5 : decode cX5_isSmoothAt 5 = .ok (.iconst 1, 1) := by decide +kernel
theorem dX5_isSmoothAt_6 : decode cX5_isSmoothAt 6 = .ok (.isub, 1) := by decide +kernel
theorem dX5_isSmoothAt_7 : decode cX5_isSmoothAt 7 = .ok (.goto 9, 3) := by decide +kernel
theorem dX5_isSmoothAt_10 : decode cX5_isSmoothAt 10 = .ok (.aload_n 0, 1) := by decide +kernel
theorem dX5_isSmoothAt_11 : decode cX5_isSmoothAt 11 = .ok (.getfield 30, 3) := by decide +kernel
theorem dX5_isSmoothAt_14 : decode cX5_isSmoothAt 14 = .ok (.iconst 1, 1) := by decide +kernel
theorem dX5_isSmoothAt_15 : decode cX5_isSmoothAt 15 = .ok (.isub, 1) := by decide +kernel
theorem dX5_isSmoothAt_16 : decode cX5_isSmoothAt 16 = .ok (.istore_n 3, 1) := by decide +kernel
theorem dX5_isSmoothAt_17 : decode cX5_isSmoothAt 17 = .ok (.aload_n 0, 1) := by decide +kernel
theorem dX5_isSmoothAt_18 : decode cX5_isSmoothAt 18 = .ok (.iload_n 1, 1) := by decide +kernel
theorem dX5_isSmoothAt_19 : decode cX5_isSmoothAt 19 = .ok (.invokevirtual 40, 3) := by decide +kernel
theorem dX5_isSmoothAt_22 : decode cX5_isSmoothAt 22 = .ok (.aload_n 0, 1) := by decide +kernel
theorem dX5_isSmoothAt_23 : decode cX5_isSmoothAt 23 = .ok (.iload_n 3, 1) := by decide +kernel
theorem dX5_isSmoothAt_24 : decode cX5_isSmoothAt 24 = .ok (.invokevirtual 40, 3) := by decide +kernel
theorem dX5_isSmoothAt_27 : decode cX5_isSmoothAt 27 = .ok (.isub, 1) := by decide +kernel
theorem dX5_isSmoothAt_28 : decode cX5_isSmoothAt 28 = .ok (.invokestatic 46, 3) := by decide +kernel
theorem dX5_isSmoothAt_31 : decode cX5_isSmoothAt 31 = .ok (.iload_n 2, 1) := by decide +kernel
theorem dX5_isSmoothAt_32 : decode cX5_isSmoothAt 32 = .ok (.if_icmp .gt 7, 3) := by decide +kernel
theorem dX5_isSmoothAt_35 : decode cX5_isSmoothAt 35 = .ok (.iconst 1, 1) := by decide +kernel
theorem dX5_isSmoothAt_36 : decode cX5_isSmoothAt 36 = .ok (.goto 4, 3) := by decide +kernel
theorem dX5_isSmoothAt_39 : decode cX5_isSmoothAt 39 = .ok (.iconst 0, 1) := by decide +kernel
theorem dX5_isSmoothAt_40 : decode cX5_isSmoothAt 40 = .ok (.ireturn, 1) := by decide +kernel
set_option maxRecDepth 20000 in
theorem ggX5_isSmooth_X5_isSmoothAt : GoodIn wsX5_isSmooth wsX5_isSmoothAt := goodIn_r _ [6, 1, 7, 8, 9, 10, 11, 12, 13, 5, 14, 15, 16, 17, 18, 19] (by decide +kernel) (by decide +kernel)
set_option maxRecDepth 20000 in
theorem gX5_isSmooth_X5_isSmoothAt : GoodIn wsX5_isSmooth (wsV RX5 49 RX5 yX5_isSmoothAt wsX5_isSmoothAt) := goodIn_app (goodIn_of _ (by decide +kernel)) ggX5_isSmooth_X5_isSmoothAt
theorem dX5_isSmooth_0 : decode cX5_isSmooth 0 = .ok (.iconst 0, 1) := by decide +kernel
theorem dX5_isSmooth_1 : decode cX5_isSmooth 1 = .ok (.istore_n 2, 1) := by decide +kernel
theorem dX5_isSmooth_2 : decode cX5_isSmooth 2 = .ok (.iload_n 2, 1) := by decide +kernel
theorem dX5_isSmooth_3 : decode cX5_isSmooth 3 = .ok (.aload_n 0, 1) := by decide +kernel
theorem dX5_isSmooth_4 : decode cX5_isSmooth 4 = .ok (.getfield 30, 3) := by decide +kernel
theorem dX5_isSmooth_7 : decode cX5_isSmooth 7 = .ok (.if_icmp .ge 20, 3) := by decide +kernel
theorem dX5_isSmooth_10 : decode cX5_isSmooth 10 = .ok (.aload_n 0, 1) := by decide +kernel
theorem dX5_isSmooth_11 : decode cX5_isSmooth 11 = .ok (.iload_n 2, 1) := by decide +kernel
theorem dX5_isSmooth_12 : decode cX5_isSmooth 12 = .ok (.iload_n 1, 1) := by decide +kernel
theorem dX5_isSmooth_13 : decode cX5_isSmooth 13 = .ok (.invokevirtual 49, 3) := by decide +kernel
theorem dX5_isSmooth_16 : decode cX5_isSmooth 16 = .ok (.ifCond .ne 5, 3) := by decide +kernel
theorem dX5_isSmooth_19 : decode cX5_isSmooth 19 = .ok (.iconst 0, 1) := by decide +kernel
theorem dX5_isSmooth_20 : decode cX5_isSmooth 20 = .ok (.ireturn, 1) := by decide +kernel
theorem dX5_isSmooth_21 : decode cX5_isSmooth 21 = .ok (.iinc 2 1, 3) := by decide +kernel
theorem dX5_isSmooth_24 : decode cX5_isSmooth 24 = .ok (.goto (-22), 3) := by decide +kernel
theorem dX5_isSmooth_27 : decode cX5_isSmooth 27 = .ok (.iconst 1, 1) := by decide +kernel
theorem dX5_isSmooth_28 : decode cX5_isSmooth 28 = .ok (.ireturn, 1) := by decide +kernel
set_option maxRecDepth 20000 in
theorem ggX5_firstBadStep_X5_press : GoodIn wsX5_firstBadStep wsX5_press := goodIn_r _ [6, 7, 16, 17, 18, 19] (by decide +kernel) (by decide +kernel)
set_option maxRecDepth 20000 in
theorem gX5_firstBadStep_X5_press : GoodIn wsX5_firstBadStep (wsV RX5 40 RX5 yX5_press wsX5_press) := goodIn_app (goodIn_of _ (by decide +kernel)) ggX5_firstBadStep_X5_press
set_option maxRecDepth 20000 in
theorem ggX5_firstBadStep_X5_isSmoothAt : GoodIn wsX5_firstBadStep wsX5_isSmoothAt := goodIn_r _ [11, 1, 12, 13, 14, 15, 2, 3, 4, 5, 6, 7, 16, 17, 18, 19] (by decide +kernel) (by decide +kernel)
set_option maxRecDepth 20000 in
theorem gX5_firstBadStep_X5_isSmoothAt : GoodIn wsX5_firstBadStep (wsV RX5 49 RX5 yX5_isSmoothAt wsX5_isSmoothAt) := goodIn_app (goodIn_of _ (by decide +kernel)) ggX5_firstBadStep_X5_isSmoothAt
theorem dX5_firstBadStep_0 : decode cX5_firstBadStep 0 = .ok (.iconst 0, 1) := by decide +kernel
theorem dX5_firstBadStep_1 : decode cX5_firstBadStep 1 = .ok (.istore_n 2, 1) := by decide +kernel
theorem dX5_firstBadStep_2 : decode cX5_firstBadStep 2 = .ok (.iload_n 2, 1) := by decide +kernel
theorem dX5_firstBadStep_3 : decode cX5_firstBadStep 3 = .ok (.aload_n 0, 1) := by decide +kernel
theorem dX5_firstBadStep_4 : decode cX5_firstBadStep 4 = .ok (.getfield 30, 3) := by decide +kernel
theorem dX5_firstBadStep_7 : decode cX5_firstBadStep 7 = .ok (.if_icmp .ge 29, 3) := by decide +kernel
theorem dX5_firstBadStep_10 : decode cX5_firstBadStep 10 = .ok (.aload_n 0, 1) := by decide +kernel
theorem dX5_firstBadStep_11 : decode cX5_firstBadStep 11 = .ok (.iload_n 2, 1) := by decide +kernel
theorem dX5_firstBadStep_12 : decode cX5_firstBadStep 12 = .ok (.invokevirtual 40, 3) := by decide +kernel
theorem dX5_firstBadStep_15 : decode cX5_firstBadStep 15 = .ok (.iconst 1, 1) := by decide +kernel
theorem dX5_firstBadStep_16 : decode cX5_firstBadStep 16 = .ok (.if_icmp .lt 12, 3) := by decide +kernel
theorem dX5_firstBadStep_19 : decode cX5_firstBadStep 19 = .ok (.aload_n 0, 1) := by decide +kernel
theorem dX5_firstBadStep_20 : decode cX5_firstBadStep 20 = .ok (.iload_n 2, 1) := by decide +kernel
theorem dX5_firstBadStep_21 : decode cX5_firstBadStep 21 = .ok (.iload_n 1, 1) := by decide +kernel
theorem dX5_firstBadStep_22 : decode cX5_firstBadStep 22 = .ok (.invokevirtual 49, 3) := by decide +kernel
theorem dX5_firstBadStep_25 : decode cX5_firstBadStep 25 = .ok (.ifCond .ne 5, 3) := by decide +kernel
theorem dX5_firstBadStep_28 : decode cX5_firstBadStep 28 = .ok (.iload_n 2, 1) := by decide +kernel
theorem dX5_firstBadStep_29 : decode cX5_firstBadStep 29 = .ok (.ireturn, 1) := by decide +kernel
theorem dX5_firstBadStep_30 : decode cX5_firstBadStep 30 = .ok (.iinc 2 1, 3) := by decide +kernel
theorem dX5_firstBadStep_33 : decode cX5_firstBadStep 33 = .ok (.goto (-31), 3) := by decide +kernel
theorem dX5_firstBadStep_36 : decode cX5_firstBadStep 36 = .ok (.bipush (-6), 2) := by decide +kernel
theorem dX5_firstBadStep_38 : decode cX5_firstBadStep 38 = .ok (.ireturn, 1) := by decide +kernel
set_option maxRecDepth 20000 in
theorem ggX5_meshes_X5_firstBadStep : GoodIn wsX5_meshes wsX5_firstBadStep := goodIn_r _ [5, 6, 7, 8, 9, 4, 10, 11, 12, 13, 14, 15, 16, 17, 18, 19, 20, 21, 22, 23] (by decide +kernel) (by decide +kernel)
set_option maxRecDepth 20000 in
theorem gX5_meshes_X5_firstBadStep : GoodIn wsX5_meshes (wsV RX5 53 RX5 yX5_firstBadStep wsX5_firstBadStep) := goodIn_app (goodIn_of _ (by decide +kernel)) ggX5_meshes_X5_firstBadStep
theorem dX5_meshes_0 : decode cX5_meshes 0 = .ok (.aload_n 0, 1) := by decide +kernel
theorem dX5_meshes_1 : decode cX5_meshes 1 = .ok (.iload_n 1, 1) := by decide +kernel
theorem dX5_meshes_2 : decode cX5_meshes 2 = .ok (.invokevirtual 53, 3) := by decide +kernel
theorem dX5_meshes_5 : decode cX5_meshes 5 = .ok (.bipush (-6), 2) := by decide +kernel
theorem dX5_meshes_7 : decode cX5_meshes 7 = .ok (.if_icmp .ne 7, 3) := by decide +kernel
theorem dX5_meshes_10 : decode cX5_meshes 10 = .ok (.iconst 1, 1) := by decide +kernel
theorem dX5_meshes_11 : decode cX5_meshes 11 = .ok (.goto 4, 3) := by decide +kernel
theorem dX5_meshes_14 : decode cX5_meshes 14 = .ok (.iconst 0, 1) := by decide +kernel
theorem dX5_meshes_15 : decode cX5_meshes 15 = .ok (.ireturn, 1) := by decide +kernel
theorem dX5_begin_0 : decode cX5_begin 0 = .ok (.aload_n 0, 1) := by decide +kernel
theorem dX5_begin_1 : decode cX5_begin 1 = .ok (.iconst 0, 1) := by decide +kernel
theorem dX5_begin_2 : decode cX5_begin 2 = .ok (.putfield 56, 3) := by decide +kernel
theorem dX5_begin_5 : decode cX5_begin 5 = .ok (.aload_n 0, 1) := by decide +kernel
theorem dX5_begin_6 : decode cX5_begin 6 = .ok (.iconst 0, 1) := by decide +kernel
theorem dX5_begin_7 : decode cX5_begin 7 = .ok (.putfield 59, 3) := by decide +kernel
theorem dX5_begin_10 : decode cX5_begin 10 = .ok (.return_, 1) := by decide +kernel
theorem dX5_taken_0 : decode cX5_taken 0 = .ok (.aload_n 0, 1) := by decide +kernel
theorem dX5_taken_1 : decode cX5_taken 1 = .ok (.getfield 59, 3) := by decide +kernel
theorem dX5_taken_4 : decode cX5_taken 4 = .ok (.ireturn, 1) := by decide +kernel
set_option maxRecDepth 20000 in
theorem ggX5_tears_X5_press : GoodIn wsX5_tears wsX5_press := goodIn_r _ [15, 16, 20, 21, 22, 23] (by decide +kernel) (by decide +kernel)
set_option maxRecDepth 20000 in
theorem gX5_tears_X5_press : GoodIn wsX5_tears (wsV RX5 40 RX5 yX5_press wsX5_press) := goodIn_app (goodIn_of _ (by decide +kernel)) ggX5_tears_X5_press
set_option maxRecDepth 20000 in
theorem ggX5_tears_X5_next : GoodIn wsX5_tears wsX5_next := goodIn_r _ [19] (by decide +kernel) (by decide +kernel)
set_option maxRecDepth 20000 in
theorem gX5_tears_X5_next : GoodIn wsX5_tears (va_wsS RX5 37 yX5_next wsX5_next) := goodIn_app (goodIn_of _ (by decide +kernel)) ggX5_tears_X5_next
theorem dX5_tears_0 : decode cX5_tears 0 = .ok (.iconst 0, 1) := by decide +kernel
theorem dX5_tears_1 : decode cX5_tears 1 = .ok (.istore 5, 2) := by decide +kernel
theorem dX5_tears_3 : decode cX5_tears 3 = .ok (.iconst 0, 1) := by decide +kernel
theorem dX5_tears_4 : decode cX5_tears 4 = .ok (.istore 6, 2) := by decide +kernel
theorem dX5_tears_6 : decode cX5_tears 6 = .ok (.iload 6, 2) := by decide +kernel
theorem dX5_tears_8 : decode cX5_tears 8 = .ok (.iload_n 1, 1) := by decide +kernel
theorem dX5_tears_9 : decode cX5_tears 9 = .ok (.if_icmp .ge 92, 3) := by decide +kernel
theorem dX5_tears_12 : decode cX5_tears 12 = .ok (.iconst 0, 1) := by decide +kernel
theorem dX5_tears_13 : decode cX5_tears 13 = .ok (.iload_n 2, 1) := by decide +kernel
theorem dX5_tears_14 : decode cX5_tears 14 = .ok (.aload_n 0, 1) := by decide +kernel
theorem dX5_tears_15 : decode cX5_tears 15 = .ok (.aload_n 0, 1) := by decide +kernel
theorem dX5_tears_16 : decode cX5_tears 16 = .ok (.getfield 56, 3) := by decide +kernel
theorem dX5_tears_19 : decode cX5_tears 19 = .ok (.invokevirtual 40, 3) := by decide +kernel
theorem dX5_tears_22 : decode cX5_tears 22 = .ok (.isub, 1) := by decide +kernel
theorem dX5_tears_23 : decode cX5_tears 23 = .ok (.invokestatic 43, 3) := by decide +kernel
theorem dX5_tears_26 : decode cX5_tears 26 = .ok (.istore 7, 2) := by decide +kernel
theorem dX5_tears_28 : decode cX5_tears 28 = .ok (.aload_n 0, 1) := by decide +kernel
theorem dX5_tears_29 : decode cX5_tears 29 = .ok (.aload_n 0, 1) := by decide +kernel
theorem dX5_tears_30 : decode cX5_tears 30 = .ok (.getfield 56, 3) := by decide +kernel
theorem dX5_tears_33 : decode cX5_tears 33 = .ok (.aload_n 0, 1) := by decide +kernel
theorem dX5_tears_34 : decode cX5_tears 34 = .ok (.getfield 30, 3) := by decide +kernel
theorem dX5_tears_37 : decode cX5_tears 37 = .ok (.invokestatic 37, 3) := by decide +kernel
theorem dX5_tears_40 : decode cX5_tears 40 = .ok (.putfield 56, 3) := by decide +kernel
theorem dX5_tears_43 : decode cX5_tears 43 = .ok (.aload_n 0, 1) := by decide +kernel
theorem dX5_tears_44 : decode cX5_tears 44 = .ok (.dup, 1) := by decide +kernel
theorem dX5_tears_45 : decode cX5_tears 45 = .ok (.getfield 59, 3) := by decide +kernel
theorem dX5_tears_48 : decode cX5_tears 48 = .ok (.iconst 1, 1) := by decide +kernel
theorem dX5_tears_49 : decode cX5_tears 49 = .ok (.iadd, 1) := by decide +kernel
theorem dX5_tears_50 : decode cX5_tears 50 = .ok (.putfield 59, 3) := by decide +kernel
theorem dX5_tears_53 : decode cX5_tears 53 = .ok (.iload 6, 2) := by decide +kernel
theorem dX5_tears_55 : decode cX5_tears 55 = .ok (.ifCond .le 20, 3) := by decide +kernel
theorem dX5_tears_58 : decode cX5_tears 58 = .ok (.iload 7, 2) := by decide +kernel
theorem dX5_tears_60 : decode cX5_tears 60 = .ok (.iload 5, 2) := by decide +kernel
theorem dX5_tears_62 : decode cX5_tears 62 = .ok (.isub, 1) := by decide +kernel
theorem dX5_tears_63 : decode cX5_tears 63 = .ok (.invokestatic 46, 3) := by decide +kernel
theorem dX5_tears_66 : decode cX5_tears 66 = .ok (.iload 4, 2) := by decide +kernel
theorem dX5_tears_68 : decode cX5_tears 68 = .ok (.if_icmp .le 7, 3) := by decide +kernel
theorem dX5_tears_71 : decode cX5_tears 71 = .ok (.iconst 1, 1) := by decide +kernel
theorem dX5_tears_72 : decode cX5_tears 72 = .ok (.goto 4, 3) := by decide +kernel
theorem dX5_tears_75 : decode cX5_tears 75 = .ok (.iconst 0, 1) := by decide +kernel
theorem dX5_tears_76 : decode cX5_tears 76 = .ok (.istore 8, 2) := by decide +kernel
theorem dX5_tears_78 : decode cX5_tears 78 = .ok (.iload 7, 2) := by decide +kernel
theorem dX5_tears_80 : decode cX5_tears 80 = .ok (.iload_n 3, 1) := by decide +kernel
theorem dX5_tears_81 : decode cX5_tears 81 = .ok (.if_icmp .gt 8, 3) := by decide +kernel
theorem dX5_tears_84 : decode cX5_tears 84 = .ok (.iload 8, 2) := by decide +kernel
theorem dX5_tears_86 : decode cX5_tears 86 = .ok (.ifCond .eq 5, 3) := by decide +kernel
theorem dX5_tears_89 : decode cX5_tears 89 = .ok (.iconst 1, 1) := by decide +kernel
theorem dX5_tears_90 : decode cX5_tears 90 = .ok (.ireturn, 1) := by decide +kernel
theorem dX5_tears_91 : decode cX5_tears 91 = .ok (.iload 7, 2) := by decide +kernel
theorem dX5_tears_93 : decode cX5_tears 93 = .ok (.istore 5, 2) := by decide +kernel
theorem dX5_tears_95 : decode cX5_tears 95 = .ok (.iinc 6 1, 3) := by decide +kernel
theorem dX5_tears_98 : decode cX5_tears 98 = .ok (.goto (-92), 3) := by decide +kernel
theorem dX5_tears_101 : decode cX5_tears 101 = .ok (.iconst 0, 1) := by decide +kernel
theorem dX5_tears_102 : decode cX5_tears 102 = .ok (.ireturn, 1) := by decide +kernel
end
section
set_option maxRecDepth 20000 in
theorem ggX6_init_X3_init : GoodIn wsX6_init wsX3_init := goodIn_r _ [30, 31, 2, 3, 32, 33, 56] (by decide +kernel) (by decide +kernel)
set_option maxRecDepth 20000 in
theorem gX6_init_X3_init : GoodIn wsX6_init (wsX3_init) := ggX6_init_X3_init
set_option maxRecDepth 20000 in
theorem ggX6_init_X0_init : GoodIn wsX6_init wsX0_init := goodIn_r _ [35, 36, 2, 3, 32, 37, 63, 64, 65] (by decide +kernel) (by decide +kernel)
set_option maxRecDepth 20000 in
theorem gX6_init_X0_init_n18 : GoodIn wsX6_init (wsX0_init) := ggX6_init_X0_init
set_option maxRecDepth 20000 in
theorem ggX6_init_X4_init : GoodIn wsX6_init wsX4_init := goodIn_r _ [39, 40, 2, 3, 32, 41, 66, 67] (by decide +kernel) (by decide +kernel)
set_option maxRecDepth 20000 in
theorem gX6_init_X4_init_n25 : GoodIn wsX6_init (wsX4_init) := ggX6_init_X4_init
set_option maxRecDepth 20000 in
theorem ggX6_init_X1_init : GoodIn wsX6_init wsX1_init := goodIn_r _ [43, 44, 2, 3, 32, 45, 68, 69] (by decide +kernel) (by decide +kernel)
set_option maxRecDepth 20000 in
theorem gX6_init_X1_init_n32 : GoodIn wsX6_init (wsX1_init) := ggX6_init_X1_init
set_option maxRecDepth 20000 in
theorem ggX6_init_X2_init : GoodIn wsX6_init wsX2_init := goodIn_r _ [48, 49, 2, 3, 32, 50, 51, 70, 71, 72, 73, 74] (by decide +kernel) (by decide +kernel)
set_option maxRecDepth 20000 in
theorem gX6_init_X2_init : GoodIn wsX6_init (wsX2_init) := ggX6_init_X2_init
set_option maxRecDepth 20000 in
theorem ggX6_init_X5_init : GoodIn wsX6_init wsX5_init := goodIn_r _ [53, 54, 2, 3, 32, 55, 75, 76, 77, 78] (by decide +kernel) (by decide +kernel)
set_option maxRecDepth 20000 in
theorem gX6_init_X5_init_n48 : GoodIn wsX6_init (wsX5_init) := ggX6_init_X5_init
theorem dX6_init_0 : decode cX6_init 0 = .ok (.aload_n 0, 1) := by decide +kernel
theorem dX6_init_1 : decode cX6_init 1 = .ok (.invokespecial 1, 3) := by decide +kernel
theorem dX6_init_4 : decode cX6_init 4 = .ok (.aload_n 0, 1) := by decide +kernel
theorem dX6_init_5 : decode cX6_init 5 = .ok (.new 7, 3) := by decide +kernel
theorem dX6_init_8 : decode cX6_init 8 = .ok (.dup, 1) := by decide +kernel
theorem dX6_init_9 : decode cX6_init 9 = .ok (.invokespecial 9, 3) := by decide +kernel
theorem dX6_init_12 : decode cX6_init 12 = .ok (.putfield 10, 3) := by decide +kernel
theorem dX6_init_15 : decode cX6_init 15 = .ok (.aload_n 0, 1) := by decide +kernel
theorem dX6_init_16 : decode cX6_init 16 = .ok (.new 16, 3) := by decide +kernel
theorem dX6_init_19 : decode cX6_init 19 = .ok (.dup, 1) := by decide +kernel
theorem dX6_init_20 : decode cX6_init 20 = .ok (.invokespecial 18, 3) := by decide +kernel
theorem dX6_init_23 : decode cX6_init 23 = .ok (.putfield 19, 3) := by decide +kernel
theorem dX6_init_26 : decode cX6_init 26 = .ok (.aload_n 0, 1) := by decide +kernel
theorem dX6_init_27 : decode cX6_init 27 = .ok (.new 23, 3) := by decide +kernel
theorem dX6_init_30 : decode cX6_init 30 = .ok (.dup, 1) := by decide +kernel
theorem dX6_init_31 : decode cX6_init 31 = .ok (.invokespecial 25, 3) := by decide +kernel
theorem dX6_init_34 : decode cX6_init 34 = .ok (.putfield 26, 3) := by decide +kernel
theorem dX6_init_37 : decode cX6_init 37 = .ok (.aload_n 0, 1) := by decide +kernel
theorem dX6_init_38 : decode cX6_init 38 = .ok (.new 30, 3) := by decide +kernel
theorem dX6_init_41 : decode cX6_init 41 = .ok (.dup, 1) := by decide +kernel
theorem dX6_init_42 : decode cX6_init 42 = .ok (.invokespecial 32, 3) := by decide +kernel
theorem dX6_init_45 : decode cX6_init 45 = .ok (.putfield 33, 3) := by decide +kernel
theorem dX6_init_48 : decode cX6_init 48 = .ok (.aload_n 0, 1) := by decide +kernel
theorem dX6_init_49 : decode cX6_init 49 = .ok (.new 37, 3) := by decide +kernel
theorem dX6_init_52 : decode cX6_init 52 = .ok (.dup, 1) := by decide +kernel
theorem dX6_init_53 : decode cX6_init 53 = .ok (.aload_n 0, 1) := by decide +kernel
theorem dX6_init_54 : decode cX6_init 54 = .ok (.getfield 33, 3) := by decide +kernel
theorem dX6_init_57 : decode cX6_init 57 = .ok (.invokespecial 39, 3) := by decide +kernel
theorem dX6_init_60 : decode cX6_init 60 = .ok (.putfield 42, 3) := by decide +kernel
theorem dX6_init_63 : decode cX6_init 63 = .ok (.aload_n 0, 1) := by decide +kernel
theorem dX6_init_64 : decode cX6_init 64 = .ok (.new 46, 3) := by decide +kernel
theorem dX6_init_67 : decode cX6_init 67 = .ok (.dup, 1) := by decide +kernel
theorem dX6_init_68 : decode cX6_init 68 = .ok (.invokespecial 48, 3) := by decide +kernel
theorem dX6_init_71 : decode cX6_init 71 = .ok (.putfield 49, 3) := by decide +kernel
theorem dX6_init_74 : decode cX6_init 74 = .ok (.return_, 1) := by decide +kernel
set_option maxRecDepth 20000 in
theorem ggX6_set_X0_prepare : GoodIn wsX6_set wsX0_prepare := goodIn_r _ [7, 8, 9, 10, 11, 12, 13, 14, 15, 16, 17, 18, 19, 54, 55, 56, 57] (by decide +kernel) (by decide +kernel)
set_option maxRecDepth 20000 in
theorem gX6_set_X0_prepare : GoodIn wsX6_set (wsV RX6 53 RX0 yX0_prepare wsX0_prepare) := goodIn_app (goodIn_of _ (by decide +kernel)) ggX6_set_X0_prepare
set_option maxRecDepth 20000 in
theorem ggX6_set_X3_changeSetting : GoodIn wsX6_set wsX3_changeSetting := goodIn_r _ [23, 24, 25, 26, 27, 28, 29, 13, 30, 31, 32, 33, 34, 15, 35, 36, 37, 38, 57] (by decide +kernel) (by decide +kernel)
set_option maxRecDepth 20000 in
theorem gX6_set_X3_changeSetting : GoodIn wsX6_set (wsV RX6 57 RX3 yX3_changeSetting wsX3_changeSetting) := goodIn_app (goodIn_of _ (by decide +kernel)) ggX6_set_X3_changeSetting
set_option maxRecDepth 20000 in
theorem ggX6_set_X0_recorded : GoodIn wsX6_set wsX0_recorded := goodIn_r _ [42, 9, 43, 44, 45, 46, 47, 54, 55, 56] (by decide +kernel) (by decide +kernel)
set_option maxRecDepth 20000 in
theorem gX6_set_X0_recorded : GoodIn wsX6_set (wsV RX6 61 RX0 yX0_recorded wsX0_recorded) := goodIn_app (goodIn_of _ (by decide +kernel)) ggX6_set_X0_recorded
theorem dX6_set_0 : decode cX6_set 0 = .ok (.aload_n 0, 1) := by decide +kernel
theorem dX6_set_1 : decode cX6_set 1 = .ok (.getfield 19, 3) := by decide +kernel
theorem dX6_set_4 : decode cX6_set 4 = .ok (.aload_n 0, 1) := by decide +kernel
theorem dX6_set_5 : decode cX6_set 5 = .ok (.getfield 10, 3) := by decide +kernel
theorem dX6_set_8 : decode cX6_set 8 = .ok (.invokevirtual 53, 3) := by decide +kernel
theorem dX6_set_11 : decode cX6_set 11 = .ok (.aload_n 0, 1) := by decide +kernel
theorem dX6_set_12 : decode cX6_set 12 = .ok (.getfield 19, 3) := by decide +kernel
theorem dX6_set_15 : decode cX6_set 15 = .ok (.aload_n 0, 1) := by decide +kernel
theorem dX6_set_16 : decode cX6_set 16 = .ok (.getfield 10, 3) := by decide +kernel
theorem dX6_set_19 : decode cX6_set 19 = .ok (.iload_n 1, 1) := by decide +kernel
theorem dX6_set_20 : decode cX6_set 20 = .ok (.iload_n 2, 1) := by decide +kernel
theorem dX6_set_21 : decode cX6_set 21 = .ok (.invokevirtual 57, 3) := by decide +kernel
theorem dX6_set_24 : decode cX6_set 24 = .ok (.invokevirtual 61, 3) := by decide +kernel
theorem dX6_set_27 : decode cX6_set 27 = .ok (.ireturn, 1) := by decide +kernel
set_option maxRecDepth 20000 in
theorem ggX6_roller_X0_prepare : GoodIn wsX6_roller wsX0_prepare := goodIn_r _ [7, 8, 9, 10, 11, 12, 13, 14, 15, 16, 17, 18, 19, 61, 62, 63, 64] (by decide +kernel) (by decide +kernel)
set_option maxRecDepth 20000 in
theorem gX6_roller_X0_prepare : GoodIn wsX6_roller (wsV RX6 53 RX0 yX0_prepare wsX0_prepare) := goodIn_app (goodIn_of _ (by decide +kernel)) ggX6_roller_X0_prepare
set_option maxRecDepth 20000 in
theorem ggX6_roller_X3_addRoller : GoodIn wsX6_roller wsX3_addRoller := goodIn_r _ [23, 24, 25, 26, 27, 28, 29, 13, 30, 15, 31, 32, 33, 34, 35, 36, 37, 38, 39, 40, 41, 42, 43, 44, 45, 64] (by decide +kernel) (by decide +kernel)
set_option maxRecDepth 20000 in
theorem gX6_roller_X3_addRoller : GoodIn wsX6_roller (wsV RX6 65 RX3 yX3_addRoller wsX3_addRoller) := goodIn_app (goodIn_of _ (by decide +kernel)) ggX6_roller_X3_addRoller
set_option maxRecDepth 20000 in
theorem ggX6_roller_X0_recorded : GoodIn wsX6_roller wsX0_recorded := goodIn_r _ [49, 9, 50, 51, 52, 53, 54, 61, 62, 63] (by decide +kernel) (by decide +kernel)
set_option maxRecDepth 20000 in
theorem gX6_roller_X0_recorded : GoodIn wsX6_roller (wsV RX6 61 RX0 yX0_recorded wsX0_recorded) := goodIn_app (goodIn_of _ (by decide +kernel)) ggX6_roller_X0_recorded
theorem dX6_roller_0 : decode cX6_roller 0 = .ok (.aload_n 0, 1) := by decide +kernel
theorem dX6_roller_1 : decode cX6_roller 1 = .ok (.getfield 19, 3) := by decide +kernel
theorem dX6_roller_4 : decode cX6_roller 4 = .ok (.aload_n 0, 1) := by decide +kernel
theorem dX6_roller_5 : decode cX6_roller 5 = .ok (.getfield 10, 3) := by decide +kernel
theorem dX6_roller_8 : decode cX6_roller 8 = .ok (.invokevirtual 53, 3) := by decide +kernel
theorem dX6_roller_11 : decode cX6_roller 11 = .ok (.aload_n 0, 1) := by decide +kernel
theorem dX6_roller_12 : decode cX6_roller 12 = .ok (.getfield 19, 3) := by decide +kernel
theorem dX6_roller_15 : decode cX6_roller 15 = .ok (.aload_n 0, 1) := by decide +kernel
theorem dX6_roller_16 : decode cX6_roller 16 = .ok (.getfield 10, 3) := by decide +kernel
theorem dX6_roller_19 : decode cX6_roller 19 = .ok (.iload_n 1, 1) := by decide +kernel
theorem dX6_roller_20 : decode cX6_roller 20 = .ok (.iload_n 2, 1) := by decide +kernel
theorem dX6_roller_21 : decode cX6_roller 21 = .ok (.invokevirtual 65, 3) := by decide +kernel
theorem dX6_roller_24 : decode cX6_roller 24 = .ok (.invokevirtual 61, 3) := by decide +kernel
theorem dX6_roller_27 : decode cX6_roller 27 = .ok (.ireturn, 1) := by decide +kernel
set_option maxRecDepth 20000 in
theorem ggX6_file_X0_prepare : GoodIn wsX6_file wsX0_prepare := goodIn_r _ [7, 8, 9, 10, 11, 12, 13, 14, 15, 16, 17, 18, 19, 73, 74, 75, 76] (by decide +kernel) (by decide +kernel)
set_option maxRecDepth 20000 in
theorem gX6_file_X0_prepare : GoodIn wsX6_file (wsV RX6 53 RX0 yX0_prepare wsX0_prepare) := goodIn_app (goodIn_of _ (by decide +kernel)) ggX6_file_X0_prepare
set_option maxRecDepth 20000 in
theorem ggX6_file_X3_fileTooth : GoodIn wsX6_file wsX3_fileTooth := goodIn_r _ [23, 24, 25, 26, 13, 27, 28, 29, 30, 31, 32, 33, 34, 35, 15, 36, 37, 38, 39, 40, 41, 42, 43, 44, 45, 46, 47, 48, 49, 50, 51, 52, 53, 54, 55, 56, 57, 76] (by decide +kernel) (by decide +kernel)
set_option maxRecDepth 20000 in
theorem gX6_file_X3_fileTooth : GoodIn wsX6_file (wsV RX6 68 RX3 yX3_fileTooth wsX3_fileTooth) := goodIn_app (goodIn_of _ (by decide +kernel)) ggX6_file_X3_fileTooth
set_option maxRecDepth 20000 in
theorem ggX6_file_X0_recorded : GoodIn wsX6_file wsX0_recorded := goodIn_r _ [61, 9, 62, 63, 64, 65, 66, 73, 74, 75] (by decide +kernel) (by decide +kernel)
set_option maxRecDepth 20000 in
theorem gX6_file_X0_recorded : GoodIn wsX6_file (wsV RX6 61 RX0 yX0_recorded wsX0_recorded) := goodIn_app (goodIn_of _ (by decide +kernel)) ggX6_file_X0_recorded
theorem dX6_file_0 : decode cX6_file 0 = .ok (.aload_n 0, 1) := by decide +kernel
theorem dX6_file_1 : decode cX6_file 1 = .ok (.getfield 19, 3) := by decide +kernel
theorem dX6_file_4 : decode cX6_file 4 = .ok (.aload_n 0, 1) := by decide +kernel
theorem dX6_file_5 : decode cX6_file 5 = .ok (.getfield 10, 3) := by decide +kernel
theorem dX6_file_8 : decode cX6_file 8 = .ok (.invokevirtual 53, 3) := by decide +kernel
theorem dX6_file_11 : decode cX6_file 11 = .ok (.aload_n 0, 1) := by decide +kernel
theorem dX6_file_12 : decode cX6_file 12 = .ok (.getfield 19, 3) := by decide +kernel
theorem dX6_file_15 : decode cX6_file 15 = .ok (.aload_n 0, 1) := by decide +kernel
theorem dX6_file_16 : decode cX6_file 16 = .ok (.getfield 10, 3) := by decide +kernel
theorem dX6_file_19 : decode cX6_file 19 = .ok (.iload_n 1, 1) := by decide +kernel
theorem dX6_file_20 : decode cX6_file 20 = .ok (.iload_n 2, 1) := by decide +kernel
theorem dX6_file_21 : decode cX6_file 21 = .ok (.iload_n 3, 1) := by decide +kernel
theorem dX6_file_22 : decode cX6_file 22 = .ok (.invokevirtual 68, 3) := by decide +kernel
theorem dX6_file_25 : decode cX6_file 25 = .ok (.invokevirtual 61, 3) := by decide +kernel
theorem dX6_file_28 : decode cX6_file 28 = .ok (.ireturn, 1) := by decide +kernel
set_option maxRecDepth 20000 in
theorem ggX6_melt_X0_prepare : GoodIn wsX6_melt wsX0_prepare := goodIn_r _ [7, 8, 9, 10, 11, 12, 13, 14, 15, 16, 17, 18, 19, 54, 55, 56, 57] (by decide +kernel) (by decide +kernel)
set_option maxRecDepth 20000 in
theorem gX6_melt_X0_prepare : GoodIn wsX6_melt (wsV RX6 53 RX0 yX0_prepare wsX0_prepare) := goodIn_app (goodIn_of _ (by decide +kernel)) ggX6_melt_X0_prepare
set_option maxRecDepth 20000 in
theorem ggX6_melt_X3_meltRoller : GoodIn wsX6_melt wsX3_meltRoller := goodIn_r _ [23, 24, 25, 26, 13, 27, 28, 29, 30, 31, 15, 32, 33, 34, 35, 36, 37, 38, 57] (by decide +kernel) (by decide +kernel)
set_option maxRecDepth 20000 in
theorem gX6_melt_X3_meltRoller : GoodIn wsX6_melt (wsV RX6 72 RX3 yX3_meltRoller wsX3_meltRoller) := goodIn_app (goodIn_of _ (by decide +kernel)) ggX6_melt_X3_meltRoller
set_option maxRecDepth 20000 in
theorem ggX6_melt_X0_recorded : GoodIn wsX6_melt wsX0_recorded := goodIn_r _ [42, 9, 43, 44, 45, 46, 47, 54, 55, 56] (by decide +kernel) (by decide +kernel)
set_option maxRecDepth 20000 in
theorem gX6_melt_X0_recorded : GoodIn wsX6_melt (wsV RX6 61 RX0 yX0_recorded wsX0_recorded) := goodIn_app (goodIn_of _ (by decide +kernel)) ggX6_melt_X0_recorded
theorem dX6_melt_0 : decode cX6_melt 0 = .ok (.aload_n 0, 1) := by decide +kernel
theorem dX6_melt_1 : decode cX6_melt 1 = .ok (.getfield 19, 3) := by decide +kernel
theorem dX6_melt_4 : decode cX6_melt 4 = .ok (.aload_n 0, 1) := by decide +kernel
theorem dX6_melt_5 : decode cX6_melt 5 = .ok (.getfield 10, 3) := by decide +kernel
theorem dX6_melt_8 : decode cX6_melt 8 = .ok (.invokevirtual 53, 3) := by decide +kernel
theorem dX6_melt_11 : decode cX6_melt 11 = .ok (.aload_n 0, 1) := by decide +kernel
theorem dX6_melt_12 : decode cX6_melt 12 = .ok (.getfield 19, 3) := by decide +kernel
theorem dX6_melt_15 : decode cX6_melt 15 = .ok (.aload_n 0, 1) := by decide +kernel
theorem dX6_melt_16 : decode cX6_melt 16 = .ok (.getfield 10, 3) := by decide +kernel
theorem dX6_melt_19 : decode cX6_melt 19 = .ok (.iload_n 1, 1) := by decide +kernel
theorem dX6_melt_20 : decode cX6_melt 20 = .ok (.invokevirtual 72, 3) := by decide +kernel
theorem dX6_melt_23 : decode cX6_melt 23 = .ok (.invokevirtual 61, 3) := by decide +kernel
theorem dX6_melt_26 : decode cX6_melt 26 = .ok (.ireturn, 1) := by decide +kernel
set_option maxRecDepth 20000 in
theorem ggX6_card_X0_prepare : GoodIn wsX6_card wsX0_prepare := goodIn_r _ [7, 8, 9, 10, 11, 12, 13, 14, 15, 16, 17, 18, 19, 50, 51, 52, 53] (by decide +kernel) (by decide +kernel)
set_option maxRecDepth 20000 in
theorem gX6_card_X0_prepare : GoodIn wsX6_card (wsV RX6 53 RX0 yX0_prepare wsX0_prepare) := goodIn_app (goodIn_of _ (by decide +kernel)) ggX6_card_X0_prepare
set_option maxRecDepth 20000 in
theorem ggX6_card_X3_changeCard : GoodIn wsX6_card wsX3_changeCard := goodIn_r _ [23, 24, 25, 26, 27, 28, 29, 13, 30, 15, 31, 32, 33, 34, 53] (by decide +kernel) (by decide +kernel)
set_option maxRecDepth 20000 in
theorem gX6_card_X3_changeCard : GoodIn wsX6_card (wsV RX6 75 RX3 yX3_changeCard wsX3_changeCard) := goodIn_app (goodIn_of _ (by decide +kernel)) ggX6_card_X3_changeCard
set_option maxRecDepth 20000 in
theorem ggX6_card_X0_recorded : GoodIn wsX6_card wsX0_recorded := goodIn_r _ [38, 9, 39, 40, 41, 42, 43, 50, 51, 52] (by decide +kernel) (by decide +kernel)
set_option maxRecDepth 20000 in
theorem gX6_card_X0_recorded : GoodIn wsX6_card (wsV RX6 61 RX0 yX0_recorded wsX0_recorded) := goodIn_app (goodIn_of _ (by decide +kernel)) ggX6_card_X0_recorded
theorem dX6_card_0 : decode cX6_card 0 = .ok (.aload_n 0, 1) := by decide +kernel
theorem dX6_card_1 : decode cX6_card 1 = .ok (.getfield 19, 3) := by decide +kernel
theorem dX6_card_4 : decode cX6_card 4 = .ok (.aload_n 0, 1) := by decide +kernel
theorem dX6_card_5 : decode cX6_card 5 = .ok (.getfield 10, 3) := by decide +kernel
theorem dX6_card_8 : decode cX6_card 8 = .ok (.invokevirtual 53, 3) := by decide +kernel
theorem dX6_card_11 : decode cX6_card 11 = .ok (.aload_n 0, 1) := by decide +kernel
theorem dX6_card_12 : decode cX6_card 12 = .ok (.getfield 19, 3) := by decide +kernel
theorem dX6_card_15 : decode cX6_card 15 = .ok (.aload_n 0, 1) := by decide +kernel
theorem dX6_card_16 : decode cX6_card 16 = .ok (.getfield 10, 3) := by decide +kernel
theorem dX6_card_19 : decode cX6_card 19 = .ok (.iload_n 1, 1) := by decide +kernel
theorem dX6_card_20 : decode cX6_card 20 = .ok (.iload_n 2, 1) := by decide +kernel
theorem dX6_card_21 : decode cX6_card 21 = .ok (.invokevirtual 75, 3) := by decide +kernel
theorem dX6_card_24 : decode cX6_card 24 = .ok (.invokevirtual 61, 3) := by decide +kernel
theorem dX6_card_27 : decode cX6_card 27 = .ok (.ireturn, 1) := by decide +kernel
set_option maxRecDepth 20000 in
theorem ggX6_run_X0_prepare : GoodIn wsX6_run wsX0_prepare := goodIn_r _ [7, 8, 9, 10, 11, 12, 13, 14, 15, 16, 17, 18, 19, 153, 154, 155, 156] (by decide +kernel) (by decide +kernel)
set_option maxRecDepth 20000 in
theorem gX6_run_X0_prepare : GoodIn wsX6_run (wsV RX6 53 RX0 yX0_prepare wsX0_prepare) := goodIn_app (goodIn_of _ (by decide +kernel)) ggX6_run_X0_prepare
set_option maxRecDepth 20000 in
theorem ggX6_run_X6_runCards : GoodIn wsX6_run wsX6_runCards := goodIn_r _ [24, 25, 2, 26, 27, 28, 23, 29, 30, 31, 32, 13, 33, 34, 35, 36, 37, 15, 38, 39, 40, 41, 42, 43, 44, 45, 46, 47, 48, 49, 50, 51, 52, 53, 54, 55, 56, 57, 58, 59, 60, 61, 62, 63, 64, 65, 66, 67, 68, 69, 70, 71, 72, 73, 74, 75, 76, 77, 78, 79, 80, 81, 82, 83, 84, 85, 86, 87, 88, 89, 90, 91, 92, 93, 94, 95, 96, 97, 98, 99, 100, 101, 102, 103, 104, 105, 106, 107, 108, 109, 110, 111, 112, 113, 114, 115, 116, 117, 118, 119, 120, 121, 122, 123, 124, 125, 126, 127, 128, 129, 130, 131, 132, 133, 134, 135, 136, 137, 138, 139, 140, 147, 148, 149, 150, 151, 152, 156, 157, 158, 159, 160] (by decide +kernel) (by decide +kernel)
set_option maxRecDepth 20000 in
theorem gX6_run_X6_runCards : GoodIn wsX6_run (wsV RX6 78 RX6 yX6_runCards wsX6_runCards) := goodIn_app (goodIn_of _ (by decide +kernel)) ggX6_run_X6_runCards
set_option maxRecDepth 20000 in
theorem ggX6_run_X0_recorded : GoodIn wsX6_run wsX0_recorded := goodIn_r _ [144, 9, 145, 146, 47, 48, 49, 153, 154, 155] (by decide +kernel) (by decide +kernel)
set_option maxRecDepth 20000 in
theorem gX6_run_X0_recorded : GoodIn wsX6_run (wsV RX6 61 RX0 yX0_recorded wsX0_recorded) := goodIn_app (goodIn_of _ (by decide +kernel)) ggX6_run_X0_recorded
theorem dX6_run_0 : decode cX6_run 0 = .ok (.aload_n 0, 1) := by decide +kernel
theorem dX6_run_1 : decode cX6_run 1 = .ok (.getfield 19, 3) := by decide +kernel
theorem dX6_run_4 : decode cX6_run 4 = .ok (.aload_n 0, 1) := by decide +kernel
theorem dX6_run_5 : decode cX6_run 5 = .ok (.getfield 10, 3) := by decide +kernel
theorem dX6_run_8 : decode cX6_run 8 = .ok (.invokevirtual 53, 3) := by decide +kernel
theorem dX6_run_11 : decode cX6_run 11 = .ok (.aload_n 0, 1) := by decide +kernel
theorem dX6_run_12 : decode cX6_run 12 = .ok (.getfield 19, 3) := by decide +kernel
theorem dX6_run_15 : decode cX6_run 15 = .ok (.aload_n 0, 1) := by decide +kernel
theorem dX6_run_16 : decode cX6_run 16 = .ok (.iload_n 1, 1) := by decide +kernel
theorem dX6_run_17 : decode cX6_run 17 = .ok (.iload_n 2, 1) := by decide +kernel
theorem dX6_run_18 : decode cX6_run 18 = .ok (.iload_n 3, 1) := by decide +kernel
theorem dX6_run_19 : decode cX6_run 19 = .ok (.iload 4, 2) := by decide +kernel
theorem dX6_run_21 : decode cX6_run 21 = .ok (.iload 5, 2) := by decide +kernel
theorem dX6_run_23 : decode cX6_run 23 = .ok (.iload 6, 2) := by decide +kernel
theorem dX6_run_25 : decode cX6_run 25 = .ok (.invokevirtual 78, 3) := by decide +kernel
theorem dX6_run_28 : decode cX6_run 28 = .ok (.invokevirtual 61, 3) := by decide +kernel
theorem dX6_run_31 : decode cX6_run 31 = .ok (.ireturn, 1) := by decide +kernel
set_option maxRecDepth 20000 in
theorem ggX6_runCards_X6_pairError : GoodIn wsX6_runCards wsX6_pairError := goodIn_r _ [7, 2, 8, 9, 10, 11, 12, 13, 14, 15, 16, 17, 18, 19, 6, 20, 121, 122, 123, 124, 125, 126, 127] (by decide +kernel) (by decide +kernel)
set_option maxRecDepth 20000 in
theorem gX6_runCards_X6_pairError : GoodIn wsX6_runCards (wsV RX6 82 RX6 yX6_pairError wsX6_pairError) := goodIn_app (goodIn_of _ (by decide +kernel)) ggX6_runCards_X6_pairError
set_option maxRecDepth 20000 in
theorem ggX6_runCards_X6_outside : GoodIn wsX6_runCards wsX6_outside := goodIn_r _ [20] (by decide +kernel) (by decide +kernel)
set_option maxRecDepth 20000 in
theorem gX6_runCards_X6_outside : GoodIn wsX6_runCards (va_wsS RX6 86 yX6_outside wsX6_outside) := goodIn_app (goodIn_of _ (by decide +kernel)) ggX6_runCards_X6_outside
set_option maxRecDepth 20000 in
theorem ggX6_runCards_X5_lay : GoodIn wsX6_runCards wsX5_lay := goodIn_r _ [25, 26, 27, 28, 29, 30, 31, 32, 33, 34, 11, 35, 36, 37, 38, 13, 14, 15, 16, 17, 39, 40, 24, 41, 42, 43, 44, 45, 46, 47, 48, 128, 129, 130, 131, 127] (by decide +kernel) (by decide +kernel)
set_option maxRecDepth 20000 in
theorem gX6_runCards_X5_lay : GoodIn wsX6_runCards (wsV RX6 90 RX5 yX5_lay wsX5_lay) := goodIn_app (goodIn_of _ (by decide +kernel)) ggX6_runCards_X5_lay
set_option maxRecDepth 20000 in
theorem ggX6_runCards_X3_setting : GoodIn wsX6_runCards wsX3_setting := goodIn_r _ [52, 13, 14, 15, 11, 16, 17, 127] (by decide +kernel) (by decide +kernel)
set_option maxRecDepth 20000 in
theorem gX6_runCards_X3_setting : GoodIn wsX6_runCards (wsV RX6 94 RX3 yX3_setting wsX3_setting) := goodIn_app (goodIn_of _ (by decide +kernel)) ggX6_runCards_X3_setting
set_option maxRecDepth 20000 in
theorem ggX6_runCards_X5_meshes : GoodIn wsX6_runCards wsX5_meshes := goodIn_r _ [56, 57, 58, 59, 24, 60, 30, 61, 62, 63, 64, 31, 65, 66, 67, 68, 69, 70, 28, 71, 128, 129, 130, 131] (by decide +kernel) (by decide +kernel)
set_option maxRecDepth 20000 in
theorem gX6_runCards_X5_meshes : GoodIn wsX6_runCards (wsV RX6 97 RX5 yX5_meshes wsX5_meshes) := goodIn_app (goodIn_of _ (by decide +kernel)) ggX6_runCards_X5_meshes
set_option maxRecDepth 20000 in
theorem ggX6_runCards_X5_begin : GoodIn wsX6_runCards wsX5_begin := goodIn_r _ [75, 76, 77, 128, 129, 130, 131] (by decide +kernel) (by decide +kernel)
set_option maxRecDepth 20000 in
theorem gX6_runCards_X5_begin : GoodIn wsX6_runCards (wsV RX6 101 RX5 yX5_begin wsX5_begin) := goodIn_app (goodIn_of _ (by decide +kernel)) ggX6_runCards_X5_begin
set_option maxRecDepth 20000 in
theorem ggX6_runCards_X3_cell : GoodIn wsX6_runCards wsX3_cell := goodIn_r _ [16, 17, 127] (by decide +kernel) (by decide +kernel)
set_option maxRecDepth 20000 in
theorem gX6_runCards_X3_cell : GoodIn wsX6_runCards (wsV RX6 104 RX3 yX3_cell wsX3_cell) := goodIn_app (goodIn_of _ (by decide +kernel)) ggX6_runCards_X3_cell
set_option maxRecDepth 20000 in
theorem ggX6_runCards_X5_tears : GoodIn wsX6_runCards wsX5_tears := goodIn_r _ [82, 76, 83, 84, 28, 85, 30, 77, 69, 70, 71, 61, 62, 63, 24, 64, 31, 46, 47, 48, 128, 129, 130, 131] (by decide +kernel) (by decide +kernel)
set_option maxRecDepth 20000 in
theorem gX6_runCards_X5_tears : GoodIn wsX6_runCards (wsV RX6 107 RX5 yX5_tears wsX5_tears) := goodIn_app (goodIn_of _ (by decide +kernel)) ggX6_runCards_X5_tears
set_option maxRecDepth 20000 in
theorem ggX6_runCards_X5_taken : GoodIn wsX6_runCards wsX5_taken := goodIn_r _ [89, 77, 128, 129, 130, 131] (by decide +kernel) (by decide +kernel)
set_option maxRecDepth 20000 in
theorem gX6_runCards_X5_taken : GoodIn wsX6_runCards (wsV RX6 111 RX5 yX5_taken wsX5_taken) := goodIn_app (goodIn_of _ (by decide +kernel)) ggX6_runCards_X5_taken
set_option maxRecDepth 20000 in
theorem ggX6_runCards_X3_countRun : GoodIn wsX6_runCards wsX3_countRun := goodIn_r _ [93, 94, 95, 96, 11, 97, 13, 14, 15, 16, 17, 98, 99, 100, 101, 127] (by decide +kernel) (by decide +kernel)
set_option maxRecDepth 20000 in
theorem gX6_runCards_X3_countRun : GoodIn wsX6_runCards (wsV RX6 115 RX3 yX3_countRun wsX3_countRun) := goodIn_app (goodIn_of _ (by decide +kernel)) ggX6_runCards_X3_countRun
set_option maxRecDepth 20000 in
theorem ggX6_runCards_X3_turnRoller : GoodIn wsX6_runCards wsX3_turnRoller := goodIn_r _ [105, 36, 37, 11, 38, 94, 95, 96, 97, 13, 14, 15, 16, 17, 98, 99, 100, 101, 106, 107, 108, 109, 110, 50, 51, 52, 111, 33, 34, 35, 112, 113, 114, 115, 116, 43, 44, 45, 117, 118, 119, 120, 127] (by decide +kernel) (by decide +kernel)
set_option maxRecDepth 20000 in
theorem gX6_runCards_X3_turnRoller : GoodIn wsX6_runCards (wsV RX6 119 RX3 yX3_turnRoller wsX3_turnRoller) := goodIn_app (goodIn_of _ (by decide +kernel)) ggX6_runCards_X3_turnRoller
theorem dX6_runCards_0 : decode cX6_runCards 0 = .ok (.aload_n 0, 1) := by decide +kernel
theorem dX6_runCards_1 : decode cX6_runCards 1 = .ok (.iload_n 1, 1) := by decide +kernel
theorem dX6_runCards_2 : decode cX6_runCards 2 = .ok (.iload_n 2, 1) := by decide +kernel
theorem dX6_runCards_3 : decode cX6_runCards 3 = .ok (.iload_n 3, 1) := by decide +kernel
theorem dX6_runCards_4 : decode cX6_runCards 4 = .ok (.iload 4, 2) := by decide +kernel
theorem dX6_runCards_6 : decode cX6_runCards 6 = .ok (.invokevirtual 82, 3) := by decide +kernel
theorem dX6_runCards_9 : decode cX6_runCards 9 = .ok (.istore 7, 2) := by decide +kernel
theorem dX6_runCards_11 : decode cX6_runCards 11 = .ok (.iload 7, 2) := by decide +kernel
theorem dX6_runCards_13 : decode cX6_runCards 13 = .ok (.ifCond .eq 6, 3) := by decide +kernel
theorem dX6_runCards_16 : decode cX6_runCards 16 = .ok (.iload 7, 2) := by decide +kernel
theorem dX6_runCards_18 : decode cX6_runCards 18 = .ok (.ireturn, 1) := by decide +kernel
theorem dX6_runCards_19 : decode cX6_runCards 19 = .ok (.iload 5, 2) := by decide +kernel
theorem dX6_runCards_21 : decode cX6_runCards 21 = .ok (.iconst 1, 1) := by decide +kernel
theorem dX6_runCards_22 : decode cX6_runCards 22 = .ok (.bipush 99, 2) := by decide +kernel
theorem dX6_runCards_24 : decode cX6_runCards 24 = .ok (.invokestatic 86, 3) := by decide +kernel
theorem dX6_runCards_27 : decode cX6_runCards 27 = .ok (.ifCond .ne 14, 3) := by decide +kernel
theorem dX6_runCards_30 : decode cX6_runCards 30 = .ok (.iload 6, 2) := by decide +kernel
theorem dX6_runCards_32 : decode cX6_runCards 32 = .ok (.iconst 1, 1) := by decide +kernel
theorem dX6_runCards_33 : decode cX6_runCards 33 = .ok (.bipush 99, 2) := by decide +kernel
theorem dX6_runCards_35 : decode cX6_runCards 35 = .ok (.invokestatic 86, 3) := by decide +kernel
theorem dX6_runCards_38 : decode cX6_runCards 38 = .ok (.ifCond .eq 6, 3) := by decide +kernel
theorem dX6_runCards_41 : decode cX6_runCards 41 = .ok (.bipush (-2), 2) := by decide +kernel
theorem dX6_runCards_43 : decode cX6_runCards 43 = .ok (.ireturn, 1) := by decide +kernel
theorem dX6_runCards_44 : decode cX6_runCards 44 = .ok (.aload_n 0, 1) := by decide +kernel
theorem dX6_runCards_45 : decode cX6_runCards 45 = .ok (.getfield 49, 3) := by decide +kernel
theorem dX6_runCards_48 : decode cX6_runCards 48 = .ok (.aload_n 0, 1) := by decide +kernel
theorem dX6_runCards_49 : decode cX6_runCards 49 = .ok (.getfield 10, 3) := by decide +kernel
theorem dX6_runCards_52 : decode cX6_runCards 52 = .ok (.iload_n 1, 1) := by decide +kernel
theorem dX6_runCards_53 : decode cX6_runCards 53 = .ok (.iload_n 2, 1) := by decide +kernel
theorem dX6_runCards_54 : decode cX6_runCards 54 = .ok (.iload_n 3, 1) := by decide +kernel
theorem dX6_runCards_55 : decode cX6_runCards 55 = .ok (.iload 4, 2) := by decide +kernel
theorem dX6_runCards_57 : decode cX6_runCards 57 = .ok (.invokevirtual 90, 3) := by decide +kernel
theorem dX6_runCards_60 : decode cX6_runCards 60 = .ok (.aload_n 0, 1) := by decide +kernel
theorem dX6_runCards_61 : decode cX6_runCards 61 = .ok (.getfield 49, 3) := by decide +kernel
theorem dX6_runCards_64 : decode cX6_runCards 64 = .ok (.aload_n 0, 1) := by decide +kernel
theorem dX6_runCards_65 : decode cX6_runCards 65 = .ok (.getfield 10, 3) := by decide +kernel
theorem dX6_runCards_68 : decode cX6_runCards 68 = .ok (.iconst 0, 1) := by decide +kernel
theorem dX6_runCards_69 : decode cX6_runCards 69 = .ok (.invokevirtual 94, 3) := by decide +kernel
theorem dX6_runCards_72 : decode cX6_runCards 72 = .ok (.invokevirtual 97, 3) := by decide +kernel
theorem dX6_runCards_75 : decode cX6_runCards 75 = .ok (.ifCond .ne 6, 3) := by decide +kernel
theorem dX6_runCards_78 : decode cX6_runCards 78 = .ok (.bipush (-5), 2) := by decide +kernel
theorem dX6_runCards_80 : decode cX6_runCards 80 = .ok (.ireturn, 1) := by decide +kernel
theorem dX6_runCards_81 : decode cX6_runCards 81 = .ok (.aload_n 0, 1) := by decide +kernel
theorem dX6_runCards_82 : decode cX6_runCards 82 = .ok (.getfield 49, 3) := by decide +kernel
theorem dX6_runCards_85 : decode cX6_runCards 85 = .ok (.invokevirtual 101, 3) := by decide +kernel
theorem dX6_runCards_88 : decode cX6_runCards 88 = .ok (.iconst 0, 1) := by decide +kernel
theorem dX6_runCards_89 : decode cX6_runCards 89 = .ok (.istore 8, 2) := by decide +kernel
theorem dX6_runCards_91 : decode cX6_runCards 91 = .ok (.iconst 0, 1) := by decide +kernel
theorem dX6_runCards_92 : decode cX6_runCards 92 = .ok (.istore 9, 2) := by decide +kernel
theorem dX6_runCards_94 : decode cX6_runCards 94 = .ok (.iload 9, 2) := by decide +kernel
theorem dX6_runCards_96 : decode cX6_runCards 96 = .ok (.iload 5, 2) := by decide +kernel
theorem dX6_runCards_98 : decode cX6_runCards 98 = .ok (.if_icmp .ge 48, 3) := by decide +kernel
theorem dX6_runCards_101 : decode cX6_runCards 101 = .ok (.aload_n 0, 1) := by decide +kernel
theorem dX6_runCards_102 : decode cX6_runCards 102 = .ok (.getfield 49, 3) := by decide +kernel
theorem dX6_runCards_105 : decode cX6_runCards 105 = .ok (.iload 6, 2) := by decide +kernel
theorem dX6_runCards_107 : decode cX6_runCards 107 = .ok (.aload_n 0, 1) := by decide +kernel
theorem dX6_runCards_108 : decode cX6_runCards 108 = .ok (.getfield 10, 3) := by decide +kernel
theorem dX6_runCards_111 : decode cX6_runCards 111 = .ok (.iconst 1, 1) := by decide +kernel
theorem dX6_runCards_112 : decode cX6_runCards 112 = .ok (.invokevirtual 104, 3) := by decide +kernel
theorem dX6_runCards_115 : decode cX6_runCards 115 = .ok (.aload_n 0, 1) := by decide +kernel
theorem dX6_runCards_116 : decode cX6_runCards 116 = .ok (.getfield 10, 3) := by decide +kernel
theorem dX6_runCards_119 : decode cX6_runCards 119 = .ok (.iconst 2, 1) := by decide +kernel
theorem dX6_runCards_120 : decode cX6_runCards 120 = .ok (.invokevirtual 104, 3) := by decide +kernel
theorem dX6_runCards_123 : decode cX6_runCards 123 = .ok (.aload_n 0, 1) := by decide +kernel
theorem dX6_runCards_124 : decode cX6_runCards 124 = .ok (.getfield 10, 3) := by decide +kernel
theorem dX6_runCards_127 : decode cX6_runCards 127 = .ok (.iconst 1, 1) := by decide +kernel
theorem dX6_runCards_128 : decode cX6_runCards 128 = .ok (.invokevirtual 94, 3) := by decide +kernel
theorem dX6_runCards_131 : decode cX6_runCards 131 = .ok (.invokevirtual 107, 3) := by decide +kernel
theorem dX6_runCards_134 : decode cX6_runCards 134 = .ok (.ifCond .eq 6, 3) := by decide +kernel
theorem dX6_runCards_137 : decode cX6_runCards 137 = .ok (.iinc 8 1, 3) := by decide +kernel
theorem dX6_runCards_140 : decode cX6_runCards 140 = .ok (.iinc 9 1, 3) := by decide +kernel
theorem dX6_runCards_143 : decode cX6_runCards 143 = .ok (.goto (-49), 3) := by decide +kernel
theorem dX6_runCards_146 : decode cX6_runCards 146 = .ok (.aload_n 0, 1) := by decide +kernel
theorem dX6_runCards_147 : decode cX6_runCards 147 = .ok (.getfield 10, 3) := by decide +kernel
theorem dX6_runCards_150 : decode cX6_runCards 150 = .ok (.iload 5, 2) := by decide +kernel
theorem dX6_runCards_152 : decode cX6_runCards 152 = .ok (.iload 8, 2) := by decide +kernel
theorem dX6_runCards_154 : decode cX6_runCards 154 = .ok (.aload_n 0, 1) := by decide +kernel
theorem dX6_runCards_155 : decode cX6_runCards 155 = .ok (.getfield 49, 3) := by decide +kernel
theorem dX6_runCards_158 : decode cX6_runCards 158 = .ok (.invokevirtual 111, 3) := by decide +kernel
theorem dX6_runCards_161 : decode cX6_runCards 161 = .ok (.invokevirtual 115, 3) := by decide +kernel
theorem dX6_runCards_164 : decode cX6_runCards 164 = .ok (.aload_n 0, 1) := by decide +kernel
theorem dX6_runCards_165 : decode cX6_runCards 165 = .ok (.getfield 10, 3) := by decide +kernel
theorem dX6_runCards_168 : decode cX6_runCards 168 = .ok (.iload_n 1, 1) := by decide +kernel
theorem dX6_runCards_169 : decode cX6_runCards 169 = .ok (.aload_n 0, 1) := by decide +kernel
theorem dX6_runCards_170 : decode cX6_runCards 170 = .ok (.getfield 49, 3) := by decide +kernel
theorem dX6_runCards_173 : decode cX6_runCards 173 = .ok (.invokevirtual 111, 3) := by decide +kernel
theorem dX6_runCards_176 : decode cX6_runCards 176 = .ok (.invokevirtual 119, 3) := by decide +kernel
theorem dX6_runCards_179 : decode cX6_runCards 179 = .ok (.aload_n 0, 1) := by decide +kernel
theorem dX6_runCards_180 : decode cX6_runCards 180 = .ok (.getfield 10, 3) := by decide +kernel
theorem dX6_runCards_183 : decode cX6_runCards 183 = .ok (.iload_n 2, 1) := by decide +kernel
theorem dX6_runCards_184 : decode cX6_runCards 184 = .ok (.aload_n 0, 1) := by decide +kernel
theorem dX6_runCards_185 : decode cX6_runCards 185 = .ok (.getfield 49, 3) := by decide +kernel
theorem dX6_runCards_188 : decode cX6_runCards 188 = .ok (.invokevirtual 111, 3) := by decide +kernel
theorem dX6_runCards_191 : decode cX6_runCards 191 = .ok (.invokevirtual 119, 3) := by decide +kernel
theorem dX6_runCards_194 : decode cX6_runCards 194 = .ok (.iload 8, 2) := by decide +kernel
theorem dX6_runCards_196 : decode cX6_runCards 196 = .ok (.ireturn, 1) := by decide +kernel
set_option maxRecDepth 20000 in
theorem ggX6_of_X3_has : GoodIn wsX6_of wsX3_has := goodIn_r _ [6, 7, 8, 9, 5, 10, 11, 57] (by decide +kernel) (by decide +kernel)
set_option maxRecDepth 20000 in
theorem gX6_of_X3_has : GoodIn wsX6_of (wsV RX6 123 RX3 yX3_has wsX3_has) := goodIn_app (goodIn_of _ (by decide +kernel)) ggX6_of_X3_has
set_option maxRecDepth 20000 in
theorem ggX6_of_X3_teeth : GoodIn wsX6_of wsX3_teeth := goodIn_r _ [15, 16, 17, 5, 18, 7, 8, 9, 10, 11, 57] (by decide +kernel) (by decide +kernel)
set_option maxRecDepth 20000 in
theorem gX6_of_X3_teeth : GoodIn wsX6_of (wsV RX6 126 RX3 yX3_teeth wsX3_teeth) := goodIn_app (goodIn_of _ (by decide +kernel)) ggX6_of_X3_teeth
set_option maxRecDepth 20000 in
theorem ggX6_of_X3_teethOfSign : GoodIn wsX6_of wsX3_teethOfSign := goodIn_r _ [22, 23, 13, 14, 5, 15, 16, 17, 18, 7, 8, 9, 10, 11, 24, 25, 26, 27, 57] (by decide +kernel) (by decide +kernel)
set_option maxRecDepth 20000 in
theorem gX6_of_X3_teethOfSign : GoodIn wsX6_of (wsV RX6 129 RX3 yX3_teethOfSign wsX3_teethOfSign) := goodIn_app (goodIn_of _ (by decide +kernel)) ggX6_of_X3_teethOfSign
set_option maxRecDepth 20000 in
theorem ggX6_of_X3_greatestHeight : GoodIn wsX6_of wsX3_greatestHeight := goodIn_r _ [31, 32, 33, 34, 35, 24, 25, 26, 5, 27, 16, 17, 18, 7, 8, 9, 10, 11, 23, 13, 14, 15, 57] (by decide +kernel) (by decide +kernel)
set_option maxRecDepth 20000 in
theorem gX6_of_X3_greatestHeight : GoodIn wsX6_of (wsV RX6 132 RX3 yX3_greatestHeight wsX3_greatestHeight) := goodIn_app (goodIn_of _ (by decide +kernel)) ggX6_of_X3_greatestHeight
set_option maxRecDepth 20000 in
theorem ggX6_of_X3_leastHeight : GoodIn wsX6_of wsX3_leastHeight := goodIn_r _ [39, 40, 41, 34, 42, 24, 25, 26, 5, 27, 16, 17, 18, 7, 8, 9, 10, 11, 23, 13, 14, 15, 57] (by decide +kernel) (by decide +kernel)
set_option maxRecDepth 20000 in
theorem gX6_of_X3_leastHeight : GoodIn wsX6_of (wsV RX6 135 RX3 yX3_leastHeight wsX3_leastHeight) := goodIn_app (goodIn_of _ (by decide +kernel)) ggX6_of_X3_leastHeight
set_option maxRecDepth 20000 in
theorem ggX6_of_X3_stepsSinceWorn : GoodIn wsX6_of wsX3_stepsSinceWorn := goodIn_r _ [46, 16, 17, 5, 18, 7, 8, 9, 10, 11, 57] (by decide +kernel) (by decide +kernel)
set_option maxRecDepth 20000 in
theorem gX6_of_X3_stepsSinceWorn : GoodIn wsX6_of (wsV RX6 138 RX3 yX3_stepsSinceWorn wsX3_stepsSinceWorn) := goodIn_app (goodIn_of _ (by decide +kernel)) ggX6_of_X3_stepsSinceWorn
set_option maxRecDepth 20000 in
theorem ggX6_of_X3_timesWorn : GoodIn wsX6_of wsX3_timesWorn := goodIn_r _ [50, 16, 17, 5, 18, 7, 8, 9, 10, 11, 57] (by decide +kernel) (by decide +kernel)
set_option maxRecDepth 20000 in
theorem gX6_of_X3_timesWorn : GoodIn wsX6_of (wsV RX6 141 RX3 yX3_timesWorn wsX3_timesWorn) := goodIn_app (goodIn_of _ (by decide +kernel)) ggX6_of_X3_timesWorn
theorem dX6_of_0 : decode cX6_of 0 = .ok (.aload_n 0, 1) := by decide +kernel
theorem dX6_of_1 : decode cX6_of 1 = .ok (.getfield 10, 3) := by decide +kernel
theorem dX6_of_4 : decode cX6_of 4 = .ok (.iload_n 1, 1) := by decide +kernel
theorem dX6_of_5 : decode cX6_of 5 = .ok (.invokevirtual 123, 3) := by decide +kernel
theorem dX6_of_8 : decode cX6_of 8 = .ok (.ifCond .ne 5, 3) := by decide +kernel
theorem dX6_of_11 : decode cX6_of 11 = .ok (.iconst (-1), 1) := by decide +kernel
theorem dX6_of_12 : decode cX6_of 12 = .ok (.ireturn, 1) := by decide +kernel
theorem dX6_of_13 : decode cX6_of 13 = .ok (.iload_n 2, 1) := by decide +kernel
theorem dX6_of_14 : decode cX6_of 14 = .ok (.tableswitch 113 0 6 #[42, 51, 61, 71, 83, 95, 104], 42) := by decide +kernel
theorem dX6_of_56 : decode cX6_of 56 = .ok (.aload_n 0, 1) := by decide +kernel
theorem dX6_of_57 : decode cX6_of 57 = .ok (.getfield 10, 3) := by decide +kernel
theorem dX6_of_60 : decode cX6_of 60 = .ok (.iload_n 1, 1) := by decide +kernel
theorem dX6_of_61 : decode cX6_of 61 = .ok (.invokevirtual 126, 3) := by decide +kernel
theorem dX6_of_64 : decode cX6_of 64 = .ok (.ireturn, 1) := by decide +kernel
theorem dX6_of_65 : decode cX6_of 65 = .ok (.aload_n 0, 1) := by decide +kernel
theorem dX6_of_66 : decode cX6_of 66 = .ok (.getfield 10, 3) := by decide +kernel
theorem dX6_of_69 : decode cX6_of 69 = .ok (.iload_n 1, 1) := by decide +kernel
theorem dX6_of_70 : decode cX6_of 70 = .ok (.iconst 1, 1) := by decide +kernel
theorem dX6_of_71 : decode cX6_of 71 = .ok (.invokevirtual 129, 3) := by decide +kernel
theorem dX6_of_74 : decode cX6_of 74 = .ok (.ireturn, 1) := by decide +kernel
theorem dX6_of_75 : decode cX6_of 75 = .ok (.aload_n 0, 1) := by decide +kernel
theorem dX6_of_76 : decode cX6_of 76 = .ok (.getfield 10, 3) := by decide +kernel
theorem dX6_of_79 : decode cX6_of 79 = .ok (.iload_n 1, 1) := by decide +kernel
theorem dX6_of_80 : decode cX6_of 80 = .ok (.iconst (-1), 1) := by decide +kernel
theorem dX6_of_81 : decode cX6_of 81 = .ok (.invokevirtual 129, 3) := by decide +kernel
theorem dX6_of_84 : decode cX6_of 84 = .ok (.ireturn, 1) := by decide +kernel
theorem dX6_of_85 : decode cX6_of 85 = .ok (.aload_n 0, 1) := by decide +kernel
theorem dX6_of_86 : decode cX6_of 86 = .ok (.getfield 10, 3) := by decide +kernel
theorem dX6_of_89 : decode cX6_of 89 = .ok (.iload_n 1, 1) := by decide +kernel
theorem dX6_of_90 : decode cX6_of 90 = .ok (.invokevirtual 132, 3) := by decide +kernel
theorem dX6_of_93 : decode cX6_of 93 = .ok (.bipush 9, 2) := by decide +kernel
theorem dX6_of_95 : decode cX6_of 95 = .ok (.iadd, 1) := by decide +kernel
theorem dX6_of_96 : decode cX6_of 96 = .ok (.ireturn, 1) := by decide +kernel
theorem dX6_of_97 : decode cX6_of 97 = .ok (.aload_n 0, 1) := by decide +kernel
theorem dX6_of_98 : decode cX6_of 98 = .ok (.getfield 10, 3) := by decide +kernel
theorem dX6_of_101 : decode cX6_of 101 = .ok (.iload_n 1, 1) := by decide +kernel
theorem dX6_of_102 : decode cX6_of 102 = .ok (.invokevirtual 135, 3) := by decide +kernel
theorem dX6_of_105 : decode cX6_of 105 = .ok (.bipush 9, 2) := by decide +kernel
theorem dX6_of_107 : decode cX6_of 107 = .ok (.iadd, 1) := by decide +kernel
theorem dX6_of_108 : decode cX6_of 108 = .ok (.ireturn, 1) := by decide +kernel
theorem dX6_of_109 : decode cX6_of 109 = .ok (.aload_n 0, 1) := by decide +kernel
theorem dX6_of_110 : decode cX6_of 110 = .ok (.getfield 10, 3) := by decide +kernel
theorem dX6_of_113 : decode cX6_of 113 = .ok (.iload_n 1, 1) := by decide +kernel
theorem dX6_of_114 : decode cX6_of 114 = .ok (.invokevirtual 138, 3) := by decide +kernel
theorem dX6_of_117 : decode cX6_of 117 = .ok (.ireturn, 1) := by decide +kernel
theorem dX6_of_118 : decode cX6_of 118 = .ok (.aload_n 0, 1) := by decide +kernel
theorem dX6_of_119 : decode cX6_of 119 = .ok (.getfield 10, 3) := by decide +kernel
theorem dX6_of_122 : decode cX6_of 122 = .ok (.iload_n 1, 1) := by decide +kernel
theorem dX6_of_123 : decode cX6_of 123 = .ok (.invokevirtual 141, 3) := by decide +kernel
theorem dX6_of_126 : decode cX6_of 126 = .ok (.ireturn, 1) := by decide +kernel
theorem dX6_of_127 : decode cX6_of 127 = .ok (.bipush (-2), 2) := by decide +kernel
theorem dX6_of_129 : decode cX6_of 129 = .ok (.ireturn, 1) := by decide +kernel
set_option maxRecDepth 20000 in
theorem ggX6_tooth_X3_hasTooth : GoodIn wsX6_tooth wsX3_hasTooth := goodIn_r _ [6, 7, 8, 9, 5, 10, 11, 12, 13, 14, 15, 16, 17, 18, 19, 20, 21, 22, 33] (by decide +kernel) (by decide +kernel)
set_option maxRecDepth 20000 in
theorem gX6_tooth_X3_hasTooth : GoodIn wsX6_tooth (wsV RX6 144 RX3 yX3_hasTooth wsX3_hasTooth) := goodIn_app (goodIn_of _ (by decide +kernel)) ggX6_tooth_X3_hasTooth
set_option maxRecDepth 20000 in
theorem ggX6_tooth_X3_height : GoodIn wsX6_tooth wsX3_height := goodIn_r _ [26, 20, 21, 5, 22, 11, 12, 13, 14, 15, 33] (by decide +kernel) (by decide +kernel)
set_option maxRecDepth 20000 in
theorem gX6_tooth_X3_height : GoodIn wsX6_tooth (wsV RX6 148 RX3 yX3_height wsX3_height) := goodIn_app (goodIn_of _ (by decide +kernel)) ggX6_tooth_X3_height
theorem dX6_tooth_0 : decode cX6_tooth 0 = .ok (.aload_n 0, 1) := by decide +kernel
theorem dX6_tooth_1 : decode cX6_tooth 1 = .ok (.getfield 10, 3) := by decide +kernel
theorem dX6_tooth_4 : decode cX6_tooth 4 = .ok (.iload_n 1, 1) := by decide +kernel
theorem dX6_tooth_5 : decode cX6_tooth 5 = .ok (.iload_n 2, 1) := by decide +kernel
theorem dX6_tooth_6 : decode cX6_tooth 6 = .ok (.invokevirtual 144, 3) := by decide +kernel
theorem dX6_tooth_9 : decode cX6_tooth 9 = .ok (.ifCond .eq 18, 3) := by decide +kernel
theorem dX6_tooth_12 : decode cX6_tooth 12 = .ok (.aload_n 0, 1) := by decide +kernel
theorem dX6_tooth_13 : decode cX6_tooth 13 = .ok (.getfield 10, 3) := by decide +kernel
theorem dX6_tooth_16 : decode cX6_tooth 16 = .ok (.iload_n 1, 1) := by decide +kernel
theorem dX6_tooth_17 : decode cX6_tooth 17 = .ok (.iload_n 2, 1) := by decide +kernel
theorem dX6_tooth_18 : decode cX6_tooth 18 = .ok (.invokevirtual 148, 3) := by decide +kernel
theorem dX6_tooth_21 : decode cX6_tooth 21 = .ok (.bipush 9, 2) := by decide +kernel
theorem dX6_tooth_23 : decode cX6_tooth 23 = .ok (.iadd, 1) := by decide +kernel
theorem dX6_tooth_24 : decode cX6_tooth 24 = .ok (.goto 4, 3) := by decide +kernel
theorem dX6_tooth_27 : decode cX6_tooth 27 = .ok (.iconst (-1), 1) := by decide +kernel
theorem dX6_tooth_28 : decode cX6_tooth 28 = .ok (.ireturn, 1) := by decide +kernel
set_option maxRecDepth 20000 in
theorem ggX6_count_X6_outside : GoodIn wsX6_count wsX6_outside := goodIn_r _ [7] (by decide +kernel) (by decide +kernel)
set_option maxRecDepth 20000 in
theorem gX6_count_X6_outside : GoodIn wsX6_count (va_wsS RX6 86 yX6_outside wsX6_outside) := goodIn_app (goodIn_of _ (by decide +kernel)) ggX6_count_X6_outside
set_option maxRecDepth 20000 in
theorem ggX6_count_X1_length : GoodIn wsX6_count wsX1_length := goodIn_r _ [12, 13, 32, 33] (by decide +kernel) (by decide +kernel)
set_option maxRecDepth 20000 in
theorem gX6_count_X1_length : GoodIn wsX6_count (wsV RX6 151 RX1 yX1_length wsX1_length) := goodIn_app (goodIn_of _ (by decide +kernel)) ggX6_count_X1_length
set_option maxRecDepth 20000 in
theorem ggX6_count_X0_length : GoodIn wsX6_count wsX0_length := goodIn_r _ [18, 19, 34, 35, 36] (by decide +kernel) (by decide +kernel)
set_option maxRecDepth 20000 in
theorem gX6_count_X0_length : GoodIn wsX6_count (wsV RX6 154 RX0 yX0_length wsX0_length) := goodIn_app (goodIn_of _ (by decide +kernel)) ggX6_count_X0_length
set_option maxRecDepth 20000 in
theorem ggX6_count_X3_cell : GoodIn wsX6_count wsX3_cell := goodIn_r _ [24, 25, 37] (by decide +kernel) (by decide +kernel)
set_option maxRecDepth 20000 in
theorem gX6_count_X3_cell : GoodIn wsX6_count (wsV RX6 104 RX3 yX3_cell wsX3_cell) := goodIn_app (goodIn_of _ (by decide +kernel)) ggX6_count_X3_cell
theorem dX6_count_0 : decode cX6_count 0 = .ok (.iload_n 1, 1) := by decide +kernel
theorem dX6_count_1 : decode cX6_count 1 = .ok (.iconst 0, 1) := by decide +kernel
theorem dX6_count_2 : decode cX6_count 2 = .ok (.bipush 10, 2) := by decide +kernel
theorem dX6_count_4 : decode cX6_count 4 = .ok (.invokestatic 86, 3) := by decide +kernel
theorem dX6_count_7 : decode cX6_count 7 = .ok (.ifCond .eq 6, 3) := by decide +kernel
theorem dX6_count_10 : decode cX6_count 10 = .ok (.bipush (-2), 2) := by decide +kernel
theorem dX6_count_12 : decode cX6_count 12 = .ok (.ireturn, 1) := by decide +kernel
theorem dX6_count_13 : decode cX6_count 13 = .ok (.iload_n 1, 1) := by decide +kernel
theorem dX6_count_14 : decode cX6_count 14 = .ok (.bipush 9, 2) := by decide +kernel
theorem dX6_count_16 : decode cX6_count 16 = .ok (.if_icmp .ne 11, 3) := by decide +kernel
theorem dX6_count_19 : decode cX6_count 19 = .ok (.aload_n 0, 1) := by decide +kernel
theorem dX6_count_20 : decode cX6_count 20 = .ok (.getfield 33, 3) := by decide +kernel
theorem dX6_count_23 : decode cX6_count 23 = .ok (.invokevirtual 151, 3) := by decide +kernel
theorem dX6_count_26 : decode cX6_count 26 = .ok (.ireturn, 1) := by decide +kernel
theorem dX6_count_27 : decode cX6_count 27 = .ok (.iload_n 1, 1) := by decide +kernel
theorem dX6_count_28 : decode cX6_count 28 = .ok (.bipush 10, 2) := by decide +kernel
theorem dX6_count_30 : decode cX6_count 30 = .ok (.if_icmp .ne 13, 3) := by decide +kernel
theorem dX6_count_33 : decode cX6_count 33 = .ok (.aload_n 0, 1) := by decide +kernel
theorem dX6_count_34 : decode cX6_count 34 = .ok (.getfield 19, 3) := by decide +kernel
theorem dX6_count_37 : decode cX6_count 37 = .ok (.invokevirtual 154, 3) := by decide +kernel
theorem dX6_count_40 : decode cX6_count 40 = .ok (.goto 11, 3) := by decide +kernel
theorem dX6_count_43 : decode cX6_count 43 = .ok (.aload_n 0, 1) := by decide +kernel
theorem dX6_count_44 : decode cX6_count 44 = .ok (.getfield 10, 3) := by decide +kernel
theorem dX6_count_47 : decode cX6_count 47 = .ok (.iload_n 1, 1) := by decide +kernel
theorem dX6_count_48 : decode cX6_count 48 = .ok (.invokevirtual 104, 3) := by decide +kernel
theorem dX6_count_51 : decode cX6_count 51 = .ok (.ireturn, 1) := by decide +kernel
set_option maxRecDepth 20000 in
theorem ggX6_pair_X6_questionError : GoodIn wsX6_pair wsX6_questionError := goodIn_r _ [7, 8, 9, 10, 6, 11, 2, 12, 13, 14, 15, 16, 17, 18, 19, 20, 21, 22, 23, 24, 91, 92, 93, 94, 95, 96, 97] (by decide +kernel) (by decide +kernel)
set_option maxRecDepth 20000 in
theorem gX6_pair_X6_questionError : GoodIn wsX6_pair (wsV RX6 155 RX6 yX6_questionError wsX6_questionError) := goodIn_app (goodIn_of _ (by decide +kernel)) ggX6_pair_X6_questionError
set_option maxRecDepth 20000 in
theorem ggX6_pair_X5_lay : GoodIn wsX6_pair wsX5_lay := goodIn_r _ [29, 30, 31, 32, 33, 34, 35, 36, 37, 38, 15, 39, 40, 41, 42, 17, 18, 19, 20, 21, 43, 44, 28, 45, 46, 47, 48, 49, 50, 51, 52, 98, 99, 100, 101, 97] (by decide +kernel) (by decide +kernel)
set_option maxRecDepth 20000 in
theorem gX6_pair_X5_lay : GoodIn wsX6_pair (wsV RX6 90 RX5 yX5_lay wsX5_lay) := goodIn_app (goodIn_of _ (by decide +kernel)) ggX6_pair_X5_lay
set_option maxRecDepth 20000 in
theorem ggX6_pair_X5_length : GoodIn wsX6_pair wsX5_length := goodIn_r _ [56, 34, 98, 99, 100, 101] (by decide +kernel) (by decide +kernel)
set_option maxRecDepth 20000 in
theorem gX6_pair_X5_length : GoodIn wsX6_pair (wsV RX6 158 RX5 yX5_length wsX5_length) := goodIn_app (goodIn_of _ (by decide +kernel)) ggX6_pair_X5_length
set_option maxRecDepth 20000 in
theorem ggX6_pair_X5_leastPress : GoodIn wsX6_pair wsX5_leastPress := goodIn_r _ [60, 34, 30, 31, 32, 33, 61, 62, 63, 28, 64, 35, 98, 99, 100, 101] (by decide +kernel) (by decide +kernel)
set_option maxRecDepth 20000 in
theorem gX6_pair_X5_leastPress : GoodIn wsX6_pair (wsV RX6 159 RX5 yX5_leastPress wsX5_leastPress) := goodIn_app (goodIn_of _ (by decide +kernel)) ggX6_pair_X5_leastPress
set_option maxRecDepth 20000 in
theorem ggX6_pair_X5_greatestPress : GoodIn wsX6_pair wsX5_greatestPress := goodIn_r _ [68, 34, 69, 70, 32, 71, 61, 62, 63, 28, 64, 35, 98, 99, 100, 101] (by decide +kernel) (by decide +kernel)
set_option maxRecDepth 20000 in
theorem gX6_pair_X5_greatestPress : GoodIn wsX6_pair (wsV RX6 162 RX5 yX5_greatestPress wsX5_greatestPress) := goodIn_app (goodIn_of _ (by decide +kernel)) ggX6_pair_X5_greatestPress
set_option maxRecDepth 20000 in
theorem ggX6_pair_X3_setting : GoodIn wsX6_pair wsX3_setting := goodIn_r _ [75, 17, 18, 19, 15, 20, 21, 97] (by decide +kernel) (by decide +kernel)
set_option maxRecDepth 20000 in
theorem gX6_pair_X3_setting : GoodIn wsX6_pair (wsV RX6 94 RX3 yX3_setting wsX3_setting) := goodIn_app (goodIn_of _ (by decide +kernel)) ggX6_pair_X3_setting
set_option maxRecDepth 20000 in
theorem ggX6_pair_X5_meshes : GoodIn wsX6_pair wsX5_meshes := goodIn_r _ [79, 80, 81, 82, 28, 83, 34, 61, 62, 63, 64, 35, 84, 85, 86, 87, 88, 89, 32, 90, 98, 99, 100, 101] (by decide +kernel) (by decide +kernel)
set_option maxRecDepth 20000 in
theorem gX6_pair_X5_meshes : GoodIn wsX6_pair (wsV RX6 97 RX5 yX5_meshes wsX5_meshes) := goodIn_app (goodIn_of _ (by decide +kernel)) ggX6_pair_X5_meshes
theorem dX6_pair_0 : decode cX6_pair 0 = .ok (.aload_n 0, 1) := by decide +kernel
theorem dX6_pair_1 : decode cX6_pair 1 = .ok (.iload_n 1, 1) := by decide +kernel
theorem dX6_pair_2 : decode cX6_pair 2 = .ok (.iload_n 2, 1) := by decide +kernel
theorem dX6_pair_3 : decode cX6_pair 3 = .ok (.iload_n 3, 1) := by decide +kernel
theorem dX6_pair_4 : decode cX6_pair 4 = .ok (.iload 4, 2) := by decide +kernel
theorem dX6_pair_6 : decode cX6_pair 6 = .ok (.iload 5, 2) := by decide +kernel
theorem dX6_pair_8 : decode cX6_pair 8 = .ok (.iconst 3, 1) := by decide +kernel
theorem dX6_pair_9 : decode cX6_pair 9 = .ok (.invokevirtual 155, 3) := by decide +kernel
theorem dX6_pair_12 : decode cX6_pair 12 = .ok (.istore 6, 2) := by decide +kernel
theorem dX6_pair_14 : decode cX6_pair 14 = .ok (.iload 6, 2) := by decide +kernel
theorem dX6_pair_16 : decode cX6_pair 16 = .ok (.ifCond .eq 6, 3) := by decide +kernel
theorem dX6_pair_19 : decode cX6_pair 19 = .ok (.iload 6, 2) := by decide +kernel
theorem dX6_pair_21 : decode cX6_pair 21 = .ok (.ireturn, 1) := by decide +kernel
theorem dX6_pair_22 : decode cX6_pair 22 = .ok (.aload_n 0, 1) := by decide +kernel
theorem dX6_pair_23 : decode cX6_pair 23 = .ok (.getfield 49, 3) := by decide +kernel
theorem dX6_pair_26 : decode cX6_pair 26 = .ok (.aload_n 0, 1) := by decide +kernel
theorem dX6_pair_27 : decode cX6_pair 27 = .ok (.getfield 10, 3) := by decide +kernel
theorem dX6_pair_30 : decode cX6_pair 30 = .ok (.iload_n 1, 1) := by decide +kernel
theorem dX6_pair_31 : decode cX6_pair 31 = .ok (.iload_n 2, 1) := by decide +kernel
theorem dX6_pair_32 : decode cX6_pair 32 = .ok (.iload_n 3, 1) := by decide +kernel
theorem dX6_pair_33 : decode cX6_pair 33 = .ok (.iload 4, 2) := by decide +kernel
theorem dX6_pair_35 : decode cX6_pair 35 = .ok (.invokevirtual 90, 3) := by decide +kernel
theorem dX6_pair_38 : decode cX6_pair 38 = .ok (.iload 5, 2) := by decide +kernel
theorem dX6_pair_40 : decode cX6_pair 40 = .ok (.tableswitch 58 0 2 #[28, 36, 47], 28) := by decide +kernel
theorem dX6_pair_68 : decode cX6_pair 68 = .ok (.aload_n 0, 1) := by decide +kernel
theorem dX6_pair_69 : decode cX6_pair 69 = .ok (.getfield 49, 3) := by decide +kernel
theorem dX6_pair_72 : decode cX6_pair 72 = .ok (.invokevirtual 158, 3) := by decide +kernel
theorem dX6_pair_75 : decode cX6_pair 75 = .ok (.ireturn, 1) := by decide +kernel
theorem dX6_pair_76 : decode cX6_pair 76 = .ok (.aload_n 0, 1) := by decide +kernel
theorem dX6_pair_77 : decode cX6_pair 77 = .ok (.getfield 49, 3) := by decide +kernel
theorem dX6_pair_80 : decode cX6_pair 80 = .ok (.invokevirtual 159, 3) := by decide +kernel
theorem dX6_pair_83 : decode cX6_pair 83 = .ok (.bipush 100, 2) := by decide +kernel
theorem dX6_pair_85 : decode cX6_pair 85 = .ok (.iadd, 1) := by decide +kernel
theorem dX6_pair_86 : decode cX6_pair 86 = .ok (.ireturn, 1) := by decide +kernel
theorem dX6_pair_87 : decode cX6_pair 87 = .ok (.aload_n 0, 1) := by decide +kernel
theorem dX6_pair_88 : decode cX6_pair 88 = .ok (.getfield 49, 3) := by decide +kernel
theorem dX6_pair_91 : decode cX6_pair 91 = .ok (.invokevirtual 162, 3) := by decide +kernel
theorem dX6_pair_94 : decode cX6_pair 94 = .ok (.bipush 100, 2) := by decide +kernel
theorem dX6_pair_96 : decode cX6_pair 96 = .ok (.iadd, 1) := by decide +kernel
theorem dX6_pair_97 : decode cX6_pair 97 = .ok (.ireturn, 1) := by decide +kernel
theorem dX6_pair_98 : decode cX6_pair 98 = .ok (.aload_n 0, 1) := by decide +kernel
theorem dX6_pair_99 : decode cX6_pair 99 = .ok (.getfield 49, 3) := by decide +kernel
theorem dX6_pair_102 : decode cX6_pair 102 = .ok (.aload_n 0, 1) := by decide +kernel
theorem dX6_pair_103 : decode cX6_pair 103 = .ok (.getfield 10, 3) := by decide +kernel
theorem dX6_pair_106 : decode cX6_pair 106 = .ok (.iconst 0, 1) := by decide +kernel
theorem dX6_pair_107 : decode cX6_pair 107 = .ok (.invokevirtual 94, 3) := by decide +kernel
theorem dX6_pair_110 : decode cX6_pair 110 = .ok (.invokevirtual 97, 3) := by decide +kernel
theorem dX6_pair_113 : decode cX6_pair 113 = .ok (.ifCond .eq 7, 3) := by decide +kernel
theorem dX6_pair_116 : decode cX6_pair 116 = .ok (.iconst 1, 1) := by decide +kernel
theorem dX6_pair_117 : decode cX6_pair 117 = .ok (.goto 4, 3) := by decide +kernel
theorem dX6_pair_120 : decode cX6_pair 120 = .ok (.iconst 0, 1) := by decide +kernel
theorem dX6_pair_121 : decode cX6_pair 121 = .ok (.ireturn, 1) := by decide +kernel
set_option maxRecDepth 20000 in
theorem ggX6_why_X6_questionError : GoodIn wsX6_why wsX6_questionError := goodIn_r _ [7, 8, 9, 10, 6, 11, 2, 12, 13, 14, 15, 16, 17, 18, 19, 20, 21, 22, 23, 24, 73, 74, 75, 76, 77, 78, 79] (by decide +kernel) (by decide +kernel)
set_option maxRecDepth 20000 in
theorem gX6_why_X6_questionError : GoodIn wsX6_why (wsV RX6 155 RX6 yX6_questionError wsX6_questionError) := goodIn_app (goodIn_of _ (by decide +kernel)) ggX6_why_X6_questionError
set_option maxRecDepth 20000 in
theorem ggX6_why_X5_lay : GoodIn wsX6_why wsX5_lay := goodIn_r _ [29, 30, 31, 32, 33, 34, 35, 36, 37, 38, 15, 39, 40, 41, 42, 17, 18, 19, 20, 21, 43, 44, 28, 45, 46, 47, 48, 49, 50, 51, 52, 80, 81, 82, 83, 79] (by decide +kernel) (by decide +kernel)
set_option maxRecDepth 20000 in
theorem gX6_why_X5_lay : GoodIn wsX6_why (wsV RX6 90 RX5 yX5_lay wsX5_lay) := goodIn_app (goodIn_of _ (by decide +kernel)) ggX6_why_X5_lay
set_option maxRecDepth 20000 in
theorem ggX6_why_X3_setting : GoodIn wsX6_why wsX3_setting := goodIn_r _ [56, 17, 18, 19, 15, 20, 21, 79] (by decide +kernel) (by decide +kernel)
set_option maxRecDepth 20000 in
theorem gX6_why_X3_setting : GoodIn wsX6_why (wsV RX6 94 RX3 yX3_setting wsX3_setting) := goodIn_app (goodIn_of _ (by decide +kernel)) ggX6_why_X3_setting
set_option maxRecDepth 20000 in
theorem ggX6_why_X5_firstBadStep : GoodIn wsX6_why wsX5_firstBadStep := goodIn_r _ [60, 34, 61, 62, 63, 28, 64, 35, 65, 66, 67, 68, 69, 70, 32, 71, 80, 81, 82, 83] (by decide +kernel) (by decide +kernel)
set_option maxRecDepth 20000 in
theorem gX6_why_X5_firstBadStep : GoodIn wsX6_why (wsV RX6 165 RX5 yX5_firstBadStep wsX5_firstBadStep) := goodIn_app (goodIn_of _ (by decide +kernel)) ggX6_why_X5_firstBadStep
set_option maxRecDepth 20000 in
theorem ggX6_why_X5_press : GoodIn wsX6_why wsX5_press := goodIn_r _ [64, 35, 80, 81, 82, 83] (by decide +kernel) (by decide +kernel)
set_option maxRecDepth 20000 in
theorem gX6_why_X5_press : GoodIn wsX6_why (wsV RX6 168 RX5 yX5_press wsX5_press) := goodIn_app (goodIn_of _ (by decide +kernel)) ggX6_why_X5_press
theorem dX6_why_0 : decode cX6_why 0 = .ok (.aload_n 0, 1) := by decide +kernel
theorem dX6_why_1 : decode cX6_why 1 = .ok (.iload_n 1, 1) := by decide +kernel
theorem dX6_why_2 : decode cX6_why 2 = .ok (.iload_n 2, 1) := by decide +kernel
theorem dX6_why_3 : decode cX6_why 3 = .ok (.iload_n 3, 1) := by decide +kernel
theorem dX6_why_4 : decode cX6_why 4 = .ok (.iload 4, 2) := by decide +kernel
theorem dX6_why_6 : decode cX6_why 6 = .ok (.iload 5, 2) := by decide +kernel
theorem dX6_why_8 : decode cX6_why 8 = .ok (.iconst 1, 1) := by decide +kernel
theorem dX6_why_9 : decode cX6_why 9 = .ok (.invokevirtual 155, 3) := by decide +kernel
theorem dX6_why_12 : decode cX6_why 12 = .ok (.istore 6, 2) := by decide +kernel
theorem dX6_why_14 : decode cX6_why 14 = .ok (.iload 6, 2) := by decide +kernel
theorem dX6_why_16 : decode cX6_why 16 = .ok (.ifCond .eq 6, 3) := by decide +kernel
theorem dX6_why_19 : decode cX6_why 19 = .ok (.iload 6, 2) := by decide +kernel
theorem dX6_why_21 : decode cX6_why 21 = .ok (.ireturn, 1) := by decide +kernel
theorem dX6_why_22 : decode cX6_why 22 = .ok (.aload_n 0, 1) := by decide +kernel
theorem dX6_why_23 : decode cX6_why 23 = .ok (.getfield 49, 3) := by decide +kernel
theorem dX6_why_26 : decode cX6_why 26 = .ok (.aload_n 0, 1) := by decide +kernel
theorem dX6_why_27 : decode cX6_why 27 = .ok (.getfield 10, 3) := by decide +kernel
theorem dX6_why_30 : decode cX6_why 30 = .ok (.iload_n 1, 1) := by decide +kernel
theorem dX6_why_31 : decode cX6_why 31 = .ok (.iload_n 2, 1) := by decide +kernel
theorem dX6_why_32 : decode cX6_why 32 = .ok (.iload_n 3, 1) := by decide +kernel
theorem dX6_why_33 : decode cX6_why 33 = .ok (.iload 4, 2) := by decide +kernel
theorem dX6_why_35 : decode cX6_why 35 = .ok (.invokevirtual 90, 3) := by decide +kernel
theorem dX6_why_38 : decode cX6_why 38 = .ok (.aload_n 0, 1) := by decide +kernel
theorem dX6_why_39 : decode cX6_why 39 = .ok (.getfield 49, 3) := by decide +kernel
theorem dX6_why_42 : decode cX6_why 42 = .ok (.aload_n 0, 1) := by decide +kernel
theorem dX6_why_43 : decode cX6_why 43 = .ok (.getfield 10, 3) := by decide +kernel
theorem dX6_why_46 : decode cX6_why 46 = .ok (.iconst 0, 1) := by decide +kernel
theorem dX6_why_47 : decode cX6_why 47 = .ok (.invokevirtual 94, 3) := by decide +kernel
theorem dX6_why_50 : decode cX6_why 50 = .ok (.invokevirtual 165, 3) := by decide +kernel
theorem dX6_why_53 : decode cX6_why 53 = .ok (.istore 7, 2) := by decide +kernel
theorem dX6_why_55 : decode cX6_why 55 = .ok (.iload 5, 2) := by decide +kernel
theorem dX6_why_57 : decode cX6_why 57 = .ok (.iconst 1, 1) := by decide +kernel
theorem dX6_why_58 : decode cX6_why 58 = .ok (.if_icmp .ne 6, 3) := by decide +kernel
theorem dX6_why_61 : decode cX6_why 61 = .ok (.iload 7, 2) := by decide +kernel
theorem dX6_why_63 : decode cX6_why 63 = .ok (.ireturn, 1) := by decide +kernel
theorem dX6_why_64 : decode cX6_why 64 = .ok (.iload 7, 2) := by decide +kernel
theorem dX6_why_66 : decode cX6_why 66 = .ok (.bipush (-6), 2) := by decide +kernel
theorem dX6_why_68 : decode cX6_why 68 = .ok (.if_icmp .ne 5, 3) := by decide +kernel
theorem dX6_why_71 : decode cX6_why 71 = .ok (.iconst 0, 1) := by decide +kernel
theorem dX6_why_72 : decode cX6_why 72 = .ok (.ireturn, 1) := by decide +kernel
theorem dX6_why_73 : decode cX6_why 73 = .ok (.aload_n 0, 1) := by decide +kernel
theorem dX6_why_74 : decode cX6_why 74 = .ok (.getfield 49, 3) := by decide +kernel
theorem dX6_why_77 : decode cX6_why 77 = .ok (.iload 7, 2) := by decide +kernel
theorem dX6_why_79 : decode cX6_why 79 = .ok (.invokevirtual 168, 3) := by decide +kernel
theorem dX6_why_82 : decode cX6_why 82 = .ok (.iconst 1, 1) := by decide +kernel
theorem dX6_why_83 : decode cX6_why 83 = .ok (.if_icmp .ge 7, 3) := by decide +kernel
theorem dX6_why_86 : decode cX6_why 86 = .ok (.iconst 1, 1) := by decide +kernel
theorem dX6_why_87 : decode cX6_why 87 = .ok (.goto 4, 3) := by decide +kernel
theorem dX6_why_90 : decode cX6_why 90 = .ok (.iconst 2, 1) := by decide +kernel
theorem dX6_why_91 : decode cX6_why 91 = .ok (.ireturn, 1) := by decide +kernel
set_option maxRecDepth 20000 in
theorem ggX6_leastGap_X6_pairError : GoodIn wsX6_leastGap wsX6_pairError := goodIn_r _ [5, 6, 7, 8, 9, 10, 11, 12, 13, 14, 15, 16, 17, 18, 4, 19, 79, 80, 81, 82, 83, 84, 85] (by decide +kernel) (by decide +kernel)
set_option maxRecDepth 20000 in
theorem gX6_leastGap_X6_pairError : GoodIn wsX6_leastGap (wsV RX6 82 RX6 yX6_pairError wsX6_pairError) := goodIn_app (goodIn_of _ (by decide +kernel)) ggX6_leastGap_X6_pairError
set_option maxRecDepth 20000 in
theorem ggX6_leastGap_X6_gapToMesh : GoodIn wsX6_leastGap wsX6_gapToMesh := goodIn_r _ [23, 24, 6, 25, 26, 27, 28, 29, 30, 31, 32, 33, 34, 35, 36, 37, 38, 39, 40, 41, 10, 42, 43, 44, 45, 12, 13, 14, 15, 16, 46, 47, 48, 49, 50, 51, 52, 53, 54, 55, 56, 57, 58, 59, 60, 61, 62, 63, 64, 65, 66, 67, 68, 69, 70, 71, 72, 73, 74, 75, 76, 77, 78, 79, 80, 81, 82, 83, 84, 86, 87, 88, 89, 85] (by decide +kernel) (by decide +kernel)
set_option maxRecDepth 20000 in
theorem gX6_leastGap_X6_gapToMesh : GoodIn wsX6_leastGap (wsV RX6 171 RX6 yX6_gapToMesh wsX6_gapToMesh) := goodIn_app (goodIn_of _ (by decide +kernel)) ggX6_leastGap_X6_gapToMesh
theorem dX6_leastGap_0 : decode cX6_leastGap 0 = .ok (.aload_n 0, 1) := by decide +kernel
theorem dX6_leastGap_1 : decode cX6_leastGap 1 = .ok (.iload_n 1, 1) := by decide +kernel
theorem dX6_leastGap_2 : decode cX6_leastGap 2 = .ok (.iload_n 2, 1) := by decide +kernel
theorem dX6_leastGap_3 : decode cX6_leastGap 3 = .ok (.iload_n 3, 1) := by decide +kernel
theorem dX6_leastGap_4 : decode cX6_leastGap 4 = .ok (.iconst 0, 1) := by decide +kernel
theorem dX6_leastGap_5 : decode cX6_leastGap 5 = .ok (.invokevirtual 82, 3) := by decide +kernel
theorem dX6_leastGap_8 : decode cX6_leastGap 8 = .ok (.istore 4, 2) := by decide +kernel
theorem dX6_leastGap_10 : decode cX6_leastGap 10 = .ok (.iload 4, 2) := by decide +kernel
theorem dX6_leastGap_12 : decode cX6_leastGap 12 = .ok (.ifCond .eq 8, 3) := by decide +kernel
theorem dX6_leastGap_15 : decode cX6_leastGap 15 = .ok (.iload 4, 2) := by decide +kernel
theorem dX6_leastGap_17 : decode cX6_leastGap 17 = .ok (.goto 10, 3) := by decide +kernel
theorem dX6_leastGap_20 : decode cX6_leastGap 20 = .ok (.aload_n 0, 1) := by decide +kernel
theorem dX6_leastGap_21 : decode cX6_leastGap 21 = .ok (.iload_n 1, 1) := by decide +kernel
theorem dX6_leastGap_22 : decode cX6_leastGap 22 = .ok (.iload_n 2, 1) := by decide +kernel
theorem dX6_leastGap_23 : decode cX6_leastGap 23 = .ok (.iload_n 3, 1) := by decide +kernel
theorem dX6_leastGap_24 : decode cX6_leastGap 24 = .ok (.invokevirtual 171, 3) := by decide +kernel
theorem dX6_leastGap_27 : decode cX6_leastGap 27 = .ok (.ireturn, 1) := by decide +kernel
set_option maxRecDepth 20000 in
theorem ggX6_bestOffset_X6_questionError : GoodIn wsX6_bestOffset wsX6_questionError := goodIn_r _ [10, 11, 12, 13, 9, 14, 1, 15, 16, 17, 18, 19, 20, 21, 22, 23, 24, 25, 26, 27, 85, 86, 87, 88, 89, 90, 91] (by decide +kernel) (by decide +kernel)
set_option maxRecDepth 20000 in
theorem gX6_bestOffset_X6_questionError : GoodIn wsX6_bestOffset (wsV RX6 155 RX6 yX6_questionError wsX6_questionError) := goodIn_app (goodIn_of _ (by decide +kernel)) ggX6_bestOffset_X6_questionError
set_option maxRecDepth 20000 in
theorem ggX6_bestOffset_X3_teeth : GoodIn wsX6_bestOffset wsX3_teeth := goodIn_r _ [31, 32, 33, 18, 34, 20, 21, 22, 23, 24, 91] (by decide +kernel) (by decide +kernel)
set_option maxRecDepth 20000 in
theorem gX6_bestOffset_X3_teeth : GoodIn wsX6_bestOffset (wsV RX6 126 RX3 yX3_teeth wsX3_teeth) := goodIn_app (goodIn_of _ (by decide +kernel)) ggX6_bestOffset_X3_teeth
set_option maxRecDepth 20000 in
theorem ggX6_bestOffset_X6_gapToMesh : GoodIn wsX6_bestOffset wsX6_gapToMesh := goodIn_r _ [38, 39, 1, 40, 41, 4, 42, 43, 44, 45, 46, 47, 48, 3, 5, 49, 50, 51, 29, 30, 18, 31, 32, 33, 34, 20, 21, 22, 23, 24, 52, 53, 54, 55, 56, 57, 58, 59, 60, 61, 62, 63, 64, 65, 66, 67, 68, 69, 70, 71, 72, 73, 74, 75, 76, 77, 78, 79, 80, 81, 82, 83, 84, 85, 86, 87, 88, 89, 90, 92, 93, 94, 95, 91] (by decide +kernel) (by decide +kernel)
set_option maxRecDepth 20000 in
theorem gX6_bestOffset_X6_gapToMesh : GoodIn wsX6_bestOffset (wsV RX6 171 RX6 yX6_gapToMesh wsX6_gapToMesh) := goodIn_app (goodIn_of _ (by decide +kernel)) ggX6_bestOffset_X6_gapToMesh
theorem dX6_bestOffset_0 : decode cX6_bestOffset 0 = .ok (.aload_n 0, 1) := by decide +kernel
theorem dX6_bestOffset_1 : decode cX6_bestOffset 1 = .ok (.iload_n 1, 1) := by decide +kernel
theorem dX6_bestOffset_2 : decode cX6_bestOffset 2 = .ok (.iload_n 2, 1) := by decide +kernel
theorem dX6_bestOffset_3 : decode cX6_bestOffset 3 = .ok (.iconst 0, 1) := by decide +kernel
theorem dX6_bestOffset_4 : decode cX6_bestOffset 4 = .ok (.iconst 0, 1) := by decide +kernel
theorem dX6_bestOffset_5 : decode cX6_bestOffset 5 = .ok (.iload_n 3, 1) := by decide +kernel
theorem dX6_bestOffset_6 : decode cX6_bestOffset 6 = .ok (.iconst 1, 1) := by decide +kernel
theorem dX6_bestOffset_7 : decode cX6_bestOffset 7 = .ok (.invokevirtual 155, 3) := by decide +kernel
theorem dX6_bestOffset_10 : decode cX6_bestOffset 10 = .ok (.istore 4, 2) := by decide +kernel
theorem dX6_bestOffset_12 : decode cX6_bestOffset 12 = .ok (.iload 4, 2) := by decide +kernel
theorem dX6_bestOffset_14 : decode cX6_bestOffset 14 = .ok (.ifCond .eq 6, 3) := by decide +kernel
theorem dX6_bestOffset_17 : decode cX6_bestOffset 17 = .ok (.iload 4, 2) := by decide +kernel
theorem dX6_bestOffset_19 : decode cX6_bestOffset 19 = .ok (.ireturn, 1) := by decide +kernel
theorem dX6_bestOffset_20 : decode cX6_bestOffset 20 = .ok (.bipush (-6), 2) := by decide +kernel
theorem dX6_bestOffset_22 : decode cX6_bestOffset 22 = .ok (.istore 5, 2) := by decide +kernel
theorem dX6_bestOffset_24 : decode cX6_bestOffset 24 = .ok (.bipush (-6), 2) := by decide +kernel
theorem dX6_bestOffset_26 : decode cX6_bestOffset 26 = .ok (.istore 6, 2) := by decide +kernel
theorem dX6_bestOffset_28 : decode cX6_bestOffset 28 = .ok (.aload_n 0, 1) := by decide +kernel
theorem dX6_bestOffset_29 : decode cX6_bestOffset 29 = .ok (.getfield 10, 3) := by decide +kernel
theorem dX6_bestOffset_32 : decode cX6_bestOffset 32 = .ok (.iload_n 2, 1) := by decide +kernel
theorem dX6_bestOffset_33 : decode cX6_bestOffset 33 = .ok (.invokevirtual 126, 3) := by decide +kernel
theorem dX6_bestOffset_36 : decode cX6_bestOffset 36 = .ok (.bipush 24, 2) := by decide +kernel
theorem dX6_bestOffset_38 : decode cX6_bestOffset 38 = .ok (.invokestatic 174, 3) := by decide +kernel
theorem dX6_bestOffset_41 : decode cX6_bestOffset 41 = .ok (.istore 7, 2) := by decide +kernel
theorem dX6_bestOffset_43 : decode cX6_bestOffset 43 = .ok (.iconst 0, 1) := by decide +kernel
theorem dX6_bestOffset_44 : decode cX6_bestOffset 44 = .ok (.istore 8, 2) := by decide +kernel
theorem dX6_bestOffset_46 : decode cX6_bestOffset 46 = .ok (.iload 8, 2) := by decide +kernel
theorem dX6_bestOffset_48 : decode cX6_bestOffset 48 = .ok (.iload 7, 2) := by decide +kernel
theorem dX6_bestOffset_50 : decode cX6_bestOffset 50 = .ok (.if_icmp .ge 48, 3) := by decide +kernel
theorem dX6_bestOffset_53 : decode cX6_bestOffset 53 = .ok (.aload_n 0, 1) := by decide +kernel
theorem dX6_bestOffset_54 : decode cX6_bestOffset 54 = .ok (.iload_n 1, 1) := by decide +kernel
theorem dX6_bestOffset_55 : decode cX6_bestOffset 55 = .ok (.iload_n 2, 1) := by decide +kernel
theorem dX6_bestOffset_56 : decode cX6_bestOffset 56 = .ok (.iload 8, 2) := by decide +kernel
theorem dX6_bestOffset_58 : decode cX6_bestOffset 58 = .ok (.invokevirtual 171, 3) := by decide +kernel
theorem dX6_bestOffset_61 : decode cX6_bestOffset 61 = .ok (.istore 9, 2) := by decide +kernel
theorem dX6_bestOffset_63 : decode cX6_bestOffset 63 = .ok (.iload 9, 2) := by decide +kernel
theorem dX6_bestOffset_65 : decode cX6_bestOffset 65 = .ok (.bipush (-6), 2) := by decide +kernel
theorem dX6_bestOffset_67 : decode cX6_bestOffset 67 = .ok (.if_icmp .eq 25, 3) := by decide +kernel
theorem dX6_bestOffset_70 : decode cX6_bestOffset 70 = .ok (.iload 6, 2) := by decide +kernel
theorem dX6_bestOffset_72 : decode cX6_bestOffset 72 = .ok (.bipush (-6), 2) := by decide +kernel
theorem dX6_bestOffset_74 : decode cX6_bestOffset 74 = .ok (.if_icmp .eq 10, 3) := by decide +kernel
theorem dX6_bestOffset_77 : decode cX6_bestOffset 77 = .ok (.iload 9, 2) := by decide +kernel
theorem dX6_bestOffset_79 : decode cX6_bestOffset 79 = .ok (.iload 6, 2) := by decide +kernel
theorem dX6_bestOffset_81 : decode cX6_bestOffset 81 = .ok (.if_icmp .ge 11, 3) := by decide +kernel
theorem dX6_bestOffset_84 : decode cX6_bestOffset 84 = .ok (.iload 8, 2) := by decide +kernel
theorem dX6_bestOffset_86 : decode cX6_bestOffset 86 = .ok (.istore 5, 2) := by decide +kernel
theorem dX6_bestOffset_88 : decode cX6_bestOffset 88 = .ok (.iload 9, 2) := by decide +kernel
theorem dX6_bestOffset_90 : decode cX6_bestOffset 90 = .ok (.istore 6, 2) := by decide +kernel
theorem dX6_bestOffset_92 : decode cX6_bestOffset 92 = .ok (.iinc 8 1, 3) := by decide +kernel
theorem dX6_bestOffset_95 : decode cX6_bestOffset 95 = .ok (.goto (-49), 3) := by decide +kernel
theorem dX6_bestOffset_98 : decode cX6_bestOffset 98 = .ok (.iload_n 3, 1) := by decide +kernel
theorem dX6_bestOffset_99 : decode cX6_bestOffset 99 = .ok (.ifCond .ne 8, 3) := by decide +kernel
theorem dX6_bestOffset_102 : decode cX6_bestOffset 102 = .ok (.iload 5, 2) := by decide +kernel
theorem dX6_bestOffset_104 : decode cX6_bestOffset 104 = .ok (.goto 5, 3) := by decide +kernel
theorem dX6_bestOffset_107 : decode cX6_bestOffset 107 = .ok (.iload 6, 2) := by decide +kernel
theorem dX6_bestOffset_109 : decode cX6_bestOffset 109 = .ok (.ireturn, 1) := by decide +kernel
set_option maxRecDepth 20000 in
theorem ggX6_thickest_X6_pairError : GoodIn wsX6_thickest wsX6_pairError := goodIn_r _ [7, 2, 8, 9, 10, 11, 12, 13, 14, 15, 16, 17, 18, 19, 6, 20, 90, 91, 92, 93, 94, 95, 96] (by decide +kernel) (by decide +kernel)
set_option maxRecDepth 20000 in
theorem gX6_thickest_X6_pairError : GoodIn wsX6_thickest (wsV RX6 82 RX6 yX6_pairError wsX6_pairError) := goodIn_app (goodIn_of _ (by decide +kernel)) ggX6_thickest_X6_pairError
set_option maxRecDepth 20000 in
theorem ggX6_thickest_X5_lay : GoodIn wsX6_thickest wsX5_lay := goodIn_r _ [25, 26, 27, 28, 29, 30, 31, 32, 33, 34, 11, 35, 36, 37, 38, 13, 14, 15, 16, 17, 39, 40, 24, 41, 42, 43, 44, 45, 46, 47, 48, 97, 98, 99, 100, 96] (by decide +kernel) (by decide +kernel)
set_option maxRecDepth 20000 in
theorem gX6_thickest_X5_lay : GoodIn wsX6_thickest (wsV RX6 90 RX5 yX5_lay wsX5_lay) := goodIn_app (goodIn_of _ (by decide +kernel)) ggX6_thickest_X5_lay
set_option maxRecDepth 20000 in
theorem ggX6_thickest_X3_setting : GoodIn wsX6_thickest wsX3_setting := goodIn_r _ [52, 13, 14, 15, 11, 16, 17, 96] (by decide +kernel) (by decide +kernel)
set_option maxRecDepth 20000 in
theorem gX6_thickest_X3_setting : GoodIn wsX6_thickest (wsV RX6 94 RX3 yX3_setting wsX3_setting) := goodIn_app (goodIn_of _ (by decide +kernel)) ggX6_thickest_X3_setting
set_option maxRecDepth 20000 in
theorem ggX6_thickest_X5_meshes : GoodIn wsX6_thickest wsX5_meshes := goodIn_r _ [56, 57, 58, 59, 24, 60, 30, 61, 62, 63, 64, 31, 65, 66, 67, 68, 69, 70, 28, 71, 97, 98, 99, 100] (by decide +kernel) (by decide +kernel)
set_option maxRecDepth 20000 in
theorem gX6_thickest_X5_meshes : GoodIn wsX6_thickest (wsV RX6 97 RX5 yX5_meshes wsX5_meshes) := goodIn_app (goodIn_of _ (by decide +kernel)) ggX6_thickest_X5_meshes
set_option maxRecDepth 20000 in
theorem ggX6_thickest_X5_begin : GoodIn wsX6_thickest wsX5_begin := goodIn_r _ [75, 76, 77, 97, 98, 99, 100] (by decide +kernel) (by decide +kernel)
set_option maxRecDepth 20000 in
theorem gX6_thickest_X5_begin : GoodIn wsX6_thickest (wsV RX6 101 RX5 yX5_begin wsX5_begin) := goodIn_app (goodIn_of _ (by decide +kernel)) ggX6_thickest_X5_begin
set_option maxRecDepth 20000 in
theorem ggX6_thickest_X5_length : GoodIn wsX6_thickest wsX5_length := goodIn_r _ [81, 30, 97, 98, 99, 100] (by decide +kernel) (by decide +kernel)
set_option maxRecDepth 20000 in
theorem gX6_thickest_X5_length : GoodIn wsX6_thickest (wsV RX6 158 RX5 yX5_length wsX5_length) := goodIn_app (goodIn_of _ (by decide +kernel)) ggX6_thickest_X5_length
set_option maxRecDepth 20000 in
theorem ggX6_thickest_X3_cell : GoodIn wsX6_thickest wsX3_cell := goodIn_r _ [16, 17, 96] (by decide +kernel) (by decide +kernel)
set_option maxRecDepth 20000 in
theorem gX6_thickest_X3_cell : GoodIn wsX6_thickest (wsV RX6 104 RX3 yX3_cell wsX3_cell) := goodIn_app (goodIn_of _ (by decide +kernel)) ggX6_thickest_X3_cell
set_option maxRecDepth 20000 in
theorem ggX6_thickest_X5_tears : GoodIn wsX6_thickest wsX5_tears := goodIn_r _ [86, 76, 87, 88, 28, 89, 30, 77, 69, 70, 71, 61, 62, 63, 24, 64, 31, 46, 47, 48, 97, 98, 99, 100] (by decide +kernel) (by decide +kernel)
set_option maxRecDepth 20000 in
theorem gX6_thickest_X5_tears : GoodIn wsX6_thickest (wsV RX6 107 RX5 yX5_tears wsX5_tears) := goodIn_app (goodIn_of _ (by decide +kernel)) ggX6_thickest_X5_tears
theorem dX6_thickest_0 : decode cX6_thickest 0 = .ok (.aload_n 0, 1) := by decide +kernel
theorem dX6_thickest_1 : decode cX6_thickest 1 = .ok (.iload_n 1, 1) := by decide +kernel
theorem dX6_thickest_2 : decode cX6_thickest 2 = .ok (.iload_n 2, 1) := by decide +kernel
theorem dX6_thickest_3 : decode cX6_thickest 3 = .ok (.iload_n 3, 1) := by decide +kernel
theorem dX6_thickest_4 : decode cX6_thickest 4 = .ok (.iload 4, 2) := by decide +kernel
theorem dX6_thickest_6 : decode cX6_thickest 6 = .ok (.invokevirtual 82, 3) := by decide +kernel
theorem dX6_thickest_9 : decode cX6_thickest 9 = .ok (.istore 5, 2) := by decide +kernel
theorem dX6_thickest_11 : decode cX6_thickest 11 = .ok (.iload 5, 2) := by decide +kernel
theorem dX6_thickest_13 : decode cX6_thickest 13 = .ok (.ifCond .eq 6, 3) := by decide +kernel
theorem dX6_thickest_16 : decode cX6_thickest 16 = .ok (.iload 5, 2) := by decide +kernel
theorem dX6_thickest_18 : decode cX6_thickest 18 = .ok (.ireturn, 1) := by decide +kernel
theorem dX6_thickest_19 : decode cX6_thickest 19 = .ok (.aload_n 0, 1) := by decide +kernel
theorem dX6_thickest_20 : decode cX6_thickest 20 = .ok (.getfield 49, 3) := by decide +kernel
theorem dX6_thickest_23 : decode cX6_thickest 23 = .ok (.aload_n 0, 1) := by decide +kernel
theorem dX6_thickest_24 : decode cX6_thickest 24 = .ok (.getfield 10, 3) := by decide +kernel
theorem dX6_thickest_27 : decode cX6_thickest 27 = .ok (.iload_n 1, 1) := by decide +kernel
theorem dX6_thickest_28 : decode cX6_thickest 28 = .ok (.iload_n 2, 1) := by decide +kernel
theorem dX6_thickest_29 : decode cX6_thickest 29 = .ok (.iload_n 3, 1) := by decide +kernel
theorem dX6_thickest_30 : decode cX6_thickest 30 = .ok (.iload 4, 2) := by decide +kernel
theorem dX6_thickest_32 : decode cX6_thickest 32 = .ok (.invokevirtual 90, 3) := by decide +kernel
theorem dX6_thickest_35 : decode cX6_thickest 35 = .ok (.aload_n 0, 1) := by decide +kernel
theorem dX6_thickest_36 : decode cX6_thickest 36 = .ok (.getfield 49, 3) := by decide +kernel
theorem dX6_thickest_39 : decode cX6_thickest 39 = .ok (.aload_n 0, 1) := by decide +kernel
theorem dX6_thickest_40 : decode cX6_thickest 40 = .ok (.getfield 10, 3) := by decide +kernel
theorem dX6_thickest_43 : decode cX6_thickest 43 = .ok (.iconst 0, 1) := by decide +kernel
theorem dX6_thickest_44 : decode cX6_thickest 44 = .ok (.invokevirtual 94, 3) := by decide +kernel
theorem dX6_thickest_47 : decode cX6_thickest 47 = .ok (.invokevirtual 97, 3) := by decide +kernel
theorem dX6_thickest_50 : decode cX6_thickest 50 = .ok (.ifCond .ne 6, 3) := by decide +kernel
theorem dX6_thickest_53 : decode cX6_thickest 53 = .ok (.bipush (-6), 2) := by decide +kernel
theorem dX6_thickest_55 : decode cX6_thickest 55 = .ok (.ireturn, 1) := by decide +kernel
theorem dX6_thickest_56 : decode cX6_thickest 56 = .ok (.bipush 30, 2) := by decide +kernel
theorem dX6_thickest_58 : decode cX6_thickest 58 = .ok (.istore 6, 2) := by decide +kernel
theorem dX6_thickest_60 : decode cX6_thickest 60 = .ok (.iload 6, 2) := by decide +kernel
theorem dX6_thickest_62 : decode cX6_thickest 62 = .ok (.iconst 1, 1) := by decide +kernel
theorem dX6_thickest_63 : decode cX6_thickest 63 = .ok (.if_icmp .lt 54, 3) := by decide +kernel
theorem dX6_thickest_66 : decode cX6_thickest 66 = .ok (.aload_n 0, 1) := by decide +kernel
theorem dX6_thickest_67 : decode cX6_thickest 67 = .ok (.getfield 49, 3) := by decide +kernel
theorem dX6_thickest_70 : decode cX6_thickest 70 = .ok (.invokevirtual 101, 3) := by decide +kernel
theorem dX6_thickest_73 : decode cX6_thickest 73 = .ok (.aload_n 0, 1) := by decide +kernel
theorem dX6_thickest_74 : decode cX6_thickest 74 = .ok (.getfield 49, 3) := by decide +kernel
theorem dX6_thickest_77 : decode cX6_thickest 77 = .ok (.aload_n 0, 1) := by decide +kernel
theorem dX6_thickest_78 : decode cX6_thickest 78 = .ok (.getfield 49, 3) := by decide +kernel
theorem dX6_thickest_81 : decode cX6_thickest 81 = .ok (.invokevirtual 158, 3) := by decide +kernel
theorem dX6_thickest_84 : decode cX6_thickest 84 = .ok (.iload 6, 2) := by decide +kernel
theorem dX6_thickest_86 : decode cX6_thickest 86 = .ok (.aload_n 0, 1) := by decide +kernel
theorem dX6_thickest_87 : decode cX6_thickest 87 = .ok (.getfield 10, 3) := by decide +kernel
theorem dX6_thickest_90 : decode cX6_thickest 90 = .ok (.iconst 2, 1) := by decide +kernel
theorem dX6_thickest_91 : decode cX6_thickest 91 = .ok (.invokevirtual 104, 3) := by decide +kernel
theorem dX6_thickest_94 : decode cX6_thickest 94 = .ok (.aload_n 0, 1) := by decide +kernel
theorem dX6_thickest_95 : decode cX6_thickest 95 = .ok (.getfield 10, 3) := by decide +kernel
theorem dX6_thickest_98 : decode cX6_thickest 98 = .ok (.iconst 1, 1) := by decide +kernel
theorem dX6_thickest_99 : decode cX6_thickest 99 = .ok (.invokevirtual 94, 3) := by decide +kernel
theorem dX6_thickest_102 : decode cX6_thickest 102 = .ok (.invokevirtual 107, 3) := by decide +kernel
theorem dX6_thickest_105 : decode cX6_thickest 105 = .ok (.ifCond .ne 6, 3) := by decide +kernel
theorem dX6_thickest_108 : decode cX6_thickest 108 = .ok (.iload 6, 2) := by decide +kernel
theorem dX6_thickest_110 : decode cX6_thickest 110 = .ok (.ireturn, 1) := by decide +kernel
theorem dX6_thickest_111 : decode cX6_thickest 111 = .ok (.iinc 6 (-1), 3) := by decide +kernel
theorem dX6_thickest_114 : decode cX6_thickest 114 = .ok (.goto (-54), 3) := by decide +kernel
theorem dX6_thickest_117 : decode cX6_thickest 117 = .ok (.bipush (-6), 2) := by decide +kernel
theorem dX6_thickest_119 : decode cX6_thickest 119 = .ok (.ireturn, 1) := by decide +kernel
set_option maxRecDepth 20000 in
theorem ggX6_gapToMesh_X5_lay : GoodIn wsX6_gapToMesh wsX5_lay := goodIn_r _ [11, 12, 13, 5, 14, 15, 16, 17, 18, 19, 20, 21, 22, 23, 24, 25, 26, 27, 28, 29, 30, 31, 10, 32, 33, 34, 35, 36, 37, 38, 39, 69, 70, 71, 72, 73] (by decide +kernel) (by decide +kernel)
set_option maxRecDepth 20000 in
theorem gX6_gapToMesh_X5_lay : GoodIn wsX6_gapToMesh (wsV RX6 90 RX5 yX5_lay wsX5_lay) := goodIn_app (goodIn_of _ (by decide +kernel)) ggX6_gapToMesh_X5_lay
set_option maxRecDepth 20000 in
theorem ggX6_gapToMesh_X3_setting : GoodIn wsX6_gapToMesh wsX3_setting := goodIn_r _ [43, 25, 26, 27, 20, 28, 29, 73] (by decide +kernel) (by decide +kernel)
set_option maxRecDepth 20000 in
theorem gX6_gapToMesh_X3_setting : GoodIn wsX6_gapToMesh (wsV RX6 94 RX3 yX3_setting wsX3_setting) := goodIn_app (goodIn_of _ (by decide +kernel)) ggX6_gapToMesh_X3_setting
set_option maxRecDepth 20000 in
theorem ggX6_gapToMesh_X5_isSmooth : GoodIn wsX6_gapToMesh wsX5_isSmooth := goodIn_r _ [47, 15, 48, 49, 50, 10, 51, 52, 53, 5, 54, 55, 56, 57, 58, 16, 69, 70, 71, 72] (by decide +kernel) (by decide +kernel)
set_option maxRecDepth 20000 in
theorem gX6_gapToMesh_X5_isSmooth : GoodIn wsX6_gapToMesh (wsV RX6 179 RX5 yX5_isSmooth wsX5_isSmooth) := goodIn_app (goodIn_of _ (by decide +kernel)) ggX6_gapToMesh_X5_isSmooth
set_option maxRecDepth 20000 in
theorem ggX6_gapToMesh_X5_leastPress : GoodIn wsX6_gapToMesh wsX5_leastPress := goodIn_r _ [62, 15, 12, 13, 5, 14, 55, 56, 57, 10, 58, 16, 69, 70, 71, 72] (by decide +kernel) (by decide +kernel)
set_option maxRecDepth 20000 in
theorem gX6_gapToMesh_X5_leastPress : GoodIn wsX6_gapToMesh (wsV RX6 159 RX5 yX5_leastPress wsX5_leastPress) := goodIn_app (goodIn_of _ (by decide +kernel)) ggX6_gapToMesh_X5_leastPress
theorem dX6_gapToMesh_0 : decode cX6_gapToMesh 0 = .ok (.aload_n 0, 1) := by decide +kernel
theorem dX6_gapToMesh_1 : decode cX6_gapToMesh 1 = .ok (.getfield 49, 3) := by decide +kernel
theorem dX6_gapToMesh_4 : decode cX6_gapToMesh 4 = .ok (.aload_n 0, 1) := by decide +kernel
theorem dX6_gapToMesh_5 : decode cX6_gapToMesh 5 = .ok (.getfield 10, 3) := by decide +kernel
theorem dX6_gapToMesh_8 : decode cX6_gapToMesh 8 = .ok (.iload_n 1, 1) := by decide +kernel
theorem dX6_gapToMesh_9 : decode cX6_gapToMesh 9 = .ok (.iload_n 2, 1) := by decide +kernel
theorem dX6_gapToMesh_10 : decode cX6_gapToMesh 10 = .ok (.iload_n 3, 1) := by decide +kernel
theorem dX6_gapToMesh_11 : decode cX6_gapToMesh 11 = .ok (.iconst 0, 1) := by decide +kernel
theorem dX6_gapToMesh_12 : decode cX6_gapToMesh 12 = .ok (.invokevirtual 90, 3) := by decide +kernel
theorem dX6_gapToMesh_15 : decode cX6_gapToMesh 15 = .ok (.aload_n 0, 1) := by decide +kernel
theorem dX6_gapToMesh_16 : decode cX6_gapToMesh 16 = .ok (.getfield 49, 3) := by decide +kernel
theorem dX6_gapToMesh_19 : decode cX6_gapToMesh 19 = .ok (.aload_n 0, 1) := by decide +kernel
theorem dX6_gapToMesh_20 : decode cX6_gapToMesh 20 = .ok (.getfield 10, 3) := by decide +kernel
theorem dX6_gapToMesh_23 : decode cX6_gapToMesh 23 = .ok (.iconst 0, 1) := by decide +kernel
theorem dX6_gapToMesh_24 : decode cX6_gapToMesh 24 = .ok (.invokevirtual 94, 3) := by decide +kernel
theorem dX6_gapToMesh_27 : decode cX6_gapToMesh 27 = .ok (.invokevirtual 179, 3) := by decide +kernel
theorem dX6_gapToMesh_30 : decode cX6_gapToMesh 30 = .ok (.ifCond .ne 6, 3) := by decide +kernel
theorem dX6_gapToMesh_33 : decode cX6_gapToMesh 33 = .ok (.bipush (-6), 2) := by decide +kernel
theorem dX6_gapToMesh_35 : decode cX6_gapToMesh 35 = .ok (.ireturn, 1) := by decide +kernel
theorem dX6_gapToMesh_36 : decode cX6_gapToMesh 36 = .ok (.iconst 0, 1) := by decide +kernel
theorem dX6_gapToMesh_37 : decode cX6_gapToMesh 37 = .ok (.iconst 1, 1) := by decide +kernel
theorem dX6_gapToMesh_38 : decode cX6_gapToMesh 38 = .ok (.aload_n 0, 1) := by decide +kernel
theorem dX6_gapToMesh_39 : decode cX6_gapToMesh 39 = .ok (.getfield 49, 3) := by decide +kernel
theorem dX6_gapToMesh_42 : decode cX6_gapToMesh 42 = .ok (.invokevirtual 159, 3) := by decide +kernel
theorem dX6_gapToMesh_45 : decode cX6_gapToMesh 45 = .ok (.isub, 1) := by decide +kernel
theorem dX6_gapToMesh_46 : decode cX6_gapToMesh 46 = .ok (.invokestatic 182, 3) := by decide +kernel
theorem dX6_gapToMesh_49 : decode cX6_gapToMesh 49 = .ok (.istore 4, 2) := by decide +kernel
theorem dX6_gapToMesh_51 : decode cX6_gapToMesh 51 = .ok (.iload 4, 2) := by decide +kernel
theorem dX6_gapToMesh_53 : decode cX6_gapToMesh 53 = .ok (.bipush 30, 2) := by decide +kernel
theorem dX6_gapToMesh_55 : decode cX6_gapToMesh 55 = .ok (.if_icmp .gt 8, 3) := by decide +kernel
theorem dX6_gapToMesh_58 : decode cX6_gapToMesh 58 = .ok (.iload 4, 2) := by decide +kernel
theorem dX6_gapToMesh_60 : decode cX6_gapToMesh 60 = .ok (.goto 5, 3) := by decide +kernel
theorem dX6_gapToMesh_63 : decode cX6_gapToMesh 63 = .ok (.bipush (-6), 2) := by decide +kernel
theorem dX6_gapToMesh_65 : decode cX6_gapToMesh 65 = .ok (.ireturn, 1) := by decide +kernel
set_option maxRecDepth 20000 in
theorem ggX6_questionError_X6_pairError : GoodIn wsX6_questionError wsX6_pairError := goodIn_r _ [5, 6, 7, 8, 9, 10, 11, 12, 13, 14, 15, 16, 17, 18, 4, 19, 20, 21, 22, 23, 24, 25, 26] (by decide +kernel) (by decide +kernel)
set_option maxRecDepth 20000 in
theorem gX6_questionError_X6_pairError : GoodIn wsX6_questionError (wsV RX6 82 RX6 yX6_pairError wsX6_pairError) := goodIn_app (goodIn_of _ (by decide +kernel)) ggX6_questionError_X6_pairError
set_option maxRecDepth 20000 in
theorem ggX6_questionError_X6_outside : GoodIn wsX6_questionError wsX6_outside := goodIn_r _ [19] (by decide +kernel) (by decide +kernel)
set_option maxRecDepth 20000 in
theorem gX6_questionError_X6_outside : GoodIn wsX6_questionError (va_wsS RX6 86 yX6_outside wsX6_outside) := goodIn_app (goodIn_of _ (by decide +kernel)) ggX6_questionError_X6_outside
theorem dX6_questionError_0 : decode cX6_questionError 0 = .ok (.aload_n 0, 1) := by decide +kernel
theorem dX6_questionError_1 : decode cX6_questionError 1 = .ok (.iload_n 1, 1) := by decide +kernel
theorem dX6_questionError_2 : decode cX6_questionError 2 = .ok (.iload_n 2, 1) := by decide +kernel
end
section
theorem dX6_questionError_3 : decode cX6_questionError 3 = .ok (.iload_n 3, 1) := by decide +kernel
theorem dX6_questionError_4 : decode cX6_questionError 4 = .ok (.iload 4, 2) := by decide +kernel
theorem dX6_questionError_6 : decode cX6_questionError 6 = .ok (.invokevirtual 82, 3) := by decide +kernel
theorem dX6_questionError_9 : decode cX6_questionError 9 = .ok (.istore 7, 2) := by decide +kernel
theorem dX6_questionError_11 : decode cX6_questionError 11 = .ok (.iload 7, 2) := by decide +kernel
theorem dX6_questionError_13 : decode cX6_questionError 13 = .ok (.ifCond .eq 6, 3) := by decide +kernel
theorem dX6_questionError_16 : decode cX6_questionError 16 = .ok (.iload 7, 2) := by decide +kernel
theorem dX6_questionError_18 : decode cX6_questionError 18 = .ok (.ireturn, 1) := by decide +kernel
theorem dX6_questionError_19 : decode cX6_questionError 19 = .ok (.iload 5, 2) := by decide +kernel
theorem dX6_questionError_21 : decode cX6_questionError 21 = .ok (.iconst 0, 1) := by decide +kernel
theorem dX6_questionError_22 : decode cX6_questionError 22 = .ok (.iload 6, 2) := by decide +kernel
theorem dX6_questionError_24 : decode cX6_questionError 24 = .ok (.invokestatic 86, 3) := by decide +kernel
theorem dX6_questionError_27 : decode cX6_questionError 27 = .ok (.ifCond .eq 8, 3) := by decide +kernel
theorem dX6_questionError_30 : decode cX6_questionError 30 = .ok (.bipush (-2), 2) := by decide +kernel
theorem dX6_questionError_32 : decode cX6_questionError 32 = .ok (.goto 4, 3) := by decide +kernel
theorem dX6_questionError_35 : decode cX6_questionError 35 = .ok (.iconst 0, 1) := by decide +kernel
theorem dX6_questionError_36 : decode cX6_questionError 36 = .ok (.ireturn, 1) := by decide +kernel
set_option maxRecDepth 20000 in
theorem ggX6_pairError_X3_has : GoodIn wsX6_pairError wsX3_has := goodIn_r _ [6, 7, 8, 9, 5, 10, 11, 22] (by decide +kernel) (by decide +kernel)
set_option maxRecDepth 20000 in
theorem gX6_pairError_X3_has : GoodIn wsX6_pairError (wsV RX6 123 RX3 yX3_has wsX3_has) := goodIn_app (goodIn_of _ (by decide +kernel)) ggX6_pairError_X3_has
set_option maxRecDepth 20000 in
theorem ggX6_pairError_X6_outside : GoodIn wsX6_pairError wsX6_outside := goodIn_r _ [15] (by decide +kernel) (by decide +kernel)
set_option maxRecDepth 20000 in
theorem gX6_pairError_X6_outside : GoodIn wsX6_pairError (va_wsS RX6 86 yX6_outside wsX6_outside) := goodIn_app (goodIn_of _ (by decide +kernel)) ggX6_pairError_X6_outside
theorem dX6_pairError_0 : decode cX6_pairError 0 = .ok (.aload_n 0, 1) := by decide +kernel
theorem dX6_pairError_1 : decode cX6_pairError 1 = .ok (.getfield 10, 3) := by decide +kernel
theorem dX6_pairError_4 : decode cX6_pairError 4 = .ok (.iload_n 1, 1) := by decide +kernel
theorem dX6_pairError_5 : decode cX6_pairError 5 = .ok (.invokevirtual 123, 3) := by decide +kernel
theorem dX6_pairError_8 : decode cX6_pairError 8 = .ok (.ifCond .eq 14, 3) := by decide +kernel
theorem dX6_pairError_11 : decode cX6_pairError 11 = .ok (.aload_n 0, 1) := by decide +kernel
theorem dX6_pairError_12 : decode cX6_pairError 12 = .ok (.getfield 10, 3) := by decide +kernel
theorem dX6_pairError_15 : decode cX6_pairError 15 = .ok (.iload_n 2, 1) := by decide +kernel
theorem dX6_pairError_16 : decode cX6_pairError 16 = .ok (.invokevirtual 123, 3) := by decide +kernel
theorem dX6_pairError_19 : decode cX6_pairError 19 = .ok (.ifCond .ne 5, 3) := by decide +kernel
theorem dX6_pairError_22 : decode cX6_pairError 22 = .ok (.iconst (-1), 1) := by decide +kernel
theorem dX6_pairError_23 : decode cX6_pairError 23 = .ok (.ireturn, 1) := by decide +kernel
theorem dX6_pairError_24 : decode cX6_pairError 24 = .ok (.iload_n 1, 1) := by decide +kernel
theorem dX6_pairError_25 : decode cX6_pairError 25 = .ok (.iload_n 2, 1) := by decide +kernel
theorem dX6_pairError_26 : decode cX6_pairError 26 = .ok (.if_icmp .eq 24, 3) := by decide +kernel
theorem dX6_pairError_29 : decode cX6_pairError 29 = .ok (.iload_n 3, 1) := by decide +kernel
theorem dX6_pairError_30 : decode cX6_pairError 30 = .ok (.iconst 0, 1) := by decide +kernel
theorem dX6_pairError_31 : decode cX6_pairError 31 = .ok (.bipush 23, 2) := by decide +kernel
theorem dX6_pairError_33 : decode cX6_pairError 33 = .ok (.invokestatic 86, 3) := by decide +kernel
theorem dX6_pairError_36 : decode cX6_pairError 36 = .ok (.ifCond .ne 14, 3) := by decide +kernel
theorem dX6_pairError_39 : decode cX6_pairError 39 = .ok (.iload 4, 2) := by decide +kernel
theorem dX6_pairError_41 : decode cX6_pairError 41 = .ok (.iconst 0, 1) := by decide +kernel
theorem dX6_pairError_42 : decode cX6_pairError 42 = .ok (.bipush 30, 2) := by decide +kernel
theorem dX6_pairError_44 : decode cX6_pairError 44 = .ok (.invokestatic 86, 3) := by decide +kernel
theorem dX6_pairError_47 : decode cX6_pairError 47 = .ok (.ifCond .eq 7, 3) := by decide +kernel
theorem dX6_pairError_50 : decode cX6_pairError 50 = .ok (.iconst 1, 1) := by decide +kernel
theorem dX6_pairError_51 : decode cX6_pairError 51 = .ok (.goto 4, 3) := by decide +kernel
theorem dX6_pairError_54 : decode cX6_pairError 54 = .ok (.iconst 0, 1) := by decide +kernel
theorem dX6_pairError_55 : decode cX6_pairError 55 = .ok (.istore 5, 2) := by decide +kernel
theorem dX6_pairError_57 : decode cX6_pairError 57 = .ok (.iload 5, 2) := by decide +kernel
theorem dX6_pairError_59 : decode cX6_pairError 59 = .ok (.ifCond .eq 8, 3) := by decide +kernel
theorem dX6_pairError_62 : decode cX6_pairError 62 = .ok (.bipush (-2), 2) := by decide +kernel
theorem dX6_pairError_64 : decode cX6_pairError 64 = .ok (.goto 4, 3) := by decide +kernel
theorem dX6_pairError_67 : decode cX6_pairError 67 = .ok (.iconst 0, 1) := by decide +kernel
theorem dX6_pairError_68 : decode cX6_pairError 68 = .ok (.ireturn, 1) := by decide +kernel
theorem dX6_outside_0 : decode cX6_outside 0 = .ok (.iload_n 0, 1) := by decide +kernel
theorem dX6_outside_1 : decode cX6_outside 1 = .ok (.iload_n 1, 1) := by decide +kernel
theorem dX6_outside_2 : decode cX6_outside 2 = .ok (.if_icmp .lt 8, 3) := by decide +kernel
theorem dX6_outside_5 : decode cX6_outside 5 = .ok (.iload_n 0, 1) := by decide +kernel
theorem dX6_outside_6 : decode cX6_outside 6 = .ok (.iload_n 2, 1) := by decide +kernel
theorem dX6_outside_7 : decode cX6_outside 7 = .ok (.if_icmp .le 7, 3) := by decide +kernel
theorem dX6_outside_10 : decode cX6_outside 10 = .ok (.iconst 1, 1) := by decide +kernel
theorem dX6_outside_11 : decode cX6_outside 11 = .ok (.goto 4, 3) := by decide +kernel
theorem dX6_outside_14 : decode cX6_outside 14 = .ok (.iconst 0, 1) := by decide +kernel
theorem dX6_outside_15 : decode cX6_outside 15 = .ok (.ireturn, 1) := by decide +kernel
set_option maxRecDepth 20000 in
theorem ggX6_put_X1_append : GoodIn wsX6_put wsX1_append := goodIn_r _ [6, 7, 8, 9, 5, 10, 11, 12, 13, 14, 15, 16, 17, 18, 19, 20, 21, 28, 29] (by decide +kernel) (by decide +kernel)
set_option maxRecDepth 20000 in
theorem gX6_put_X1_append : GoodIn wsX6_put (wsV RX6 185 RX1 yX1_append wsX1_append) := goodIn_app (goodIn_of _ (by decide +kernel)) ggX6_put_X1_append
theorem dX6_put_0 : decode cX6_put 0 = .ok (.aload_n 0, 1) := by decide +kernel
theorem dX6_put_1 : decode cX6_put 1 = .ok (.getfield 33, 3) := by decide +kernel
theorem dX6_put_4 : decode cX6_put 4 = .ok (.lload_n 1, 1) := by decide +kernel
theorem dX6_put_5 : decode cX6_put 5 = .ok (.invokevirtual 185, 3) := by decide +kernel
theorem dX6_put_8 : decode cX6_put 8 = .ok (.ireturn, 1) := by decide +kernel
set_option maxRecDepth 20000 in
theorem ggX6_wipe_X1_clear : GoodIn wsX6_wipe wsX1_clear := goodIn_r _ [6, 7, 14, 15] (by decide +kernel) (by decide +kernel)
set_option maxRecDepth 20000 in
theorem gX6_wipe_X1_clear : GoodIn wsX6_wipe (wsV RX6 189 RX1 yX1_clear wsX1_clear) := goodIn_app (goodIn_of _ (by decide +kernel)) ggX6_wipe_X1_clear
theorem dX6_wipe_0 : decode cX6_wipe 0 = .ok (.aload_n 0, 1) := by decide +kernel
theorem dX6_wipe_1 : decode cX6_wipe 1 = .ok (.getfield 33, 3) := by decide +kernel
theorem dX6_wipe_4 : decode cX6_wipe 4 = .ok (.invokevirtual 189, 3) := by decide +kernel
theorem dX6_wipe_7 : decode cX6_wipe 7 = .ok (.ireturn, 1) := by decide +kernel
set_option maxRecDepth 20000 in
theorem ggX6_fault_X2_firstFault : GoodIn wsX6_fault wsX2_firstFault := goodIn_r _ [6, 7, 8, 9, 10, 11, 5, 12, 13, 14, 15, 16, 17, 18, 19, 20, 21, 22, 23, 24, 25, 26, 27, 28, 29, 30, 31, 32, 33, 34, 35, 36, 37, 38, 39, 40, 41, 42, 43, 44, 45, 46, 47, 48, 49, 50, 51, 52, 53, 54, 55, 56, 57, 58, 59, 60, 61, 68, 69, 70, 71, 72, 73, 74] (by decide +kernel) (by decide +kernel)
set_option maxRecDepth 20000 in
theorem gX6_fault_X2_firstFault : GoodIn wsX6_fault (wsV RX6 192 RX2 yX2_firstFault wsX2_firstFault) := goodIn_app (goodIn_of _ (by decide +kernel)) ggX6_fault_X2_firstFault
theorem dX6_fault_0 : decode cX6_fault 0 = .ok (.aload_n 0, 1) := by decide +kernel
theorem dX6_fault_1 : decode cX6_fault 1 = .ok (.getfield 42, 3) := by decide +kernel
theorem dX6_fault_4 : decode cX6_fault 4 = .ok (.invokevirtual 192, 3) := by decide +kernel
theorem dX6_fault_7 : decode cX6_fault 7 = .ok (.ireturn, 1) := by decide +kernel
set_option maxRecDepth 20000 in
theorem ggX6_carryOut_X2_firstFault : GoodIn wsX6_carryOut wsX2_firstFault := goodIn_r _ [9, 10, 11, 12, 13, 14, 8, 15, 16, 17, 18, 19, 20, 21, 22, 23, 24, 25, 26, 27, 28, 29, 30, 31, 32, 33, 34, 35, 36, 37, 38, 39, 40, 41, 42, 43, 44, 45, 46, 47, 48, 49, 50, 51, 52, 53, 54, 55, 56, 57, 58, 59, 60, 61, 62, 63, 64, 256, 257, 258, 259, 260, 261, 262] (by decide +kernel) (by decide +kernel)
set_option maxRecDepth 20000 in
theorem gX6_carryOut_X2_firstFault : GoodIn wsX6_carryOut (wsV RX6 192 RX2 yX2_firstFault wsX2_firstFault) := goodIn_app (goodIn_of _ (by decide +kernel)) ggX6_carryOut_X2_firstFault
set_option maxRecDepth 20000 in
theorem ggX6_carryOut_X0_prepare : GoodIn wsX6_carryOut wsX0_prepare := goodIn_r _ [69, 70, 71, 72, 73, 74, 75, 76, 77, 78, 79, 80, 81, 263, 264, 265, 266] (by decide +kernel) (by decide +kernel)
set_option maxRecDepth 20000 in
theorem gX6_carryOut_X0_prepare : GoodIn wsX6_carryOut (wsV RX6 53 RX0 yX0_prepare wsX0_prepare) := goodIn_app (goodIn_of _ (by decide +kernel)) ggX6_carryOut_X0_prepare
set_option maxRecDepth 20000 in
theorem ggX6_carryOut_X2_begin : GoodIn wsX6_carryOut wsX2_begin := goodIn_r _ [15, 10, 256, 257, 258, 259, 260] (by decide +kernel) (by decide +kernel)
set_option maxRecDepth 20000 in
theorem gX6_carryOut_X2_begin : GoodIn wsX6_carryOut (wsV RX6 195 RX2 yX2_begin wsX2_begin) := goodIn_app (goodIn_of _ (by decide +kernel)) ggX6_carryOut_X2_begin
set_option maxRecDepth 20000 in
theorem ggX6_carryOut_X2_readOrder : GoodIn wsX6_carryOut wsX2_readOrder := goodIn_r _ [19, 20, 11, 10, 21, 22, 23, 24, 25, 26, 27, 28, 29, 30, 31, 8, 32, 33, 34, 35, 36, 37, 38, 39, 40, 41, 42, 43, 44, 45, 46, 47, 48, 49, 50, 51, 52, 53, 54, 55, 56, 57, 58, 59, 60, 256, 257, 258, 259, 260, 261, 262] (by decide +kernel) (by decide +kernel)
set_option maxRecDepth 20000 in
theorem gX6_carryOut_X2_readOrder : GoodIn wsX6_carryOut (wsV RX6 196 RX2 yX2_readOrder wsX2_readOrder) := goodIn_app (goodIn_of _ (by decide +kernel)) ggX6_carryOut_X2_readOrder
set_option maxRecDepth 20000 in
theorem ggX6_carryOut_X6_obey : GoodIn wsX6_carryOut wsX6_obey := goodIn_r _ [87, 1, 3, 88, 89, 90, 8, 91, 21, 92, 93, 94, 46, 95, 96, 97, 98, 99, 20, 100, 101, 102, 75, 103, 45, 47, 104, 105, 106, 107, 77, 108, 109, 110, 111, 112, 113, 114, 115, 116, 117, 118, 119, 120, 121, 122, 123, 124, 125, 126, 56, 127, 128, 129, 130, 131, 132, 133, 134, 135, 136, 137, 138, 139, 140, 141, 142, 143, 144, 145, 146, 147, 148, 149, 150, 151, 152, 153, 154, 155, 156, 157, 158, 159, 160, 161, 162, 163, 164, 165, 166, 167, 168, 169, 170, 171, 172, 173, 174, 175, 176, 177, 178, 179, 180, 181, 182, 183, 184, 185, 186, 187, 188, 189, 190, 191, 192, 193, 194, 195, 196, 197, 198, 199, 200, 201, 202, 203, 204, 205, 206, 207, 208, 209, 210, 211, 212, 213, 214, 215, 216, 217, 218, 219, 220, 221, 222, 223, 224, 225, 226, 227, 228, 229, 230, 231, 232, 233, 234, 235, 236, 237, 238, 250, 251, 252, 253, 254, 255, 256, 257, 258, 259, 260, 266, 267, 268, 269, 270] (by decide +kernel) (by decide +kernel)
set_option maxRecDepth 20000 in
theorem gX6_carryOut_X6_obey : GoodIn wsX6_carryOut (wsV RX6 200 RX6 yX6_obey wsX6_obey) := goodIn_app (goodIn_of _ (by decide +kernel)) ggX6_carryOut_X6_obey
set_option maxRecDepth 20000 in
theorem ggX6_carryOut_X2_skip : GoodIn wsX6_carryOut wsX2_skip := goodIn_r _ [32, 11, 10, 22, 23, 24, 25, 26, 27, 28, 256, 257, 258, 259, 260, 261, 262] (by decide +kernel) (by decide +kernel)
set_option maxRecDepth 20000 in
theorem gX6_carryOut_X2_skip : GoodIn wsX6_carryOut (wsV RX6 203 RX2 yX2_skip wsX2_skip) := goodIn_app (goodIn_of _ (by decide +kernel)) ggX6_carryOut_X2_skip
set_option maxRecDepth 20000 in
theorem ggX6_carryOut_X1_clear : GoodIn wsX6_carryOut wsX1_clear := goodIn_r _ [243, 27, 261, 262] (by decide +kernel) (by decide +kernel)
set_option maxRecDepth 20000 in
theorem gX6_carryOut_X1_clear : GoodIn wsX6_carryOut (wsV RX6 189 RX1 yX1_clear wsX1_clear) := goodIn_app (goodIn_of _ (by decide +kernel)) ggX6_carryOut_X1_clear
set_option maxRecDepth 20000 in
theorem ggX6_carryOut_X0_recorded : GoodIn wsX6_carryOut wsX0_recorded := goodIn_r _ [247, 71, 248, 249, 164, 165, 166, 263, 264, 265] (by decide +kernel) (by decide +kernel)
set_option maxRecDepth 20000 in
theorem gX6_carryOut_X0_recorded : GoodIn wsX6_carryOut (wsV RX6 61 RX0 yX0_recorded wsX0_recorded) := goodIn_app (goodIn_of _ (by decide +kernel)) ggX6_carryOut_X0_recorded
theorem dX6_carryOut_0 : decode cX6_carryOut 0 = .ok (.aload_n 0, 1) := by decide +kernel
theorem dX6_carryOut_1 : decode cX6_carryOut 1 = .ok (.getfield 42, 3) := by decide +kernel
theorem dX6_carryOut_4 : decode cX6_carryOut 4 = .ok (.invokevirtual 192, 3) := by decide +kernel
theorem dX6_carryOut_7 : decode cX6_carryOut 7 = .ok (.bipush (-6), 2) := by decide +kernel
theorem dX6_carryOut_9 : decode cX6_carryOut 9 = .ok (.if_icmp .eq 6, 3) := by decide +kernel
theorem dX6_carryOut_12 : decode cX6_carryOut 12 = .ok (.bipush (-3), 2) := by decide +kernel
theorem dX6_carryOut_14 : decode cX6_carryOut 14 = .ok (.ireturn, 1) := by decide +kernel
theorem dX6_carryOut_15 : decode cX6_carryOut 15 = .ok (.aload_n 0, 1) := by decide +kernel
theorem dX6_carryOut_16 : decode cX6_carryOut 16 = .ok (.getfield 19, 3) := by decide +kernel
theorem dX6_carryOut_19 : decode cX6_carryOut 19 = .ok (.aload_n 0, 1) := by decide +kernel
theorem dX6_carryOut_20 : decode cX6_carryOut 20 = .ok (.getfield 10, 3) := by decide +kernel
theorem dX6_carryOut_23 : decode cX6_carryOut 23 = .ok (.invokevirtual 53, 3) := by decide +kernel
theorem dX6_carryOut_26 : decode cX6_carryOut 26 = .ok (.aload_n 0, 1) := by decide +kernel
theorem dX6_carryOut_27 : decode cX6_carryOut 27 = .ok (.getfield 42, 3) := by decide +kernel
theorem dX6_carryOut_30 : decode cX6_carryOut 30 = .ok (.invokevirtual 195, 3) := by decide +kernel
theorem dX6_carryOut_33 : decode cX6_carryOut 33 = .ok (.iconst 0, 1) := by decide +kernel
theorem dX6_carryOut_34 : decode cX6_carryOut 34 = .ok (.istore_n 1, 1) := by decide +kernel
theorem dX6_carryOut_35 : decode cX6_carryOut 35 = .ok (.iload_n 1, 1) := by decide +kernel
theorem dX6_carryOut_36 : decode cX6_carryOut 36 = .ok (.bipush 80, 2) := by decide +kernel
theorem dX6_carryOut_38 : decode cX6_carryOut 38 = .ok (.if_icmp .ge 36, 3) := by decide +kernel
theorem dX6_carryOut_41 : decode cX6_carryOut 41 = .ok (.aload_n 0, 1) := by decide +kernel
theorem dX6_carryOut_42 : decode cX6_carryOut 42 = .ok (.getfield 42, 3) := by decide +kernel
theorem dX6_carryOut_45 : decode cX6_carryOut 45 = .ok (.invokevirtual 196, 3) := by decide +kernel
theorem dX6_carryOut_48 : decode cX6_carryOut 48 = .ok (.ifCond .eq 26, 3) := by decide +kernel
theorem dX6_carryOut_51 : decode cX6_carryOut 51 = .ok (.aload_n 0, 1) := by decide +kernel
theorem dX6_carryOut_52 : decode cX6_carryOut 52 = .ok (.invokevirtual 200, 3) := by decide +kernel
theorem dX6_carryOut_55 : decode cX6_carryOut 55 = .ok (.ifCond .lt 19, 3) := by decide +kernel
theorem dX6_carryOut_58 : decode cX6_carryOut 58 = .ok (.iinc 1 1, 3) := by decide +kernel
theorem dX6_carryOut_61 : decode cX6_carryOut 61 = .ok (.aload_n 0, 1) := by decide +kernel
theorem dX6_carryOut_62 : decode cX6_carryOut 62 = .ok (.getfield 42, 3) := by decide +kernel
theorem dX6_carryOut_65 : decode cX6_carryOut 65 = .ok (.bipush 59, 2) := by decide +kernel
theorem dX6_carryOut_67 : decode cX6_carryOut 67 = .ok (.invokevirtual 203, 3) := by decide +kernel
theorem dX6_carryOut_70 : decode cX6_carryOut 70 = .ok (.pop, 1) := by decide +kernel
theorem dX6_carryOut_71 : decode cX6_carryOut 71 = .ok (.goto (-36), 3) := by decide +kernel
theorem dX6_carryOut_74 : decode cX6_carryOut 74 = .ok (.aload_n 0, 1) := by decide +kernel
theorem dX6_carryOut_75 : decode cX6_carryOut 75 = .ok (.getfield 33, 3) := by decide +kernel
theorem dX6_carryOut_78 : decode cX6_carryOut 78 = .ok (.invokevirtual 189, 3) := by decide +kernel
theorem dX6_carryOut_81 : decode cX6_carryOut 81 = .ok (.pop, 1) := by decide +kernel
theorem dX6_carryOut_82 : decode cX6_carryOut 82 = .ok (.aload_n 0, 1) := by decide +kernel
theorem dX6_carryOut_83 : decode cX6_carryOut 83 = .ok (.getfield 19, 3) := by decide +kernel
theorem dX6_carryOut_86 : decode cX6_carryOut 86 = .ok (.iload_n 1, 1) := by decide +kernel
theorem dX6_carryOut_87 : decode cX6_carryOut 87 = .ok (.invokevirtual 61, 3) := by decide +kernel
theorem dX6_carryOut_90 : decode cX6_carryOut 90 = .ok (.ireturn, 1) := by decide +kernel
set_option maxRecDepth 20000 in
theorem ggX6_obey_X2_kind : GoodIn wsX6_obey wsX2_kind := goodIn_r _ [7, 8, 169, 170, 171, 172, 173] (by decide +kernel) (by decide +kernel)
set_option maxRecDepth 20000 in
theorem gX6_obey_X2_kind : GoodIn wsX6_obey (wsV RX6 207 RX2 yX2_kind wsX2_kind) := goodIn_app (goodIn_of _ (by decide +kernel)) ggX6_obey_X2_kind
set_option maxRecDepth 20000 in
theorem ggX6_obey_X6_addRollerOfText : GoodIn wsX6_obey wsX6_addRollerOfText := goodIn_r _ [13, 1, 2, 14, 15, 16, 6, 17, 18, 19, 20, 21, 22, 23, 24, 12, 25, 26, 27, 28, 29, 30, 31, 32, 33, 34, 35, 36, 37, 38, 39, 40, 41, 42, 43, 44, 45, 46, 47, 48, 49, 50, 51, 52, 53, 54, 55, 56, 57, 58, 59, 60, 61, 62, 63, 64, 65, 66, 67, 68, 69, 70, 163, 164, 165, 166, 167, 168, 169, 170, 171, 172, 173, 174] (by decide +kernel) (by decide +kernel)
set_option maxRecDepth 20000 in
theorem gX6_obey_X6_addRollerOfText : GoodIn wsX6_obey (wsV RX6 210 RX6 yX6_addRollerOfText wsX6_addRollerOfText) := goodIn_app (goodIn_of _ (by decide +kernel)) ggX6_obey_X6_addRollerOfText
set_option maxRecDepth 20000 in
theorem ggX6_obey_X2_number : GoodIn wsX6_obey wsX2_number := goodIn_r _ [49, 50, 169, 170, 171, 172, 173] (by decide +kernel) (by decide +kernel)
set_option maxRecDepth 20000 in
theorem gX6_obey_X2_number : GoodIn wsX6_obey (wsV RX6 213 RX2 yX2_number wsX2_number) := goodIn_app (goodIn_of _ (by decide +kernel)) ggX6_obey_X2_number
set_option maxRecDepth 20000 in
theorem ggX6_obey_X6_runCards : GoodIn wsX6_obey wsX6_runCards := goodIn_r _ [74, 75, 2, 76, 77, 78, 12, 79, 80, 60, 61, 22, 62, 26, 27, 28, 29, 30, 81, 24, 25, 82, 83, 84, 85, 86, 87, 88, 89, 90, 91, 92, 93, 64, 65, 66, 31, 32, 33, 94, 95, 96, 97, 68, 69, 70, 98, 99, 100, 101, 102, 103, 104, 105, 106, 107, 108, 109, 110, 111, 112, 113, 114, 115, 116, 117, 118, 119, 120, 121, 122, 123, 124, 125, 126, 127, 128, 129, 130, 131, 132, 133, 134, 135, 136, 137, 138, 139, 140, 141, 142, 143, 144, 145, 42, 43, 44, 45, 34, 35, 36, 37, 146, 147, 148, 149, 150, 151, 152, 153, 154, 63, 155, 156, 157, 158, 67, 38, 39, 40, 41, 163, 164, 165, 166, 167, 168, 174, 175, 176, 177, 178] (by decide +kernel) (by decide +kernel)
set_option maxRecDepth 20000 in
theorem gX6_obey_X6_runCards : GoodIn wsX6_obey (wsV RX6 78 RX6 yX6_runCards wsX6_runCards) := goodIn_app (goodIn_of _ (by decide +kernel)) ggX6_obey_X6_runCards
set_option maxRecDepth 20000 in
theorem ggX6_obey_X3_meltRoller : GoodIn wsX6_obey wsX3_meltRoller := goodIn_r _ [162, 59, 60, 61, 22, 62, 26, 27, 28, 29, 30, 31, 32, 33, 34, 35, 36, 37, 174] (by decide +kernel) (by decide +kernel)
set_option maxRecDepth 20000 in
theorem gX6_obey_X3_meltRoller : GoodIn wsX6_obey (wsV RX6 72 RX3 yX3_meltRoller wsX3_meltRoller) := goodIn_app (goodIn_of _ (by decide +kernel)) ggX6_obey_X3_meltRoller
set_option maxRecDepth 20000 in
theorem ggX6_obey_X3_fileTooth : GoodIn wsX6_obey wsX3_fileTooth := goodIn_r _ [54, 55, 56, 57, 22, 58, 59, 60, 61, 62, 26, 27, 28, 29, 30, 63, 64, 65, 66, 31, 32, 33, 24, 12, 25, 67, 68, 69, 70, 38, 39, 40, 41, 34, 35, 36, 37, 174] (by decide +kernel) (by decide +kernel)
set_option maxRecDepth 20000 in
theorem gX6_obey_X3_fileTooth : GoodIn wsX6_obey (wsV RX6 68 RX3 yX3_fileTooth wsX3_fileTooth) := goodIn_app (goodIn_of _ (by decide +kernel)) ggX6_obey_X3_fileTooth
theorem dX6_obey_0 : decode cX6_obey 0 = .ok (.aload_n 0, 1) := by decide +kernel
theorem dX6_obey_1 : decode cX6_obey 1 = .ok (.getfield 42, 3) := by decide +kernel
theorem dX6_obey_4 : decode cX6_obey 4 = .ok (.invokevirtual 207, 3) := by decide +kernel
theorem dX6_obey_7 : decode cX6_obey 7 = .ok (.lookupswitch 147 #[(43, 41), (102, 115), (109, 99), (114, 46)], 41) := by decide +kernel
theorem dX6_obey_48 : decode cX6_obey 48 = .ok (.aload_n 0, 1) := by decide +kernel
theorem dX6_obey_49 : decode cX6_obey 49 = .ok (.invokevirtual 210, 3) := by decide +kernel
theorem dX6_obey_52 : decode cX6_obey 52 = .ok (.ireturn, 1) := by decide +kernel
theorem dX6_obey_53 : decode cX6_obey 53 = .ok (.aload_n 0, 1) := by decide +kernel
theorem dX6_obey_54 : decode cX6_obey 54 = .ok (.aload_n 0, 1) := by decide +kernel
theorem dX6_obey_55 : decode cX6_obey 55 = .ok (.getfield 42, 3) := by decide +kernel
theorem dX6_obey_58 : decode cX6_obey 58 = .ok (.iconst 0, 1) := by decide +kernel
theorem dX6_obey_59 : decode cX6_obey 59 = .ok (.invokevirtual 213, 3) := by decide +kernel
theorem dX6_obey_62 : decode cX6_obey 62 = .ok (.aload_n 0, 1) := by decide +kernel
theorem dX6_obey_63 : decode cX6_obey 63 = .ok (.getfield 42, 3) := by decide +kernel
theorem dX6_obey_66 : decode cX6_obey 66 = .ok (.iconst 1, 1) := by decide +kernel
theorem dX6_obey_67 : decode cX6_obey 67 = .ok (.invokevirtual 213, 3) := by decide +kernel
theorem dX6_obey_70 : decode cX6_obey 70 = .ok (.aload_n 0, 1) := by decide +kernel
theorem dX6_obey_71 : decode cX6_obey 71 = .ok (.getfield 42, 3) := by decide +kernel
theorem dX6_obey_74 : decode cX6_obey 74 = .ok (.iconst 2, 1) := by decide +kernel
theorem dX6_obey_75 : decode cX6_obey 75 = .ok (.invokevirtual 213, 3) := by decide +kernel
theorem dX6_obey_78 : decode cX6_obey 78 = .ok (.aload_n 0, 1) := by decide +kernel
theorem dX6_obey_79 : decode cX6_obey 79 = .ok (.getfield 42, 3) := by decide +kernel
theorem dX6_obey_82 : decode cX6_obey 82 = .ok (.iconst 3, 1) := by decide +kernel
theorem dX6_obey_83 : decode cX6_obey 83 = .ok (.invokevirtual 213, 3) := by decide +kernel
theorem dX6_obey_86 : decode cX6_obey 86 = .ok (.aload_n 0, 1) := by decide +kernel
theorem dX6_obey_87 : decode cX6_obey 87 = .ok (.getfield 42, 3) := by decide +kernel
theorem dX6_obey_90 : decode cX6_obey 90 = .ok (.iconst 4, 1) := by decide +kernel
theorem dX6_obey_91 : decode cX6_obey 91 = .ok (.invokevirtual 213, 3) := by decide +kernel
theorem dX6_obey_94 : decode cX6_obey 94 = .ok (.aload_n 0, 1) := by decide +kernel
theorem dX6_obey_95 : decode cX6_obey 95 = .ok (.getfield 42, 3) := by decide +kernel
theorem dX6_obey_98 : decode cX6_obey 98 = .ok (.iconst 5, 1) := by decide +kernel
theorem dX6_obey_99 : decode cX6_obey 99 = .ok (.invokevirtual 213, 3) := by decide +kernel
theorem dX6_obey_102 : decode cX6_obey 102 = .ok (.invokevirtual 78, 3) := by decide +kernel
theorem dX6_obey_105 : decode cX6_obey 105 = .ok (.ireturn, 1) := by decide +kernel
theorem dX6_obey_106 : decode cX6_obey 106 = .ok (.aload_n 0, 1) := by decide +kernel
theorem dX6_obey_107 : decode cX6_obey 107 = .ok (.getfield 10, 3) := by decide +kernel
theorem dX6_obey_110 : decode cX6_obey 110 = .ok (.aload_n 0, 1) := by decide +kernel
theorem dX6_obey_111 : decode cX6_obey 111 = .ok (.getfield 42, 3) := by decide +kernel
theorem dX6_obey_114 : decode cX6_obey 114 = .ok (.iconst 0, 1) := by decide +kernel
theorem dX6_obey_115 : decode cX6_obey 115 = .ok (.invokevirtual 213, 3) := by decide +kernel
theorem dX6_obey_118 : decode cX6_obey 118 = .ok (.invokevirtual 72, 3) := by decide +kernel
theorem dX6_obey_121 : decode cX6_obey 121 = .ok (.ireturn, 1) := by decide +kernel
theorem dX6_obey_122 : decode cX6_obey 122 = .ok (.aload_n 0, 1) := by decide +kernel
theorem dX6_obey_123 : decode cX6_obey 123 = .ok (.getfield 10, 3) := by decide +kernel
theorem dX6_obey_126 : decode cX6_obey 126 = .ok (.aload_n 0, 1) := by decide +kernel
theorem dX6_obey_127 : decode cX6_obey 127 = .ok (.getfield 42, 3) := by decide +kernel
theorem dX6_obey_130 : decode cX6_obey 130 = .ok (.iconst 0, 1) := by decide +kernel
theorem dX6_obey_131 : decode cX6_obey 131 = .ok (.invokevirtual 213, 3) := by decide +kernel
theorem dX6_obey_134 : decode cX6_obey 134 = .ok (.aload_n 0, 1) := by decide +kernel
theorem dX6_obey_135 : decode cX6_obey 135 = .ok (.getfield 42, 3) := by decide +kernel
theorem dX6_obey_138 : decode cX6_obey 138 = .ok (.iconst 1, 1) := by decide +kernel
theorem dX6_obey_139 : decode cX6_obey 139 = .ok (.invokevirtual 213, 3) := by decide +kernel
theorem dX6_obey_142 : decode cX6_obey 142 = .ok (.aload_n 0, 1) := by decide +kernel
theorem dX6_obey_143 : decode cX6_obey 143 = .ok (.getfield 42, 3) := by decide +kernel
theorem dX6_obey_146 : decode cX6_obey 146 = .ok (.iconst 2, 1) := by decide +kernel
theorem dX6_obey_147 : decode cX6_obey 147 = .ok (.invokevirtual 213, 3) := by decide +kernel
theorem dX6_obey_150 : decode cX6_obey 150 = .ok (.invokevirtual 68, 3) := by decide +kernel
theorem dX6_obey_153 : decode cX6_obey 153 = .ok (.ireturn, 1) := by decide +kernel
theorem dX6_obey_154 : decode cX6_obey 154 = .ok (.bipush (-3), 2) := by decide +kernel
theorem dX6_obey_156 : decode cX6_obey 156 = .ok (.ireturn, 1) := by decide +kernel
set_option maxRecDepth 20000 in
theorem ggX6_addRollerOfText_X2_numbers : GoodIn wsX6_addRollerOfText wsX2_numbers := goodIn_r _ [7, 8, 68, 69, 70, 71, 72] (by decide +kernel) (by decide +kernel)
set_option maxRecDepth 20000 in
theorem gX6_addRollerOfText_X2_numbers : GoodIn wsX6_addRollerOfText (wsV RX6 216 RX2 yX2_numbers wsX2_numbers) := goodIn_app (goodIn_of _ (by decide +kernel)) ggX6_addRollerOfText_X2_numbers
set_option maxRecDepth 20000 in
theorem ggX6_addRollerOfText_X3_addRoller : GoodIn wsX6_addRollerOfText wsX3_addRoller := goodIn_r _ [13, 14, 15, 16, 17, 18, 19, 12, 20, 21, 22, 23, 24, 25, 26, 27, 28, 29, 30, 31, 32, 33, 34, 35, 36, 73] (by decide +kernel) (by decide +kernel)
set_option maxRecDepth 20000 in
theorem gX6_addRollerOfText_X3_addRoller : GoodIn wsX6_addRollerOfText (wsV RX6 65 RX3 yX3_addRoller wsX3_addRoller) := goodIn_app (goodIn_of _ (by decide +kernel)) ggX6_addRollerOfText_X3_addRoller
set_option maxRecDepth 20000 in
theorem ggX6_addRollerOfText_X2_number : GoodIn wsX6_addRollerOfText wsX2_number := goodIn_r _ [40, 41, 68, 69, 70, 71, 72] (by decide +kernel) (by decide +kernel)
set_option maxRecDepth 20000 in
theorem gX6_addRollerOfText_X2_number : GoodIn wsX6_addRollerOfText (wsV RX6 213 RX2 yX2_number wsX2_number) := goodIn_app (goodIn_of _ (by decide +kernel)) ggX6_addRollerOfText_X2_number
set_option maxRecDepth 20000 in
theorem ggX6_addRollerOfText_X3_fileTooth : GoodIn wsX6_addRollerOfText wsX3_fileTooth := goodIn_r _ [45, 46, 47, 48, 12, 49, 50, 51, 52, 53, 17, 18, 19, 20, 21, 54, 55, 56, 57, 22, 23, 24, 14, 15, 16, 58, 59, 60, 61, 29, 30, 31, 32, 25, 26, 27, 28, 73] (by decide +kernel) (by decide +kernel)
set_option maxRecDepth 20000 in
theorem gX6_addRollerOfText_X3_fileTooth : GoodIn wsX6_addRollerOfText (wsV RX6 68 RX3 yX3_fileTooth wsX3_fileTooth) := goodIn_app (goodIn_of _ (by decide +kernel)) ggX6_addRollerOfText_X3_fileTooth
theorem dX6_addRollerOfText_0 : decode cX6_addRollerOfText 0 = .ok (.aload_n 0, 1) := by decide +kernel
theorem dX6_addRollerOfText_1 : decode cX6_addRollerOfText 1 = .ok (.getfield 42, 3) := by decide +kernel
theorem dX6_addRollerOfText_4 : decode cX6_addRollerOfText 4 = .ok (.invokevirtual 216, 3) := by decide +kernel
theorem dX6_addRollerOfText_7 : decode cX6_addRollerOfText 7 = .ok (.istore_n 1, 1) := by decide +kernel
theorem dX6_addRollerOfText_8 : decode cX6_addRollerOfText 8 = .ok (.aload_n 0, 1) := by decide +kernel
theorem dX6_addRollerOfText_9 : decode cX6_addRollerOfText 9 = .ok (.getfield 10, 3) := by decide +kernel
theorem dX6_addRollerOfText_12 : decode cX6_addRollerOfText 12 = .ok (.iload_n 1, 1) := by decide +kernel
theorem dX6_addRollerOfText_13 : decode cX6_addRollerOfText 13 = .ok (.iconst 0, 1) := by decide +kernel
theorem dX6_addRollerOfText_14 : decode cX6_addRollerOfText 14 = .ok (.invokevirtual 65, 3) := by decide +kernel
theorem dX6_addRollerOfText_17 : decode cX6_addRollerOfText 17 = .ok (.istore_n 2, 1) := by decide +kernel
theorem dX6_addRollerOfText_18 : decode cX6_addRollerOfText 18 = .ok (.iload_n 2, 1) := by decide +kernel
theorem dX6_addRollerOfText_19 : decode cX6_addRollerOfText 19 = .ok (.ifCond .ge 5, 3) := by decide +kernel
theorem dX6_addRollerOfText_22 : decode cX6_addRollerOfText 22 = .ok (.iload_n 2, 1) := by decide +kernel
theorem dX6_addRollerOfText_23 : decode cX6_addRollerOfText 23 = .ok (.ireturn, 1) := by decide +kernel
theorem dX6_addRollerOfText_24 : decode cX6_addRollerOfText 24 = .ok (.iconst 0, 1) := by decide +kernel
theorem dX6_addRollerOfText_25 : decode cX6_addRollerOfText 25 = .ok (.istore_n 3, 1) := by decide +kernel
theorem dX6_addRollerOfText_26 : decode cX6_addRollerOfText 26 = .ok (.iload_n 3, 1) := by decide +kernel
theorem dX6_addRollerOfText_27 : decode cX6_addRollerOfText 27 = .ok (.iload_n 1, 1) := by decide +kernel
theorem dX6_addRollerOfText_28 : decode cX6_addRollerOfText 28 = .ok (.if_icmp .ge 27, 3) := by decide +kernel
theorem dX6_addRollerOfText_31 : decode cX6_addRollerOfText 31 = .ok (.aload_n 0, 1) := by decide +kernel
theorem dX6_addRollerOfText_32 : decode cX6_addRollerOfText 32 = .ok (.getfield 10, 3) := by decide +kernel
theorem dX6_addRollerOfText_35 : decode cX6_addRollerOfText 35 = .ok (.iload_n 2, 1) := by decide +kernel
theorem dX6_addRollerOfText_36 : decode cX6_addRollerOfText 36 = .ok (.iload_n 3, 1) := by decide +kernel
theorem dX6_addRollerOfText_37 : decode cX6_addRollerOfText 37 = .ok (.aload_n 0, 1) := by decide +kernel
theorem dX6_addRollerOfText_38 : decode cX6_addRollerOfText 38 = .ok (.getfield 42, 3) := by decide +kernel
theorem dX6_addRollerOfText_41 : decode cX6_addRollerOfText 41 = .ok (.iload_n 3, 1) := by decide +kernel
theorem dX6_addRollerOfText_42 : decode cX6_addRollerOfText 42 = .ok (.invokevirtual 213, 3) := by decide +kernel
theorem dX6_addRollerOfText_45 : decode cX6_addRollerOfText 45 = .ok (.invokevirtual 68, 3) := by decide +kernel
theorem dX6_addRollerOfText_48 : decode cX6_addRollerOfText 48 = .ok (.pop, 1) := by decide +kernel
theorem dX6_addRollerOfText_49 : decode cX6_addRollerOfText 49 = .ok (.iinc 3 1, 3) := by decide +kernel
theorem dX6_addRollerOfText_52 : decode cX6_addRollerOfText 52 = .ok (.goto (-26), 3) := by decide +kernel
theorem dX6_addRollerOfText_55 : decode cX6_addRollerOfText 55 = .ok (.iload_n 2, 1) := by decide +kernel
theorem dX6_addRollerOfText_56 : decode cX6_addRollerOfText 56 = .ok (.ireturn, 1) := by decide +kernel
set_option maxRecDepth 20000 in
theorem ggX6_undo_X0_stepBack : GoodIn wsX6_undo wsX0_stepBack := goodIn_r _ [7, 8, 9, 10, 11, 12, 13, 14, 15, 16, 17, 18, 19, 20, 27, 28, 29, 30] (by decide +kernel) (by decide +kernel)
set_option maxRecDepth 20000 in
theorem gX6_undo_X0_stepBack : GoodIn wsX6_undo (wsV RX6 219 RX0 yX0_stepBack wsX0_stepBack) := goodIn_app (goodIn_of _ (by decide +kernel)) ggX6_undo_X0_stepBack
theorem dX6_undo_0 : decode cX6_undo 0 = .ok (.aload_n 0, 1) := by decide +kernel
theorem dX6_undo_1 : decode cX6_undo 1 = .ok (.getfield 19, 3) := by decide +kernel
theorem dX6_undo_4 : decode cX6_undo 4 = .ok (.aload_n 0, 1) := by decide +kernel
theorem dX6_undo_5 : decode cX6_undo 5 = .ok (.getfield 10, 3) := by decide +kernel
theorem dX6_undo_8 : decode cX6_undo 8 = .ok (.invokevirtual 219, 3) := by decide +kernel
theorem dX6_undo_11 : decode cX6_undo 11 = .ok (.ireturn, 1) := by decide +kernel
set_option maxRecDepth 20000 in
theorem ggX6_save_X4_keep : GoodIn wsX6_save wsX4_keep := goodIn_r _ [7, 8, 9, 10, 11, 12, 13, 14, 15, 16, 17, 18, 19, 20, 21, 22, 23, 24, 25, 26, 33, 34, 35] (by decide +kernel) (by decide +kernel)
set_option maxRecDepth 20000 in
theorem gX6_save_X4_keep : GoodIn wsX6_save (wsV RX6 223 RX4 yX4_keep wsX4_keep) := goodIn_app (goodIn_of _ (by decide +kernel)) ggX6_save_X4_keep
theorem dX6_save_0 : decode cX6_save 0 = .ok (.aload_n 0, 1) := by decide +kernel
theorem dX6_save_1 : decode cX6_save 1 = .ok (.getfield 26, 3) := by decide +kernel
theorem dX6_save_4 : decode cX6_save 4 = .ok (.iload_n 1, 1) := by decide +kernel
theorem dX6_save_5 : decode cX6_save 5 = .ok (.aload_n 0, 1) := by decide +kernel
theorem dX6_save_6 : decode cX6_save 6 = .ok (.getfield 10, 3) := by decide +kernel
theorem dX6_save_9 : decode cX6_save 9 = .ok (.invokevirtual 223, 3) := by decide +kernel
theorem dX6_save_12 : decode cX6_save 12 = .ok (.ireturn, 1) := by decide +kernel
set_option maxRecDepth 20000 in
theorem ggX6_restore_X0_prepare : GoodIn wsX6_restore wsX0_prepare := goodIn_r _ [8, 9, 10, 11, 12, 13, 14, 15, 16, 17, 18, 19, 20, 54, 55, 56, 57] (by decide +kernel) (by decide +kernel)
set_option maxRecDepth 20000 in
theorem gX6_restore_X0_prepare : GoodIn wsX6_restore (wsV RX6 53 RX0 yX0_prepare wsX0_prepare) := goodIn_app (goodIn_of _ (by decide +kernel)) ggX6_restore_X0_prepare
set_option maxRecDepth 20000 in
theorem ggX6_restore_X4_fetch : GoodIn wsX6_restore wsX4_fetch := goodIn_r _ [25, 26, 27, 28, 29, 30, 31, 32, 33, 14, 34, 16, 17, 18, 19, 20, 35, 36, 37, 38, 58, 59, 57] (by decide +kernel) (by decide +kernel)
set_option maxRecDepth 20000 in
theorem gX6_restore_X4_fetch : GoodIn wsX6_restore (wsV RX6 227 RX4 yX4_fetch wsX4_fetch) := goodIn_app (goodIn_of _ (by decide +kernel)) ggX6_restore_X4_fetch
set_option maxRecDepth 20000 in
theorem ggX6_restore_X0_recorded : GoodIn wsX6_restore wsX0_recorded := goodIn_r _ [42, 10, 43, 44, 45, 46, 47, 54, 55, 56] (by decide +kernel) (by decide +kernel)
set_option maxRecDepth 20000 in
theorem gX6_restore_X0_recorded : GoodIn wsX6_restore (wsV RX6 61 RX0 yX0_recorded wsX0_recorded) := goodIn_app (goodIn_of _ (by decide +kernel)) ggX6_restore_X0_recorded
theorem dX6_restore_0 : decode cX6_restore 0 = .ok (.aload_n 0, 1) := by decide +kernel
theorem dX6_restore_1 : decode cX6_restore 1 = .ok (.getfield 19, 3) := by decide +kernel
theorem dX6_restore_4 : decode cX6_restore 4 = .ok (.aload_n 0, 1) := by decide +kernel
theorem dX6_restore_5 : decode cX6_restore 5 = .ok (.getfield 10, 3) := by decide +kernel
theorem dX6_restore_8 : decode cX6_restore 8 = .ok (.invokevirtual 53, 3) := by decide +kernel
theorem dX6_restore_11 : decode cX6_restore 11 = .ok (.aload_n 0, 1) := by decide +kernel
theorem dX6_restore_12 : decode cX6_restore 12 = .ok (.getfield 19, 3) := by decide +kernel
theorem dX6_restore_15 : decode cX6_restore 15 = .ok (.aload_n 0, 1) := by decide +kernel
theorem dX6_restore_16 : decode cX6_restore 16 = .ok (.getfield 26, 3) := by decide +kernel
theorem dX6_restore_19 : decode cX6_restore 19 = .ok (.iload_n 1, 1) := by decide +kernel
theorem dX6_restore_20 : decode cX6_restore 20 = .ok (.aload_n 0, 1) := by decide +kernel
theorem dX6_restore_21 : decode cX6_restore 21 = .ok (.getfield 10, 3) := by decide +kernel
theorem dX6_restore_24 : decode cX6_restore 24 = .ok (.invokevirtual 227, 3) := by decide +kernel
theorem dX6_restore_27 : decode cX6_restore 27 = .ok (.invokevirtual 61, 3) := by decide +kernel
theorem dX6_restore_30 : decode cX6_restore 30 = .ok (.ireturn, 1) := by decide +kernel
theorem dJ9_abs_0f7a4_0 : decode cJ9_abs_0f7a4 0 = .ok (.iload_n 0, 1) := by decide +kernel
theorem dJ9_abs_0f7a4_1 : decode cJ9_abs_0f7a4 1 = .ok (.ifCond .ge 8, 3) := by decide +kernel
theorem dJ9_abs_0f7a4_4 : decode cJ9_abs_0f7a4 4 = .ok (.iload_n 0, 1) := by decide +kernel
theorem dJ9_abs_0f7a4_5 : decode cJ9_abs_0f7a4 5 = .ok (.ineg, 1) := by decide +kernel
theorem dJ9_abs_0f7a4_6 : decode cJ9_abs_0f7a4 6 = .ok (.goto 4, 3) := by decide +kernel
theorem dJ9_abs_0f7a4_9 : decode cJ9_abs_0f7a4 9 = .ok (.iload_n 0, 1) := by decide +kernel
theorem dJ9_abs_0f7a4_10 : decode cJ9_abs_0f7a4 10 = .ok (.ireturn, 1) := by decide +kernel
theorem dJ9_max_7cf53_0 : decode cJ9_max_7cf53 0 = .ok (.iload_n 0, 1) := by decide +kernel
theorem dJ9_max_7cf53_1 : decode cJ9_max_7cf53 1 = .ok (.iload_n 1, 1) := by decide +kernel
theorem dJ9_max_7cf53_2 : decode cJ9_max_7cf53 2 = .ok (.if_icmp .lt 7, 3) := by decide +kernel
theorem dJ9_max_7cf53_5 : decode cJ9_max_7cf53 5 = .ok (.iload_n 0, 1) := by decide +kernel
theorem dJ9_max_7cf53_6 : decode cJ9_max_7cf53 6 = .ok (.goto 4, 3) := by decide +kernel
theorem dJ9_max_7cf53_9 : decode cJ9_max_7cf53 9 = .ok (.iload_n 1, 1) := by decide +kernel
theorem dJ9_max_7cf53_10 : decode cJ9_max_7cf53 10 = .ok (.ireturn, 1) := by decide +kernel
theorem dJ9_min_7cf53_0 : decode cJ9_min_7cf53 0 = .ok (.iload_n 0, 1) := by decide +kernel
theorem dJ9_min_7cf53_1 : decode cJ9_min_7cf53 1 = .ok (.iload_n 1, 1) := by decide +kernel
theorem dJ9_min_7cf53_2 : decode cJ9_min_7cf53 2 = .ok (.if_icmp .gt 7, 3) := by decide +kernel
theorem dJ9_min_7cf53_5 : decode cJ9_min_7cf53 5 = .ok (.iload_n 0, 1) := by decide +kernel
theorem dJ9_min_7cf53_6 : decode cJ9_min_7cf53 6 = .ok (.goto 4, 3) := by decide +kernel
theorem dJ9_min_7cf53_9 : decode cJ9_min_7cf53 9 = .ok (.iload_n 1, 1) := by decide +kernel
theorem dJ9_min_7cf53_10 : decode cJ9_min_7cf53 10 = .ok (.ireturn, 1) := by decide +kernel
theorem dL_part_0 : decode cL_part 0 = .ok (.iload_n 0, 1) := by decide +kernel
theorem dL_part_1 : decode cL_part 1 = .ok (.ldc 7, 2) := by decide +kernel
theorem dL_part_3 : decode cL_part 3 = .ok (.iand, 1) := by decide +kernel
theorem dL_part_4 : decode cL_part 4 = .ok (.iload_n 1, 1) := by decide +kernel
theorem dL_part_5 : decode cL_part 5 = .ok (.irem, 1) := by decide +kernel
theorem dL_part_6 : decode cL_part 6 = .ok (.ireturn, 1) := by decide +kernel
theorem dL_drawn_0 : decode cL_drawn 0 = .ok (.aload_n 0, 1) := by decide +kernel
theorem dL_drawn_1 : decode cL_drawn 1 = .ok (.arraylength, 1) := by decide +kernel
theorem dL_drawn_2 : decode cL_drawn 2 = .ok (.ifCond .ne 13, 3) := by decide +kernel
theorem dL_drawn_5 : decode cL_drawn 5 = .ok (.sipush 7919, 3) := by decide +kernel
theorem dL_drawn_8 : decode cL_drawn 8 = .ok (.iload_n 1, 1) := by decide +kernel
theorem dL_drawn_9 : decode cL_drawn 9 = .ok (.imul, 1) := by decide +kernel
theorem dL_drawn_10 : decode cL_drawn 10 = .ok (.iconst 3, 1) := by decide +kernel
theorem dL_drawn_11 : decode cL_drawn 11 = .ok (.iadd, 1) := by decide +kernel
theorem dL_drawn_12 : decode cL_drawn 12 = .ok (.goto 27, 3) := by decide +kernel
theorem dL_drawn_15 : decode cL_drawn 15 = .ok (.aload_n 0, 1) := by decide +kernel
theorem dL_drawn_16 : decode cL_drawn 16 = .ok (.iload_n 1, 1) := by decide +kernel
theorem dL_drawn_17 : decode cL_drawn 17 = .ok (.aload_n 0, 1) := by decide +kernel
theorem dL_drawn_18 : decode cL_drawn 18 = .ok (.arraylength, 1) := by decide +kernel
theorem dL_drawn_19 : decode cL_drawn 19 = .ok (.irem, 1) := by decide +kernel
theorem dL_drawn_20 : decode cL_drawn 20 = .ok (.iaload, 1) := by decide +kernel
theorem dL_drawn_21 : decode cL_drawn 21 = .ok (.iload_n 1, 1) := by decide +kernel
theorem dL_drawn_22 : decode cL_drawn 22 = .ok (.bipush 7, 2) := by decide +kernel
theorem dL_drawn_24 : decode cL_drawn 24 = .ok (.irem, 1) := by decide +kernel
theorem dL_drawn_25 : decode cL_drawn 25 = .ok (.ishr, 1) := by decide +kernel
theorem dL_drawn_26 : decode cL_drawn 26 = .ok (.iload_n 1, 1) := by decide +kernel
theorem dL_drawn_27 : decode cL_drawn 27 = .ok (.aload_n 0, 1) := by decide +kernel
theorem dL_drawn_28 : decode cL_drawn 28 = .ok (.arraylength, 1) := by decide +kernel
theorem dL_drawn_29 : decode cL_drawn 29 = .ok (.idiv, 1) := by decide +kernel
theorem dL_drawn_30 : decode cL_drawn 30 = .ok (.bipush 31, 2) := by decide +kernel
theorem dL_drawn_32 : decode cL_drawn 32 = .ok (.imul, 1) := by decide +kernel
theorem dL_drawn_33 : decode cL_drawn 33 = .ok (.ixor, 1) := by decide +kernel
theorem dL_drawn_34 : decode cL_drawn 34 = .ok (.iload_n 1, 1) := by decide +kernel
theorem dL_drawn_35 : decode cL_drawn 35 = .ok (.ldc 8, 2) := by decide +kernel
theorem dL_drawn_37 : decode cL_drawn 37 = .ok (.imul, 1) := by decide +kernel
theorem dL_drawn_38 : decode cL_drawn 38 = .ok (.ixor, 1) := by decide +kernel
theorem dL_drawn_39 : decode cL_drawn 39 = .ok (.ireturn, 1) := by decide +kernel
set_option maxRecDepth 20000 in
theorem ggL_seen_X6_count : GoodIn wsL_seen wsX6_count := goodIn_r _ [7, 8, 9, 10, 11, 12, 6, 13, 14, 15, 16, 17, 18, 19, 20, 21, 22, 23, 24, 25, 26, 27, 28, 29, 30, 31, 90, 91, 92, 93, 94, 95, 96, 97, 98, 99, 100, 101] (by decide +kernel) (by decide +kernel)
set_option maxRecDepth 20000 in
theorem gL_seen_X6_count : GoodIn wsL_seen (wsV RL 13 RX6 yX6_count wsX6_count) := goodIn_app (goodIn_of _ (by decide +kernel)) ggL_seen_X6_count
set_option maxRecDepth 20000 in
theorem ggL_seen_X6_of : GoodIn wsL_seen wsX6_of := goodIn_r _ [35, 10, 36, 37, 38, 29, 39, 40, 27, 28, 30, 31, 41, 42, 43, 44, 45, 46, 47, 48, 49, 50, 51, 52, 53, 54, 55, 56, 57, 58, 59, 60, 61, 62, 63, 64, 65, 66, 67, 68, 69, 70, 71, 72, 73, 74, 75, 76, 77, 78, 79, 90, 91, 92, 93, 94, 95, 101] (by decide +kernel) (by decide +kernel)
set_option maxRecDepth 20000 in
theorem gL_seen_X6_of : GoodIn wsL_seen (wsV RL 19 RX6 yX6_of wsX6_of) := goodIn_app (goodIn_of _ (by decide +kernel)) ggL_seen_X6_of
set_option maxRecDepth 20000 in
theorem ggL_seen_X6_tooth : GoodIn wsL_seen wsX6_tooth := goodIn_r _ [83, 10, 84, 85, 86, 29, 87, 88, 37, 38, 39, 40, 27, 28, 30, 31, 52, 42, 43, 44, 45, 46, 47, 89, 54, 55, 56, 90, 91, 92, 93, 94, 95, 101] (by decide +kernel) (by decide +kernel)
set_option maxRecDepth 20000 in
theorem gL_seen_X6_tooth : GoodIn wsL_seen (wsV RL 23 RX6 yX6_tooth wsX6_tooth) := goodIn_app (goodIn_of _ (by decide +kernel)) ggL_seen_X6_tooth
theorem dL_seen_0 : decode cL_seen 0 = .ok (.ldc2_w 9, 3) := by decide +kernel
theorem dL_seen_3 : decode cL_seen 3 = .ok (.lstore_n 1, 1) := by decide +kernel
theorem dL_seen_4 : decode cL_seen 4 = .ok (.iconst 0, 1) := by decide +kernel
theorem dL_seen_5 : decode cL_seen 5 = .ok (.istore_n 3, 1) := by decide +kernel
theorem dL_seen_6 : decode cL_seen 6 = .ok (.iload_n 3, 1) := by decide +kernel
theorem dL_seen_7 : decode cL_seen 7 = .ok (.bipush 9, 2) := by decide +kernel
theorem dL_seen_9 : decode cL_seen 9 = .ok (.if_icmp .ge 22, 3) := by decide +kernel
theorem dL_seen_12 : decode cL_seen 12 = .ok (.ldc2_w 11, 3) := by decide +kernel
theorem dL_seen_15 : decode cL_seen 15 = .ok (.lload_n 1, 1) := by decide +kernel
theorem dL_seen_16 : decode cL_seen 16 = .ok (.lmul, 1) := by decide +kernel
theorem dL_seen_17 : decode cL_seen 17 = .ok (.aload_n 0, 1) := by decide +kernel
theorem dL_seen_18 : decode cL_seen 18 = .ok (.iload_n 3, 1) := by decide +kernel
theorem dL_seen_19 : decode cL_seen 19 = .ok (.invokevirtual 13, 3) := by decide +kernel
theorem dL_seen_22 : decode cL_seen 22 = .ok (.i2l, 1) := by decide +kernel
theorem dL_seen_23 : decode cL_seen 23 = .ok (.ladd, 1) := by decide +kernel
theorem dL_seen_24 : decode cL_seen 24 = .ok (.lstore_n 1, 1) := by decide +kernel
theorem dL_seen_25 : decode cL_seen 25 = .ok (.iinc 3 1, 3) := by decide +kernel
theorem dL_seen_28 : decode cL_seen 28 = .ok (.goto (-22), 3) := by decide +kernel
theorem dL_seen_31 : decode cL_seen 31 = .ok (.iconst 0, 1) := by decide +kernel
theorem dL_seen_32 : decode cL_seen 32 = .ok (.istore_n 3, 1) := by decide +kernel
theorem dL_seen_33 : decode cL_seen 33 = .ok (.iload_n 3, 1) := by decide +kernel
theorem dL_seen_34 : decode cL_seen 34 = .ok (.bipush 7, 2) := by decide +kernel
theorem dL_seen_36 : decode cL_seen 36 = .ok (.aload_n 0, 1) := by decide +kernel
theorem dL_seen_37 : decode cL_seen 37 = .ok (.iconst 0, 1) := by decide +kernel
theorem dL_seen_38 : decode cL_seen 38 = .ok (.invokevirtual 13, 3) := by decide +kernel
theorem dL_seen_41 : decode cL_seen 41 = .ok (.imul, 1) := by decide +kernel
theorem dL_seen_42 : decode cL_seen 42 = .ok (.if_icmp .ge 29, 3) := by decide +kernel
theorem dL_seen_45 : decode cL_seen 45 = .ok (.ldc2_w 11, 3) := by decide +kernel
theorem dL_seen_48 : decode cL_seen 48 = .ok (.lload_n 1, 1) := by decide +kernel
theorem dL_seen_49 : decode cL_seen 49 = .ok (.lmul, 1) := by decide +kernel
theorem dL_seen_50 : decode cL_seen 50 = .ok (.aload_n 0, 1) := by decide +kernel
theorem dL_seen_51 : decode cL_seen 51 = .ok (.iload_n 3, 1) := by decide +kernel
theorem dL_seen_52 : decode cL_seen 52 = .ok (.bipush 7, 2) := by decide +kernel
theorem dL_seen_54 : decode cL_seen 54 = .ok (.idiv, 1) := by decide +kernel
theorem dL_seen_55 : decode cL_seen 55 = .ok (.iload_n 3, 1) := by decide +kernel
theorem dL_seen_56 : decode cL_seen 56 = .ok (.bipush 7, 2) := by decide +kernel
theorem dL_seen_58 : decode cL_seen 58 = .ok (.irem, 1) := by decide +kernel
theorem dL_seen_59 : decode cL_seen 59 = .ok (.invokevirtual 19, 3) := by decide +kernel
theorem dL_seen_62 : decode cL_seen 62 = .ok (.i2l, 1) := by decide +kernel
theorem dL_seen_63 : decode cL_seen 63 = .ok (.ladd, 1) := by decide +kernel
theorem dL_seen_64 : decode cL_seen 64 = .ok (.lstore_n 1, 1) := by decide +kernel
theorem dL_seen_65 : decode cL_seen 65 = .ok (.iinc 3 1, 3) := by decide +kernel
theorem dL_seen_68 : decode cL_seen 68 = .ok (.goto (-35), 3) := by decide +kernel
theorem dL_seen_71 : decode cL_seen 71 = .ok (.iconst 0, 1) := by decide +kernel
theorem dL_seen_72 : decode cL_seen 72 = .ok (.istore_n 3, 1) := by decide +kernel
theorem dL_seen_73 : decode cL_seen 73 = .ok (.iload_n 3, 1) := by decide +kernel
theorem dL_seen_74 : decode cL_seen 74 = .ok (.bipush 24, 2) := by decide +kernel
theorem dL_seen_76 : decode cL_seen 76 = .ok (.aload_n 0, 1) := by decide +kernel
theorem dL_seen_77 : decode cL_seen 77 = .ok (.iconst 0, 1) := by decide +kernel
theorem dL_seen_78 : decode cL_seen 78 = .ok (.invokevirtual 13, 3) := by decide +kernel
theorem dL_seen_81 : decode cL_seen 81 = .ok (.imul, 1) := by decide +kernel
theorem dL_seen_82 : decode cL_seen 82 = .ok (.if_icmp .ge 29, 3) := by decide +kernel
theorem dL_seen_85 : decode cL_seen 85 = .ok (.ldc2_w 11, 3) := by decide +kernel
theorem dL_seen_88 : decode cL_seen 88 = .ok (.lload_n 1, 1) := by decide +kernel
theorem dL_seen_89 : decode cL_seen 89 = .ok (.lmul, 1) := by decide +kernel
theorem dL_seen_90 : decode cL_seen 90 = .ok (.aload_n 0, 1) := by decide +kernel
theorem dL_seen_91 : decode cL_seen 91 = .ok (.iload_n 3, 1) := by decide +kernel
theorem dL_seen_92 : decode cL_seen 92 = .ok (.bipush 24, 2) := by decide +kernel
theorem dL_seen_94 : decode cL_seen 94 = .ok (.idiv, 1) := by decide +kernel
theorem dL_seen_95 : decode cL_seen 95 = .ok (.iload_n 3, 1) := by decide +kernel
theorem dL_seen_96 : decode cL_seen 96 = .ok (.bipush 24, 2) := by decide +kernel
theorem dL_seen_98 : decode cL_seen 98 = .ok (.irem, 1) := by decide +kernel
theorem dL_seen_99 : decode cL_seen 99 = .ok (.invokevirtual 23, 3) := by decide +kernel
theorem dL_seen_102 : decode cL_seen 102 = .ok (.i2l, 1) := by decide +kernel
theorem dL_seen_103 : decode cL_seen 103 = .ok (.ladd, 1) := by decide +kernel
theorem dL_seen_104 : decode cL_seen 104 = .ok (.lstore_n 1, 1) := by decide +kernel
theorem dL_seen_105 : decode cL_seen 105 = .ok (.iinc 3 1, 3) := by decide +kernel
theorem dL_seen_108 : decode cL_seen 108 = .ok (.goto (-35), 3) := by decide +kernel
theorem dL_seen_111 : decode cL_seen 111 = .ok (.lload_n 1, 1) := by decide +kernel
theorem dL_seen_112 : decode cL_seen 112 = .ok (.lreturn, 1) := by decide +kernel
set_option maxRecDepth 20000 in
theorem ggL_refusesAny_X6_count : GoodIn wsL_refusesAny wsX6_count := goodIn_r _ [8, 9, 10, 11, 12, 13, 7, 14, 15, 16, 17, 18, 19, 20, 21, 22, 23, 24, 25, 26, 27, 28, 29, 30, 31, 32, 420, 421, 422, 423, 424, 425, 426, 427, 428, 429, 430, 431] (by decide +kernel) (by decide +kernel)
set_option maxRecDepth 20000 in
theorem gL_refusesAny_X6_count : GoodIn wsL_refusesAny (wsV RL 13 RX6 yX6_count wsX6_count) := goodIn_app (goodIn_of _ (by decide +kernel)) ggL_refusesAny_X6_count
set_option maxRecDepth 20000 in
theorem ggL_refusesAny_X6_set : GoodIn wsL_refusesAny wsX6_set := goodIn_r _ [36, 10, 11, 37, 38, 39, 24, 40, 41, 42, 43, 44, 45, 30, 46, 32, 47, 48, 49, 50, 51, 52, 53, 54, 13, 7, 14, 55, 56, 57, 58, 59, 28, 29, 31, 60, 61, 62, 63, 64, 65, 66, 67, 26, 68, 69, 70, 71, 420, 421, 422, 423, 424, 425, 428, 429, 430, 431] (by decide +kernel) (by decide +kernel)
set_option maxRecDepth 20000 in
theorem gL_refusesAny_X6_set : GoodIn wsL_refusesAny (wsV RL 26 RX6 yX6_set wsX6_set) := goodIn_app (goodIn_of _ (by decide +kernel)) ggL_refusesAny_X6_set
set_option maxRecDepth 20000 in
theorem ggL_refusesAny_X6_roller : GoodIn wsL_refusesAny wsX6_roller := goodIn_r _ [75, 10, 11, 37, 38, 39, 24, 40, 41, 42, 43, 44, 45, 30, 46, 32, 47, 48, 49, 50, 76, 77, 78, 79, 13, 7, 14, 59, 28, 29, 31, 80, 81, 82, 60, 61, 62, 63, 83, 84, 85, 86, 87, 88, 89, 90, 64, 65, 66, 67, 26, 68, 69, 70, 71, 420, 421, 422, 423, 424, 425, 428, 429, 430, 431] (by decide +kernel) (by decide +kernel)
set_option maxRecDepth 20000 in
theorem gL_refusesAny_X6_roller : GoodIn wsL_refusesAny (wsV RL 31 RX6 yX6_roller wsX6_roller) := goodIn_app (goodIn_of _ (by decide +kernel)) ggL_refusesAny_X6_roller
set_option maxRecDepth 20000 in
theorem ggL_refusesAny_X6_file : GoodIn wsL_refusesAny wsX6_file := goodIn_r _ [94, 10, 11, 37, 38, 39, 24, 40, 41, 42, 43, 44, 45, 30, 46, 32, 47, 48, 49, 50, 95, 96, 97, 98, 99, 100, 101, 102, 103, 104, 105, 106, 59, 28, 29, 31, 107, 108, 109, 110, 80, 81, 82, 13, 7, 14, 111, 112, 113, 114, 83, 84, 85, 86, 60, 61, 62, 63, 64, 65, 66, 67, 26, 68, 69, 70, 71, 420, 421, 422, 423, 424, 425, 428, 429, 430, 431] (by decide +kernel) (by decide +kernel)
set_option maxRecDepth 20000 in
theorem gL_refusesAny_X6_file : GoodIn wsL_refusesAny (wsV RL 34 RX6 yX6_file wsX6_file) := goodIn_app (goodIn_of _ (by decide +kernel)) ggL_refusesAny_X6_file
set_option maxRecDepth 20000 in
theorem ggL_refusesAny_X6_melt : GoodIn wsL_refusesAny wsX6_melt := goodIn_r _ [118, 10, 11, 37, 38, 39, 24, 40, 41, 42, 43, 44, 45, 30, 46, 32, 47, 48, 49, 50, 119, 120, 121, 122, 103, 104, 105, 106, 59, 28, 29, 31, 80, 81, 82, 60, 61, 62, 63, 64, 65, 66, 67, 26, 68, 69, 70, 71, 420, 421, 422, 423, 424, 425, 428, 429, 430, 431] (by decide +kernel) (by decide +kernel)
set_option maxRecDepth 20000 in
theorem gL_refusesAny_X6_melt : GoodIn wsL_refusesAny (wsV RL 38 RX6 yX6_melt wsX6_melt) := goodIn_app (goodIn_of _ (by decide +kernel)) ggL_refusesAny_X6_melt
set_option maxRecDepth 20000 in
theorem ggL_refusesAny_X6_card : GoodIn wsL_refusesAny wsX6_card := goodIn_r _ [126, 10, 11, 37, 38, 39, 24, 40, 41, 42, 43, 44, 45, 30, 46, 32, 47, 48, 49, 50, 127, 128, 129, 130, 13, 7, 14, 59, 28, 29, 31, 60, 61, 62, 63, 64, 65, 66, 67, 26, 68, 69, 70, 71, 420, 421, 422, 423, 424, 425, 428, 429, 430, 431] (by decide +kernel) (by decide +kernel)
set_option maxRecDepth 20000 in
theorem gL_refusesAny_X6_card : GoodIn wsL_refusesAny (wsV RL 41 RX6 yX6_card wsX6_card) := goodIn_app (goodIn_of _ (by decide +kernel)) ggL_refusesAny_X6_card
set_option maxRecDepth 20000 in
theorem ggL_refusesAny_X6_carryOut : GoodIn wsL_refusesAny wsX6_carryOut := goodIn_r _ [134, 135, 10, 11, 9, 136, 137, 138, 139, 140, 141, 142, 143, 144, 145, 146, 147, 148, 149, 150, 151, 152, 153, 154, 155, 18, 156, 20, 157, 158, 159, 160, 161, 162, 163, 164, 165, 166, 167, 168, 169, 170, 171, 172, 173, 13, 7, 14, 174, 175, 176, 177, 178, 179, 180, 181, 182, 183, 184, 185, 186, 187, 16, 17, 19, 37, 38, 39, 24, 40, 41, 42, 43, 44, 45, 30, 46, 32, 47, 48, 49, 50, 188, 189, 190, 191, 192, 193, 194, 195, 196, 197, 198, 199, 200, 201, 202, 203, 204, 205, 76, 77, 78, 79, 59, 28, 29, 31, 80, 81, 82, 60, 61, 62, 63, 83, 84, 85, 86, 87, 88, 89, 90, 206, 207, 208, 209, 95, 96, 97, 98, 99, 100, 101, 102, 103, 104, 105, 106, 107, 108, 109, 110, 111, 112, 113, 114, 210, 211, 212, 213, 214, 215, 216, 217, 218, 219, 12, 220, 221, 222, 223, 224, 225, 69, 70, 71, 226, 227, 228, 229, 230, 231, 232, 233, 234, 235, 236, 56, 57, 58, 237, 238, 239, 240, 241, 242, 243, 244, 245, 246, 247, 248, 249, 250, 251, 252, 253, 254, 255, 256, 257, 258, 259, 260, 261, 27, 262, 263, 264, 265, 266, 267, 268, 269, 270, 271, 272, 273, 274, 275, 276, 277, 278, 279, 280, 281, 282, 283, 284, 55, 285, 286, 287, 288, 119, 120, 121, 122, 289, 290, 291, 292, 293, 64, 65, 66, 67, 26, 68, 420, 421, 422, 423, 424, 425, 432, 433, 434, 435, 436, 426, 427, 428, 429, 430, 431, 437, 438, 439, 440] (by decide +kernel) (by decide +kernel)
set_option maxRecDepth 20000 in
theorem gL_refusesAny_X6_carryOut : GoodIn wsL_refusesAny (wsV RL 44 RX6 yX6_carryOut wsX6_carryOut) := goodIn_app (goodIn_of _ (by decide +kernel)) ggL_refusesAny_X6_carryOut
set_option maxRecDepth 20000 in
theorem ggL_refusesAny_X6_run : GoodIn wsL_refusesAny wsX6_run := goodIn_r _ [297, 10, 11, 37, 38, 39, 24, 40, 41, 42, 43, 44, 45, 30, 46, 32, 47, 48, 49, 50, 210, 211, 212, 7, 213, 214, 215, 216, 217, 218, 219, 104, 105, 106, 59, 28, 29, 31, 12, 13, 14, 220, 221, 222, 223, 224, 225, 69, 70, 71, 226, 227, 228, 108, 109, 110, 80, 81, 82, 229, 230, 231, 232, 112, 113, 114, 233, 234, 235, 236, 56, 57, 58, 237, 238, 239, 240, 241, 242, 243, 244, 245, 246, 247, 248, 249, 250, 251, 252, 253, 254, 255, 256, 257, 258, 259, 260, 261, 27, 262, 263, 264, 265, 266, 267, 268, 269, 270, 271, 272, 273, 274, 275, 276, 87, 88, 89, 90, 60, 61, 62, 63, 277, 278, 279, 280, 281, 282, 283, 284, 55, 107, 285, 286, 287, 288, 111, 83, 84, 85, 86, 64, 65, 66, 67, 26, 68, 420, 421, 422, 423, 424, 425, 428, 429, 430, 431, 437, 438, 439, 440] (by decide +kernel) (by decide +kernel)
set_option maxRecDepth 20000 in
theorem gL_refusesAny_X6_run : GoodIn wsL_refusesAny (wsV RL 48 RX6 yX6_run wsX6_run) := goodIn_app (goodIn_of _ (by decide +kernel)) ggL_refusesAny_X6_run
set_option maxRecDepth 20000 in
theorem ggL_refusesAny_X6_of : GoodIn wsL_refusesAny wsX6_of := goodIn_r _ [301, 11, 219, 104, 105, 30, 106, 59, 28, 29, 31, 32, 302, 108, 109, 110, 80, 81, 82, 303, 304, 305, 306, 107, 111, 112, 113, 114, 307, 308, 309, 310, 311, 267, 70, 268, 312, 313, 314, 315, 316, 69, 71, 317, 282, 283, 284, 318, 319, 320, 321, 420, 421, 422, 423, 424, 425, 431] (by decide +kernel) (by decide +kernel)
set_option maxRecDepth 20000 in
theorem gL_refusesAny_X6_of : GoodIn wsL_refusesAny (wsV RL 19 RX6 yX6_of wsX6_of) := goodIn_app (goodIn_of _ (by decide +kernel)) ggL_refusesAny_X6_of
set_option maxRecDepth 20000 in
theorem ggL_refusesAny_X6_tooth : GoodIn wsL_refusesAny wsX6_tooth := goodIn_r _ [325, 11, 326, 100, 101, 30, 102, 103, 104, 105, 106, 59, 28, 29, 31, 32, 107, 108, 109, 110, 80, 81, 82, 327, 112, 113, 114, 420, 421, 422, 423, 424, 425, 431] (by decide +kernel) (by decide +kernel)
set_option maxRecDepth 20000 in
theorem gL_refusesAny_X6_tooth : GoodIn wsL_refusesAny (wsV RL 23 RX6 yX6_tooth wsX6_tooth) := goodIn_app (goodIn_of _ (by decide +kernel)) ggL_refusesAny_X6_tooth
set_option maxRecDepth 20000 in
theorem ggL_refusesAny_X6_pair : GoodIn wsL_refusesAny wsX6_pair := goodIn_r _ [331, 214, 11, 332, 333, 334, 7, 335, 215, 216, 217, 218, 219, 104, 105, 30, 106, 59, 28, 29, 31, 32, 12, 13, 14, 220, 221, 222, 223, 224, 225, 69, 70, 71, 226, 227, 228, 108, 109, 110, 80, 81, 82, 229, 230, 231, 232, 112, 113, 114, 233, 234, 235, 336, 337, 338, 339, 340, 341, 342, 343, 245, 246, 247, 248, 344, 345, 346, 347, 266, 267, 268, 236, 56, 57, 58, 237, 238, 239, 240, 241, 242, 243, 244, 249, 250, 251, 252, 253, 254, 255, 420, 421, 422, 423, 424, 425, 431, 437, 438, 439, 440] (by decide +kernel) (by decide +kernel)
set_option maxRecDepth 20000 in
theorem gL_refusesAny_X6_pair : GoodIn wsL_refusesAny (wsV RL 52 RX6 yX6_pair wsX6_pair) := goodIn_app (goodIn_of _ (by decide +kernel)) ggL_refusesAny_X6_pair
set_option maxRecDepth 20000 in
theorem ggL_refusesAny_X6_why : GoodIn wsL_refusesAny wsX6_why := goodIn_r _ [351, 214, 11, 332, 333, 334, 7, 335, 215, 216, 217, 218, 219, 104, 105, 30, 106, 59, 28, 29, 31, 32, 12, 13, 14, 220, 221, 222, 223, 224, 225, 69, 70, 71, 226, 227, 228, 108, 109, 110, 80, 81, 82, 229, 230, 231, 232, 112, 113, 114, 233, 234, 235, 236, 56, 57, 58, 352, 242, 243, 244, 245, 246, 247, 248, 249, 250, 251, 252, 253, 254, 255, 353, 420, 421, 422, 423, 424, 425, 431, 437, 438, 439, 440] (by decide +kernel) (by decide +kernel)
set_option maxRecDepth 20000 in
theorem gL_refusesAny_X6_why : GoodIn wsL_refusesAny (wsV RL 56 RX6 yX6_why wsX6_why) := goodIn_app (goodIn_of _ (by decide +kernel)) ggL_refusesAny_X6_why
set_option maxRecDepth 20000 in
theorem ggL_refusesAny_X6_leastGap : GoodIn wsL_refusesAny wsX6_leastGap := goodIn_r _ [357, 215, 216, 217, 7, 218, 11, 219, 104, 105, 30, 106, 59, 28, 29, 31, 32, 12, 13, 14, 358, 359, 360, 361, 214, 362, 267, 70, 268, 220, 221, 222, 223, 224, 225, 69, 71, 226, 227, 228, 108, 109, 110, 80, 81, 82, 229, 230, 231, 232, 112, 113, 114, 233, 234, 235, 236, 56, 57, 58, 363, 364, 365, 366, 249, 250, 251, 252, 253, 254, 255, 245, 246, 247, 248, 340, 341, 342, 343, 420, 421, 422, 423, 424, 425, 431, 437, 438, 439, 440] (by decide +kernel) (by decide +kernel)
set_option maxRecDepth 20000 in
theorem gL_refusesAny_X6_leastGap : GoodIn wsL_refusesAny (wsV RL 59 RX6 yX6_leastGap wsX6_leastGap) := goodIn_app (goodIn_of _ (by decide +kernel)) ggL_refusesAny_X6_leastGap
set_option maxRecDepth 20000 in
theorem ggL_refusesAny_X6_bestOffset : GoodIn wsL_refusesAny wsX6_bestOffset := goodIn_r _ [370, 11, 371, 69, 70, 71, 332, 333, 334, 7, 335, 215, 216, 217, 218, 219, 104, 105, 30, 106, 59, 28, 29, 31, 32, 12, 13, 14, 302, 108, 109, 110, 80, 81, 82, 358, 359, 360, 361, 214, 362, 267, 268, 220, 221, 222, 223, 224, 225, 226, 227, 228, 229, 230, 231, 232, 112, 113, 114, 233, 234, 235, 236, 56, 57, 58, 363, 364, 365, 366, 249, 250, 251, 252, 253, 254, 255, 245, 246, 247, 248, 340, 341, 342, 343, 420, 421, 422, 423, 424, 425, 431, 437, 438, 439, 440] (by decide +kernel) (by decide +kernel)
set_option maxRecDepth 20000 in
theorem gL_refusesAny_X6_bestOffset : GoodIn wsL_refusesAny (wsV RL 62 RX6 yX6_bestOffset wsX6_bestOffset) := goodIn_app (goodIn_of _ (by decide +kernel)) ggL_refusesAny_X6_bestOffset
set_option maxRecDepth 20000 in
theorem ggL_refusesAny_X6_thickest : GoodIn wsL_refusesAny wsX6_thickest := goodIn_r _ [375, 214, 11, 215, 216, 217, 7, 218, 219, 104, 105, 30, 106, 59, 28, 29, 31, 32, 12, 13, 14, 220, 221, 222, 223, 224, 225, 69, 70, 71, 226, 227, 228, 108, 109, 110, 80, 81, 82, 229, 230, 231, 232, 112, 113, 114, 233, 234, 235, 236, 56, 57, 58, 237, 238, 239, 240, 241, 242, 243, 244, 245, 246, 247, 248, 249, 250, 251, 252, 253, 254, 255, 256, 257, 258, 259, 260, 261, 336, 337, 338, 339, 27, 262, 263, 264, 265, 266, 267, 268, 420, 421, 422, 423, 424, 425, 431, 437, 438, 439, 440] (by decide +kernel) (by decide +kernel)
set_option maxRecDepth 20000 in
theorem gL_refusesAny_X6_thickest : GoodIn wsL_refusesAny (wsV RL 65 RX6 yX6_thickest wsX6_thickest) := goodIn_app (goodIn_of _ (by decide +kernel)) ggL_refusesAny_X6_thickest
set_option maxRecDepth 20000 in
theorem ggL_refusesAny_X6_save : GoodIn wsL_refusesAny wsX6_save := goodIn_r _ [379, 380, 11, 381, 382, 383, 384, 385, 386, 387, 13, 7, 14, 388, 44, 45, 30, 46, 32, 47, 48, 49, 50, 389, 28, 29, 31, 420, 421, 422, 423, 424, 425, 441, 442, 431] (by decide +kernel) (by decide +kernel)
set_option maxRecDepth 20000 in
theorem gL_refusesAny_X6_save : GoodIn wsL_refusesAny (wsV RL 69 RX6 yX6_save wsX6_save) := goodIn_app (goodIn_of _ (by decide +kernel)) ggL_refusesAny_X6_save
set_option maxRecDepth 20000 in
theorem ggL_refusesAny_X6_restore : GoodIn wsL_refusesAny wsX6_restore := goodIn_r _ [393, 10, 11, 380, 37, 38, 39, 24, 40, 41, 42, 43, 44, 45, 30, 46, 32, 47, 48, 49, 50, 394, 395, 396, 384, 397, 387, 386, 13, 7, 14, 398, 399, 400, 401, 389, 28, 29, 31, 64, 65, 66, 67, 26, 68, 69, 70, 71, 420, 421, 422, 423, 424, 425, 428, 429, 430, 431, 441, 442] (by decide +kernel) (by decide +kernel)
set_option maxRecDepth 20000 in
theorem gL_refusesAny_X6_restore : GoodIn wsL_refusesAny (wsV RL 72 RX6 yX6_restore wsX6_restore) := goodIn_app (goodIn_of _ (by decide +kernel)) ggL_refusesAny_X6_restore
set_option maxRecDepth 20000 in
theorem ggL_refusesAny_X6_put : GoodIn wsL_refusesAny wsX6_put := goodIn_r _ [405, 9, 406, 407, 408, 18, 409, 20, 410, 411, 412, 413, 414, 415, 13, 7, 14, 416, 417, 418, 419, 157, 420, 421, 422, 423, 424, 425, 426, 427] (by decide +kernel) (by decide +kernel)
set_option maxRecDepth 20000 in
theorem gL_refusesAny_X6_put : GoodIn wsL_refusesAny (wsV RL 77 RX6 yX6_put wsX6_put) := goodIn_app (goodIn_of _ (by decide +kernel)) ggL_refusesAny_X6_put
theorem dL_refusesAny_0 : decode cL_refusesAny 0 = .ok (.iload_n 1, 1) := by decide +kernel
theorem dL_refusesAny_1 : decode cL_refusesAny 1 = .ok (.ifCond .ne 7, 3) := by decide +kernel
theorem dL_refusesAny_4 : decode cL_refusesAny 4 = .ok (.iconst (-1), 1) := by decide +kernel
theorem dL_refusesAny_5 : decode cL_refusesAny 5 = .ok (.goto 8, 3) := by decide +kernel
theorem dL_refusesAny_8 : decode cL_refusesAny 8 = .ok (.aload_n 0, 1) := by decide +kernel
theorem dL_refusesAny_9 : decode cL_refusesAny 9 = .ok (.iconst 0, 1) := by decide +kernel
theorem dL_refusesAny_10 : decode cL_refusesAny 10 = .ok (.invokevirtual 13, 3) := by decide +kernel
theorem dL_refusesAny_13 : decode cL_refusesAny 13 = .ok (.istore_n 2, 1) := by decide +kernel
theorem dL_refusesAny_14 : decode cL_refusesAny 14 = .ok (.iload_n 1, 1) := by decide +kernel
theorem dL_refusesAny_15 : decode cL_refusesAny 15 = .ok (.ifCond .ne 7, 3) := by decide +kernel
theorem dL_refusesAny_18 : decode cL_refusesAny 18 = .ok (.iconst (-1), 1) := by decide +kernel
theorem dL_refusesAny_19 : decode cL_refusesAny 19 = .ok (.goto 5, 3) := by decide +kernel
theorem dL_refusesAny_22 : decode cL_refusesAny 22 = .ok (.bipush 24, 2) := by decide +kernel
theorem dL_refusesAny_24 : decode cL_refusesAny 24 = .ok (.istore_n 3, 1) := by decide +kernel
theorem dL_refusesAny_25 : decode cL_refusesAny 25 = .ok (.iload_n 1, 1) := by decide +kernel
theorem dL_refusesAny_26 : decode cL_refusesAny 26 = .ok (.ifCond .ne 7, 3) := by decide +kernel
theorem dL_refusesAny_29 : decode cL_refusesAny 29 = .ok (.iconst (-1), 1) := by decide +kernel
theorem dL_refusesAny_30 : decode cL_refusesAny 30 = .ok (.goto 5, 3) := by decide +kernel
theorem dL_refusesAny_33 : decode cL_refusesAny 33 = .ok (.bipush 31, 2) := by decide +kernel
theorem dL_refusesAny_35 : decode cL_refusesAny 35 = .ok (.istore 4, 2) := by decide +kernel
theorem dL_refusesAny_37 : decode cL_refusesAny 37 = .ok (.aload_n 0, 1) := by decide +kernel
theorem dL_refusesAny_38 : decode cL_refusesAny 38 = .ok (.iload_n 1, 1) := by decide +kernel
theorem dL_refusesAny_39 : decode cL_refusesAny 39 = .ok (.ifCond .ne 7, 3) := by decide +kernel
theorem dL_refusesAny_42 : decode cL_refusesAny 42 = .ok (.iconst (-1), 1) := by decide +kernel
theorem dL_refusesAny_43 : decode cL_refusesAny 43 = .ok (.goto 4, 3) := by decide +kernel
theorem dL_refusesAny_46 : decode cL_refusesAny 46 = .ok (.iconst 3, 1) := by decide +kernel
theorem dL_refusesAny_47 : decode cL_refusesAny 47 = .ok (.iconst 1, 1) := by decide +kernel
theorem dL_refusesAny_48 : decode cL_refusesAny 48 = .ok (.invokevirtual 26, 3) := by decide +kernel
theorem dL_refusesAny_51 : decode cL_refusesAny 51 = .ok (.bipush (-2), 2) := by decide +kernel
theorem dL_refusesAny_53 : decode cL_refusesAny 53 = .ok (.if_icmp .ne 217, 3) := by decide +kernel
theorem dL_refusesAny_56 : decode cL_refusesAny 56 = .ok (.aload_n 0, 1) := by decide +kernel
theorem dL_refusesAny_57 : decode cL_refusesAny 57 = .ok (.iconst 0, 1) := by decide +kernel
theorem dL_refusesAny_58 : decode cL_refusesAny 58 = .ok (.iload_n 1, 1) := by decide +kernel
theorem dL_refusesAny_59 : decode cL_refusesAny 59 = .ok (.ifCond .ne 7, 3) := by decide +kernel
theorem dL_refusesAny_62 : decode cL_refusesAny 62 = .ok (.iconst (-1), 1) := by decide +kernel
theorem dL_refusesAny_63 : decode cL_refusesAny 63 = .ok (.goto 5, 3) := by decide +kernel
theorem dL_refusesAny_66 : decode cL_refusesAny 66 = .ok (.bipush 31, 2) := by decide +kernel
theorem dL_refusesAny_68 : decode cL_refusesAny 68 = .ok (.invokevirtual 26, 3) := by decide +kernel
theorem dL_refusesAny_71 : decode cL_refusesAny 71 = .ok (.bipush (-2), 2) := by decide +kernel
theorem dL_refusesAny_73 : decode cL_refusesAny 73 = .ok (.if_icmp .ne 197, 3) := by decide +kernel
theorem dL_refusesAny_76 : decode cL_refusesAny 76 = .ok (.aload_n 0, 1) := by decide +kernel
theorem dL_refusesAny_77 : decode cL_refusesAny 77 = .ok (.iconst 1, 1) := by decide +kernel
theorem dL_refusesAny_78 : decode cL_refusesAny 78 = .ok (.iload_n 1, 1) := by decide +kernel
theorem dL_refusesAny_79 : decode cL_refusesAny 79 = .ok (.ifCond .ne 7, 3) := by decide +kernel
theorem dL_refusesAny_82 : decode cL_refusesAny 82 = .ok (.iconst (-1), 1) := by decide +kernel
theorem dL_refusesAny_83 : decode cL_refusesAny 83 = .ok (.goto 5, 3) := by decide +kernel
theorem dL_refusesAny_86 : decode cL_refusesAny 86 = .ok (.bipush 31, 2) := by decide +kernel
theorem dL_refusesAny_88 : decode cL_refusesAny 88 = .ok (.invokevirtual 26, 3) := by decide +kernel
theorem dL_refusesAny_91 : decode cL_refusesAny 91 = .ok (.bipush (-2), 2) := by decide +kernel
theorem dL_refusesAny_93 : decode cL_refusesAny 93 = .ok (.if_icmp .ne 177, 3) := by decide +kernel
theorem dL_refusesAny_96 : decode cL_refusesAny 96 = .ok (.aload_n 0, 1) := by decide +kernel
theorem dL_refusesAny_97 : decode cL_refusesAny 97 = .ok (.iconst 2, 1) := by decide +kernel
theorem dL_refusesAny_98 : decode cL_refusesAny 98 = .ok (.iload_n 1, 1) := by decide +kernel
theorem dL_refusesAny_99 : decode cL_refusesAny 99 = .ok (.ifCond .ne 7, 3) := by decide +kernel
theorem dL_refusesAny_102 : decode cL_refusesAny 102 = .ok (.iconst 0, 1) := by decide +kernel
theorem dL_refusesAny_103 : decode cL_refusesAny 103 = .ok (.goto 5, 3) := by decide +kernel
theorem dL_refusesAny_106 : decode cL_refusesAny 106 = .ok (.bipush 100, 2) := by decide +kernel
theorem dL_refusesAny_108 : decode cL_refusesAny 108 = .ok (.invokevirtual 26, 3) := by decide +kernel
theorem dL_refusesAny_111 : decode cL_refusesAny 111 = .ok (.bipush (-2), 2) := by decide +kernel
theorem dL_refusesAny_113 : decode cL_refusesAny 113 = .ok (.if_icmp .ne 157, 3) := by decide +kernel
theorem dL_refusesAny_116 : decode cL_refusesAny 116 = .ok (.aload_n 0, 1) := by decide +kernel
theorem dL_refusesAny_117 : decode cL_refusesAny 117 = .ok (.iload_n 1, 1) := by decide +kernel
theorem dL_refusesAny_118 : decode cL_refusesAny 118 = .ok (.ifCond .ne 7, 3) := by decide +kernel
theorem dL_refusesAny_121 : decode cL_refusesAny 121 = .ok (.iconst 1, 1) := by decide +kernel
theorem dL_refusesAny_122 : decode cL_refusesAny 122 = .ok (.goto 5, 3) := by decide +kernel
theorem dL_refusesAny_125 : decode cL_refusesAny 125 = .ok (.bipush 25, 2) := by decide +kernel
theorem dL_refusesAny_127 : decode cL_refusesAny 127 = .ok (.iconst 0, 1) := by decide +kernel
theorem dL_refusesAny_128 : decode cL_refusesAny 128 = .ok (.invokevirtual 31, 3) := by decide +kernel
theorem dL_refusesAny_131 : decode cL_refusesAny 131 = .ok (.bipush (-2), 2) := by decide +kernel
theorem dL_refusesAny_133 : decode cL_refusesAny 133 = .ok (.if_icmp .ne 137, 3) := by decide +kernel
theorem dL_refusesAny_136 : decode cL_refusesAny 136 = .ok (.aload_n 0, 1) := by decide +kernel
theorem dL_refusesAny_137 : decode cL_refusesAny 137 = .ok (.iconst 2, 1) := by decide +kernel
theorem dL_refusesAny_138 : decode cL_refusesAny 138 = .ok (.iload_n 1, 1) := by decide +kernel
theorem dL_refusesAny_139 : decode cL_refusesAny 139 = .ok (.ifCond .ne 8, 3) := by decide +kernel
theorem dL_refusesAny_142 : decode cL_refusesAny 142 = .ok (.bipush (-10), 2) := by decide +kernel
theorem dL_refusesAny_144 : decode cL_refusesAny 144 = .ok (.goto 5, 3) := by decide +kernel
theorem dL_refusesAny_147 : decode cL_refusesAny 147 = .ok (.bipush 10, 2) := by decide +kernel
theorem dL_refusesAny_149 : decode cL_refusesAny 149 = .ok (.invokevirtual 31, 3) := by decide +kernel
theorem dL_refusesAny_152 : decode cL_refusesAny 152 = .ok (.bipush (-2), 2) := by decide +kernel
theorem dL_refusesAny_154 : decode cL_refusesAny 154 = .ok (.if_icmp .ne 116, 3) := by decide +kernel
theorem dL_refusesAny_157 : decode cL_refusesAny 157 = .ok (.aload_n 0, 1) := by decide +kernel
theorem dL_refusesAny_158 : decode cL_refusesAny 158 = .ok (.iload_n 2, 1) := by decide +kernel
theorem dL_refusesAny_159 : decode cL_refusesAny 159 = .ok (.iconst 0, 1) := by decide +kernel
theorem dL_refusesAny_160 : decode cL_refusesAny 160 = .ok (.bipush 10, 2) := by decide +kernel
theorem dL_refusesAny_162 : decode cL_refusesAny 162 = .ok (.invokevirtual 34, 3) := by decide +kernel
theorem dL_refusesAny_165 : decode cL_refusesAny 165 = .ok (.iconst (-1), 1) := by decide +kernel
theorem dL_refusesAny_166 : decode cL_refusesAny 166 = .ok (.if_icmp .ne 104, 3) := by decide +kernel
theorem dL_refusesAny_169 : decode cL_refusesAny 169 = .ok (.aload_n 0, 1) := by decide +kernel
theorem dL_refusesAny_170 : decode cL_refusesAny 170 = .ok (.iconst 0, 1) := by decide +kernel
theorem dL_refusesAny_171 : decode cL_refusesAny 171 = .ok (.iload_n 1, 1) := by decide +kernel
theorem dL_refusesAny_172 : decode cL_refusesAny 172 = .ok (.ifCond .ne 7, 3) := by decide +kernel
theorem dL_refusesAny_175 : decode cL_refusesAny 175 = .ok (.iconst (-1), 1) := by decide +kernel
theorem dL_refusesAny_176 : decode cL_refusesAny 176 = .ok (.goto 5, 3) := by decide +kernel
theorem dL_refusesAny_179 : decode cL_refusesAny 179 = .ok (.bipush 24, 2) := by decide +kernel
theorem dL_refusesAny_181 : decode cL_refusesAny 181 = .ok (.bipush 10, 2) := by decide +kernel
theorem dL_refusesAny_183 : decode cL_refusesAny 183 = .ok (.invokevirtual 34, 3) := by decide +kernel
theorem dL_refusesAny_186 : decode cL_refusesAny 186 = .ok (.iconst (-1), 1) := by decide +kernel
theorem dL_refusesAny_187 : decode cL_refusesAny 187 = .ok (.if_icmp .ne 83, 3) := by decide +kernel
theorem dL_refusesAny_190 : decode cL_refusesAny 190 = .ok (.aload_n 0, 1) := by decide +kernel
theorem dL_refusesAny_191 : decode cL_refusesAny 191 = .ok (.iconst 0, 1) := by decide +kernel
theorem dL_refusesAny_192 : decode cL_refusesAny 192 = .ok (.iconst 0, 1) := by decide +kernel
theorem dL_refusesAny_193 : decode cL_refusesAny 193 = .ok (.iload_n 1, 1) := by decide +kernel
theorem dL_refusesAny_194 : decode cL_refusesAny 194 = .ok (.ifCond .ne 8, 3) := by decide +kernel
theorem dL_refusesAny_197 : decode cL_refusesAny 197 = .ok (.bipush (-10), 2) := by decide +kernel
theorem dL_refusesAny_199 : decode cL_refusesAny 199 = .ok (.goto 5, 3) := by decide +kernel
theorem dL_refusesAny_202 : decode cL_refusesAny 202 = .ok (.bipush 10, 2) := by decide +kernel
theorem dL_refusesAny_204 : decode cL_refusesAny 204 = .ok (.invokevirtual 34, 3) := by decide +kernel
theorem dL_refusesAny_207 : decode cL_refusesAny 207 = .ok (.bipush (-2), 2) := by decide +kernel
theorem dL_refusesAny_209 : decode cL_refusesAny 209 = .ok (.if_icmp .ne 61, 3) := by decide +kernel
theorem dL_refusesAny_212 : decode cL_refusesAny 212 = .ok (.aload_n 0, 1) := by decide +kernel
theorem dL_refusesAny_213 : decode cL_refusesAny 213 = .ok (.iload_n 2, 1) := by decide +kernel
theorem dL_refusesAny_214 : decode cL_refusesAny 214 = .ok (.invokevirtual 38, 3) := by decide +kernel
theorem dL_refusesAny_217 : decode cL_refusesAny 217 = .ok (.iconst (-1), 1) := by decide +kernel
theorem dL_refusesAny_218 : decode cL_refusesAny 218 = .ok (.if_icmp .ne 52, 3) := by decide +kernel
theorem dL_refusesAny_221 : decode cL_refusesAny 221 = .ok (.aload_n 0, 1) := by decide +kernel
theorem dL_refusesAny_222 : decode cL_refusesAny 222 = .ok (.iload_n 1, 1) := by decide +kernel
theorem dL_refusesAny_223 : decode cL_refusesAny 223 = .ok (.ifCond .ne 7, 3) := by decide +kernel
theorem dL_refusesAny_226 : decode cL_refusesAny 226 = .ok (.iconst 0, 1) := by decide +kernel
theorem dL_refusesAny_227 : decode cL_refusesAny 227 = .ok (.goto 5, 3) := by decide +kernel
theorem dL_refusesAny_230 : decode cL_refusesAny 230 = .ok (.bipush 31, 2) := by decide +kernel
theorem dL_refusesAny_232 : decode cL_refusesAny 232 = .ok (.iconst 0, 1) := by decide +kernel
theorem dL_refusesAny_233 : decode cL_refusesAny 233 = .ok (.invokevirtual 41, 3) := by decide +kernel
theorem dL_refusesAny_236 : decode cL_refusesAny 236 = .ok (.bipush (-2), 2) := by decide +kernel
theorem dL_refusesAny_238 : decode cL_refusesAny 238 = .ok (.if_icmp .ne 32, 3) := by decide +kernel
theorem dL_refusesAny_241 : decode cL_refusesAny 241 = .ok (.aload_n 0, 1) := by decide +kernel
theorem dL_refusesAny_242 : decode cL_refusesAny 242 = .ok (.iconst 1, 1) := by decide +kernel
theorem dL_refusesAny_243 : decode cL_refusesAny 243 = .ok (.iload_n 1, 1) := by decide +kernel
theorem dL_refusesAny_244 : decode cL_refusesAny 244 = .ok (.ifCond .ne 7, 3) := by decide +kernel
theorem dL_refusesAny_247 : decode cL_refusesAny 247 = .ok (.iconst (-1), 1) := by decide +kernel
theorem dL_refusesAny_248 : decode cL_refusesAny 248 = .ok (.goto 5, 3) := by decide +kernel
theorem dL_refusesAny_251 : decode cL_refusesAny 251 = .ok (.bipush 31, 2) := by decide +kernel
theorem dL_refusesAny_253 : decode cL_refusesAny 253 = .ok (.invokevirtual 41, 3) := by decide +kernel
theorem dL_refusesAny_256 : decode cL_refusesAny 256 = .ok (.bipush (-2), 2) := by decide +kernel
theorem dL_refusesAny_258 : decode cL_refusesAny 258 = .ok (.if_icmp .ne 12, 3) := by decide +kernel
theorem dL_refusesAny_261 : decode cL_refusesAny 261 = .ok (.aload_n 0, 1) := by decide +kernel
theorem dL_refusesAny_262 : decode cL_refusesAny 262 = .ok (.invokevirtual 44, 3) := by decide +kernel
theorem dL_refusesAny_265 : decode cL_refusesAny 265 = .ok (.bipush (-3), 2) := by decide +kernel
theorem dL_refusesAny_267 : decode cL_refusesAny 267 = .ok (.if_icmp .eq 5, 3) := by decide +kernel
theorem dL_refusesAny_270 : decode cL_refusesAny 270 = .ok (.iconst 0, 1) := by decide +kernel
theorem dL_refusesAny_271 : decode cL_refusesAny 271 = .ok (.ireturn, 1) := by decide +kernel
theorem dL_refusesAny_272 : decode cL_refusesAny 272 = .ok (.aload_n 0, 1) := by decide +kernel
theorem dL_refusesAny_273 : decode cL_refusesAny 273 = .ok (.iload_n 2, 1) := by decide +kernel
theorem dL_refusesAny_274 : decode cL_refusesAny 274 = .ok (.iconst 0, 1) := by decide +kernel
theorem dL_refusesAny_275 : decode cL_refusesAny 275 = .ok (.bipush 24, 2) := by decide +kernel
theorem dL_refusesAny_277 : decode cL_refusesAny 277 = .ok (.iconst 0, 1) := by decide +kernel
theorem dL_refusesAny_278 : decode cL_refusesAny 278 = .ok (.iconst 1, 1) := by decide +kernel
theorem dL_refusesAny_279 : decode cL_refusesAny 279 = .ok (.iconst 1, 1) := by decide +kernel
theorem dL_refusesAny_280 : decode cL_refusesAny 280 = .ok (.invokevirtual 48, 3) := by decide +kernel
theorem dL_refusesAny_283 : decode cL_refusesAny 283 = .ok (.iconst (-1), 1) := by decide +kernel
theorem dL_refusesAny_284 : decode cL_refusesAny 284 = .ok (.if_icmp .ne 192, 3) := by decide +kernel
theorem dL_refusesAny_287 : decode cL_refusesAny 287 = .ok (.aload_n 0, 1) := by decide +kernel
theorem dL_refusesAny_288 : decode cL_refusesAny 288 = .ok (.iconst 0, 1) := by decide +kernel
theorem dL_refusesAny_289 : decode cL_refusesAny 289 = .ok (.iload_n 2, 1) := by decide +kernel
theorem dL_refusesAny_290 : decode cL_refusesAny 290 = .ok (.bipush 24, 2) := by decide +kernel
theorem dL_refusesAny_292 : decode cL_refusesAny 292 = .ok (.iconst 0, 1) := by decide +kernel
theorem dL_refusesAny_293 : decode cL_refusesAny 293 = .ok (.iconst 1, 1) := by decide +kernel
theorem dL_refusesAny_294 : decode cL_refusesAny 294 = .ok (.iconst 1, 1) := by decide +kernel
theorem dL_refusesAny_295 : decode cL_refusesAny 295 = .ok (.invokevirtual 48, 3) := by decide +kernel
theorem dL_refusesAny_298 : decode cL_refusesAny 298 = .ok (.iconst (-1), 1) := by decide +kernel
theorem dL_refusesAny_299 : decode cL_refusesAny 299 = .ok (.if_icmp .ne 177, 3) := by decide +kernel
theorem dL_refusesAny_302 : decode cL_refusesAny 302 = .ok (.aload_n 0, 1) := by decide +kernel
theorem dL_refusesAny_303 : decode cL_refusesAny 303 = .ok (.iconst 0, 1) := by decide +kernel
theorem dL_refusesAny_304 : decode cL_refusesAny 304 = .ok (.iconst 1, 1) := by decide +kernel
theorem dL_refusesAny_305 : decode cL_refusesAny 305 = .ok (.iload_n 3, 1) := by decide +kernel
theorem dL_refusesAny_306 : decode cL_refusesAny 306 = .ok (.iconst 0, 1) := by decide +kernel
theorem dL_refusesAny_307 : decode cL_refusesAny 307 = .ok (.iconst 1, 1) := by decide +kernel
theorem dL_refusesAny_308 : decode cL_refusesAny 308 = .ok (.iconst 1, 1) := by decide +kernel
theorem dL_refusesAny_309 : decode cL_refusesAny 309 = .ok (.invokevirtual 48, 3) := by decide +kernel
theorem dL_refusesAny_312 : decode cL_refusesAny 312 = .ok (.bipush (-2), 2) := by decide +kernel
theorem dL_refusesAny_314 : decode cL_refusesAny 314 = .ok (.if_icmp .ne 162, 3) := by decide +kernel
theorem dL_refusesAny_317 : decode cL_refusesAny 317 = .ok (.aload_n 0, 1) := by decide +kernel
theorem dL_refusesAny_318 : decode cL_refusesAny 318 = .ok (.iconst 0, 1) := by decide +kernel
theorem dL_refusesAny_319 : decode cL_refusesAny 319 = .ok (.iconst 1, 1) := by decide +kernel
theorem dL_refusesAny_320 : decode cL_refusesAny 320 = .ok (.iconst 0, 1) := by decide +kernel
theorem dL_refusesAny_321 : decode cL_refusesAny 321 = .ok (.iload 4, 2) := by decide +kernel
theorem dL_refusesAny_323 : decode cL_refusesAny 323 = .ok (.iconst 1, 1) := by decide +kernel
theorem dL_refusesAny_324 : decode cL_refusesAny 324 = .ok (.iconst 1, 1) := by decide +kernel
theorem dL_refusesAny_325 : decode cL_refusesAny 325 = .ok (.invokevirtual 48, 3) := by decide +kernel
theorem dL_refusesAny_328 : decode cL_refusesAny 328 = .ok (.bipush (-2), 2) := by decide +kernel
theorem dL_refusesAny_330 : decode cL_refusesAny 330 = .ok (.if_icmp .ne 146, 3) := by decide +kernel
theorem dL_refusesAny_333 : decode cL_refusesAny 333 = .ok (.aload_n 0, 1) := by decide +kernel
theorem dL_refusesAny_334 : decode cL_refusesAny 334 = .ok (.iconst 0, 1) := by decide +kernel
theorem dL_refusesAny_335 : decode cL_refusesAny 335 = .ok (.iconst 1, 1) := by decide +kernel
theorem dL_refusesAny_336 : decode cL_refusesAny 336 = .ok (.iconst 0, 1) := by decide +kernel
theorem dL_refusesAny_337 : decode cL_refusesAny 337 = .ok (.iconst 0, 1) := by decide +kernel
theorem dL_refusesAny_338 : decode cL_refusesAny 338 = .ok (.iload_n 1, 1) := by decide +kernel
theorem dL_refusesAny_339 : decode cL_refusesAny 339 = .ok (.ifCond .ne 7, 3) := by decide +kernel
theorem dL_refusesAny_342 : decode cL_refusesAny 342 = .ok (.iconst 0, 1) := by decide +kernel
theorem dL_refusesAny_343 : decode cL_refusesAny 343 = .ok (.goto 5, 3) := by decide +kernel
theorem dL_refusesAny_346 : decode cL_refusesAny 346 = .ok (.bipush 100, 2) := by decide +kernel
theorem dL_refusesAny_348 : decode cL_refusesAny 348 = .ok (.iconst 1, 1) := by decide +kernel
theorem dL_refusesAny_349 : decode cL_refusesAny 349 = .ok (.invokevirtual 48, 3) := by decide +kernel
theorem dL_refusesAny_352 : decode cL_refusesAny 352 = .ok (.bipush (-2), 2) := by decide +kernel
theorem dL_refusesAny_354 : decode cL_refusesAny 354 = .ok (.if_icmp .ne 122, 3) := by decide +kernel
theorem dL_refusesAny_357 : decode cL_refusesAny 357 = .ok (.aload_n 0, 1) := by decide +kernel
theorem dL_refusesAny_358 : decode cL_refusesAny 358 = .ok (.iconst 0, 1) := by decide +kernel
theorem dL_refusesAny_359 : decode cL_refusesAny 359 = .ok (.iconst 1, 1) := by decide +kernel
theorem dL_refusesAny_360 : decode cL_refusesAny 360 = .ok (.iconst 0, 1) := by decide +kernel
theorem dL_refusesAny_361 : decode cL_refusesAny 361 = .ok (.iconst 0, 1) := by decide +kernel
theorem dL_refusesAny_362 : decode cL_refusesAny 362 = .ok (.iconst 1, 1) := by decide +kernel
theorem dL_refusesAny_363 : decode cL_refusesAny 363 = .ok (.iload_n 1, 1) := by decide +kernel
theorem dL_refusesAny_364 : decode cL_refusesAny 364 = .ok (.ifCond .ne 7, 3) := by decide +kernel
theorem dL_refusesAny_367 : decode cL_refusesAny 367 = .ok (.iconst 0, 1) := by decide +kernel
theorem dL_refusesAny_368 : decode cL_refusesAny 368 = .ok (.goto 5, 3) := by decide +kernel
theorem dL_refusesAny_371 : decode cL_refusesAny 371 = .ok (.bipush 100, 2) := by decide +kernel
theorem dL_refusesAny_373 : decode cL_refusesAny 373 = .ok (.invokevirtual 48, 3) := by decide +kernel
theorem dL_refusesAny_376 : decode cL_refusesAny 376 = .ok (.bipush (-2), 2) := by decide +kernel
theorem dL_refusesAny_378 : decode cL_refusesAny 378 = .ok (.if_icmp .ne 98, 3) := by decide +kernel
theorem dL_refusesAny_381 : decode cL_refusesAny 381 = .ok (.aload_n 0, 1) := by decide +kernel
theorem dL_refusesAny_382 : decode cL_refusesAny 382 = .ok (.iconst 1, 1) := by decide +kernel
theorem dL_refusesAny_383 : decode cL_refusesAny 383 = .ok (.iconst 1, 1) := by decide +kernel
theorem dL_refusesAny_384 : decode cL_refusesAny 384 = .ok (.iconst 0, 1) := by decide +kernel
theorem dL_refusesAny_385 : decode cL_refusesAny 385 = .ok (.bipush 30, 2) := by decide +kernel
theorem dL_refusesAny_387 : decode cL_refusesAny 387 = .ok (.iconst 1, 1) := by decide +kernel
theorem dL_refusesAny_388 : decode cL_refusesAny 388 = .ok (.iconst 1, 1) := by decide +kernel
theorem dL_refusesAny_389 : decode cL_refusesAny 389 = .ok (.invokevirtual 48, 3) := by decide +kernel
theorem dL_refusesAny_392 : decode cL_refusesAny 392 = .ok (.bipush (-2), 2) := by decide +kernel
theorem dL_refusesAny_394 : decode cL_refusesAny 394 = .ok (.if_icmp .ne 82, 3) := by decide +kernel
theorem dL_refusesAny_397 : decode cL_refusesAny 397 = .ok (.aload_n 0, 1) := by decide +kernel
theorem dL_refusesAny_398 : decode cL_refusesAny 398 = .ok (.iload_n 2, 1) := by decide +kernel
theorem dL_refusesAny_399 : decode cL_refusesAny 399 = .ok (.bipush 9, 2) := by decide +kernel
theorem dL_refusesAny_401 : decode cL_refusesAny 401 = .ok (.invokevirtual 19, 3) := by decide +kernel
theorem dL_refusesAny_404 : decode cL_refusesAny 404 = .ok (.iconst (-1), 1) := by decide +kernel
theorem dL_refusesAny_405 : decode cL_refusesAny 405 = .ok (.if_icmp .ne 71, 3) := by decide +kernel
theorem dL_refusesAny_408 : decode cL_refusesAny 408 = .ok (.aload_n 0, 1) := by decide +kernel
theorem dL_refusesAny_409 : decode cL_refusesAny 409 = .ok (.iconst 0, 1) := by decide +kernel
theorem dL_refusesAny_410 : decode cL_refusesAny 410 = .ok (.iload_n 1, 1) := by decide +kernel
theorem dL_refusesAny_411 : decode cL_refusesAny 411 = .ok (.ifCond .ne 7, 3) := by decide +kernel
theorem dL_refusesAny_414 : decode cL_refusesAny 414 = .ok (.iconst (-1), 1) := by decide +kernel
theorem dL_refusesAny_415 : decode cL_refusesAny 415 = .ok (.goto 5, 3) := by decide +kernel
theorem dL_refusesAny_418 : decode cL_refusesAny 418 = .ok (.bipush 7, 2) := by decide +kernel
theorem dL_refusesAny_420 : decode cL_refusesAny 420 = .ok (.invokevirtual 19, 3) := by decide +kernel
theorem dL_refusesAny_423 : decode cL_refusesAny 423 = .ok (.bipush (-2), 2) := by decide +kernel
theorem dL_refusesAny_425 : decode cL_refusesAny 425 = .ok (.if_icmp .ne 51, 3) := by decide +kernel
theorem dL_refusesAny_428 : decode cL_refusesAny 428 = .ok (.aload_n 0, 1) := by decide +kernel
theorem dL_refusesAny_429 : decode cL_refusesAny 429 = .ok (.iload_n 2, 1) := by decide +kernel
theorem dL_refusesAny_430 : decode cL_refusesAny 430 = .ok (.iconst 0, 1) := by decide +kernel
theorem dL_refusesAny_431 : decode cL_refusesAny 431 = .ok (.invokevirtual 23, 3) := by decide +kernel
theorem dL_refusesAny_434 : decode cL_refusesAny 434 = .ok (.iconst (-1), 1) := by decide +kernel
theorem dL_refusesAny_435 : decode cL_refusesAny 435 = .ok (.if_icmp .ne 41, 3) := by decide +kernel
theorem dL_refusesAny_438 : decode cL_refusesAny 438 = .ok (.aload_n 0, 1) := by decide +kernel
theorem dL_refusesAny_439 : decode cL_refusesAny 439 = .ok (.iconst 0, 1) := by decide +kernel
theorem dL_refusesAny_440 : decode cL_refusesAny 440 = .ok (.iload_n 1, 1) := by decide +kernel
theorem dL_refusesAny_441 : decode cL_refusesAny 441 = .ok (.ifCond .ne 7, 3) := by decide +kernel
theorem dL_refusesAny_444 : decode cL_refusesAny 444 = .ok (.iconst (-1), 1) := by decide +kernel
theorem dL_refusesAny_445 : decode cL_refusesAny 445 = .ok (.goto 5, 3) := by decide +kernel
theorem dL_refusesAny_448 : decode cL_refusesAny 448 = .ok (.bipush 24, 2) := by decide +kernel
theorem dL_refusesAny_450 : decode cL_refusesAny 450 = .ok (.invokevirtual 23, 3) := by decide +kernel
theorem dL_refusesAny_453 : decode cL_refusesAny 453 = .ok (.iconst (-1), 1) := by decide +kernel
theorem dL_refusesAny_454 : decode cL_refusesAny 454 = .ok (.if_icmp .ne 22, 3) := by decide +kernel
theorem dL_refusesAny_457 : decode cL_refusesAny 457 = .ok (.aload_n 0, 1) := by decide +kernel
theorem dL_refusesAny_458 : decode cL_refusesAny 458 = .ok (.iload_n 1, 1) := by decide +kernel
theorem dL_refusesAny_459 : decode cL_refusesAny 459 = .ok (.ifCond .ne 7, 3) := by decide +kernel
theorem dL_refusesAny_462 : decode cL_refusesAny 462 = .ok (.iconst (-1), 1) := by decide +kernel
theorem dL_refusesAny_463 : decode cL_refusesAny 463 = .ok (.goto 5, 3) := by decide +kernel
theorem dL_refusesAny_466 : decode cL_refusesAny 466 = .ok (.bipush 11, 2) := by decide +kernel
theorem dL_refusesAny_468 : decode cL_refusesAny 468 = .ok (.invokevirtual 13, 3) := by decide +kernel
theorem dL_refusesAny_471 : decode cL_refusesAny 471 = .ok (.bipush (-2), 2) := by decide +kernel
theorem dL_refusesAny_473 : decode cL_refusesAny 473 = .ok (.if_icmp .eq 5, 3) := by decide +kernel
theorem dL_refusesAny_476 : decode cL_refusesAny 476 = .ok (.iconst 0, 1) := by decide +kernel
theorem dL_refusesAny_477 : decode cL_refusesAny 477 = .ok (.ireturn, 1) := by decide +kernel
theorem dL_refusesAny_478 : decode cL_refusesAny 478 = .ok (.aload_n 0, 1) := by decide +kernel
theorem dL_refusesAny_479 : decode cL_refusesAny 479 = .ok (.iload_n 2, 1) := by decide +kernel
theorem dL_refusesAny_480 : decode cL_refusesAny 480 = .ok (.iconst 0, 1) := by decide +kernel
theorem dL_refusesAny_481 : decode cL_refusesAny 481 = .ok (.iconst 0, 1) := by decide +kernel
theorem dL_refusesAny_482 : decode cL_refusesAny 482 = .ok (.iconst 0, 1) := by decide +kernel
theorem dL_refusesAny_483 : decode cL_refusesAny 483 = .ok (.bipush 9, 2) := by decide +kernel
theorem dL_refusesAny_485 : decode cL_refusesAny 485 = .ok (.invokevirtual 52, 3) := by decide +kernel
theorem dL_refusesAny_488 : decode cL_refusesAny 488 = .ok (.iconst (-1), 1) := by decide +kernel
theorem dL_refusesAny_489 : decode cL_refusesAny 489 = .ok (.if_icmp .ne 210, 3) := by decide +kernel
theorem dL_refusesAny_492 : decode cL_refusesAny 492 = .ok (.aload_n 0, 1) := by decide +kernel
theorem dL_refusesAny_493 : decode cL_refusesAny 493 = .ok (.iconst 0, 1) := by decide +kernel
theorem dL_refusesAny_494 : decode cL_refusesAny 494 = .ok (.iconst 1, 1) := by decide +kernel
theorem dL_refusesAny_495 : decode cL_refusesAny 495 = .ok (.iload_n 3, 1) := by decide +kernel
theorem dL_refusesAny_496 : decode cL_refusesAny 496 = .ok (.iconst 0, 1) := by decide +kernel
theorem dL_refusesAny_497 : decode cL_refusesAny 497 = .ok (.iconst 0, 1) := by decide +kernel
theorem dL_refusesAny_498 : decode cL_refusesAny 498 = .ok (.invokevirtual 52, 3) := by decide +kernel
theorem dL_refusesAny_501 : decode cL_refusesAny 501 = .ok (.bipush (-2), 2) := by decide +kernel
theorem dL_refusesAny_503 : decode cL_refusesAny 503 = .ok (.if_icmp .ne 196, 3) := by decide +kernel
theorem dL_refusesAny_506 : decode cL_refusesAny 506 = .ok (.aload_n 0, 1) := by decide +kernel
theorem dL_refusesAny_507 : decode cL_refusesAny 507 = .ok (.iconst 0, 1) := by decide +kernel
theorem dL_refusesAny_508 : decode cL_refusesAny 508 = .ok (.iconst 1, 1) := by decide +kernel
theorem dL_refusesAny_509 : decode cL_refusesAny 509 = .ok (.iconst 0, 1) := by decide +kernel
theorem dL_refusesAny_510 : decode cL_refusesAny 510 = .ok (.iload 4, 2) := by decide +kernel
theorem dL_refusesAny_512 : decode cL_refusesAny 512 = .ok (.iconst 0, 1) := by decide +kernel
theorem dL_refusesAny_513 : decode cL_refusesAny 513 = .ok (.invokevirtual 52, 3) := by decide +kernel
theorem dL_refusesAny_516 : decode cL_refusesAny 516 = .ok (.bipush (-2), 2) := by decide +kernel
theorem dL_refusesAny_518 : decode cL_refusesAny 518 = .ok (.if_icmp .ne 181, 3) := by decide +kernel
theorem dL_refusesAny_521 : decode cL_refusesAny 521 = .ok (.aload_n 0, 1) := by decide +kernel
theorem dL_refusesAny_522 : decode cL_refusesAny 522 = .ok (.iconst 0, 1) := by decide +kernel
theorem dL_refusesAny_523 : decode cL_refusesAny 523 = .ok (.iconst 1, 1) := by decide +kernel
theorem dL_refusesAny_524 : decode cL_refusesAny 524 = .ok (.iconst 0, 1) := by decide +kernel
theorem dL_refusesAny_525 : decode cL_refusesAny 525 = .ok (.iconst 0, 1) := by decide +kernel
theorem dL_refusesAny_526 : decode cL_refusesAny 526 = .ok (.iload_n 1, 1) := by decide +kernel
theorem dL_refusesAny_527 : decode cL_refusesAny 527 = .ok (.ifCond .ne 7, 3) := by decide +kernel
theorem dL_refusesAny_530 : decode cL_refusesAny 530 = .ok (.iconst (-1), 1) := by decide +kernel
theorem dL_refusesAny_531 : decode cL_refusesAny 531 = .ok (.goto 4, 3) := by decide +kernel
theorem dL_refusesAny_534 : decode cL_refusesAny 534 = .ok (.iconst 4, 1) := by decide +kernel
theorem dL_refusesAny_535 : decode cL_refusesAny 535 = .ok (.invokevirtual 52, 3) := by decide +kernel
theorem dL_refusesAny_538 : decode cL_refusesAny 538 = .ok (.bipush (-2), 2) := by decide +kernel
theorem dL_refusesAny_540 : decode cL_refusesAny 540 = .ok (.if_icmp .ne 159, 3) := by decide +kernel
theorem dL_refusesAny_543 : decode cL_refusesAny 543 = .ok (.aload_n 0, 1) := by decide +kernel
theorem dL_refusesAny_544 : decode cL_refusesAny 544 = .ok (.iconst 0, 1) := by decide +kernel
theorem dL_refusesAny_545 : decode cL_refusesAny 545 = .ok (.iconst 0, 1) := by decide +kernel
theorem dL_refusesAny_546 : decode cL_refusesAny 546 = .ok (.iconst 0, 1) := by decide +kernel
theorem dL_refusesAny_547 : decode cL_refusesAny 547 = .ok (.iconst 0, 1) := by decide +kernel
theorem dL_refusesAny_548 : decode cL_refusesAny 548 = .ok (.iconst 0, 1) := by decide +kernel
theorem dL_refusesAny_549 : decode cL_refusesAny 549 = .ok (.invokevirtual 52, 3) := by decide +kernel
theorem dL_refusesAny_552 : decode cL_refusesAny 552 = .ok (.bipush (-2), 2) := by decide +kernel
theorem dL_refusesAny_554 : decode cL_refusesAny 554 = .ok (.if_icmp .ne 145, 3) := by decide +kernel
theorem dL_refusesAny_557 : decode cL_refusesAny 557 = .ok (.aload_n 0, 1) := by decide +kernel
theorem dL_refusesAny_558 : decode cL_refusesAny 558 = .ok (.iconst 0, 1) := by decide +kernel
theorem dL_refusesAny_559 : decode cL_refusesAny 559 = .ok (.iload_n 2, 1) := by decide +kernel
theorem dL_refusesAny_560 : decode cL_refusesAny 560 = .ok (.iconst 0, 1) := by decide +kernel
theorem dL_refusesAny_561 : decode cL_refusesAny 561 = .ok (.iconst 0, 1) := by decide +kernel
theorem dL_refusesAny_562 : decode cL_refusesAny 562 = .ok (.bipush 9, 2) := by decide +kernel
theorem dL_refusesAny_564 : decode cL_refusesAny 564 = .ok (.invokevirtual 56, 3) := by decide +kernel
theorem dL_refusesAny_567 : decode cL_refusesAny 567 = .ok (.iconst (-1), 1) := by decide +kernel
theorem dL_refusesAny_568 : decode cL_refusesAny 568 = .ok (.if_icmp .ne 131, 3) := by decide +kernel
theorem dL_refusesAny_571 : decode cL_refusesAny 571 = .ok (.aload_n 0, 1) := by decide +kernel
theorem dL_refusesAny_572 : decode cL_refusesAny 572 = .ok (.iconst 0, 1) := by decide +kernel
theorem dL_refusesAny_573 : decode cL_refusesAny 573 = .ok (.iconst 1, 1) := by decide +kernel
theorem dL_refusesAny_574 : decode cL_refusesAny 574 = .ok (.iconst 0, 1) := by decide +kernel
theorem dL_refusesAny_575 : decode cL_refusesAny 575 = .ok (.iconst 0, 1) := by decide +kernel
theorem dL_refusesAny_576 : decode cL_refusesAny 576 = .ok (.iload_n 1, 1) := by decide +kernel
theorem dL_refusesAny_577 : decode cL_refusesAny 577 = .ok (.ifCond .ne 7, 3) := by decide +kernel
theorem dL_refusesAny_580 : decode cL_refusesAny 580 = .ok (.iconst (-1), 1) := by decide +kernel
theorem dL_refusesAny_581 : decode cL_refusesAny 581 = .ok (.goto 4, 3) := by decide +kernel
theorem dL_refusesAny_584 : decode cL_refusesAny 584 = .ok (.iconst 2, 1) := by decide +kernel
theorem dL_refusesAny_585 : decode cL_refusesAny 585 = .ok (.invokevirtual 56, 3) := by decide +kernel
theorem dL_refusesAny_588 : decode cL_refusesAny 588 = .ok (.bipush (-2), 2) := by decide +kernel
theorem dL_refusesAny_590 : decode cL_refusesAny 590 = .ok (.if_icmp .ne 109, 3) := by decide +kernel
theorem dL_refusesAny_593 : decode cL_refusesAny 593 = .ok (.aload_n 0, 1) := by decide +kernel
theorem dL_refusesAny_594 : decode cL_refusesAny 594 = .ok (.iconst 0, 1) := by decide +kernel
theorem dL_refusesAny_595 : decode cL_refusesAny 595 = .ok (.iconst 1, 1) := by decide +kernel
theorem dL_refusesAny_596 : decode cL_refusesAny 596 = .ok (.iload_n 3, 1) := by decide +kernel
theorem dL_refusesAny_597 : decode cL_refusesAny 597 = .ok (.iconst 0, 1) := by decide +kernel
end
section
theorem x_g1 {big : List Cond} {c : Cond} (i : Nat) (h : big[i]? = some c) (hg : goodWord c = true) : GoodIn big [c] := by
  intro w hw
  obtain rfl := List.mem_singleton.mp hw
  exact ⟨List.mem_of_getElem? h, good_of_word hg⟩
theorem x_gc {big : List Cond} {c : Cond} {ws : List Cond} (h0 : GoodIn big [c]) (h : GoodIn big ws) : GoodIn big (c :: ws) := fun w hw => (List.mem_cons.mp hw).elim (fun e => h0 w (by rw [e]; exact List.mem_singleton_self _)) (h w)
theorem x_gn {big : List Cond} : GoodIn big [] := fun w hw => absurd hw List.not_mem_nil
theorem dL_refusesAny_598 : decode cL_refusesAny 598 = .ok (.iconst 0, 1) := by decide +kernel
theorem dL_refusesAny_599 : decode cL_refusesAny 599 = .ok (.invokevirtual 56, 3) := by decide +kernel
theorem dL_refusesAny_602 : decode cL_refusesAny 602 = .ok (.bipush (-2), 2) := by decide +kernel
theorem dL_refusesAny_604 : decode cL_refusesAny 604 = .ok (.if_icmp .ne 95, 3) := by decide +kernel
theorem dL_refusesAny_607 : decode cL_refusesAny 607 = .ok (.aload_n 0, 1) := by decide +kernel
theorem dL_refusesAny_608 : decode cL_refusesAny 608 = .ok (.iload_n 2, 1) := by decide +kernel
theorem dL_refusesAny_609 : decode cL_refusesAny 609 = .ok (.iconst 0, 1) := by decide +kernel
theorem dL_refusesAny_610 : decode cL_refusesAny 610 = .ok (.iconst 0, 1) := by decide +kernel
theorem dL_refusesAny_611 : decode cL_refusesAny 611 = .ok (.invokevirtual 59, 3) := by decide +kernel
theorem dL_refusesAny_614 : decode cL_refusesAny 614 = .ok (.iconst (-1), 1) := by decide +kernel
theorem dL_refusesAny_615 : decode cL_refusesAny 615 = .ok (.if_icmp .ne 84, 3) := by decide +kernel
theorem dL_refusesAny_618 : decode cL_refusesAny 618 = .ok (.aload_n 0, 1) := by decide +kernel
theorem dL_refusesAny_619 : decode cL_refusesAny 619 = .ok (.iconst 0, 1) := by decide +kernel
theorem dL_refusesAny_620 : decode cL_refusesAny 620 = .ok (.iconst 1, 1) := by decide +kernel
theorem dL_refusesAny_621 : decode cL_refusesAny 621 = .ok (.iload_n 3, 1) := by decide +kernel
theorem dL_refusesAny_622 : decode cL_refusesAny 622 = .ok (.invokevirtual 59, 3) := by decide +kernel
theorem dL_refusesAny_625 : decode cL_refusesAny 625 = .ok (.bipush (-2), 2) := by decide +kernel
theorem dL_refusesAny_627 : decode cL_refusesAny 627 = .ok (.if_icmp .ne 72, 3) := by decide +kernel
theorem dL_refusesAny_630 : decode cL_refusesAny 630 = .ok (.aload_n 0, 1) := by decide +kernel
theorem dL_refusesAny_631 : decode cL_refusesAny 631 = .ok (.iconst 0, 1) := by decide +kernel
theorem dL_refusesAny_632 : decode cL_refusesAny 632 = .ok (.iload_n 2, 1) := by decide +kernel
theorem dL_refusesAny_633 : decode cL_refusesAny 633 = .ok (.iconst 0, 1) := by decide +kernel
theorem dL_refusesAny_634 : decode cL_refusesAny 634 = .ok (.invokevirtual 62, 3) := by decide +kernel
theorem dL_refusesAny_637 : decode cL_refusesAny 637 = .ok (.iconst (-1), 1) := by decide +kernel
theorem dL_refusesAny_638 : decode cL_refusesAny 638 = .ok (.if_icmp .ne 61, 3) := by decide +kernel
theorem dL_refusesAny_641 : decode cL_refusesAny 641 = .ok (.aload_n 0, 1) := by decide +kernel
theorem dL_refusesAny_642 : decode cL_refusesAny 642 = .ok (.iconst 0, 1) := by decide +kernel
theorem dL_refusesAny_643 : decode cL_refusesAny 643 = .ok (.iconst 1, 1) := by decide +kernel
theorem dL_refusesAny_644 : decode cL_refusesAny 644 = .ok (.iload_n 1, 1) := by decide +kernel
theorem dL_refusesAny_645 : decode cL_refusesAny 645 = .ok (.ifCond .ne 7, 3) := by decide +kernel
theorem dL_refusesAny_648 : decode cL_refusesAny 648 = .ok (.iconst (-1), 1) := by decide +kernel
theorem dL_refusesAny_649 : decode cL_refusesAny 649 = .ok (.goto 4, 3) := by decide +kernel
theorem dL_refusesAny_652 : decode cL_refusesAny 652 = .ok (.iconst 2, 1) := by decide +kernel
theorem dL_refusesAny_653 : decode cL_refusesAny 653 = .ok (.invokevirtual 62, 3) := by decide +kernel
theorem dL_refusesAny_656 : decode cL_refusesAny 656 = .ok (.bipush (-2), 2) := by decide +kernel
theorem dL_refusesAny_658 : decode cL_refusesAny 658 = .ok (.if_icmp .ne 41, 3) := by decide +kernel
theorem dL_refusesAny_661 : decode cL_refusesAny 661 = .ok (.aload_n 0, 1) := by decide +kernel
theorem dL_refusesAny_662 : decode cL_refusesAny 662 = .ok (.iconst 1, 1) := by decide +kernel
theorem dL_refusesAny_663 : decode cL_refusesAny 663 = .ok (.iconst 1, 1) := by decide +kernel
theorem dL_refusesAny_664 : decode cL_refusesAny 664 = .ok (.iconst 0, 1) := by decide +kernel
theorem dL_refusesAny_665 : decode cL_refusesAny 665 = .ok (.invokevirtual 62, 3) := by decide +kernel
theorem dL_refusesAny_668 : decode cL_refusesAny 668 = .ok (.bipush (-2), 2) := by decide +kernel
theorem dL_refusesAny_670 : decode cL_refusesAny 670 = .ok (.if_icmp .ne 29, 3) := by decide +kernel
theorem dL_refusesAny_673 : decode cL_refusesAny 673 = .ok (.aload_n 0, 1) := by decide +kernel
theorem dL_refusesAny_674 : decode cL_refusesAny 674 = .ok (.iload_n 2, 1) := by decide +kernel
theorem dL_refusesAny_675 : decode cL_refusesAny 675 = .ok (.iconst 0, 1) := by decide +kernel
theorem dL_refusesAny_676 : decode cL_refusesAny 676 = .ok (.iconst 0, 1) := by decide +kernel
theorem dL_refusesAny_677 : decode cL_refusesAny 677 = .ok (.iconst 0, 1) := by decide +kernel
theorem dL_refusesAny_678 : decode cL_refusesAny 678 = .ok (.invokevirtual 65, 3) := by decide +kernel
theorem dL_refusesAny_681 : decode cL_refusesAny 681 = .ok (.iconst (-1), 1) := by decide +kernel
theorem dL_refusesAny_682 : decode cL_refusesAny 682 = .ok (.if_icmp .ne 17, 3) := by decide +kernel
theorem dL_refusesAny_685 : decode cL_refusesAny 685 = .ok (.aload_n 0, 1) := by decide +kernel
theorem dL_refusesAny_686 : decode cL_refusesAny 686 = .ok (.iconst 0, 1) := by decide +kernel
theorem dL_refusesAny_687 : decode cL_refusesAny 687 = .ok (.iconst 1, 1) := by decide +kernel
theorem dL_refusesAny_688 : decode cL_refusesAny 688 = .ok (.iconst 0, 1) := by decide +kernel
theorem dL_refusesAny_689 : decode cL_refusesAny 689 = .ok (.iload 4, 2) := by decide +kernel
theorem dL_refusesAny_691 : decode cL_refusesAny 691 = .ok (.invokevirtual 65, 3) := by decide +kernel
theorem dL_refusesAny_694 : decode cL_refusesAny 694 = .ok (.bipush (-2), 2) := by decide +kernel
theorem dL_refusesAny_696 : decode cL_refusesAny 696 = .ok (.if_icmp .eq 5, 3) := by decide +kernel
theorem dL_refusesAny_699 : decode cL_refusesAny 699 = .ok (.iconst 0, 1) := by decide +kernel
theorem dL_refusesAny_700 : decode cL_refusesAny 700 = .ok (.ireturn, 1) := by decide +kernel
theorem dL_refusesAny_701 : decode cL_refusesAny 701 = .ok (.aload_n 0, 1) := by decide +kernel
theorem dL_refusesAny_702 : decode cL_refusesAny 702 = .ok (.iload_n 1, 1) := by decide +kernel
theorem dL_refusesAny_703 : decode cL_refusesAny 703 = .ok (.ifCond .ne 7, 3) := by decide +kernel
theorem dL_refusesAny_706 : decode cL_refusesAny 706 = .ok (.iconst (-1), 1) := by decide +kernel
theorem dL_refusesAny_707 : decode cL_refusesAny 707 = .ok (.goto 4, 3) := by decide +kernel
theorem dL_refusesAny_710 : decode cL_refusesAny 710 = .ok (.iconst 2, 1) := by decide +kernel
theorem dL_refusesAny_711 : decode cL_refusesAny 711 = .ok (.invokevirtual 69, 3) := by decide +kernel
theorem dL_refusesAny_714 : decode cL_refusesAny 714 = .ok (.bipush (-2), 2) := by decide +kernel
theorem dL_refusesAny_716 : decode cL_refusesAny 716 = .ok (.if_icmp .ne 67, 3) := by decide +kernel
theorem dL_refusesAny_719 : decode cL_refusesAny 719 = .ok (.aload_n 0, 1) := by decide +kernel
theorem dL_refusesAny_720 : decode cL_refusesAny 720 = .ok (.iload_n 1, 1) := by decide +kernel
theorem dL_refusesAny_721 : decode cL_refusesAny 721 = .ok (.ifCond .ne 7, 3) := by decide +kernel
theorem dL_refusesAny_724 : decode cL_refusesAny 724 = .ok (.iconst (-1), 1) := by decide +kernel
theorem dL_refusesAny_725 : decode cL_refusesAny 725 = .ok (.goto 4, 3) := by decide +kernel
theorem dL_refusesAny_728 : decode cL_refusesAny 728 = .ok (.iconst 2, 1) := by decide +kernel
theorem dL_refusesAny_729 : decode cL_refusesAny 729 = .ok (.invokevirtual 72, 3) := by decide +kernel
theorem dL_refusesAny_732 : decode cL_refusesAny 732 = .ok (.bipush (-2), 2) := by decide +kernel
theorem dL_refusesAny_734 : decode cL_refusesAny 734 = .ok (.if_icmp .ne 49, 3) := by decide +kernel
theorem dL_refusesAny_737 : decode cL_refusesAny 737 = .ok (.aload_n 0, 1) := by decide +kernel
theorem dL_refusesAny_738 : decode cL_refusesAny 738 = .ok (.iload_n 1, 1) := by decide +kernel
theorem dL_refusesAny_739 : decode cL_refusesAny 739 = .ok (.ifCond .ne 7, 3) := by decide +kernel
theorem dL_refusesAny_742 : decode cL_refusesAny 742 = .ok (.lconst 0, 1) := by decide +kernel
theorem dL_refusesAny_743 : decode cL_refusesAny 743 = .ok (.goto 6, 3) := by decide +kernel
theorem dL_refusesAny_746 : decode cL_refusesAny 746 = .ok (.ldc2_w 75, 3) := by decide +kernel
theorem dL_refusesAny_749 : decode cL_refusesAny 749 = .ok (.invokevirtual 77, 3) := by decide +kernel
theorem dL_refusesAny_752 : decode cL_refusesAny 752 = .ok (.bipush (-2), 2) := by decide +kernel
theorem dL_refusesAny_754 : decode cL_refusesAny 754 = .ok (.if_icmp .ne 29, 3) := by decide +kernel
theorem dL_refusesAny_757 : decode cL_refusesAny 757 = .ok (.aload_n 0, 1) := by decide +kernel
theorem dL_refusesAny_758 : decode cL_refusesAny 758 = .ok (.iload_n 1, 1) := by decide +kernel
theorem dL_refusesAny_759 : decode cL_refusesAny 759 = .ok (.ifCond .ne 9, 3) := by decide +kernel
theorem dL_refusesAny_762 : decode cL_refusesAny 762 = .ok (.ldc2_w 81, 3) := by decide +kernel
theorem dL_refusesAny_765 : decode cL_refusesAny 765 = .ok (.goto 6, 3) := by decide +kernel
theorem dL_refusesAny_768 : decode cL_refusesAny 768 = .ok (.ldc2_w 83, 3) := by decide +kernel
theorem dL_refusesAny_771 : decode cL_refusesAny 771 = .ok (.invokevirtual 77, 3) := by decide +kernel
theorem dL_refusesAny_774 : decode cL_refusesAny 774 = .ok (.bipush (-2), 2) := by decide +kernel
theorem dL_refusesAny_776 : decode cL_refusesAny 776 = .ok (.if_icmp .ne 7, 3) := by decide +kernel
theorem dL_refusesAny_779 : decode cL_refusesAny 779 = .ok (.iconst 1, 1) := by decide +kernel
theorem dL_refusesAny_780 : decode cL_refusesAny 780 = .ok (.goto 4, 3) := by decide +kernel
theorem dL_refusesAny_783 : decode cL_refusesAny 783 = .ok (.iconst 0, 1) := by decide +kernel
theorem dL_refusesAny_784 : decode cL_refusesAny 784 = .ok (.ireturn, 1) := by decide +kernel
end
section
set_option maxRecDepth 20000 in
theorem ggL_refused_L_seen_1 : GoodIn wsL_refused [(Cond.code yL_seen cL_seen 4 (some .long) : Cond)] := x_g1 4 rfl (by decide +kernel)
set_option maxRecDepth 20000 in
theorem ggL_refused_L_seen_2 : GoodIn wsL_refused (wsL_seen_r1) := goodIn_r _ [5, 6, 7, 8, 9, 10, 11, 12, 13, 14, 15, 16, 17, 18, 19, 20, 21, 22, 23, 24, 25, 26, 27, 28] (by decide +kernel) (by decide +kernel)
set_option maxRecDepth 20000 in
theorem ggL_refused_L_seen_3 : GoodIn wsL_refused (wsL_seen_r2) := goodIn_r _ [29, 30, 31, 32, 33, 34, 35, 36, 37, 38, 39, 40, 41, 42, 43, 44, 45, 46, 47, 48, 49, 50, 51, 52] (by decide +kernel) (by decide +kernel)
set_option maxRecDepth 20000 in
theorem ggL_refused_L_seen_4 : GoodIn wsL_refused (wsL_seen_r3) := goodIn_r _ [53, 54, 55, 56, 57, 58, 59, 60, 61, 62, 63, 64, 65, 66, 67, 68, 69, 70, 71, 72, 73, 74, 75, 76] (by decide +kernel) (by decide +kernel)
set_option maxRecDepth 20000 in
theorem ggL_refused_L_seen_5 : GoodIn wsL_refused (wsL_seen_r4) := goodIn_r _ [77, 78, 79, 80, 81, 82, 83, 84, 85, 86, 87, 88, 89, 90, 91, 92, 93] (by decide +kernel) (by decide +kernel)
set_option maxRecDepth 20000 in
theorem ggL_refused_L_seen_6 : GoodIn wsL_refused (wsX60) := goodIn_r _ [429, 430, 431, 432, 433, 434] (by decide +kernel) (by decide +kernel)
set_option maxRecDepth 20000 in
theorem ggL_refused_L_seen_7 : GoodIn wsL_refused (wsX10) := goodIn_r _ [435, 436] (by decide +kernel) (by decide +kernel)
set_option maxRecDepth 20000 in
theorem ggL_refused_L_seen_8 : GoodIn wsL_refused (wsX00) := goodIn_r _ [437, 438, 439] (by decide +kernel) (by decide +kernel)
set_option maxRecDepth 20000 in
theorem ggL_refused_L_seen_9 : GoodIn wsL_refused (wsX30) := goodIn_r _ [440] (by decide +kernel) (by decide +kernel)
end
section
set_option maxRecDepth 20000 in
theorem ggL_refused_L_seen : GoodIn wsL_refused wsL_seen := x_gc ggL_refused_L_seen_1 (goodIn_app (goodIn_app (goodIn_app (goodIn_app (goodIn_app ggL_refused_L_seen_2 (goodIn_app ggL_refused_L_seen_3 (goodIn_app ggL_refused_L_seen_4 ggL_refused_L_seen_5))) ggL_refused_L_seen_6) ggL_refused_L_seen_7) ggL_refused_L_seen_8) ggL_refused_L_seen_9)
end
section
set_option maxRecDepth 20000 in
theorem gL_refused_L_seen : GoodIn wsL_refused (va_wsS RL 85 yL_seen wsL_seen) := goodIn_app (goodIn_of _ (by decide +kernel)) ggL_refused_L_seen
set_option maxRecDepth 20000 in
theorem ggL_refused_X6_count : GoodIn wsL_refused wsX6_count := goodIn_r _ [11, 12, 13, 14, 15, 16, 10, 17, 18, 19, 20, 21, 22, 23, 24, 25, 26, 27, 28, 29, 30, 31, 32, 33, 34, 35, 429, 430, 431, 432, 433, 434, 435, 436, 437, 438, 439, 440] (by decide +kernel) (by decide +kernel)
set_option maxRecDepth 20000 in
theorem gL_refused_X6_count : GoodIn wsL_refused (wsV RL 13 RX6 yX6_count wsX6_count) := goodIn_app (goodIn_of _ (by decide +kernel)) ggL_refused_X6_count
end
section
set_option maxRecDepth 20000 in
theorem ggL_refused_L_refusesAny_1 : GoodIn wsL_refused [(Cond.code yL_refusesAny cL_refusesAny 5 (some .boolean) : Cond)] := x_g1 96 rfl (by decide +kernel)
set_option maxRecDepth 20000 in
theorem ggL_refused_L_refusesAny_2 : GoodIn wsL_refused (wsL_refusesAny_r1) := goodIn_r _ [97, 98, 99, 7, 8, 9, 10, 11, 12, 13, 14, 15, 16, 17, 18, 19, 20, 21, 22, 23, 24, 25, 26, 27] (by decide +kernel) (by decide +kernel)
set_option maxRecDepth 20000 in
theorem ggL_refused_L_refusesAny_3 : GoodIn wsL_refused (wsL_refusesAny_r2) := goodIn_r _ [28, 29, 30, 31, 32, 33, 34, 35, 100, 101, 102, 103, 104, 105, 106, 107, 108, 109, 110, 111, 112, 113, 114, 115] (by decide +kernel) (by decide +kernel)
set_option maxRecDepth 20000 in
theorem ggL_refused_L_refusesAny_4 : GoodIn wsL_refused (wsL_refusesAny_r3) := goodIn_r _ [116, 117, 118, 119, 120, 121, 122, 123, 124, 125, 44, 126, 127, 128, 129, 130, 131, 132, 133, 134, 74, 67, 75, 135] (by decide +kernel) (by decide +kernel)
set_option maxRecDepth 20000 in
theorem ggL_refused_L_refusesAny_5 : GoodIn wsL_refused (wsL_refusesAny_r4) := goodIn_r _ [136, 137, 138, 139, 140, 141, 142, 49, 50, 51, 143, 144, 145, 146, 147, 148, 149, 150, 151, 152, 153, 154, 155, 156] (by decide +kernel) (by decide +kernel)
set_option maxRecDepth 20000 in
theorem ggL_refused_L_refusesAny_6 : GoodIn wsL_refused (wsL_refusesAny_r5) := goodIn_r _ [157, 158, 159, 89, 90, 91, 92, 41, 42, 43, 56, 46, 47, 48, 57, 58, 59, 60, 160, 161, 162, 163, 164, 165] (by decide +kernel) (by decide +kernel)
set_option maxRecDepth 20000 in
theorem ggL_refused_L_refusesAny_7 : GoodIn wsL_refused (wsL_refusesAny_r6) := goodIn_r _ [166, 167, 168, 169, 170, 171, 172, 173, 174, 175, 176, 177, 178, 179, 180, 181, 182, 183, 184, 185, 186, 187, 188, 189] (by decide +kernel) (by decide +kernel)
set_option maxRecDepth 20000 in
theorem ggL_refused_L_refusesAny_8 : GoodIn wsL_refused (wsL_refusesAny_r7) := goodIn_r _ [190, 191, 192, 193, 194, 195, 196, 197, 198, 199, 200, 201, 202, 203, 204, 205, 206, 207, 208, 209, 210, 211, 212, 213] (by decide +kernel) (by decide +kernel)
set_option maxRecDepth 20000 in
theorem ggL_refused_L_refusesAny_9 : GoodIn wsL_refused (wsL_refusesAny_r8) := goodIn_r _ [214, 215, 216, 217, 218, 219, 220, 221, 222, 223, 224, 225, 226, 227, 228, 229, 230, 231, 232, 233, 234, 235, 236, 237] (by decide +kernel) (by decide +kernel)
end
section
set_option maxRecDepth 20000 in
theorem ggL_refused_L_refusesAny_10 : GoodIn wsL_refused (wsL_refusesAny_r9) := goodIn_r _ [238, 239, 240, 241, 242, 243, 244, 245, 246, 247, 248, 249, 250, 251, 252, 253, 254, 255, 256, 257, 258, 259, 260, 261] (by decide +kernel) (by decide +kernel)
set_option maxRecDepth 20000 in
theorem ggL_refused_L_refusesAny_11 : GoodIn wsL_refused (wsL_refusesAny_r10) := goodIn_r _ [262, 263, 40, 264, 265, 266, 267, 268, 269, 270, 271, 272, 273, 274, 275, 276, 277, 278, 279, 280, 281, 282, 283, 284] (by decide +kernel) (by decide +kernel)
set_option maxRecDepth 20000 in
theorem ggL_refused_L_refusesAny_12 : GoodIn wsL_refused (wsL_refusesAny_r11) := goodIn_r _ [285, 286, 287, 288, 289, 290, 291, 292, 293, 294, 295, 296, 297, 298, 299, 300, 301, 302, 303, 304, 305, 306, 307, 308] (by decide +kernel) (by decide +kernel)
set_option maxRecDepth 20000 in
theorem ggL_refused_L_refusesAny_13 : GoodIn wsL_refused (wsL_refusesAny_r12) := goodIn_r _ [309, 310, 66, 68, 311, 312, 313, 314, 315, 316, 317, 318, 319, 320, 321, 322, 323, 77, 78, 79, 324, 325, 326, 327] (by decide +kernel) (by decide +kernel)
set_option maxRecDepth 20000 in
theorem ggL_refused_L_refusesAny_14 : GoodIn wsL_refused (wsL_refusesAny_r13) := goodIn_r _ [328, 329, 330, 331, 332, 333, 334, 335, 336, 36, 37, 38, 39, 45, 52, 53, 54, 55, 61, 62, 63, 64, 65, 69] (by decide +kernel) (by decide +kernel)
set_option maxRecDepth 20000 in
theorem ggL_refused_L_refusesAny_15 : GoodIn wsL_refused (wsL_refusesAny_r14) := goodIn_r _ [70, 71, 72, 73, 76, 80, 81, 82, 83, 84, 85, 86, 87, 88, 93, 337, 338, 339, 340, 341, 342, 343, 344, 345] (by decide +kernel) (by decide +kernel)
set_option maxRecDepth 20000 in
theorem ggL_refused_L_refusesAny_16 : GoodIn wsL_refused (wsL_refusesAny_r15) := goodIn_r _ [346, 347, 348, 349, 350, 351, 352, 353, 354, 355, 356, 357, 358, 359, 360, 361, 362, 363, 364, 365, 366, 367, 368, 369] (by decide +kernel) (by decide +kernel)
set_option maxRecDepth 20000 in
theorem ggL_refused_L_refusesAny_17 : GoodIn wsL_refused (wsL_refusesAny_r16) := goodIn_r _ [370, 371, 372, 373, 374, 375, 376, 377, 378, 379, 380, 381, 382, 383, 384, 385, 386, 387, 388, 389, 390, 391, 392, 393] (by decide +kernel) (by decide +kernel)
set_option maxRecDepth 20000 in
theorem ggL_refused_L_refusesAny_18 : GoodIn wsL_refused (wsL_refusesAny_r17) := goodIn_r _ [394, 395, 396, 397, 398, 399, 400, 401, 402, 403, 404, 405, 406, 407, 408, 409, 410, 411, 412, 413, 414, 415, 416, 417] (by decide +kernel) (by decide +kernel)
end
section
set_option maxRecDepth 20000 in
theorem ggL_refused_L_refusesAny_19 : GoodIn wsL_refused (wsL_refusesAny_r18) := goodIn_r _ [418, 419, 420, 421, 422, 423, 424, 425, 426, 427, 428] (by decide +kernel) (by decide +kernel)
set_option maxRecDepth 20000 in
theorem ggL_refused_L_refusesAny_20 : GoodIn wsL_refused (wsX60) := goodIn_r _ [429, 430, 431, 432, 433, 434] (by decide +kernel) (by decide +kernel)
set_option maxRecDepth 20000 in
theorem ggL_refused_L_refusesAny_21 : GoodIn wsL_refused (wsX10) := goodIn_r _ [435, 436] (by decide +kernel) (by decide +kernel)
set_option maxRecDepth 20000 in
theorem ggL_refused_L_refusesAny_22 : GoodIn wsL_refused (wsX00) := goodIn_r _ [437, 438, 439] (by decide +kernel) (by decide +kernel)
set_option maxRecDepth 20000 in
theorem ggL_refused_L_refusesAny_23 : GoodIn wsL_refused (wsX30) := goodIn_r _ [440] (by decide +kernel) (by decide +kernel)
set_option maxRecDepth 20000 in
theorem ggL_refused_L_refusesAny_24 : GoodIn wsL_refused (wsX20) := goodIn_r _ [441, 442, 443, 444, 445] (by decide +kernel) (by decide +kernel)
set_option maxRecDepth 20000 in
theorem ggL_refused_L_refusesAny_25 : GoodIn wsL_refused (wsX50) := goodIn_r _ [446, 447, 448, 449] (by decide +kernel) (by decide +kernel)
set_option maxRecDepth 20000 in
theorem ggL_refused_L_refusesAny_26 : GoodIn wsL_refused (wsX40) := goodIn_r _ [450, 451] (by decide +kernel) (by decide +kernel)
set_option maxRecDepth 20000 in
theorem ggL_refused_L_refusesAny : GoodIn wsL_refused wsL_refusesAny := x_gc ggL_refused_L_refusesAny_1 (goodIn_app (goodIn_app (goodIn_app (goodIn_app (goodIn_app (goodIn_app (goodIn_app (goodIn_app ggL_refused_L_refusesAny_2 (goodIn_app ggL_refused_L_refusesAny_3 (goodIn_app ggL_refused_L_refusesAny_4 (goodIn_app ggL_refused_L_refusesAny_5 (goodIn_app ggL_refused_L_refusesAny_6 (goodIn_app ggL_refused_L_refusesAny_7 (goodIn_app ggL_refused_L_refusesAny_8 (goodIn_app ggL_refused_L_refusesAny_9 (goodIn_app ggL_refused_L_refusesAny_10 (goodIn_app ggL_refused_L_refusesAny_11 (goodIn_app ggL_refused_L_refusesAny_12 (goodIn_app ggL_refused_L_refusesAny_13 (goodIn_app ggL_refused_L_refusesAny_14 (goodIn_app ggL_refused_L_refusesAny_15 (goodIn_app ggL_refused_L_refusesAny_16 (goodIn_app ggL_refused_L_refusesAny_17 (goodIn_app ggL_refused_L_refusesAny_18 ggL_refused_L_refusesAny_19))))))))))))))))) ggL_refused_L_refusesAny_20) ggL_refused_L_refusesAny_21) ggL_refused_L_refusesAny_22) ggL_refused_L_refusesAny_23) ggL_refused_L_refusesAny_24) ggL_refused_L_refusesAny_25) ggL_refused_L_refusesAny_26)
end
section
set_option maxRecDepth 20000 in
theorem gL_refused_L_refusesAny : GoodIn wsL_refused (va_wsS RL 89 yL_refusesAny wsL_refusesAny) := goodIn_app (goodIn_of _ (by decide +kernel)) ggL_refused_L_refusesAny
theorem dL_refused_0 : decode cL_refused 0 = .ok (.aload_n 0, 1) := by decide +kernel
theorem dL_refused_1 : decode cL_refused 1 = .ok (.invokestatic 85, 3) := by decide +kernel
theorem dL_refused_4 : decode cL_refused 4 = .ok (.lstore_n 1, 1) := by decide +kernel
theorem dL_refused_5 : decode cL_refused 5 = .ok (.aload_n 0, 1) := by decide +kernel
theorem dL_refused_6 : decode cL_refused 6 = .ok (.bipush 10, 2) := by decide +kernel
theorem dL_refused_8 : decode cL_refused 8 = .ok (.invokevirtual 13, 3) := by decide +kernel
theorem dL_refused_11 : decode cL_refused 11 = .ok (.istore_n 3, 1) := by decide +kernel
theorem dL_refused_12 : decode cL_refused 12 = .ok (.aload_n 0, 1) := by decide +kernel
theorem dL_refused_13 : decode cL_refused 13 = .ok (.iconst 0, 1) := by decide +kernel
theorem dL_refused_14 : decode cL_refused 14 = .ok (.invokestatic 89, 3) := by decide +kernel
theorem dL_refused_17 : decode cL_refused 17 = .ok (.ifCond .eq 34, 3) := by decide +kernel
theorem dL_refused_20 : decode cL_refused 20 = .ok (.aload_n 0, 1) := by decide +kernel
theorem dL_refused_21 : decode cL_refused 21 = .ok (.iconst 1, 1) := by decide +kernel
theorem dL_refused_22 : decode cL_refused 22 = .ok (.invokestatic 89, 3) := by decide +kernel
theorem dL_refused_25 : decode cL_refused 25 = .ok (.ifCond .eq 26, 3) := by decide +kernel
theorem dL_refused_28 : decode cL_refused 28 = .ok (.aload_n 0, 1) := by decide +kernel
theorem dL_refused_29 : decode cL_refused 29 = .ok (.invokestatic 85, 3) := by decide +kernel
theorem dL_refused_32 : decode cL_refused 32 = .ok (.lload_n 1, 1) := by decide +kernel
theorem dL_refused_33 : decode cL_refused 33 = .ok (.lcmp, 1) := by decide +kernel
theorem dL_refused_34 : decode cL_refused 34 = .ok (.ifCond .ne 17, 3) := by decide +kernel
theorem dL_refused_37 : decode cL_refused 37 = .ok (.aload_n 0, 1) := by decide +kernel
theorem dL_refused_38 : decode cL_refused 38 = .ok (.bipush 10, 2) := by decide +kernel
theorem dL_refused_40 : decode cL_refused 40 = .ok (.invokevirtual 13, 3) := by decide +kernel
theorem dL_refused_43 : decode cL_refused 43 = .ok (.iload_n 3, 1) := by decide +kernel
theorem dL_refused_44 : decode cL_refused 44 = .ok (.if_icmp .ne 7, 3) := by decide +kernel
theorem dL_refused_47 : decode cL_refused 47 = .ok (.iconst 1, 1) := by decide +kernel
theorem dL_refused_48 : decode cL_refused 48 = .ok (.goto 4, 3) := by decide +kernel
theorem dL_refused_51 : decode cL_refused 51 = .ok (.iconst 0, 1) := by decide +kernel
theorem dL_refused_52 : decode cL_refused 52 = .ok (.ireturn, 1) := by decide +kernel
set_option maxRecDepth 20000 in
theorem ggL_mesh_X6_init : GoodIn wsL_mesh wsX6_init := goodIn_r _ [6, 7, 8, 9, 10, 11, 12, 13, 14, 15, 16, 17, 18, 19, 20, 21, 22, 23, 24, 25, 26, 27, 28, 29, 30, 31, 32, 33, 34, 35, 36, 37, 38, 39, 40, 41, 42, 43, 44, 45, 46, 47, 48, 49, 50, 51, 52, 53, 54, 55, 56, 57, 58, 59, 60, 61, 488, 482, 483, 484, 485, 486, 487, 489, 490, 491, 492, 493, 494, 495, 496, 497, 498, 499, 500, 501, 502, 503, 504] (by decide +kernel) (by decide +kernel)
set_option maxRecDepth 20000 in
theorem gL_mesh_X6_init : GoodIn wsL_mesh (wsX6_init) := ggL_mesh_X6_init
set_option maxRecDepth 20000 in
theorem ggL_mesh_X6_undo : GoodIn wsL_mesh wsX6_undo := goodIn_r _ [65, 17, 13, 66, 67, 68, 16, 69, 70, 71, 43, 72, 73, 74, 12, 75, 39, 76, 77, 78, 79, 482, 483, 484, 485, 486, 487, 489, 490, 491, 488] (by decide +kernel) (by decide +kernel)
set_option maxRecDepth 20000 in
theorem gL_mesh_X6_undo : GoodIn wsL_mesh (wsV RL 94 RX6 yX6_undo wsX6_undo) := goodIn_app (goodIn_of _ (by decide +kernel)) ggL_mesh_X6_undo
set_option maxRecDepth 20000 in
theorem ggL_mesh_X6_restore : GoodIn wsL_mesh wsX6_restore := goodIn_r _ [83, 17, 13, 21, 84, 85, 86, 16, 87, 43, 71, 88, 89, 90, 12, 91, 39, 76, 77, 78, 79, 92, 93, 94, 20, 95, 96, 47, 97, 3, 98, 99, 73, 74, 75, 100, 101, 102, 103, 104, 105, 106, 107, 70, 108, 109, 110, 111, 482, 483, 484, 485, 486, 487, 489, 490, 491, 488, 492, 493] (by decide +kernel) (by decide +kernel)
set_option maxRecDepth 20000 in
theorem gL_mesh_X6_restore : GoodIn wsL_mesh (wsV RL 72 RX6 yX6_restore wsX6_restore) := goodIn_app (goodIn_of _ (by decide +kernel)) ggL_mesh_X6_restore
set_option maxRecDepth 20000 in
theorem ggL_mesh_X6_count : GoodIn wsL_mesh wsX6_count := goodIn_r _ [115, 25, 17, 13, 116, 97, 3, 98, 117, 118, 119, 24, 120, 121, 122, 123, 124, 16, 125, 70, 126, 101, 102, 12, 103, 39, 482, 483, 484, 485, 486, 487, 494, 495, 489, 490, 491, 488] (by decide +kernel) (by decide +kernel)
set_option maxRecDepth 20000 in
theorem gL_mesh_X6_count : GoodIn wsL_mesh (wsV RL 13 RX6 yX6_count wsX6_count) := goodIn_app (goodIn_of _ (by decide +kernel)) ggL_mesh_X6_count
set_option maxRecDepth 20000 in
theorem ggL_mesh_X6_roller : GoodIn wsL_mesh wsX6_roller := goodIn_r _ [130, 17, 13, 84, 85, 86, 16, 87, 43, 71, 88, 89, 90, 12, 91, 39, 76, 77, 78, 79, 131, 132, 133, 134, 97, 3, 98, 135, 101, 102, 103, 136, 137, 138, 139, 140, 141, 142, 143, 144, 145, 146, 147, 148, 149, 150, 104, 105, 106, 107, 70, 108, 109, 110, 111, 482, 483, 484, 485, 486, 487, 489, 490, 491, 488] (by decide +kernel) (by decide +kernel)
set_option maxRecDepth 20000 in
theorem gL_mesh_X6_roller : GoodIn wsL_mesh (wsV RL 31 RX6 yX6_roller wsX6_roller) := goodIn_app (goodIn_of _ (by decide +kernel)) ggL_mesh_X6_roller
set_option maxRecDepth 20000 in
theorem ggL_mesh_X6_file : GoodIn wsL_mesh wsX6_file := goodIn_r _ [154, 17, 13, 84, 85, 86, 16, 87, 43, 71, 88, 89, 90, 12, 91, 39, 76, 77, 78, 79, 155, 156, 157, 158, 159, 160, 161, 162, 163, 164, 165, 166, 135, 101, 102, 103, 167, 168, 169, 170, 136, 137, 138, 97, 3, 98, 171, 172, 173, 174, 143, 144, 145, 146, 139, 140, 141, 142, 104, 105, 106, 107, 70, 108, 109, 110, 111, 482, 483, 484, 485, 486, 487, 489, 490, 491, 488] (by decide +kernel) (by decide +kernel)
set_option maxRecDepth 20000 in
theorem gL_mesh_X6_file : GoodIn wsL_mesh (wsV RL 34 RX6 yX6_file wsX6_file) := goodIn_app (goodIn_of _ (by decide +kernel)) ggL_mesh_X6_file
set_option maxRecDepth 20000 in
theorem ggL_mesh_X6_tooth : GoodIn wsL_mesh wsX6_tooth := goodIn_r _ [178, 13, 179, 160, 161, 12, 162, 163, 164, 165, 166, 135, 101, 102, 103, 39, 167, 168, 169, 170, 136, 137, 138, 180, 172, 173, 174, 482, 483, 484, 485, 486, 487, 488] (by decide +kernel) (by decide +kernel)
set_option maxRecDepth 20000 in
theorem gL_mesh_X6_tooth : GoodIn wsL_mesh (wsV RL 23 RX6 yX6_tooth wsX6_tooth) := goodIn_app (goodIn_of _ (by decide +kernel)) ggL_mesh_X6_tooth
set_option maxRecDepth 20000 in
theorem ggL_mesh_X6_of : GoodIn wsL_mesh wsX6_of := goodIn_r _ [184, 13, 185, 164, 165, 12, 166, 135, 101, 102, 103, 39, 186, 168, 169, 170, 136, 137, 138, 187, 188, 189, 190, 167, 171, 172, 173, 174, 191, 192, 193, 194, 195, 196, 110, 197, 198, 199, 200, 201, 202, 109, 111, 203, 204, 205, 206, 207, 208, 209, 210, 482, 483, 484, 485, 486, 487, 488] (by decide +kernel) (by decide +kernel)
set_option maxRecDepth 20000 in
theorem gL_mesh_X6_of : GoodIn wsL_mesh (wsV RL 19 RX6 yX6_of wsX6_of) := goodIn_app (goodIn_of _ (by decide +kernel)) ggL_mesh_X6_of
set_option maxRecDepth 20000 in
theorem ggL_mesh_X6_pair : GoodIn wsL_mesh wsX6_pair := goodIn_r _ [214, 33, 13, 215, 216, 217, 3, 218, 219, 220, 221, 222, 185, 164, 165, 12, 166, 135, 101, 102, 103, 39, 116, 97, 98, 223, 224, 225, 32, 226, 227, 109, 110, 111, 228, 61, 229, 168, 169, 170, 136, 137, 138, 230, 231, 232, 233, 172, 173, 174, 234, 235, 236, 237, 238, 239, 240, 241, 242, 243, 244, 245, 246, 247, 248, 249, 250, 251, 252, 253, 196, 197, 254, 255, 256, 257, 258, 259, 260, 261, 262, 263, 264, 265, 266, 267, 268, 269, 270, 271, 272, 482, 483, 484, 485, 486, 487, 488, 501, 502, 503, 504] (by decide +kernel) (by decide +kernel)
set_option maxRecDepth 20000 in
theorem gL_mesh_X6_pair : GoodIn wsL_mesh (wsV RL 52 RX6 yX6_pair wsX6_pair) := goodIn_app (goodIn_of _ (by decide +kernel)) ggL_mesh_X6_pair
set_option maxRecDepth 20000 in
theorem ggL_mesh_X6_why : GoodIn wsL_mesh wsX6_why := goodIn_r _ [276, 33, 13, 215, 216, 217, 3, 218, 219, 220, 221, 222, 185, 164, 165, 12, 166, 135, 101, 102, 103, 39, 116, 97, 98, 223, 224, 225, 32, 226, 227, 109, 110, 111, 228, 61, 229, 168, 169, 170, 136, 137, 138, 230, 231, 232, 233, 172, 173, 174, 234, 235, 236, 254, 255, 256, 257, 277, 263, 264, 265, 245, 246, 247, 248, 266, 267, 268, 269, 270, 271, 272, 278, 482, 483, 484, 485, 486, 487, 488, 501, 502, 503, 504] (by decide +kernel) (by decide +kernel)
set_option maxRecDepth 20000 in
theorem gL_mesh_X6_why : GoodIn wsL_mesh (wsV RL 56 RX6 yX6_why wsX6_why) := goodIn_app (goodIn_of _ (by decide +kernel)) ggL_mesh_X6_why
set_option maxRecDepth 20000 in
theorem ggL_mesh_X6_leastGap : GoodIn wsL_mesh wsX6_leastGap := goodIn_r _ [282, 219, 220, 221, 3, 222, 13, 185, 164, 165, 12, 166, 135, 101, 102, 103, 39, 116, 97, 98, 283, 284, 285, 286, 33, 287, 196, 110, 197, 223, 224, 225, 32, 226, 227, 109, 111, 228, 61, 229, 168, 169, 170, 136, 137, 138, 230, 231, 232, 233, 172, 173, 174, 234, 235, 236, 254, 255, 256, 257, 288, 289, 290, 291, 266, 267, 268, 269, 270, 271, 272, 245, 246, 247, 248, 241, 242, 243, 244, 482, 483, 484, 485, 486, 487, 488, 501, 502, 503, 504] (by decide +kernel) (by decide +kernel)
set_option maxRecDepth 20000 in
theorem gL_mesh_X6_leastGap : GoodIn wsL_mesh (wsV RL 59 RX6 yX6_leastGap wsX6_leastGap) := goodIn_app (goodIn_of _ (by decide +kernel)) ggL_mesh_X6_leastGap
set_option maxRecDepth 20000 in
theorem ggL_mesh_X6_bestOffset : GoodIn wsL_mesh wsX6_bestOffset := goodIn_r _ [295, 13, 296, 109, 110, 111, 215, 216, 217, 3, 218, 219, 220, 221, 222, 185, 164, 165, 12, 166, 135, 101, 102, 103, 39, 116, 97, 98, 186, 168, 169, 170, 136, 137, 138, 283, 284, 285, 286, 33, 287, 196, 197, 223, 224, 225, 32, 226, 227, 228, 61, 229, 230, 231, 232, 233, 172, 173, 174, 234, 235, 236, 254, 255, 256, 257, 288, 289, 290, 291, 266, 267, 268, 269, 270, 271, 272, 245, 246, 247, 248, 241, 242, 243, 244, 482, 483, 484, 485, 486, 487, 488, 501, 502, 503, 504] (by decide +kernel) (by decide +kernel)
set_option maxRecDepth 20000 in
theorem gL_mesh_X6_bestOffset : GoodIn wsL_mesh (wsV RL 62 RX6 yX6_bestOffset wsX6_bestOffset) := goodIn_app (goodIn_of _ (by decide +kernel)) ggL_mesh_X6_bestOffset
set_option maxRecDepth 20000 in
theorem ggL_mesh_X6_thickest : GoodIn wsL_mesh wsX6_thickest := goodIn_r _ [300, 33, 13, 219, 220, 221, 3, 222, 185, 164, 165, 12, 166, 135, 101, 102, 103, 39, 116, 97, 98, 223, 224, 225, 32, 226, 227, 109, 110, 111, 228, 61, 229, 168, 169, 170, 136, 137, 138, 230, 231, 232, 233, 172, 173, 174, 234, 235, 236, 254, 255, 256, 257, 258, 259, 260, 261, 262, 263, 264, 265, 245, 246, 247, 248, 266, 267, 268, 269, 270, 271, 272, 301, 302, 303, 304, 305, 306, 237, 238, 239, 240, 126, 307, 308, 309, 310, 253, 196, 197, 482, 483, 484, 485, 486, 487, 488, 501, 502, 503, 504] (by decide +kernel) (by decide +kernel)
set_option maxRecDepth 20000 in
theorem gL_mesh_X6_thickest : GoodIn wsL_mesh (wsV RL 65 RX6 yX6_thickest wsX6_thickest) := goodIn_app (goodIn_of _ (by decide +kernel)) ggL_mesh_X6_thickest
end
section
set_option maxRecDepth 20000 in
theorem ggL_mesh_L_refused_1 : GoodIn wsL_mesh [(Cond.code yL_refused cL_refused 4 (some .boolean) : Cond)] := x_g1 314 rfl (by decide +kernel)
set_option maxRecDepth 20000 in
theorem ggL_mesh_L_refused_2 : GoodIn wsL_mesh ([Cond.methodLink RL 85 yL_seen, Cond.static yL_seen, Cond.initialized RL] : List Cond) := goodIn_r _ [315, 316, 313] (by decide +kernel) (by decide +kernel)
set_option maxRecDepth 20000 in
theorem ggL_mesh_L_refused_3 : GoodIn wsL_mesh [(Cond.code yL_seen cL_seen 4 (some .long) : Cond)] := x_g1 317 rfl (by decide +kernel)
set_option maxRecDepth 20000 in
theorem ggL_mesh_L_refused_4 : GoodIn wsL_mesh ([Cond.constantLong RL 9 (59), Cond.constantLong RL 11 (31), Cond.methodLink RL 13 yX6_count, Cond.instanceMethod yX6_count, Cond.selects RX6 yX6_count yX6_count, Cond.initialized RX6, Cond.code yX6_count cX6_count 2 (some .int), Cond.fieldLink RX6 33 "RollerMesh" "pad" "LRollerMesh$Pad;", Cond.fieldLink RX6 19 "RollerMesh" "history" "LRollerMesh$History;", Cond.fieldLink RX6 10 "RollerMesh" "shop" "LRollerMesh$Shop;", Cond.methodLink RX6 86 yX6_outside, Cond.static yX6_outside, Cond.code yX6_outside cX6_outside 3 (some .boolean), Cond.methodLink RX6 151 yX1_length, Cond.instanceMethod yX1_length, Cond.selects RX1 yX1_length yX1_length, Cond.initialized RX1, Cond.code yX1_length cX1_length 1 (some .int), Cond.fieldLink RX1 15 "RollerMesh$Pad" "length" "I", Cond.methodLink RX6 154 yX0_length] : List Cond) := goodIn_r _ [318, 319, 112, 113, 114, 3, 115, 25, 17, 13, 116, 97, 98, 117, 118, 119, 24, 120, 121, 122] (by decide +kernel) (by decide +kernel)
set_option maxRecDepth 20000 in
theorem ggL_mesh_L_refused_5 : GoodIn wsL_mesh wsL_refused_r1 := by
  show GoodIn wsL_mesh ([Cond.methodLink RL 85 yL_seen, Cond.static yL_seen, Cond.initialized RL] ++ (Cond.code yL_seen cL_seen 4 (some .long) :: ([Cond.constantLong RL 9 (59), Cond.constantLong RL 11 (31), Cond.methodLink RL 13 yX6_count, Cond.instanceMethod yX6_count, Cond.selects RX6 yX6_count yX6_count, Cond.initialized RX6, Cond.code yX6_count cX6_count 2 (some .int), Cond.fieldLink RX6 33 "RollerMesh" "pad" "LRollerMesh$Pad;", Cond.fieldLink RX6 19 "RollerMesh" "history" "LRollerMesh$History;", Cond.fieldLink RX6 10 "RollerMesh" "shop" "LRollerMesh$Shop;", Cond.methodLink RX6 86 yX6_outside, Cond.static yX6_outside, Cond.code yX6_outside cX6_outside 3 (some .boolean), Cond.methodLink RX6 151 yX1_length, Cond.instanceMethod yX1_length, Cond.selects RX1 yX1_length yX1_length, Cond.initialized RX1, Cond.code yX1_length cX1_length 1 (some .int), Cond.fieldLink RX1 15 "RollerMesh$Pad" "length" "I", Cond.methodLink RX6 154 yX0_length] ++ [])))
  exact (goodIn_app ggL_mesh_L_refused_2 (x_gc ggL_mesh_L_refused_3 (goodIn_app ggL_mesh_L_refused_4 x_gn)))
set_option maxRecDepth 20000 in
theorem ggL_mesh_L_refused_6 : GoodIn wsL_mesh (wsL_refused_r2) := goodIn_r _ [123, 124, 16, 125, 70, 126, 101, 102, 12, 103, 39, 181, 182, 183, 184, 185, 164, 165, 166, 135, 186, 168, 169, 170] (by decide +kernel) (by decide +kernel)
set_option maxRecDepth 20000 in
theorem ggL_mesh_L_refused_7 : GoodIn wsL_mesh (wsL_refused_r3) := goodIn_r _ [136, 137, 138, 187, 188, 189, 190, 167, 171, 172, 173, 174, 191, 192, 193, 194, 195, 196, 110, 197, 198, 199, 200, 201] (by decide +kernel) (by decide +kernel)
set_option maxRecDepth 20000 in
theorem ggL_mesh_L_refused_8 : GoodIn wsL_mesh ([Cond.methodLink RX3 60 Lib.Math.min.name, Cond.static Lib.Math.min.name, Cond.code Lib.Math.min.name Lib.Math.min.code 2 (some .int), Cond.methodLink RX6 138 yX3_stepsSinceWorn, Cond.instanceMethod yX3_stepsSinceWorn, Cond.selects RX3 yX3_stepsSinceWorn yX3_stepsSinceWorn, Cond.code yX3_stepsSinceWorn cX3_stepsSinceWorn 2 (some .int), Cond.methodLink RX6 141 yX3_timesWorn, Cond.instanceMethod yX3_timesWorn, Cond.selects RX3 yX3_timesWorn yX3_timesWorn, Cond.code yX3_timesWorn cX3_timesWorn 2 (some .int), Cond.methodLink RL 23 yX6_tooth, Cond.instanceMethod yX6_tooth, Cond.selects RX6 yX6_tooth yX6_tooth, Cond.code yX6_tooth cX6_tooth 3 (some .int), Cond.methodLink RX6 144 yX3_hasTooth, Cond.instanceMethod yX3_hasTooth, Cond.selects RX3 yX3_hasTooth yX3_hasTooth, Cond.code yX3_hasTooth cX3_hasTooth 3 (some .boolean), Cond.methodLink RX3 30 yX3_has, Cond.methodLink RX6 148 yX3_height, Cond.methodLink RL 89 yL_refusesAny, Cond.static yL_refusesAny] : List Cond) := goodIn_r _ [202, 109, 111, 203, 204, 205, 206, 207, 208, 209, 210, 175, 176, 177, 178, 179, 160, 161, 162, 163, 180, 320, 321] (by decide +kernel) (by decide +kernel)
set_option maxRecDepth 20000 in
theorem ggL_mesh_L_refused_9 : GoodIn wsL_mesh [(Cond.code yL_refusesAny cL_refusesAny 5 (some .boolean) : Cond)] := x_g1 322 rfl (by decide +kernel)
end
section
set_option maxRecDepth 20000 in
theorem ggL_mesh_L_refused_10 : GoodIn wsL_mesh wsL_refused_r4 := by
  show GoodIn wsL_mesh ([Cond.methodLink RX3 60 Lib.Math.min.name, Cond.static Lib.Math.min.name, Cond.code Lib.Math.min.name Lib.Math.min.code 2 (some .int), Cond.methodLink RX6 138 yX3_stepsSinceWorn, Cond.instanceMethod yX3_stepsSinceWorn, Cond.selects RX3 yX3_stepsSinceWorn yX3_stepsSinceWorn, Cond.code yX3_stepsSinceWorn cX3_stepsSinceWorn 2 (some .int), Cond.methodLink RX6 141 yX3_timesWorn, Cond.instanceMethod yX3_timesWorn, Cond.selects RX3 yX3_timesWorn yX3_timesWorn, Cond.code yX3_timesWorn cX3_timesWorn 2 (some .int), Cond.methodLink RL 23 yX6_tooth, Cond.instanceMethod yX6_tooth, Cond.selects RX6 yX6_tooth yX6_tooth, Cond.code yX6_tooth cX6_tooth 3 (some .int), Cond.methodLink RX6 144 yX3_hasTooth, Cond.instanceMethod yX3_hasTooth, Cond.selects RX3 yX3_hasTooth yX3_hasTooth, Cond.code yX3_hasTooth cX3_hasTooth 3 (some .boolean), Cond.methodLink RX3 30 yX3_has, Cond.methodLink RX6 148 yX3_height, Cond.methodLink RL 89 yL_refusesAny, Cond.static yL_refusesAny] ++ (Cond.code yL_refusesAny cL_refusesAny 5 (some .boolean) :: []))
  exact (goodIn_app ggL_mesh_L_refused_8 (x_gc ggL_mesh_L_refused_9 x_gn))
set_option maxRecDepth 20000 in
theorem ggL_mesh_L_refused_11 : GoodIn wsL_mesh (wsL_refused_r5) := goodIn_r _ [323, 324, 325, 326, 327, 328, 329, 84, 85, 86, 87, 43, 71, 88, 89, 90, 91, 76, 77, 78, 79, 330, 331, 332] (by decide +kernel) (by decide +kernel)
set_option maxRecDepth 20000 in
theorem ggL_mesh_L_refused_12 : GoodIn wsL_mesh (wsL_refused_r6) := goodIn_r _ [333, 334, 255, 256, 257, 139, 140, 141, 142, 104, 105, 106, 107, 108, 127, 128, 129, 130, 131, 132, 133, 134, 143, 144] (by decide +kernel) (by decide +kernel)
set_option maxRecDepth 20000 in
theorem ggL_mesh_L_refused_13 : GoodIn wsL_mesh (wsL_refused_r7) := goodIn_r _ [145, 146, 147, 148, 149, 150, 151, 152, 153, 154, 155, 156, 157, 158, 159, 335, 336, 337, 338, 339, 340, 341, 342, 343] (by decide +kernel) (by decide +kernel)
set_option maxRecDepth 20000 in
theorem ggL_mesh_L_refused_14 : GoodIn wsL_mesh (wsL_refused_r8) := goodIn_r _ [344, 345, 346, 347, 348, 349, 350, 351, 352, 353, 354, 29, 355, 356, 357, 28, 358, 359, 57, 360, 361, 362, 363, 364] (by decide +kernel) (by decide +kernel)
set_option maxRecDepth 20000 in
theorem ggL_mesh_L_refused_15 : GoodIn wsL_mesh (wsL_refused_r9) := goodIn_r _ [365, 366, 367, 368, 369, 370, 371, 372, 373, 51, 374, 375, 376, 377, 378, 379, 380, 381, 382, 383, 384, 385, 386, 387] (by decide +kernel) (by decide +kernel)
set_option maxRecDepth 20000 in
theorem ggL_mesh_L_refused_16 : GoodIn wsL_mesh (wsL_refused_r10) := goodIn_r _ [388, 389, 390, 391, 392, 393, 394, 395, 396, 397, 56, 398, 399, 400, 401, 402, 403, 404, 405, 406, 407, 408, 409, 410] (by decide +kernel) (by decide +kernel)
set_option maxRecDepth 20000 in
theorem ggL_mesh_L_refused_17 : GoodIn wsL_mesh (wsL_refused_r11) := goodIn_r _ [411, 412, 413, 414, 415, 416, 417, 418, 419, 420, 421, 422, 423, 424, 425, 426, 427, 428, 33, 219, 220, 221, 222, 223] (by decide +kernel) (by decide +kernel)
set_option maxRecDepth 20000 in
theorem ggL_mesh_L_refused_18 : GoodIn wsL_mesh (wsL_refused_r12) := goodIn_r _ [224, 225, 32, 226, 227, 228, 61, 229, 230, 231, 232, 233, 234, 235, 236, 254, 258, 259, 260, 261, 262, 263, 264, 265] (by decide +kernel) (by decide +kernel)
end
section
set_option maxRecDepth 20000 in
theorem ggL_mesh_L_refused_19 : GoodIn wsL_mesh (wsL_refused_r13) := goodIn_r _ [245, 246, 247, 248, 266, 267, 268, 269, 270, 271, 272, 301, 302, 303, 304, 305, 306, 307, 308, 309, 310, 253, 429, 430] (by decide +kernel) (by decide +kernel)
set_option maxRecDepth 20000 in
theorem ggL_mesh_L_refused_20 : GoodIn wsL_mesh (wsL_refused_r14) := goodIn_r _ [431, 432, 433, 434, 435, 436, 437, 438, 439, 440, 441, 442, 443, 444, 445, 446, 447, 448, 449, 450, 451, 452, 453, 454] (by decide +kernel) (by decide +kernel)
set_option maxRecDepth 20000 in
theorem ggL_mesh_L_refused_21 : GoodIn wsL_mesh (wsL_refused_r15) := goodIn_r _ [211, 212, 213, 214, 215, 216, 217, 218, 237, 238, 239, 240, 241, 242, 243, 244, 249, 250, 251, 252, 273, 274, 275, 276] (by decide +kernel) (by decide +kernel)
set_option maxRecDepth 20000 in
theorem ggL_mesh_L_refused_22 : GoodIn wsL_mesh (wsL_refused_r16) := goodIn_r _ [277, 278, 279, 280, 281, 282, 283, 284, 285, 286, 287, 288, 289, 290, 291, 292, 293, 294, 295, 296, 297, 298, 299, 300] (by decide +kernel) (by decide +kernel)
set_option maxRecDepth 20000 in
theorem ggL_mesh_L_refused_23 : GoodIn wsL_mesh (wsL_refused_r17) := goodIn_r _ [455, 456, 457, 458, 21, 459, 460, 461, 20, 462, 47, 96, 463, 100, 80, 81, 82, 83, 92, 93, 94, 95, 99, 73] (by decide +kernel) (by decide +kernel)
set_option maxRecDepth 20000 in
theorem ggL_mesh_L_refused_24 : GoodIn wsL_mesh (wsL_refused_r18) := goodIn_r _ [74, 75, 464, 465, 466, 467, 468, 469, 470, 471, 472, 473, 474, 475, 476, 477, 478, 479, 480, 481] (by decide +kernel) (by decide +kernel)
set_option maxRecDepth 20000 in
theorem ggL_mesh_L_refused_25 : GoodIn wsL_mesh (wsX60) := goodIn_r _ [482, 483, 484, 485, 486, 487] (by decide +kernel) (by decide +kernel)
set_option maxRecDepth 20000 in
theorem ggL_mesh_L_refused_26 : GoodIn wsL_mesh (wsX10) := goodIn_r _ [494, 495] (by decide +kernel) (by decide +kernel)
set_option maxRecDepth 20000 in
theorem ggL_mesh_L_refused_27 : GoodIn wsL_mesh (wsX00) := goodIn_r _ [489, 490, 491] (by decide +kernel) (by decide +kernel)
end
section
set_option maxRecDepth 20000 in
theorem ggL_mesh_L_refused_28 : GoodIn wsL_mesh (wsX30) := goodIn_r _ [488] (by decide +kernel) (by decide +kernel)
set_option maxRecDepth 20000 in
theorem ggL_mesh_L_refused_29 : GoodIn wsL_mesh (wsX20) := goodIn_r _ [496, 497, 498, 499, 500] (by decide +kernel) (by decide +kernel)
set_option maxRecDepth 20000 in
theorem ggL_mesh_L_refused_30 : GoodIn wsL_mesh (wsX50) := goodIn_r _ [501, 502, 503, 504] (by decide +kernel) (by decide +kernel)
set_option maxRecDepth 20000 in
theorem ggL_mesh_L_refused_31 : GoodIn wsL_mesh (wsX40) := goodIn_r _ [492, 493] (by decide +kernel) (by decide +kernel)
set_option maxRecDepth 20000 in
theorem ggL_mesh_L_refused : GoodIn wsL_mesh wsL_refused := x_gc ggL_mesh_L_refused_1 (goodIn_app (goodIn_app (goodIn_app (goodIn_app (goodIn_app (goodIn_app (goodIn_app (goodIn_app ggL_mesh_L_refused_5 (goodIn_app ggL_mesh_L_refused_6 (goodIn_app ggL_mesh_L_refused_7 (goodIn_app ggL_mesh_L_refused_10 (goodIn_app ggL_mesh_L_refused_11 (goodIn_app ggL_mesh_L_refused_12 (goodIn_app ggL_mesh_L_refused_13 (goodIn_app ggL_mesh_L_refused_14 (goodIn_app ggL_mesh_L_refused_15 (goodIn_app ggL_mesh_L_refused_16 (goodIn_app ggL_mesh_L_refused_17 (goodIn_app ggL_mesh_L_refused_18 (goodIn_app ggL_mesh_L_refused_19 (goodIn_app ggL_mesh_L_refused_20 (goodIn_app ggL_mesh_L_refused_21 (goodIn_app ggL_mesh_L_refused_22 (goodIn_app ggL_mesh_L_refused_23 ggL_mesh_L_refused_24))))))))))))))))) ggL_mesh_L_refused_25) ggL_mesh_L_refused_26) ggL_mesh_L_refused_27) ggL_mesh_L_refused_28) ggL_mesh_L_refused_29) ggL_mesh_L_refused_30) ggL_mesh_L_refused_31)
end
section
set_option maxRecDepth 20000 in
theorem gL_mesh_L_refused : GoodIn wsL_mesh (va_wsS RL 97 yL_refused wsL_refused) := goodIn_app (goodIn_of _ (by decide +kernel)) ggL_mesh_L_refused
set_option maxRecDepth 20000 in
theorem ggL_mesh_X6_set : GoodIn wsL_mesh wsX6_set := goodIn_r _ [329, 17, 13, 84, 85, 86, 16, 87, 43, 71, 88, 89, 90, 12, 91, 39, 76, 77, 78, 79, 330, 331, 332, 333, 97, 3, 98, 334, 255, 256, 257, 135, 101, 102, 103, 139, 140, 141, 142, 104, 105, 106, 107, 70, 108, 109, 110, 111, 482, 483, 484, 485, 486, 487, 489, 490, 491, 488] (by decide +kernel) (by decide +kernel)
set_option maxRecDepth 20000 in
theorem gL_mesh_X6_set : GoodIn wsL_mesh (wsV RL 26 RX6 yX6_set wsX6_set) := goodIn_app (goodIn_of _ (by decide +kernel)) ggL_mesh_X6_set
set_option maxRecDepth 20000 in
theorem ggL_mesh_X6_run : GoodIn wsL_mesh wsX6_run := goodIn_r _ [454, 17, 13, 84, 85, 86, 16, 87, 43, 71, 88, 89, 90, 12, 91, 39, 76, 77, 78, 79, 425, 426, 427, 3, 428, 33, 219, 220, 221, 222, 185, 164, 165, 166, 135, 101, 102, 103, 116, 97, 98, 223, 224, 225, 32, 226, 227, 109, 110, 111, 228, 61, 229, 168, 169, 170, 136, 137, 138, 230, 231, 232, 233, 172, 173, 174, 234, 235, 236, 254, 255, 256, 257, 258, 259, 260, 261, 262, 263, 264, 265, 245, 246, 247, 248, 266, 267, 268, 269, 270, 271, 272, 301, 302, 303, 304, 305, 306, 126, 307, 308, 309, 310, 253, 196, 197, 429, 430, 431, 432, 433, 434, 435, 436, 147, 148, 149, 150, 139, 140, 141, 142, 437, 438, 439, 440, 441, 204, 205, 206, 334, 167, 442, 443, 444, 445, 171, 143, 144, 145, 146, 104, 105, 106, 107, 70, 108, 482, 483, 484, 485, 486, 487, 489, 490, 491, 488, 501, 502, 503, 504] (by decide +kernel) (by decide +kernel)
set_option maxRecDepth 20000 in
theorem gL_mesh_X6_run : GoodIn wsL_mesh (wsV RL 48 RX6 yX6_run wsX6_run) := goodIn_app (goodIn_of _ (by decide +kernel)) ggL_mesh_X6_run
set_option maxRecDepth 20000 in
theorem ggL_mesh_X6_card : GoodIn wsL_mesh wsX6_card := goodIn_r _ [346, 17, 13, 84, 85, 86, 16, 87, 43, 71, 88, 89, 90, 12, 91, 39, 76, 77, 78, 79, 347, 348, 349, 350, 97, 3, 98, 135, 101, 102, 103, 139, 140, 141, 142, 104, 105, 106, 107, 70, 108, 109, 110, 111, 482, 483, 484, 485, 486, 487, 489, 490, 491, 488] (by decide +kernel) (by decide +kernel)
set_option maxRecDepth 20000 in
theorem gL_mesh_X6_card : GoodIn wsL_mesh (wsV RL 41 RX6 yX6_card wsX6_card) := goodIn_app (goodIn_of _ (by decide +kernel)) ggL_mesh_X6_card
set_option maxRecDepth 20000 in
theorem ggL_mesh_X6_melt : GoodIn wsL_mesh wsX6_melt := goodIn_r _ [338, 17, 13, 84, 85, 86, 16, 87, 43, 71, 88, 89, 90, 12, 91, 39, 76, 77, 78, 79, 339, 340, 341, 342, 163, 164, 165, 166, 135, 101, 102, 103, 136, 137, 138, 139, 140, 141, 142, 104, 105, 106, 107, 70, 108, 109, 110, 111, 482, 483, 484, 485, 486, 487, 489, 490, 491, 488] (by decide +kernel) (by decide +kernel)
set_option maxRecDepth 20000 in
theorem gL_mesh_X6_melt : GoodIn wsL_mesh (wsV RL 38 RX6 yX6_melt wsX6_melt) := goodIn_app (goodIn_of _ (by decide +kernel)) ggL_mesh_X6_melt
set_option maxRecDepth 20000 in
theorem ggL_mesh_X6_save : GoodIn wsL_mesh wsX6_save := goodIn_r _ [458, 21, 13, 459, 460, 461, 20, 462, 47, 96, 97, 3, 98, 463, 89, 90, 12, 91, 39, 76, 77, 78, 79, 100, 101, 102, 103, 482, 483, 484, 485, 486, 487, 492, 493, 488] (by decide +kernel) (by decide +kernel)
set_option maxRecDepth 20000 in
theorem gL_mesh_X6_save : GoodIn wsL_mesh (wsV RL 69 RX6 yX6_save wsX6_save) := goodIn_app (goodIn_of _ (by decide +kernel)) ggL_mesh_X6_save
theorem dL_mesh_0 : decode cL_mesh 0 = .ok (.new 14, 3) := by decide +kernel
theorem dL_mesh_3 : decode cL_mesh 3 = .ok (.dup, 1) := by decide +kernel
theorem dL_mesh_4 : decode cL_mesh 4 = .ok (.invokespecial 93, 3) := by decide +kernel
theorem dL_mesh_7 : decode cL_mesh 7 = .ok (.astore_n 0, 1) := by decide +kernel
theorem dL_mesh_8 : decode cL_mesh 8 = .ok (.aload_n 0, 1) := by decide +kernel
theorem dL_mesh_9 : decode cL_mesh 9 = .ok (.invokevirtual 94, 3) := by decide +kernel
theorem dL_mesh_12 : decode cL_mesh 12 = .ok (.bipush (-5), 2) := by decide +kernel
theorem dL_mesh_14 : decode cL_mesh 14 = .ok (.if_icmp .ne 370, 3) := by decide +kernel
theorem dL_mesh_17 : decode cL_mesh 17 = .ok (.aload_n 0, 1) := by decide +kernel
theorem dL_mesh_18 : decode cL_mesh 18 = .ok (.iconst 0, 1) := by decide +kernel
theorem dL_mesh_19 : decode cL_mesh 19 = .ok (.invokevirtual 72, 3) := by decide +kernel
theorem dL_mesh_22 : decode cL_mesh 22 = .ok (.bipush (-5), 2) := by decide +kernel
theorem dL_mesh_24 : decode cL_mesh 24 = .ok (.if_icmp .ne 360, 3) := by decide +kernel
theorem dL_mesh_27 : decode cL_mesh 27 = .ok (.aload_n 0, 1) := by decide +kernel
theorem dL_mesh_28 : decode cL_mesh 28 = .ok (.iconst 1, 1) := by decide +kernel
theorem dL_mesh_29 : decode cL_mesh 29 = .ok (.invokevirtual 13, 3) := by decide +kernel
theorem dL_mesh_32 : decode cL_mesh 32 = .ok (.iconst 5, 1) := by decide +kernel
theorem dL_mesh_33 : decode cL_mesh 33 = .ok (.if_icmp .ne 351, 3) := by decide +kernel
theorem dL_mesh_36 : decode cL_mesh 36 = .ok (.aload_n 0, 1) := by decide +kernel
theorem dL_mesh_37 : decode cL_mesh 37 = .ok (.iconst 2, 1) := by decide +kernel
theorem dL_mesh_38 : decode cL_mesh 38 = .ok (.invokevirtual 13, 3) := by decide +kernel
theorem dL_mesh_41 : decode cL_mesh 41 = .ok (.iconst 5, 1) := by decide +kernel
theorem dL_mesh_42 : decode cL_mesh 42 = .ok (.if_icmp .ne 342, 3) := by decide +kernel
theorem dL_mesh_45 : decode cL_mesh 45 = .ok (.aload_n 0, 1) := by decide +kernel
theorem dL_mesh_46 : decode cL_mesh 46 = .ok (.iconst 4, 1) := by decide +kernel
theorem dL_mesh_47 : decode cL_mesh 47 = .ok (.iconst 0, 1) := by decide +kernel
theorem dL_mesh_48 : decode cL_mesh 48 = .ok (.invokevirtual 31, 3) := by decide +kernel
theorem dL_mesh_51 : decode cL_mesh 51 = .ok (.ifCond .ne 333, 3) := by decide +kernel
theorem dL_mesh_54 : decode cL_mesh 54 = .ok (.aload_n 0, 1) := by decide +kernel
theorem dL_mesh_55 : decode cL_mesh 55 = .ok (.iconst 4, 1) := by decide +kernel
theorem dL_mesh_56 : decode cL_mesh 56 = .ok (.iconst 0, 1) := by decide +kernel
theorem dL_mesh_57 : decode cL_mesh 57 = .ok (.invokevirtual 31, 3) := by decide +kernel
theorem dL_mesh_60 : decode cL_mesh 60 = .ok (.iconst 1, 1) := by decide +kernel
theorem dL_mesh_61 : decode cL_mesh 61 = .ok (.if_icmp .ne 323, 3) := by decide +kernel
theorem dL_mesh_64 : decode cL_mesh 64 = .ok (.aload_n 0, 1) := by decide +kernel
theorem dL_mesh_65 : decode cL_mesh 65 = .ok (.iconst 0, 1) := by decide +kernel
theorem dL_mesh_66 : decode cL_mesh 66 = .ok (.iconst 0, 1) := by decide +kernel
theorem dL_mesh_67 : decode cL_mesh 67 = .ok (.iconst 2, 1) := by decide +kernel
theorem dL_mesh_68 : decode cL_mesh 68 = .ok (.invokevirtual 34, 3) := by decide +kernel
theorem dL_mesh_71 : decode cL_mesh 71 = .ok (.bipush 9, 2) := by decide +kernel
theorem dL_mesh_73 : decode cL_mesh 73 = .ok (.if_icmp .ne 311, 3) := by decide +kernel
theorem dL_mesh_76 : decode cL_mesh 76 = .ok (.aload_n 0, 1) := by decide +kernel
theorem dL_mesh_77 : decode cL_mesh 77 = .ok (.iconst 0, 1) := by decide +kernel
theorem dL_mesh_78 : decode cL_mesh 78 = .ok (.iconst 2, 1) := by decide +kernel
theorem dL_mesh_79 : decode cL_mesh 79 = .ok (.iconst (-1), 1) := by decide +kernel
theorem dL_mesh_80 : decode cL_mesh 80 = .ok (.invokevirtual 34, 3) := by decide +kernel
theorem dL_mesh_83 : decode cL_mesh 83 = .ok (.bipush 9, 2) := by decide +kernel
theorem dL_mesh_85 : decode cL_mesh 85 = .ok (.if_icmp .ne 299, 3) := by decide +kernel
theorem dL_mesh_88 : decode cL_mesh 88 = .ok (.aload_n 0, 1) := by decide +kernel
theorem dL_mesh_89 : decode cL_mesh 89 = .ok (.iconst 1, 1) := by decide +kernel
theorem dL_mesh_90 : decode cL_mesh 90 = .ok (.iconst 0, 1) := by decide +kernel
theorem dL_mesh_91 : decode cL_mesh 91 = .ok (.bipush (-2), 2) := by decide +kernel
theorem dL_mesh_93 : decode cL_mesh 93 = .ok (.invokevirtual 34, 3) := by decide +kernel
theorem dL_mesh_96 : decode cL_mesh 96 = .ok (.bipush 9, 2) := by decide +kernel
theorem dL_mesh_98 : decode cL_mesh 98 = .ok (.if_icmp .ne 286, 3) := by decide +kernel
theorem dL_mesh_101 : decode cL_mesh 101 = .ok (.aload_n 0, 1) := by decide +kernel
theorem dL_mesh_102 : decode cL_mesh 102 = .ok (.iconst 1, 1) := by decide +kernel
theorem dL_mesh_103 : decode cL_mesh 103 = .ok (.iconst 2, 1) := by decide +kernel
theorem dL_mesh_104 : decode cL_mesh 104 = .ok (.iconst 1, 1) := by decide +kernel
theorem dL_mesh_105 : decode cL_mesh 105 = .ok (.invokevirtual 34, 3) := by decide +kernel
theorem dL_mesh_108 : decode cL_mesh 108 = .ok (.bipush 9, 2) := by decide +kernel
theorem dL_mesh_110 : decode cL_mesh 110 = .ok (.if_icmp .ne 274, 3) := by decide +kernel
theorem dL_mesh_113 : decode cL_mesh 113 = .ok (.aload_n 0, 1) := by decide +kernel
theorem dL_mesh_114 : decode cL_mesh 114 = .ok (.iconst 0, 1) := by decide +kernel
theorem dL_mesh_115 : decode cL_mesh 115 = .ok (.iconst 0, 1) := by decide +kernel
theorem dL_mesh_116 : decode cL_mesh 116 = .ok (.invokevirtual 23, 3) := by decide +kernel
theorem dL_mesh_119 : decode cL_mesh 119 = .ok (.bipush 11, 2) := by decide +kernel
theorem dL_mesh_121 : decode cL_mesh 121 = .ok (.if_icmp .ne 263, 3) := by decide +kernel
theorem dL_mesh_124 : decode cL_mesh 124 = .ok (.aload_n 0, 1) := by decide +kernel
theorem dL_mesh_125 : decode cL_mesh 125 = .ok (.iconst 0, 1) := by decide +kernel
theorem dL_mesh_126 : decode cL_mesh 126 = .ok (.iconst 4, 1) := by decide +kernel
theorem dL_mesh_127 : decode cL_mesh 127 = .ok (.invokevirtual 23, 3) := by decide +kernel
theorem dL_mesh_130 : decode cL_mesh 130 = .ok (.iconst (-1), 1) := by decide +kernel
theorem dL_mesh_131 : decode cL_mesh 131 = .ok (.if_icmp .ne 253, 3) := by decide +kernel
theorem dL_mesh_134 : decode cL_mesh 134 = .ok (.aload_n 0, 1) := by decide +kernel
theorem dL_mesh_135 : decode cL_mesh 135 = .ok (.iconst 0, 1) := by decide +kernel
theorem dL_mesh_136 : decode cL_mesh 136 = .ok (.iconst 1, 1) := by decide +kernel
theorem dL_mesh_137 : decode cL_mesh 137 = .ok (.invokevirtual 19, 3) := by decide +kernel
theorem dL_mesh_140 : decode cL_mesh 140 = .ok (.iconst 1, 1) := by decide +kernel
theorem dL_mesh_141 : decode cL_mesh 141 = .ok (.if_icmp .ne 243, 3) := by decide +kernel
theorem dL_mesh_144 : decode cL_mesh 144 = .ok (.aload_n 0, 1) := by decide +kernel
theorem dL_mesh_145 : decode cL_mesh 145 = .ok (.iconst 0, 1) := by decide +kernel
theorem dL_mesh_146 : decode cL_mesh 146 = .ok (.iconst 2, 1) := by decide +kernel
theorem dL_mesh_147 : decode cL_mesh 147 = .ok (.invokevirtual 19, 3) := by decide +kernel
theorem dL_mesh_150 : decode cL_mesh 150 = .ok (.iconst 4, 1) := by decide +kernel
theorem dL_mesh_151 : decode cL_mesh 151 = .ok (.if_icmp .ne 233, 3) := by decide +kernel
theorem dL_mesh_154 : decode cL_mesh 154 = .ok (.aload_n 0, 1) := by decide +kernel
theorem dL_mesh_155 : decode cL_mesh 155 = .ok (.iconst 0, 1) := by decide +kernel
theorem dL_mesh_156 : decode cL_mesh 156 = .ok (.iconst 3, 1) := by decide +kernel
theorem dL_mesh_157 : decode cL_mesh 157 = .ok (.invokevirtual 19, 3) := by decide +kernel
theorem dL_mesh_160 : decode cL_mesh 160 = .ok (.bipush 11, 2) := by decide +kernel
theorem dL_mesh_162 : decode cL_mesh 162 = .ok (.if_icmp .ne 222, 3) := by decide +kernel
theorem dL_mesh_165 : decode cL_mesh 165 = .ok (.aload_n 0, 1) := by decide +kernel
theorem dL_mesh_166 : decode cL_mesh 166 = .ok (.iconst 0, 1) := by decide +kernel
theorem dL_mesh_167 : decode cL_mesh 167 = .ok (.iconst 4, 1) := by decide +kernel
theorem dL_mesh_168 : decode cL_mesh 168 = .ok (.invokevirtual 19, 3) := by decide +kernel
theorem dL_mesh_171 : decode cL_mesh 171 = .ok (.bipush 8, 2) := by decide +kernel
theorem dL_mesh_173 : decode cL_mesh 173 = .ok (.if_icmp .ne 211, 3) := by decide +kernel
theorem dL_mesh_176 : decode cL_mesh 176 = .ok (.aload_n 0, 1) := by decide +kernel
theorem dL_mesh_177 : decode cL_mesh 177 = .ok (.iconst 0, 1) := by decide +kernel
theorem dL_mesh_178 : decode cL_mesh 178 = .ok (.iconst 1, 1) := by decide +kernel
theorem dL_mesh_179 : decode cL_mesh 179 = .ok (.iconst 0, 1) := by decide +kernel
theorem dL_mesh_180 : decode cL_mesh 180 = .ok (.iconst 1, 1) := by decide +kernel
theorem dL_mesh_181 : decode cL_mesh 181 = .ok (.iconst 0, 1) := by decide +kernel
theorem dL_mesh_182 : decode cL_mesh 182 = .ok (.invokevirtual 52, 3) := by decide +kernel
theorem dL_mesh_185 : decode cL_mesh 185 = .ok (.iconst 4, 1) := by decide +kernel
theorem dL_mesh_186 : decode cL_mesh 186 = .ok (.if_icmp .ne 198, 3) := by decide +kernel
theorem dL_mesh_189 : decode cL_mesh 189 = .ok (.aload_n 0, 1) := by decide +kernel
theorem dL_mesh_190 : decode cL_mesh 190 = .ok (.iconst 0, 1) := by decide +kernel
theorem dL_mesh_191 : decode cL_mesh 191 = .ok (.iconst 1, 1) := by decide +kernel
theorem dL_mesh_192 : decode cL_mesh 192 = .ok (.iconst 0, 1) := by decide +kernel
theorem dL_mesh_193 : decode cL_mesh 193 = .ok (.iconst 1, 1) := by decide +kernel
theorem dL_mesh_194 : decode cL_mesh 194 = .ok (.iconst 1, 1) := by decide +kernel
theorem dL_mesh_195 : decode cL_mesh 195 = .ok (.invokevirtual 52, 3) := by decide +kernel
theorem dL_mesh_198 : decode cL_mesh 198 = .ok (.bipush 101, 2) := by decide +kernel
theorem dL_mesh_200 : decode cL_mesh 200 = .ok (.if_icmp .ne 184, 3) := by decide +kernel
theorem dL_mesh_203 : decode cL_mesh 203 = .ok (.aload_n 0, 1) := by decide +kernel
theorem dL_mesh_204 : decode cL_mesh 204 = .ok (.iconst 0, 1) := by decide +kernel
theorem dL_mesh_205 : decode cL_mesh 205 = .ok (.iconst 1, 1) := by decide +kernel
theorem dL_mesh_206 : decode cL_mesh 206 = .ok (.iconst 0, 1) := by decide +kernel
theorem dL_mesh_207 : decode cL_mesh 207 = .ok (.iconst 1, 1) := by decide +kernel
theorem dL_mesh_208 : decode cL_mesh 208 = .ok (.iconst 2, 1) := by decide +kernel
theorem dL_mesh_209 : decode cL_mesh 209 = .ok (.invokevirtual 52, 3) := by decide +kernel
theorem dL_mesh_212 : decode cL_mesh 212 = .ok (.bipush 101, 2) := by decide +kernel
theorem dL_mesh_214 : decode cL_mesh 214 = .ok (.if_icmp .ne 170, 3) := by decide +kernel
theorem dL_mesh_217 : decode cL_mesh 217 = .ok (.aload_n 0, 1) := by decide +kernel
theorem dL_mesh_218 : decode cL_mesh 218 = .ok (.iconst 0, 1) := by decide +kernel
theorem dL_mesh_219 : decode cL_mesh 219 = .ok (.iconst 1, 1) := by decide +kernel
theorem dL_mesh_220 : decode cL_mesh 220 = .ok (.iconst 0, 1) := by decide +kernel
theorem dL_mesh_221 : decode cL_mesh 221 = .ok (.iconst 1, 1) := by decide +kernel
theorem dL_mesh_222 : decode cL_mesh 222 = .ok (.iconst 3, 1) := by decide +kernel
theorem dL_mesh_223 : decode cL_mesh 223 = .ok (.invokevirtual 52, 3) := by decide +kernel
theorem dL_mesh_226 : decode cL_mesh 226 = .ok (.iconst 1, 1) := by decide +kernel
theorem dL_mesh_227 : decode cL_mesh 227 = .ok (.if_icmp .ne 157, 3) := by decide +kernel
theorem dL_mesh_230 : decode cL_mesh 230 = .ok (.aload_n 0, 1) := by decide +kernel
theorem dL_mesh_231 : decode cL_mesh 231 = .ok (.iconst 0, 1) := by decide +kernel
theorem dL_mesh_232 : decode cL_mesh 232 = .ok (.iconst 1, 1) := by decide +kernel
theorem dL_mesh_233 : decode cL_mesh 233 = .ok (.iconst 0, 1) := by decide +kernel
theorem dL_mesh_234 : decode cL_mesh 234 = .ok (.iconst 0, 1) := by decide +kernel
theorem dL_mesh_235 : decode cL_mesh 235 = .ok (.iconst 3, 1) := by decide +kernel
theorem dL_mesh_236 : decode cL_mesh 236 = .ok (.invokevirtual 52, 3) := by decide +kernel
theorem dL_mesh_239 : decode cL_mesh 239 = .ok (.ifCond .ne 145, 3) := by decide +kernel
theorem dL_mesh_242 : decode cL_mesh 242 = .ok (.aload_n 0, 1) := by decide +kernel
theorem dL_mesh_243 : decode cL_mesh 243 = .ok (.iconst 0, 1) := by decide +kernel
theorem dL_mesh_244 : decode cL_mesh 244 = .ok (.iconst 1, 1) := by decide +kernel
theorem dL_mesh_245 : decode cL_mesh 245 = .ok (.iconst 0, 1) := by decide +kernel
theorem dL_mesh_246 : decode cL_mesh 246 = .ok (.iconst 0, 1) := by decide +kernel
theorem dL_mesh_247 : decode cL_mesh 247 = .ok (.iconst 0, 1) := by decide +kernel
theorem dL_mesh_248 : decode cL_mesh 248 = .ok (.invokevirtual 56, 3) := by decide +kernel
theorem dL_mesh_251 : decode cL_mesh 251 = .ok (.iconst 1, 1) := by decide +kernel
theorem dL_mesh_252 : decode cL_mesh 252 = .ok (.if_icmp .ne 132, 3) := by decide +kernel
theorem dL_mesh_255 : decode cL_mesh 255 = .ok (.aload_n 0, 1) := by decide +kernel
theorem dL_mesh_256 : decode cL_mesh 256 = .ok (.iconst 0, 1) := by decide +kernel
theorem dL_mesh_257 : decode cL_mesh 257 = .ok (.iconst 1, 1) := by decide +kernel
theorem dL_mesh_258 : decode cL_mesh 258 = .ok (.iconst 0, 1) := by decide +kernel
theorem dL_mesh_259 : decode cL_mesh 259 = .ok (.iconst 0, 1) := by decide +kernel
theorem dL_mesh_260 : decode cL_mesh 260 = .ok (.iconst 1, 1) := by decide +kernel
theorem dL_mesh_261 : decode cL_mesh 261 = .ok (.invokevirtual 56, 3) := by decide +kernel
theorem dL_mesh_264 : decode cL_mesh 264 = .ok (.ifCond .ne 120, 3) := by decide +kernel
theorem dL_mesh_267 : decode cL_mesh 267 = .ok (.aload_n 0, 1) := by decide +kernel
theorem dL_mesh_268 : decode cL_mesh 268 = .ok (.iconst 0, 1) := by decide +kernel
theorem dL_mesh_269 : decode cL_mesh 269 = .ok (.iconst 1, 1) := by decide +kernel
theorem dL_mesh_270 : decode cL_mesh 270 = .ok (.iconst 0, 1) := by decide +kernel
theorem dL_mesh_271 : decode cL_mesh 271 = .ok (.iconst 1, 1) := by decide +kernel
theorem dL_mesh_272 : decode cL_mesh 272 = .ok (.iconst 0, 1) := by decide +kernel
theorem dL_mesh_273 : decode cL_mesh 273 = .ok (.invokevirtual 56, 3) := by decide +kernel
theorem dL_mesh_276 : decode cL_mesh 276 = .ok (.ifCond .ne 108, 3) := by decide +kernel
theorem dL_mesh_279 : decode cL_mesh 279 = .ok (.aload_n 0, 1) := by decide +kernel
theorem dL_mesh_280 : decode cL_mesh 280 = .ok (.iconst 0, 1) := by decide +kernel
theorem dL_mesh_281 : decode cL_mesh 281 = .ok (.iconst 1, 1) := by decide +kernel
theorem dL_mesh_282 : decode cL_mesh 282 = .ok (.iconst 0, 1) := by decide +kernel
theorem dL_mesh_283 : decode cL_mesh 283 = .ok (.iconst 1, 1) := by decide +kernel
theorem dL_mesh_284 : decode cL_mesh 284 = .ok (.iconst 1, 1) := by decide +kernel
theorem dL_mesh_285 : decode cL_mesh 285 = .ok (.invokevirtual 56, 3) := by decide +kernel
theorem dL_mesh_288 : decode cL_mesh 288 = .ok (.bipush (-6), 2) := by decide +kernel
theorem dL_mesh_290 : decode cL_mesh 290 = .ok (.if_icmp .ne 94, 3) := by decide +kernel
theorem dL_mesh_293 : decode cL_mesh 293 = .ok (.aload_n 0, 1) := by decide +kernel
theorem dL_mesh_294 : decode cL_mesh 294 = .ok (.iconst 0, 1) := by decide +kernel
theorem dL_mesh_295 : decode cL_mesh 295 = .ok (.iconst 1, 1) := by decide +kernel
theorem dL_mesh_296 : decode cL_mesh 296 = .ok (.iconst 0, 1) := by decide +kernel
theorem dL_mesh_297 : decode cL_mesh 297 = .ok (.invokevirtual 59, 3) := by decide +kernel
theorem dL_mesh_300 : decode cL_mesh 300 = .ok (.iconst 1, 1) := by decide +kernel
theorem dL_mesh_301 : decode cL_mesh 301 = .ok (.if_icmp .ne 83, 3) := by decide +kernel
theorem dL_mesh_304 : decode cL_mesh 304 = .ok (.aload_n 0, 1) := by decide +kernel
theorem dL_mesh_305 : decode cL_mesh 305 = .ok (.iconst 0, 1) := by decide +kernel
theorem dL_mesh_306 : decode cL_mesh 306 = .ok (.iconst 1, 1) := by decide +kernel
theorem dL_mesh_307 : decode cL_mesh 307 = .ok (.iconst 1, 1) := by decide +kernel
theorem dL_mesh_308 : decode cL_mesh 308 = .ok (.invokevirtual 59, 3) := by decide +kernel
theorem dL_mesh_311 : decode cL_mesh 311 = .ok (.iconst 3, 1) := by decide +kernel
theorem dL_mesh_312 : decode cL_mesh 312 = .ok (.if_icmp .ne 72, 3) := by decide +kernel
theorem dL_mesh_315 : decode cL_mesh 315 = .ok (.aload_n 0, 1) := by decide +kernel
theorem dL_mesh_316 : decode cL_mesh 316 = .ok (.iconst 0, 1) := by decide +kernel
theorem dL_mesh_317 : decode cL_mesh 317 = .ok (.iconst 1, 1) := by decide +kernel
theorem dL_mesh_318 : decode cL_mesh 318 = .ok (.iconst 1, 1) := by decide +kernel
theorem dL_mesh_319 : decode cL_mesh 319 = .ok (.iconst 3, 1) := by decide +kernel
theorem dL_mesh_320 : decode cL_mesh 320 = .ok (.iconst 1, 1) := by decide +kernel
theorem dL_mesh_321 : decode cL_mesh 321 = .ok (.invokevirtual 52, 3) := by decide +kernel
theorem dL_mesh_324 : decode cL_mesh 324 = .ok (.bipush 101, 2) := by decide +kernel
theorem dL_mesh_326 : decode cL_mesh 326 = .ok (.if_icmp .ne 58, 3) := by decide +kernel
theorem dL_mesh_329 : decode cL_mesh 329 = .ok (.aload_n 0, 1) := by decide +kernel
theorem dL_mesh_330 : decode cL_mesh 330 = .ok (.iconst 0, 1) := by decide +kernel
theorem dL_mesh_331 : decode cL_mesh 331 = .ok (.iconst 1, 1) := by decide +kernel
theorem dL_mesh_332 : decode cL_mesh 332 = .ok (.iconst 1, 1) := by decide +kernel
theorem dL_mesh_333 : decode cL_mesh 333 = .ok (.iconst 3, 1) := by decide +kernel
theorem dL_mesh_334 : decode cL_mesh 334 = .ok (.iconst 2, 1) := by decide +kernel
theorem dL_mesh_335 : decode cL_mesh 335 = .ok (.invokevirtual 52, 3) := by decide +kernel
theorem dL_mesh_338 : decode cL_mesh 338 = .ok (.bipush 105, 2) := by decide +kernel
theorem dL_mesh_340 : decode cL_mesh 340 = .ok (.if_icmp .ne 44, 3) := by decide +kernel
theorem dL_mesh_343 : decode cL_mesh 343 = .ok (.aload_n 0, 1) := by decide +kernel
theorem dL_mesh_344 : decode cL_mesh 344 = .ok (.iconst 0, 1) := by decide +kernel
theorem dL_mesh_345 : decode cL_mesh 345 = .ok (.iconst 1, 1) := by decide +kernel
theorem dL_mesh_346 : decode cL_mesh 346 = .ok (.iconst 0, 1) := by decide +kernel
theorem dL_mesh_347 : decode cL_mesh 347 = .ok (.invokevirtual 62, 3) := by decide +kernel
theorem dL_mesh_350 : decode cL_mesh 350 = .ok (.ifCond .ne 34, 3) := by decide +kernel
theorem dL_mesh_353 : decode cL_mesh 353 = .ok (.aload_n 0, 1) := by decide +kernel
theorem dL_mesh_354 : decode cL_mesh 354 = .ok (.iconst 0, 1) := by decide +kernel
theorem dL_mesh_355 : decode cL_mesh 355 = .ok (.iconst 1, 1) := by decide +kernel
theorem dL_mesh_356 : decode cL_mesh 356 = .ok (.iconst 1, 1) := by decide +kernel
theorem dL_mesh_357 : decode cL_mesh 357 = .ok (.invokevirtual 62, 3) := by decide +kernel
theorem dL_mesh_360 : decode cL_mesh 360 = .ok (.iconst 1, 1) := by decide +kernel
theorem dL_mesh_361 : decode cL_mesh 361 = .ok (.if_icmp .ne 23, 3) := by decide +kernel
theorem dL_mesh_364 : decode cL_mesh 364 = .ok (.aload_n 0, 1) := by decide +kernel
theorem dL_mesh_365 : decode cL_mesh 365 = .ok (.iconst 0, 1) := by decide +kernel
theorem dL_mesh_366 : decode cL_mesh 366 = .ok (.iconst 1, 1) := by decide +kernel
theorem dL_mesh_367 : decode cL_mesh 367 = .ok (.iconst 0, 1) := by decide +kernel
theorem dL_mesh_368 : decode cL_mesh 368 = .ok (.iconst 1, 1) := by decide +kernel
theorem dL_mesh_369 : decode cL_mesh 369 = .ok (.invokevirtual 65, 3) := by decide +kernel
theorem dL_mesh_372 : decode cL_mesh 372 = .ok (.bipush 6, 2) := by decide +kernel
theorem dL_mesh_374 : decode cL_mesh 374 = .ok (.if_icmp .ne 10, 3) := by decide +kernel
theorem dL_mesh_377 : decode cL_mesh 377 = .ok (.aload_n 0, 1) := by decide +kernel
theorem dL_mesh_378 : decode cL_mesh 378 = .ok (.invokestatic 97, 3) := by decide +kernel
theorem dL_mesh_381 : decode cL_mesh 381 = .ok (.ifCond .ne 5, 3) := by decide +kernel
theorem dL_mesh_384 : decode cL_mesh 384 = .ok (.iconst 0, 1) := by decide +kernel
theorem dL_mesh_385 : decode cL_mesh 385 = .ok (.ireturn, 1) := by decide +kernel
theorem dL_mesh_386 : decode cL_mesh 386 = .ok (.aload_n 0, 1) := by decide +kernel
theorem dL_mesh_387 : decode cL_mesh 387 = .ok (.iconst 0, 1) := by decide +kernel
theorem dL_mesh_388 : decode cL_mesh 388 = .ok (.iconst 3, 1) := by decide +kernel
theorem dL_mesh_389 : decode cL_mesh 389 = .ok (.invokevirtual 26, 3) := by decide +kernel
theorem dL_mesh_392 : decode cL_mesh 392 = .ok (.bipush 6, 2) := by decide +kernel
theorem dL_mesh_394 : decode cL_mesh 394 = .ok (.if_icmp .ne 324, 3) := by decide +kernel
theorem dL_mesh_397 : decode cL_mesh 397 = .ok (.aload_n 0, 1) := by decide +kernel
theorem dL_mesh_398 : decode cL_mesh 398 = .ok (.iconst 0, 1) := by decide +kernel
theorem dL_mesh_399 : decode cL_mesh 399 = .ok (.iconst 1, 1) := by decide +kernel
theorem dL_mesh_400 : decode cL_mesh 400 = .ok (.iconst 1, 1) := by decide +kernel
theorem dL_mesh_401 : decode cL_mesh 401 = .ok (.invokevirtual 59, 3) := by decide +kernel
theorem dL_mesh_404 : decode cL_mesh 404 = .ok (.bipush (-6), 2) := by decide +kernel
theorem dL_mesh_406 : decode cL_mesh 406 = .ok (.if_icmp .ne 312, 3) := by decide +kernel
theorem dL_mesh_409 : decode cL_mesh 409 = .ok (.aload_n 0, 1) := by decide +kernel
theorem dL_mesh_410 : decode cL_mesh 410 = .ok (.iconst 0, 1) := by decide +kernel
theorem dL_mesh_411 : decode cL_mesh 411 = .ok (.iconst 1, 1) := by decide +kernel
theorem dL_mesh_412 : decode cL_mesh 412 = .ok (.iconst 1, 1) := by decide +kernel
theorem dL_mesh_413 : decode cL_mesh 413 = .ok (.iconst 3, 1) := by decide +kernel
theorem dL_mesh_414 : decode cL_mesh 414 = .ok (.iconst 0, 1) := by decide +kernel
theorem dL_mesh_415 : decode cL_mesh 415 = .ok (.invokevirtual 56, 3) := by decide +kernel
theorem dL_mesh_418 : decode cL_mesh 418 = .ok (.iconst 2, 1) := by decide +kernel
theorem dL_mesh_419 : decode cL_mesh 419 = .ok (.if_icmp .ne 299, 3) := by decide +kernel
theorem dL_mesh_422 : decode cL_mesh 422 = .ok (.aload_n 0, 1) := by decide +kernel
theorem dL_mesh_423 : decode cL_mesh 423 = .ok (.iconst 0, 1) := by decide +kernel
theorem dL_mesh_424 : decode cL_mesh 424 = .ok (.iconst 1, 1) := by decide +kernel
theorem dL_mesh_425 : decode cL_mesh 425 = .ok (.iconst 1, 1) := by decide +kernel
theorem dL_mesh_426 : decode cL_mesh 426 = .ok (.iconst 3, 1) := by decide +kernel
theorem dL_mesh_427 : decode cL_mesh 427 = .ok (.iconst 1, 1) := by decide +kernel
theorem dL_mesh_428 : decode cL_mesh 428 = .ok (.invokevirtual 56, 3) := by decide +kernel
theorem dL_mesh_431 : decode cL_mesh 431 = .ok (.ifCond .ne 287, 3) := by decide +kernel
theorem dL_mesh_434 : decode cL_mesh 434 = .ok (.aload_n 0, 1) := by decide +kernel
theorem dL_mesh_435 : decode cL_mesh 435 = .ok (.iconst 0, 1) := by decide +kernel
theorem dL_mesh_436 : decode cL_mesh 436 = .ok (.iconst 1, 1) := by decide +kernel
theorem dL_mesh_437 : decode cL_mesh 437 = .ok (.iconst 1, 1) := by decide +kernel
theorem dL_mesh_438 : decode cL_mesh 438 = .ok (.iconst 2, 1) := by decide +kernel
theorem dL_mesh_439 : decode cL_mesh 439 = .ok (.iconst 0, 1) := by decide +kernel
theorem dL_mesh_440 : decode cL_mesh 440 = .ok (.invokevirtual 56, 3) := by decide +kernel
theorem dL_mesh_443 : decode cL_mesh 443 = .ok (.iconst 1, 1) := by decide +kernel
theorem dL_mesh_444 : decode cL_mesh 444 = .ok (.if_icmp .ne 274, 3) := by decide +kernel
theorem dL_mesh_447 : decode cL_mesh 447 = .ok (.aload_n 0, 1) := by decide +kernel
theorem dL_mesh_448 : decode cL_mesh 448 = .ok (.iconst 0, 1) := by decide +kernel
theorem dL_mesh_449 : decode cL_mesh 449 = .ok (.iconst 1, 1) := by decide +kernel
theorem dL_mesh_450 : decode cL_mesh 450 = .ok (.iconst 1, 1) := by decide +kernel
theorem dL_mesh_451 : decode cL_mesh 451 = .ok (.iconst 3, 1) := by decide +kernel
theorem dL_mesh_452 : decode cL_mesh 452 = .ok (.invokevirtual 65, 3) := by decide +kernel
theorem dL_mesh_455 : decode cL_mesh 455 = .ok (.bipush (-6), 2) := by decide +kernel
theorem dL_mesh_457 : decode cL_mesh 457 = .ok (.if_icmp .ne 261, 3) := by decide +kernel
theorem dL_mesh_460 : decode cL_mesh 460 = .ok (.aload_n 0, 1) := by decide +kernel
theorem dL_mesh_461 : decode cL_mesh 461 = .ok (.iconst 0, 1) := by decide +kernel
theorem dL_mesh_462 : decode cL_mesh 462 = .ok (.iconst 1, 1) := by decide +kernel
theorem dL_mesh_463 : decode cL_mesh 463 = .ok (.iconst 1, 1) := by decide +kernel
theorem dL_mesh_464 : decode cL_mesh 464 = .ok (.iconst 3, 1) := by decide +kernel
theorem dL_mesh_465 : decode cL_mesh 465 = .ok (.iconst 1, 1) := by decide +kernel
theorem dL_mesh_466 : decode cL_mesh 466 = .ok (.iconst 1, 1) := by decide +kernel
theorem dL_mesh_467 : decode cL_mesh 467 = .ok (.invokevirtual 48, 3) := by decide +kernel
theorem dL_mesh_470 : decode cL_mesh 470 = .ok (.bipush (-5), 2) := by decide +kernel
theorem dL_mesh_472 : decode cL_mesh 472 = .ok (.if_icmp .ne 246, 3) := by decide +kernel
theorem dL_mesh_475 : decode cL_mesh 475 = .ok (.aload_n 0, 1) := by decide +kernel
theorem dL_mesh_476 : decode cL_mesh 476 = .ok (.iconst 0, 1) := by decide +kernel
theorem dL_mesh_477 : decode cL_mesh 477 = .ok (.iconst 1, 1) := by decide +kernel
theorem dL_mesh_478 : decode cL_mesh 478 = .ok (.iconst 0, 1) := by decide +kernel
theorem dL_mesh_479 : decode cL_mesh 479 = .ok (.iconst 1, 1) := by decide +kernel
theorem dL_mesh_480 : decode cL_mesh 480 = .ok (.iconst 3, 1) := by decide +kernel
theorem dL_mesh_481 : decode cL_mesh 481 = .ok (.iconst 4, 1) := by decide +kernel
theorem dL_mesh_482 : decode cL_mesh 482 = .ok (.invokevirtual 48, 3) := by decide +kernel
theorem dL_mesh_485 : decode cL_mesh 485 = .ok (.ifCond .ne 233, 3) := by decide +kernel
theorem dL_mesh_488 : decode cL_mesh 488 = .ok (.aload_n 0, 1) := by decide +kernel
theorem dL_mesh_489 : decode cL_mesh 489 = .ok (.iconst 3, 1) := by decide +kernel
theorem dL_mesh_490 : decode cL_mesh 490 = .ok (.invokevirtual 13, 3) := by decide +kernel
theorem dL_mesh_493 : decode cL_mesh 493 = .ok (.iconst 3, 1) := by decide +kernel
theorem dL_mesh_494 : decode cL_mesh 494 = .ok (.if_icmp .ne 224, 3) := by decide +kernel
theorem dL_mesh_497 : decode cL_mesh 497 = .ok (.aload_n 0, 1) := by decide +kernel
theorem dL_mesh_498 : decode cL_mesh 498 = .ok (.iconst 5, 1) := by decide +kernel
theorem dL_mesh_499 : decode cL_mesh 499 = .ok (.invokevirtual 13, 3) := by decide +kernel
theorem dL_mesh_502 : decode cL_mesh 502 = .ok (.bipush 12, 2) := by decide +kernel
theorem dL_mesh_504 : decode cL_mesh 504 = .ok (.if_icmp .ne 214, 3) := by decide +kernel
theorem dL_mesh_507 : decode cL_mesh 507 = .ok (.aload_n 0, 1) := by decide +kernel
theorem dL_mesh_508 : decode cL_mesh 508 = .ok (.iconst 0, 1) := by decide +kernel
theorem dL_mesh_509 : decode cL_mesh 509 = .ok (.iconst 5, 1) := by decide +kernel
theorem dL_mesh_510 : decode cL_mesh 510 = .ok (.invokevirtual 19, 3) := by decide +kernel
theorem dL_mesh_513 : decode cL_mesh 513 = .ok (.bipush 12, 2) := by decide +kernel
theorem dL_mesh_515 : decode cL_mesh 515 = .ok (.if_icmp .ne 203, 3) := by decide +kernel
theorem dL_mesh_518 : decode cL_mesh 518 = .ok (.aload_n 0, 1) := by decide +kernel
theorem dL_mesh_519 : decode cL_mesh 519 = .ok (.iconst 1, 1) := by decide +kernel
theorem dL_mesh_520 : decode cL_mesh 520 = .ok (.iconst 5, 1) := by decide +kernel
theorem dL_mesh_521 : decode cL_mesh 521 = .ok (.invokevirtual 19, 3) := by decide +kernel
theorem dL_mesh_524 : decode cL_mesh 524 = .ok (.bipush 12, 2) := by decide +kernel
theorem dL_mesh_526 : decode cL_mesh 526 = .ok (.if_icmp .ne 192, 3) := by decide +kernel
theorem dL_mesh_529 : decode cL_mesh 529 = .ok (.aload_n 0, 1) := by decide +kernel
theorem dL_mesh_530 : decode cL_mesh 530 = .ok (.bipush 7, 2) := by decide +kernel
theorem dL_mesh_532 : decode cL_mesh 532 = .ok (.iconst 5, 1) := by decide +kernel
theorem dL_mesh_533 : decode cL_mesh 533 = .ok (.invokevirtual 41, 3) := by decide +kernel
theorem dL_mesh_536 : decode cL_mesh 536 = .ok (.iconst 5, 1) := by decide +kernel
theorem dL_mesh_537 : decode cL_mesh 537 = .ok (.if_icmp .ne 181, 3) := by decide +kernel
theorem dL_mesh_540 : decode cL_mesh 540 = .ok (.aload_n 0, 1) := by decide +kernel
theorem dL_mesh_541 : decode cL_mesh 541 = .ok (.iconst 0, 1) := by decide +kernel
theorem dL_mesh_542 : decode cL_mesh 542 = .ok (.iconst 1, 1) := by decide +kernel
theorem dL_mesh_543 : decode cL_mesh 543 = .ok (.iconst 0, 1) := by decide +kernel
theorem dL_mesh_544 : decode cL_mesh 544 = .ok (.iconst 1, 1) := by decide +kernel
theorem dL_mesh_545 : decode cL_mesh 545 = .ok (.iconst 5, 1) := by decide +kernel
theorem dL_mesh_546 : decode cL_mesh 546 = .ok (.iconst 4, 1) := by decide +kernel
theorem dL_mesh_547 : decode cL_mesh 547 = .ok (.invokevirtual 48, 3) := by decide +kernel
theorem dL_mesh_550 : decode cL_mesh 550 = .ok (.iconst 5, 1) := by decide +kernel
theorem dL_mesh_551 : decode cL_mesh 551 = .ok (.if_icmp .ne 167, 3) := by decide +kernel
theorem dL_mesh_554 : decode cL_mesh 554 = .ok (.aload_n 0, 1) := by decide +kernel
theorem dL_mesh_555 : decode cL_mesh 555 = .ok (.iconst 4, 1) := by decide +kernel
theorem dL_mesh_556 : decode cL_mesh 556 = .ok (.invokevirtual 13, 3) := by decide +kernel
theorem dL_mesh_559 : decode cL_mesh 559 = .ok (.iconst 5, 1) := by decide +kernel
theorem dL_mesh_560 : decode cL_mesh 560 = .ok (.if_icmp .ne 158, 3) := by decide +kernel
theorem dL_mesh_563 : decode cL_mesh 563 = .ok (.aload_n 0, 1) := by decide +kernel
theorem dL_mesh_564 : decode cL_mesh 564 = .ok (.iconst 5, 1) := by decide +kernel
theorem dL_mesh_565 : decode cL_mesh 565 = .ok (.invokevirtual 13, 3) := by decide +kernel
theorem dL_mesh_568 : decode cL_mesh 568 = .ok (.bipush 17, 2) := by decide +kernel
theorem dL_mesh_570 : decode cL_mesh 570 = .ok (.if_icmp .ne 148, 3) := by decide +kernel
theorem dL_mesh_573 : decode cL_mesh 573 = .ok (.aload_n 0, 1) := by decide +kernel
theorem dL_mesh_574 : decode cL_mesh 574 = .ok (.iconst 0, 1) := by decide +kernel
theorem dL_mesh_575 : decode cL_mesh 575 = .ok (.iconst 5, 1) := by decide +kernel
theorem dL_mesh_576 : decode cL_mesh 576 = .ok (.invokevirtual 19, 3) := by decide +kernel
theorem dL_mesh_579 : decode cL_mesh 579 = .ok (.bipush 17, 2) := by decide +kernel
theorem dL_mesh_581 : decode cL_mesh 581 = .ok (.if_icmp .ne 137, 3) := by decide +kernel
theorem dL_mesh_584 : decode cL_mesh 584 = .ok (.aload_n 0, 1) := by decide +kernel
theorem dL_mesh_585 : decode cL_mesh 585 = .ok (.iconst 5, 1) := by decide +kernel
theorem dL_mesh_586 : decode cL_mesh 586 = .ok (.iconst 5, 1) := by decide +kernel
theorem dL_mesh_587 : decode cL_mesh 587 = .ok (.invokevirtual 41, 3) := by decide +kernel
theorem dL_mesh_590 : decode cL_mesh 590 = .ok (.bipush 7, 2) := by decide +kernel
theorem dL_mesh_592 : decode cL_mesh 592 = .ok (.if_icmp .ne 126, 3) := by decide +kernel
theorem dL_mesh_595 : decode cL_mesh 595 = .ok (.aload_n 0, 1) := by decide +kernel
theorem dL_mesh_596 : decode cL_mesh 596 = .ok (.iconst 2, 1) := by decide +kernel
theorem dL_mesh_597 : decode cL_mesh 597 = .ok (.iconst 5, 1) := by decide +kernel
theorem dL_mesh_598 : decode cL_mesh 598 = .ok (.invokevirtual 26, 3) := by decide +kernel
theorem dL_mesh_601 : decode cL_mesh 601 = .ok (.bipush 20, 2) := by decide +kernel
theorem dL_mesh_603 : decode cL_mesh 603 = .ok (.if_icmp .ne 115, 3) := by decide +kernel
theorem dL_mesh_606 : decode cL_mesh 606 = .ok (.aload_n 0, 1) := by decide +kernel
theorem dL_mesh_607 : decode cL_mesh 607 = .ok (.iconst 0, 1) := by decide +kernel
theorem dL_mesh_608 : decode cL_mesh 608 = .ok (.bipush 6, 2) := by decide +kernel
theorem dL_mesh_610 : decode cL_mesh 610 = .ok (.invokevirtual 19, 3) := by decide +kernel
theorem dL_mesh_613 : decode cL_mesh 613 = .ok (.ifCond .ne 105, 3) := by decide +kernel
theorem dL_mesh_616 : decode cL_mesh 616 = .ok (.aload_n 0, 1) := by decide +kernel
theorem dL_mesh_617 : decode cL_mesh 617 = .ok (.iconst 0, 1) := by decide +kernel
theorem dL_mesh_618 : decode cL_mesh 618 = .ok (.iconst 1, 1) := by decide +kernel
theorem dL_mesh_619 : decode cL_mesh 619 = .ok (.iconst 0, 1) := by decide +kernel
theorem dL_mesh_620 : decode cL_mesh 620 = .ok (.iconst 1, 1) := by decide +kernel
theorem dL_mesh_621 : decode cL_mesh 621 = .ok (.iconst 1, 1) := by decide +kernel
theorem dL_mesh_622 : decode cL_mesh 622 = .ok (.iconst 3, 1) := by decide +kernel
theorem dL_mesh_623 : decode cL_mesh 623 = .ok (.invokevirtual 48, 3) := by decide +kernel
theorem dL_mesh_626 : decode cL_mesh 626 = .ok (.ifCond .ne 92, 3) := by decide +kernel
theorem dL_mesh_629 : decode cL_mesh 629 = .ok (.aload_n 0, 1) := by decide +kernel
theorem dL_mesh_630 : decode cL_mesh 630 = .ok (.iconst 0, 1) := by decide +kernel
theorem dL_mesh_631 : decode cL_mesh 631 = .ok (.iconst 5, 1) := by decide +kernel
theorem dL_mesh_632 : decode cL_mesh 632 = .ok (.invokevirtual 19, 3) := by decide +kernel
theorem dL_mesh_635 : decode cL_mesh 635 = .ok (.ifCond .ne 83, 3) := by decide +kernel
theorem dL_mesh_638 : decode cL_mesh 638 = .ok (.aload_n 0, 1) := by decide +kernel
theorem dL_mesh_639 : decode cL_mesh 639 = .ok (.iconst 0, 1) := by decide +kernel
theorem dL_mesh_640 : decode cL_mesh 640 = .ok (.bipush 6, 2) := by decide +kernel
theorem dL_mesh_642 : decode cL_mesh 642 = .ok (.invokevirtual 19, 3) := by decide +kernel
theorem dL_mesh_645 : decode cL_mesh 645 = .ok (.iconst 1, 1) := by decide +kernel
theorem dL_mesh_646 : decode cL_mesh 646 = .ok (.if_icmp .ne 72, 3) := by decide +kernel
theorem dL_mesh_649 : decode cL_mesh 649 = .ok (.aload_n 0, 1) := by decide +kernel
theorem dL_mesh_650 : decode cL_mesh 650 = .ok (.iconst 1, 1) := by decide +kernel
theorem dL_mesh_651 : decode cL_mesh 651 = .ok (.bipush 6, 2) := by decide +kernel
theorem dL_mesh_653 : decode cL_mesh 653 = .ok (.invokevirtual 19, 3) := by decide +kernel
theorem dL_mesh_656 : decode cL_mesh 656 = .ok (.iconst 1, 1) := by decide +kernel
theorem dL_mesh_657 : decode cL_mesh 657 = .ok (.if_icmp .ne 61, 3) := by decide +kernel
theorem dL_mesh_660 : decode cL_mesh 660 = .ok (.aload_n 0, 1) := by decide +kernel
theorem dL_mesh_661 : decode cL_mesh 661 = .ok (.iconst 0, 1) := by decide +kernel
theorem dL_mesh_662 : decode cL_mesh 662 = .ok (.iconst 0, 1) := by decide +kernel
theorem dL_mesh_663 : decode cL_mesh 663 = .ok (.invokevirtual 23, 3) := by decide +kernel
theorem dL_mesh_666 : decode cL_mesh 666 = .ok (.bipush 10, 2) := by decide +kernel
theorem dL_mesh_668 : decode cL_mesh 668 = .ok (.if_icmp .ne 50, 3) := by decide +kernel
theorem dL_mesh_671 : decode cL_mesh 671 = .ok (.aload_n 0, 1) := by decide +kernel
theorem dL_mesh_672 : decode cL_mesh 672 = .ok (.iconst 0, 1) := by decide +kernel
theorem dL_mesh_673 : decode cL_mesh 673 = .ok (.iconst 2, 1) := by decide +kernel
theorem dL_mesh_674 : decode cL_mesh 674 = .ok (.invokevirtual 23, 3) := by decide +kernel
theorem dL_mesh_677 : decode cL_mesh 677 = .ok (.bipush 8, 2) := by decide +kernel
theorem dL_mesh_679 : decode cL_mesh 679 = .ok (.if_icmp .ne 39, 3) := by decide +kernel
theorem dL_mesh_682 : decode cL_mesh 682 = .ok (.aload_n 0, 1) := by decide +kernel
theorem dL_mesh_683 : decode cL_mesh 683 = .ok (.iconst 1, 1) := by decide +kernel
theorem dL_mesh_684 : decode cL_mesh 684 = .ok (.iconst 2, 1) := by decide +kernel
theorem dL_mesh_685 : decode cL_mesh 685 = .ok (.invokevirtual 23, 3) := by decide +kernel
theorem dL_mesh_688 : decode cL_mesh 688 = .ok (.bipush 9, 2) := by decide +kernel
theorem dL_mesh_690 : decode cL_mesh 690 = .ok (.if_icmp .ne 28, 3) := by decide +kernel
theorem dL_mesh_693 : decode cL_mesh 693 = .ok (.aload_n 0, 1) := by decide +kernel
theorem dL_mesh_694 : decode cL_mesh 694 = .ok (.iconst 1, 1) := by decide +kernel
theorem dL_mesh_695 : decode cL_mesh 695 = .ok (.iconst 0, 1) := by decide +kernel
theorem dL_mesh_696 : decode cL_mesh 696 = .ok (.invokevirtual 23, 3) := by decide +kernel
theorem dL_mesh_699 : decode cL_mesh 699 = .ok (.bipush 7, 2) := by decide +kernel
theorem dL_mesh_701 : decode cL_mesh 701 = .ok (.if_icmp .ne 17, 3) := by decide +kernel
theorem dL_mesh_704 : decode cL_mesh 704 = .ok (.aload_n 0, 1) := by decide +kernel
theorem dL_mesh_705 : decode cL_mesh 705 = .ok (.iconst 0, 1) := by decide +kernel
theorem dL_mesh_706 : decode cL_mesh 706 = .ok (.iconst 1, 1) := by decide +kernel
theorem dL_mesh_707 : decode cL_mesh 707 = .ok (.iconst 0, 1) := by decide +kernel
theorem dL_mesh_708 : decode cL_mesh 708 = .ok (.iconst 1, 1) := by decide +kernel
theorem dL_mesh_709 : decode cL_mesh 709 = .ok (.iconst 2, 1) := by decide +kernel
theorem dL_mesh_710 : decode cL_mesh 710 = .ok (.invokevirtual 52, 3) := by decide +kernel
theorem dL_mesh_713 : decode cL_mesh 713 = .ok (.bipush 102, 2) := by decide +kernel
theorem dL_mesh_715 : decode cL_mesh 715 = .ok (.if_icmp .eq 5, 3) := by decide +kernel
theorem dL_mesh_718 : decode cL_mesh 718 = .ok (.iconst 0, 1) := by decide +kernel
theorem dL_mesh_719 : decode cL_mesh 719 = .ok (.ireturn, 1) := by decide +kernel
theorem dL_mesh_720 : decode cL_mesh 720 = .ok (.aload_n 0, 1) := by decide +kernel
theorem dL_mesh_721 : decode cL_mesh 721 = .ok (.iconst 1, 1) := by decide +kernel
theorem dL_mesh_722 : decode cL_mesh 722 = .ok (.iconst 0, 1) := by decide +kernel
theorem dL_mesh_723 : decode cL_mesh 723 = .ok (.invokevirtual 26, 3) := by decide +kernel
theorem dL_mesh_726 : decode cL_mesh 726 = .ok (.iconst 4, 1) := by decide +kernel
theorem dL_mesh_727 : decode cL_mesh 727 = .ok (.if_icmp .ne 182, 3) := by decide +kernel
theorem dL_mesh_730 : decode cL_mesh 730 = .ok (.aload_n 0, 1) := by decide +kernel
theorem dL_mesh_731 : decode cL_mesh 731 = .ok (.iconst 5, 1) := by decide +kernel
theorem dL_mesh_732 : decode cL_mesh 732 = .ok (.bipush 9, 2) := by decide +kernel
theorem dL_mesh_734 : decode cL_mesh 734 = .ok (.invokevirtual 41, 3) := by decide +kernel
theorem dL_mesh_737 : decode cL_mesh 737 = .ok (.iconst 5, 1) := by decide +kernel
theorem dL_mesh_738 : decode cL_mesh 738 = .ok (.if_icmp .ne 171, 3) := by decide +kernel
theorem dL_mesh_741 : decode cL_mesh 741 = .ok (.aload_n 0, 1) := by decide +kernel
theorem dL_mesh_742 : decode cL_mesh 742 = .ok (.iconst 0, 1) := by decide +kernel
theorem dL_mesh_743 : decode cL_mesh 743 = .ok (.iconst 1, 1) := by decide +kernel
theorem dL_mesh_744 : decode cL_mesh 744 = .ok (.iconst 0, 1) := by decide +kernel
theorem dL_mesh_745 : decode cL_mesh 745 = .ok (.iconst 1, 1) := by decide +kernel
theorem dL_mesh_746 : decode cL_mesh 746 = .ok (.iconst 2, 1) := by decide +kernel
theorem dL_mesh_747 : decode cL_mesh 747 = .ok (.iconst 4, 1) := by decide +kernel
theorem dL_mesh_748 : decode cL_mesh 748 = .ok (.invokevirtual 48, 3) := by decide +kernel
theorem dL_mesh_751 : decode cL_mesh 751 = .ok (.iconst 2, 1) := by decide +kernel
theorem dL_mesh_752 : decode cL_mesh 752 = .ok (.if_icmp .ne 157, 3) := by decide +kernel
theorem dL_mesh_755 : decode cL_mesh 755 = .ok (.aload_n 0, 1) := by decide +kernel
theorem dL_mesh_756 : decode cL_mesh 756 = .ok (.iconst 3, 1) := by decide +kernel
theorem dL_mesh_757 : decode cL_mesh 757 = .ok (.invokevirtual 13, 3) := by decide +kernel
theorem dL_mesh_760 : decode cL_mesh 760 = .ok (.bipush 11, 2) := by decide +kernel
theorem dL_mesh_762 : decode cL_mesh 762 = .ok (.if_icmp .ne 147, 3) := by decide +kernel
theorem dL_mesh_765 : decode cL_mesh 765 = .ok (.aload_n 0, 1) := by decide +kernel
theorem dL_mesh_766 : decode cL_mesh 766 = .ok (.iconst 4, 1) := by decide +kernel
theorem dL_mesh_767 : decode cL_mesh 767 = .ok (.invokevirtual 13, 3) := by decide +kernel
theorem dL_mesh_770 : decode cL_mesh 770 = .ok (.bipush 7, 2) := by decide +kernel
theorem dL_mesh_772 : decode cL_mesh 772 = .ok (.if_icmp .ne 137, 3) := by decide +kernel
theorem dL_mesh_775 : decode cL_mesh 775 = .ok (.aload_n 0, 1) := by decide +kernel
theorem dL_mesh_776 : decode cL_mesh 776 = .ok (.iconst 5, 1) := by decide +kernel
theorem dL_mesh_777 : decode cL_mesh 777 = .ok (.invokevirtual 13, 3) := by decide +kernel
theorem dL_mesh_780 : decode cL_mesh 780 = .ok (.bipush 24, 2) := by decide +kernel
theorem dL_mesh_782 : decode cL_mesh 782 = .ok (.if_icmp .ne 127, 3) := by decide +kernel
theorem dL_mesh_785 : decode cL_mesh 785 = .ok (.aload_n 0, 1) := by decide +kernel
theorem dL_mesh_786 : decode cL_mesh 786 = .ok (.iconst 1, 1) := by decide +kernel
theorem dL_mesh_787 : decode cL_mesh 787 = .ok (.iconst 5, 1) := by decide +kernel
theorem dL_mesh_788 : decode cL_mesh 788 = .ok (.invokevirtual 19, 3) := by decide +kernel
theorem dL_mesh_791 : decode cL_mesh 791 = .ok (.iconst 4, 1) := by decide +kernel
theorem dL_mesh_792 : decode cL_mesh 792 = .ok (.if_icmp .ne 117, 3) := by decide +kernel
theorem dL_mesh_795 : decode cL_mesh 795 = .ok (.aload_n 0, 1) := by decide +kernel
theorem dL_mesh_796 : decode cL_mesh 796 = .ok (.iconst 0, 1) := by decide +kernel
theorem dL_mesh_797 : decode cL_mesh 797 = .ok (.iconst 1, 1) := by decide +kernel
theorem dL_mesh_798 : decode cL_mesh 798 = .ok (.iconst 0, 1) := by decide +kernel
theorem dL_mesh_799 : decode cL_mesh 799 = .ok (.iconst 1, 1) := by decide +kernel
theorem dL_mesh_800 : decode cL_mesh 800 = .ok (.invokevirtual 65, 3) := by decide +kernel
theorem dL_mesh_803 : decode cL_mesh 803 = .ok (.iconst 1, 1) := by decide +kernel
theorem dL_mesh_804 : decode cL_mesh 804 = .ok (.if_icmp .ne 105, 3) := by decide +kernel
theorem dL_mesh_807 : decode cL_mesh 807 = .ok (.aload_n 0, 1) := by decide +kernel
theorem dL_mesh_808 : decode cL_mesh 808 = .ok (.bipush 6, 2) := by decide +kernel
theorem dL_mesh_810 : decode cL_mesh 810 = .ok (.bipush 9, 2) := by decide +kernel
theorem dL_mesh_812 : decode cL_mesh 812 = .ok (.invokevirtual 31, 3) := by decide +kernel
theorem dL_mesh_815 : decode cL_mesh 815 = .ok (.iconst 2, 1) := by decide +kernel
theorem dL_mesh_816 : decode cL_mesh 816 = .ok (.if_icmp .ne 93, 3) := by decide +kernel
theorem dL_mesh_819 : decode cL_mesh 819 = .ok (.aload_n 0, 1) := by decide +kernel
theorem dL_mesh_820 : decode cL_mesh 820 = .ok (.iconst 0, 1) := by decide +kernel
theorem dL_mesh_821 : decode cL_mesh 821 = .ok (.iconst 2, 1) := by decide +kernel
theorem dL_mesh_822 : decode cL_mesh 822 = .ok (.iconst 5, 1) := by decide +kernel
theorem dL_mesh_823 : decode cL_mesh 823 = .ok (.bipush 30, 2) := by decide +kernel
theorem dL_mesh_825 : decode cL_mesh 825 = .ok (.iconst 0, 1) := by decide +kernel
theorem dL_mesh_826 : decode cL_mesh 826 = .ok (.invokevirtual 52, 3) := by decide +kernel
theorem dL_mesh_829 : decode cL_mesh 829 = .ok (.bipush 12, 2) := by decide +kernel
theorem dL_mesh_831 : decode cL_mesh 831 = .ok (.if_icmp .ne 78, 3) := by decide +kernel
theorem dL_mesh_834 : decode cL_mesh 834 = .ok (.aload_n 0, 1) := by decide +kernel
theorem dL_mesh_835 : decode cL_mesh 835 = .ok (.iconst 2, 1) := by decide +kernel
theorem dL_mesh_836 : decode cL_mesh 836 = .ok (.iconst 1, 1) := by decide +kernel
theorem dL_mesh_837 : decode cL_mesh 837 = .ok (.iconst 3, 1) := by decide +kernel
theorem dL_mesh_838 : decode cL_mesh 838 = .ok (.invokevirtual 59, 3) := by decide +kernel
theorem dL_mesh_841 : decode cL_mesh 841 = .ok (.bipush 10, 2) := by decide +kernel
theorem dL_mesh_843 : decode cL_mesh 843 = .ok (.if_icmp .ne 66, 3) := by decide +kernel
theorem dL_mesh_846 : decode cL_mesh 846 = .ok (.aload_n 0, 1) := by decide +kernel
theorem dL_mesh_847 : decode cL_mesh 847 = .ok (.iconst 0, 1) := by decide +kernel
theorem dL_mesh_848 : decode cL_mesh 848 = .ok (.iconst 2, 1) := by decide +kernel
theorem dL_mesh_849 : decode cL_mesh 849 = .ok (.iconst 0, 1) := by decide +kernel
theorem dL_mesh_850 : decode cL_mesh 850 = .ok (.invokevirtual 59, 3) := by decide +kernel
theorem dL_mesh_853 : decode cL_mesh 853 = .ok (.bipush 11, 2) := by decide +kernel
theorem dL_mesh_855 : decode cL_mesh 855 = .ok (.if_icmp .ne 54, 3) := by decide +kernel
theorem dL_mesh_858 : decode cL_mesh 858 = .ok (.aload_n 0, 1) := by decide +kernel
theorem dL_mesh_859 : decode cL_mesh 859 = .ok (.iconst 0, 1) := by decide +kernel
theorem dL_mesh_860 : decode cL_mesh 860 = .ok (.invokevirtual 38, 3) := by decide +kernel
theorem dL_mesh_863 : decode cL_mesh 863 = .ok (.iconst 2, 1) := by decide +kernel
theorem dL_mesh_864 : decode cL_mesh 864 = .ok (.if_icmp .ne 45, 3) := by decide +kernel
theorem dL_mesh_867 : decode cL_mesh 867 = .ok (.aload_n 0, 1) := by decide +kernel
theorem dL_mesh_868 : decode cL_mesh 868 = .ok (.iconst 0, 1) := by decide +kernel
theorem dL_mesh_869 : decode cL_mesh 869 = .ok (.bipush 6, 2) := by decide +kernel
theorem dL_mesh_871 : decode cL_mesh 871 = .ok (.invokevirtual 19, 3) := by decide +kernel
theorem dL_mesh_874 : decode cL_mesh 874 = .ok (.iconst 1, 1) := by decide +kernel
theorem dL_mesh_875 : decode cL_mesh 875 = .ok (.if_icmp .ne 34, 3) := by decide +kernel
theorem dL_mesh_878 : decode cL_mesh 878 = .ok (.aload_n 0, 1) := by decide +kernel
theorem dL_mesh_879 : decode cL_mesh 879 = .ok (.iconst 1, 1) := by decide +kernel
theorem dL_mesh_880 : decode cL_mesh 880 = .ok (.iconst 0, 1) := by decide +kernel
theorem dL_mesh_881 : decode cL_mesh 881 = .ok (.invokevirtual 19, 3) := by decide +kernel
theorem dL_mesh_884 : decode cL_mesh 884 = .ok (.bipush 6, 2) := by decide +kernel
theorem dL_mesh_886 : decode cL_mesh 886 = .ok (.if_icmp .ne 23, 3) := by decide +kernel
theorem dL_mesh_889 : decode cL_mesh 889 = .ok (.aload_n 0, 1) := by decide +kernel
theorem dL_mesh_890 : decode cL_mesh 890 = .ok (.iconst 1, 1) := by decide +kernel
theorem dL_mesh_891 : decode cL_mesh 891 = .ok (.iconst 5, 1) := by decide +kernel
theorem dL_mesh_892 : decode cL_mesh 892 = .ok (.invokevirtual 19, 3) := by decide +kernel
theorem dL_mesh_895 : decode cL_mesh 895 = .ok (.ifCond .ne 14, 3) := by decide +kernel
theorem dL_mesh_898 : decode cL_mesh 898 = .ok (.aload_n 0, 1) := by decide +kernel
theorem dL_mesh_899 : decode cL_mesh 899 = .ok (.bipush 10, 2) := by decide +kernel
theorem dL_mesh_901 : decode cL_mesh 901 = .ok (.invokevirtual 13, 3) := by decide +kernel
theorem dL_mesh_904 : decode cL_mesh 904 = .ok (.bipush 6, 2) := by decide +kernel
theorem dL_mesh_906 : decode cL_mesh 906 = .ok (.if_icmp .eq 5, 3) := by decide +kernel
theorem dL_mesh_909 : decode cL_mesh 909 = .ok (.iconst 0, 1) := by decide +kernel
theorem dL_mesh_910 : decode cL_mesh 910 = .ok (.ireturn, 1) := by decide +kernel
theorem dL_mesh_911 : decode cL_mesh 911 = .ok (.aload_n 0, 1) := by decide +kernel
theorem dL_mesh_912 : decode cL_mesh 912 = .ok (.invokevirtual 94, 3) := by decide +kernel
theorem dL_mesh_915 : decode cL_mesh 915 = .ok (.iconst 5, 1) := by decide +kernel
theorem dL_mesh_916 : decode cL_mesh 916 = .ok (.if_icmp .ne 99, 3) := by decide +kernel
theorem dL_mesh_919 : decode cL_mesh 919 = .ok (.aload_n 0, 1) := by decide +kernel
theorem dL_mesh_920 : decode cL_mesh 920 = .ok (.iconst 0, 1) := by decide +kernel
theorem dL_mesh_921 : decode cL_mesh 921 = .ok (.invokevirtual 13, 3) := by decide +kernel
theorem dL_mesh_924 : decode cL_mesh 924 = .ok (.iconst 3, 1) := by decide +kernel
theorem dL_mesh_925 : decode cL_mesh 925 = .ok (.if_icmp .ne 90, 3) := by decide +kernel
theorem dL_mesh_928 : decode cL_mesh 928 = .ok (.aload_n 0, 1) := by decide +kernel
theorem dL_mesh_929 : decode cL_mesh 929 = .ok (.invokevirtual 94, 3) := by decide +kernel
theorem dL_mesh_932 : decode cL_mesh 932 = .ok (.iconst 4, 1) := by decide +kernel
theorem dL_mesh_933 : decode cL_mesh 933 = .ok (.if_icmp .ne 82, 3) := by decide +kernel
theorem dL_mesh_936 : decode cL_mesh 936 = .ok (.aload_n 0, 1) := by decide +kernel
theorem dL_mesh_937 : decode cL_mesh 937 = .ok (.iconst 0, 1) := by decide +kernel
theorem dL_mesh_938 : decode cL_mesh 938 = .ok (.invokevirtual 13, 3) := by decide +kernel
theorem dL_mesh_941 : decode cL_mesh 941 = .ok (.iconst 2, 1) := by decide +kernel
theorem dL_mesh_942 : decode cL_mesh 942 = .ok (.if_icmp .ne 73, 3) := by decide +kernel
theorem dL_mesh_945 : decode cL_mesh 945 = .ok (.aload_n 0, 1) := by decide +kernel
theorem dL_mesh_946 : decode cL_mesh 946 = .ok (.invokevirtual 94, 3) := by decide +kernel
theorem dL_mesh_949 : decode cL_mesh 949 = .ok (.iconst 3, 1) := by decide +kernel
theorem dL_mesh_950 : decode cL_mesh 950 = .ok (.if_icmp .ne 65, 3) := by decide +kernel
theorem dL_mesh_953 : decode cL_mesh 953 = .ok (.aload_n 0, 1) := by decide +kernel
theorem dL_mesh_954 : decode cL_mesh 954 = .ok (.iconst 5, 1) := by decide +kernel
theorem dL_mesh_955 : decode cL_mesh 955 = .ok (.invokevirtual 13, 3) := by decide +kernel
theorem dL_mesh_958 : decode cL_mesh 958 = .ok (.bipush 20, 2) := by decide +kernel
theorem dL_mesh_960 : decode cL_mesh 960 = .ok (.if_icmp .ne 55, 3) := by decide +kernel
theorem dL_mesh_963 : decode cL_mesh 963 = .ok (.aload_n 0, 1) := by decide +kernel
theorem dL_mesh_964 : decode cL_mesh 964 = .ok (.iconst 1, 1) := by decide +kernel
theorem dL_mesh_965 : decode cL_mesh 965 = .ok (.iconst 5, 1) := by decide +kernel
theorem dL_mesh_966 : decode cL_mesh 966 = .ok (.invokevirtual 19, 3) := by decide +kernel
theorem dL_mesh_969 : decode cL_mesh 969 = .ok (.ifCond .ne 46, 3) := by decide +kernel
theorem dL_mesh_972 : decode cL_mesh 972 = .ok (.aload_n 0, 1) := by decide +kernel
theorem dL_mesh_973 : decode cL_mesh 973 = .ok (.iconst 1, 1) := by decide +kernel
theorem dL_mesh_974 : decode cL_mesh 974 = .ok (.invokevirtual 69, 3) := by decide +kernel
theorem dL_mesh_977 : decode cL_mesh 977 = .ok (.iconst 2, 1) := by decide +kernel
theorem dL_mesh_978 : decode cL_mesh 978 = .ok (.if_icmp .ne 37, 3) := by decide +kernel
theorem dL_mesh_981 : decode cL_mesh 981 = .ok (.aload_n 0, 1) := by decide +kernel
theorem dL_mesh_982 : decode cL_mesh 982 = .ok (.bipush 24, 2) := by decide +kernel
theorem dL_mesh_984 : decode cL_mesh 984 = .ok (.bipush (-9), 2) := by decide +kernel
theorem dL_mesh_986 : decode cL_mesh 986 = .ok (.invokevirtual 31, 3) := by decide +kernel
theorem dL_mesh_989 : decode cL_mesh 989 = .ok (.iconst 2, 1) := by decide +kernel
theorem dL_mesh_990 : decode cL_mesh 990 = .ok (.if_icmp .ne 25, 3) := by decide +kernel
theorem dL_mesh_993 : decode cL_mesh 993 = .ok (.aload_n 0, 1) := by decide +kernel
theorem dL_mesh_994 : decode cL_mesh 994 = .ok (.iconst 1, 1) := by decide +kernel
theorem dL_mesh_995 : decode cL_mesh 995 = .ok (.invokevirtual 72, 3) := by decide +kernel
theorem dL_mesh_998 : decode cL_mesh 998 = .ok (.iconst 2, 1) := by decide +kernel
theorem dL_mesh_999 : decode cL_mesh 999 = .ok (.if_icmp .ne 16, 3) := by decide +kernel
theorem dL_mesh_1002 : decode cL_mesh 1002 = .ok (.aload_n 0, 1) := by decide +kernel
theorem dL_mesh_1003 : decode cL_mesh 1003 = .ok (.iconst 0, 1) := by decide +kernel
theorem dL_mesh_1004 : decode cL_mesh 1004 = .ok (.invokevirtual 13, 3) := by decide +kernel
theorem dL_mesh_1007 : decode cL_mesh 1007 = .ok (.iconst 2, 1) := by decide +kernel
theorem dL_mesh_1008 : decode cL_mesh 1008 = .ok (.if_icmp .ne 7, 3) := by decide +kernel
theorem dL_mesh_1011 : decode cL_mesh 1011 = .ok (.iconst 1, 1) := by decide +kernel
theorem dL_mesh_1012 : decode cL_mesh 1012 = .ok (.goto 4, 3) := by decide +kernel
theorem dL_mesh_1015 : decode cL_mesh 1015 = .ok (.iconst 0, 1) := by decide +kernel
theorem dL_mesh_1016 : decode cL_mesh 1016 = .ok (.ireturn, 1) := by decide +kernel
set_option maxRecDepth 20000 in
theorem ggL_limits_X6_init : GoodIn wsL_limits wsX6_init := goodIn_r _ [6, 7, 8, 9, 10, 11, 12, 13, 14, 15, 16, 17, 18, 19, 20, 21, 22, 23, 24, 25, 26, 27, 28, 29, 30, 31, 32, 33, 34, 35, 36, 37, 38, 39, 40, 41, 42, 43, 44, 45, 46, 47, 48, 49, 50, 51, 52, 53, 54, 55, 56, 57, 58, 59, 60, 61, 479, 473, 474, 475, 476, 477, 478, 480, 481, 482, 483, 484, 485, 486, 487, 488, 489, 490, 491, 492, 493, 494, 495] (by decide +kernel) (by decide +kernel)
set_option maxRecDepth 20000 in
theorem gL_limits_X6_init : GoodIn wsL_limits (wsX6_init) := ggL_limits_X6_init
set_option maxRecDepth 20000 in
theorem ggL_limits_X6_roller : GoodIn wsL_limits wsX6_roller := goodIn_r _ [65, 17, 13, 66, 67, 68, 16, 69, 43, 70, 71, 72, 73, 12, 74, 39, 75, 76, 77, 78, 79, 80, 81, 82, 83, 3, 84, 85, 86, 87, 88, 89, 90, 91, 92, 93, 94, 95, 96, 97, 98, 99, 100, 101, 102, 103, 104, 105, 106, 107, 108, 109, 110, 111, 112, 473, 474, 475, 476, 477, 478, 480, 481, 482, 479] (by decide +kernel) (by decide +kernel)
set_option maxRecDepth 20000 in
theorem gL_limits_X6_roller : GoodIn wsL_limits (wsV RL 31 RX6 yX6_roller wsX6_roller) := goodIn_app (goodIn_of _ (by decide +kernel)) ggL_limits_X6_roller
set_option maxRecDepth 20000 in
theorem ggL_limits_X6_pair : GoodIn wsL_limits wsX6_pair := goodIn_r _ [116, 33, 13, 117, 118, 119, 3, 120, 121, 122, 123, 124, 125, 126, 127, 12, 128, 85, 86, 87, 88, 39, 129, 83, 84, 130, 131, 132, 32, 133, 134, 110, 111, 112, 135, 61, 136, 137, 138, 139, 89, 90, 91, 140, 141, 142, 143, 144, 145, 146, 147, 148, 149, 150, 151, 152, 153, 154, 155, 156, 157, 158, 159, 160, 161, 162, 163, 164, 165, 166, 167, 168, 169, 170, 171, 172, 173, 174, 175, 176, 177, 178, 179, 180, 181, 182, 183, 184, 185, 186, 187, 473, 474, 475, 476, 477, 478, 479, 492, 493, 494, 495] (by decide +kernel) (by decide +kernel)
set_option maxRecDepth 20000 in
theorem gL_limits_X6_pair : GoodIn wsL_limits (wsV RL 52 RX6 yX6_pair wsX6_pair) := goodIn_app (goodIn_of _ (by decide +kernel)) ggL_limits_X6_pair
set_option maxRecDepth 20000 in
theorem ggL_limits_X6_leastGap : GoodIn wsL_limits wsX6_leastGap := goodIn_r _ [191, 121, 122, 123, 3, 124, 13, 125, 126, 127, 12, 128, 85, 86, 87, 88, 39, 129, 83, 84, 192, 193, 194, 195, 33, 196, 167, 111, 168, 130, 131, 132, 32, 133, 134, 110, 112, 135, 61, 136, 137, 138, 139, 89, 90, 91, 140, 141, 142, 143, 144, 145, 146, 147, 148, 149, 169, 170, 171, 172, 197, 198, 199, 200, 181, 182, 183, 184, 185, 186, 187, 158, 159, 160, 161, 154, 155, 156, 157, 473, 474, 475, 476, 477, 478, 479, 492, 493, 494, 495] (by decide +kernel) (by decide +kernel)
set_option maxRecDepth 20000 in
theorem gL_limits_X6_leastGap : GoodIn wsL_limits (wsV RL 59 RX6 yX6_leastGap wsX6_leastGap) := goodIn_app (goodIn_of _ (by decide +kernel)) ggL_limits_X6_leastGap
set_option maxRecDepth 20000 in
theorem ggL_limits_X6_thickest : GoodIn wsL_limits wsX6_thickest := goodIn_r _ [204, 33, 13, 121, 122, 123, 3, 124, 125, 126, 127, 12, 128, 85, 86, 87, 88, 39, 129, 83, 84, 130, 131, 132, 32, 133, 134, 110, 111, 112, 135, 61, 136, 137, 138, 139, 89, 90, 91, 140, 141, 142, 143, 144, 145, 146, 147, 148, 149, 169, 170, 171, 172, 173, 174, 175, 176, 177, 178, 179, 180, 158, 159, 160, 161, 181, 182, 183, 184, 185, 186, 187, 205, 206, 207, 208, 209, 210, 150, 151, 152, 153, 211, 212, 213, 214, 215, 166, 167, 168, 473, 474, 475, 476, 477, 478, 479, 492, 493, 494, 495] (by decide +kernel) (by decide +kernel)
set_option maxRecDepth 20000 in
theorem gL_limits_X6_thickest : GoodIn wsL_limits (wsV RL 65 RX6 yX6_thickest wsX6_thickest) := goodIn_app (goodIn_of _ (by decide +kernel)) ggL_limits_X6_thickest
set_option maxRecDepth 20000 in
theorem ggL_limits_X6_card : GoodIn wsL_limits wsX6_card := goodIn_r _ [219, 17, 13, 66, 67, 68, 16, 69, 43, 70, 71, 72, 73, 12, 74, 39, 75, 76, 77, 78, 220, 221, 222, 223, 83, 3, 84, 85, 86, 87, 88, 92, 93, 94, 95, 104, 105, 106, 107, 108, 109, 110, 111, 112, 473, 474, 475, 476, 477, 478, 480, 481, 482, 479] (by decide +kernel) (by decide +kernel)
set_option maxRecDepth 20000 in
theorem gL_limits_X6_card : GoodIn wsL_limits (wsV RL 41 RX6 yX6_card wsX6_card) := goodIn_app (goodIn_of _ (by decide +kernel)) ggL_limits_X6_card
set_option maxRecDepth 20000 in
theorem ggL_limits_X6_run : GoodIn wsL_limits wsX6_run := goodIn_r _ [227, 17, 13, 66, 67, 68, 16, 69, 43, 70, 71, 72, 73, 12, 74, 39, 75, 76, 77, 78, 228, 229, 230, 3, 231, 33, 121, 122, 123, 124, 125, 126, 127, 128, 85, 86, 87, 88, 129, 83, 84, 130, 131, 132, 32, 133, 134, 110, 111, 112, 135, 61, 136, 137, 138, 139, 89, 90, 91, 140, 141, 142, 143, 144, 145, 146, 147, 148, 149, 169, 170, 171, 172, 173, 174, 175, 176, 177, 178, 179, 180, 158, 159, 160, 161, 181, 182, 183, 184, 185, 186, 187, 205, 206, 207, 208, 209, 210, 211, 212, 213, 214, 215, 166, 167, 168, 232, 233, 234, 235, 236, 237, 238, 239, 100, 101, 102, 103, 92, 93, 94, 95, 240, 241, 242, 243, 244, 245, 246, 247, 248, 249, 250, 251, 252, 253, 254, 96, 97, 98, 99, 104, 105, 106, 107, 108, 109, 473, 474, 475, 476, 477, 478, 480, 481, 482, 479, 492, 493, 494, 495] (by decide +kernel) (by decide +kernel)
set_option maxRecDepth 20000 in
theorem gL_limits_X6_run : GoodIn wsL_limits (wsV RL 48 RX6 yX6_run wsX6_run) := goodIn_app (goodIn_of _ (by decide +kernel)) ggL_limits_X6_run
set_option maxRecDepth 20000 in
theorem ggL_limits_X6_count : GoodIn wsL_limits wsX6_count := goodIn_r _ [258, 25, 17, 13, 129, 83, 3, 84, 259, 260, 261, 24, 262, 263, 264, 265, 266, 16, 267, 108, 211, 86, 87, 12, 88, 39, 473, 474, 475, 476, 477, 478, 485, 486, 480, 481, 482, 479] (by decide +kernel) (by decide +kernel)
set_option maxRecDepth 20000 in
theorem gL_limits_X6_count : GoodIn wsL_limits (wsV RL 13 RX6 yX6_count wsX6_count) := goodIn_app (goodIn_of _ (by decide +kernel)) ggL_limits_X6_count
set_option maxRecDepth 20000 in
theorem ggL_limits_X6_of : GoodIn wsL_limits wsX6_of := goodIn_r _ [271, 13, 125, 126, 127, 12, 128, 85, 86, 87, 88, 39, 272, 137, 138, 139, 89, 90, 91, 273, 274, 275, 276, 249, 254, 144, 145, 146, 277, 278, 279, 280, 281, 167, 111, 168, 282, 283, 284, 285, 286, 110, 112, 287, 245, 246, 247, 288, 289, 290, 291, 473, 474, 475, 476, 477, 478, 479] (by decide +kernel) (by decide +kernel)
set_option maxRecDepth 20000 in
theorem gL_limits_X6_of : GoodIn wsL_limits (wsV RL 19 RX6 yX6_of wsX6_of) := goodIn_app (goodIn_of _ (by decide +kernel)) ggL_limits_X6_of
set_option maxRecDepth 20000 in
theorem ggL_limits_X6_tooth : GoodIn wsL_limits wsX6_tooth := goodIn_r _ [295, 13, 296, 297, 298, 12, 299, 300, 126, 127, 128, 85, 86, 87, 88, 39, 249, 137, 138, 139, 89, 90, 91, 301, 144, 145, 146, 473, 474, 475, 476, 477, 478, 479] (by decide +kernel) (by decide +kernel)
set_option maxRecDepth 20000 in
theorem gL_limits_X6_tooth : GoodIn wsL_limits (wsV RL 23 RX6 yX6_tooth wsX6_tooth) := goodIn_app (goodIn_of _ (by decide +kernel)) ggL_limits_X6_tooth
end
section
set_option maxRecDepth 20000 in
theorem ggL_limits_L_refused_1 : GoodIn wsL_limits [(Cond.code yL_refused cL_refused 4 (some .boolean) : Cond)] := x_g1 305 rfl (by decide +kernel)
set_option maxRecDepth 20000 in
theorem ggL_limits_L_refused_2 : GoodIn wsL_limits ([Cond.methodLink RL 85 yL_seen, Cond.static yL_seen, Cond.initialized RL] : List Cond) := goodIn_r _ [306, 307, 304] (by decide +kernel) (by decide +kernel)
set_option maxRecDepth 20000 in
theorem ggL_limits_L_refused_3 : GoodIn wsL_limits [(Cond.code yL_seen cL_seen 4 (some .long) : Cond)] := x_g1 308 rfl (by decide +kernel)
set_option maxRecDepth 20000 in
theorem ggL_limits_L_refused_4 : GoodIn wsL_limits ([Cond.constantLong RL 9 (59), Cond.constantLong RL 11 (31), Cond.methodLink RL 13 yX6_count, Cond.instanceMethod yX6_count, Cond.selects RX6 yX6_count yX6_count, Cond.initialized RX6, Cond.code yX6_count cX6_count 2 (some .int), Cond.fieldLink RX6 33 "RollerMesh" "pad" "LRollerMesh$Pad;", Cond.fieldLink RX6 19 "RollerMesh" "history" "LRollerMesh$History;", Cond.fieldLink RX6 10 "RollerMesh" "shop" "LRollerMesh$Shop;", Cond.methodLink RX6 86 yX6_outside, Cond.static yX6_outside, Cond.code yX6_outside cX6_outside 3 (some .boolean), Cond.methodLink RX6 151 yX1_length, Cond.instanceMethod yX1_length, Cond.selects RX1 yX1_length yX1_length, Cond.initialized RX1, Cond.code yX1_length cX1_length 1 (some .int), Cond.fieldLink RX1 15 "RollerMesh$Pad" "length" "I", Cond.methodLink RX6 154 yX0_length] : List Cond) := goodIn_r _ [309, 310, 255, 256, 257, 3, 258, 25, 17, 13, 129, 83, 84, 259, 260, 261, 24, 262, 263, 264] (by decide +kernel) (by decide +kernel)
set_option maxRecDepth 20000 in
theorem ggL_limits_L_refused_5 : GoodIn wsL_limits wsL_refused_r1 := by
  show GoodIn wsL_limits ([Cond.methodLink RL 85 yL_seen, Cond.static yL_seen, Cond.initialized RL] ++ (Cond.code yL_seen cL_seen 4 (some .long) :: ([Cond.constantLong RL 9 (59), Cond.constantLong RL 11 (31), Cond.methodLink RL 13 yX6_count, Cond.instanceMethod yX6_count, Cond.selects RX6 yX6_count yX6_count, Cond.initialized RX6, Cond.code yX6_count cX6_count 2 (some .int), Cond.fieldLink RX6 33 "RollerMesh" "pad" "LRollerMesh$Pad;", Cond.fieldLink RX6 19 "RollerMesh" "history" "LRollerMesh$History;", Cond.fieldLink RX6 10 "RollerMesh" "shop" "LRollerMesh$Shop;", Cond.methodLink RX6 86 yX6_outside, Cond.static yX6_outside, Cond.code yX6_outside cX6_outside 3 (some .boolean), Cond.methodLink RX6 151 yX1_length, Cond.instanceMethod yX1_length, Cond.selects RX1 yX1_length yX1_length, Cond.initialized RX1, Cond.code yX1_length cX1_length 1 (some .int), Cond.fieldLink RX1 15 "RollerMesh$Pad" "length" "I", Cond.methodLink RX6 154 yX0_length] ++ [])))
  exact (goodIn_app ggL_limits_L_refused_2 (x_gc ggL_limits_L_refused_3 (goodIn_app ggL_limits_L_refused_4 x_gn)))
set_option maxRecDepth 20000 in
theorem ggL_limits_L_refused_6 : GoodIn wsL_limits (wsL_refused_r2) := goodIn_r _ [265, 266, 16, 267, 108, 211, 86, 87, 12, 88, 39, 268, 269, 270, 271, 125, 126, 127, 128, 85, 272, 137, 138, 139] (by decide +kernel) (by decide +kernel)
set_option maxRecDepth 20000 in
theorem ggL_limits_L_refused_7 : GoodIn wsL_limits (wsL_refused_r3) := goodIn_r _ [89, 90, 91, 273, 274, 275, 276, 249, 254, 144, 145, 146, 277, 278, 279, 280, 281, 167, 111, 168, 282, 283, 284, 285] (by decide +kernel) (by decide +kernel)
set_option maxRecDepth 20000 in
theorem ggL_limits_L_refused_8 : GoodIn wsL_limits ([Cond.methodLink RX3 60 Lib.Math.min.name, Cond.static Lib.Math.min.name, Cond.code Lib.Math.min.name Lib.Math.min.code 2 (some .int), Cond.methodLink RX6 138 yX3_stepsSinceWorn, Cond.instanceMethod yX3_stepsSinceWorn, Cond.selects RX3 yX3_stepsSinceWorn yX3_stepsSinceWorn, Cond.code yX3_stepsSinceWorn cX3_stepsSinceWorn 2 (some .int), Cond.methodLink RX6 141 yX3_timesWorn, Cond.instanceMethod yX3_timesWorn, Cond.selects RX3 yX3_timesWorn yX3_timesWorn, Cond.code yX3_timesWorn cX3_timesWorn 2 (some .int), Cond.methodLink RL 23 yX6_tooth, Cond.instanceMethod yX6_tooth, Cond.selects RX6 yX6_tooth yX6_tooth, Cond.code yX6_tooth cX6_tooth 3 (some .int), Cond.methodLink RX6 144 yX3_hasTooth, Cond.instanceMethod yX3_hasTooth, Cond.selects RX3 yX3_hasTooth yX3_hasTooth, Cond.code yX3_hasTooth cX3_hasTooth 3 (some .boolean), Cond.methodLink RX3 30 yX3_has, Cond.methodLink RX6 148 yX3_height, Cond.methodLink RL 89 yL_refusesAny, Cond.static yL_refusesAny] : List Cond) := goodIn_r _ [286, 110, 112, 287, 245, 246, 247, 288, 289, 290, 291, 292, 293, 294, 295, 296, 297, 298, 299, 300, 301, 311, 312] (by decide +kernel) (by decide +kernel)
set_option maxRecDepth 20000 in
theorem ggL_limits_L_refused_9 : GoodIn wsL_limits [(Cond.code yL_refusesAny cL_refusesAny 5 (some .boolean) : Cond)] := x_g1 313 rfl (by decide +kernel)
end
section
set_option maxRecDepth 20000 in
theorem ggL_limits_L_refused_10 : GoodIn wsL_limits wsL_refused_r4 := by
  show GoodIn wsL_limits ([Cond.methodLink RX3 60 Lib.Math.min.name, Cond.static Lib.Math.min.name, Cond.code Lib.Math.min.name Lib.Math.min.code 2 (some .int), Cond.methodLink RX6 138 yX3_stepsSinceWorn, Cond.instanceMethod yX3_stepsSinceWorn, Cond.selects RX3 yX3_stepsSinceWorn yX3_stepsSinceWorn, Cond.code yX3_stepsSinceWorn cX3_stepsSinceWorn 2 (some .int), Cond.methodLink RX6 141 yX3_timesWorn, Cond.instanceMethod yX3_timesWorn, Cond.selects RX3 yX3_timesWorn yX3_timesWorn, Cond.code yX3_timesWorn cX3_timesWorn 2 (some .int), Cond.methodLink RL 23 yX6_tooth, Cond.instanceMethod yX6_tooth, Cond.selects RX6 yX6_tooth yX6_tooth, Cond.code yX6_tooth cX6_tooth 3 (some .int), Cond.methodLink RX6 144 yX3_hasTooth, Cond.instanceMethod yX3_hasTooth, Cond.selects RX3 yX3_hasTooth yX3_hasTooth, Cond.code yX3_hasTooth cX3_hasTooth 3 (some .boolean), Cond.methodLink RX3 30 yX3_has, Cond.methodLink RX6 148 yX3_height, Cond.methodLink RL 89 yL_refusesAny, Cond.static yL_refusesAny] ++ (Cond.code yL_refusesAny cL_refusesAny 5 (some .boolean) :: []))
  exact (goodIn_app ggL_limits_L_refused_8 (x_gc ggL_limits_L_refused_9 x_gn))
set_option maxRecDepth 20000 in
theorem ggL_limits_L_refused_11 : GoodIn wsL_limits (wsL_refused_r5) := goodIn_r _ [314, 315, 316, 317, 318, 319, 320, 66, 67, 68, 69, 43, 70, 71, 72, 73, 74, 75, 76, 77, 78, 321, 322, 323] (by decide +kernel) (by decide +kernel)
set_option maxRecDepth 20000 in
theorem ggL_limits_L_refused_12 : GoodIn wsL_limits (wsL_refused_r6) := goodIn_r _ [324, 248, 170, 171, 172, 92, 93, 94, 95, 104, 105, 106, 107, 109, 62, 63, 64, 65, 79, 80, 81, 82, 96, 97] (by decide +kernel) (by decide +kernel)
set_option maxRecDepth 20000 in
theorem ggL_limits_L_refused_13 : GoodIn wsL_limits (wsL_refused_r7) := goodIn_r _ [98, 99, 100, 101, 102, 103, 325, 326, 327, 328, 329, 330, 331, 332, 333, 334, 335, 336, 337, 338, 339, 340, 341, 216] (by decide +kernel) (by decide +kernel)
set_option maxRecDepth 20000 in
theorem ggL_limits_L_refused_14 : GoodIn wsL_limits (wsL_refused_r8) := goodIn_r _ [217, 218, 219, 220, 221, 222, 223, 342, 343, 344, 345, 29, 346, 347, 348, 28, 349, 350, 57, 351, 352, 353, 354, 355] (by decide +kernel) (by decide +kernel)
set_option maxRecDepth 20000 in
theorem ggL_limits_L_refused_15 : GoodIn wsL_limits (wsL_refused_r9) := goodIn_r _ [356, 357, 358, 359, 360, 361, 362, 363, 364, 51, 365, 366, 367, 368, 369, 370, 371, 372, 373, 374, 375, 376, 377, 378] (by decide +kernel) (by decide +kernel)
set_option maxRecDepth 20000 in
theorem ggL_limits_L_refused_16 : GoodIn wsL_limits (wsL_refused_r10) := goodIn_r _ [379, 380, 381, 382, 383, 384, 385, 386, 387, 388, 56, 389, 390, 391, 392, 393, 394, 395, 396, 397, 398, 399, 400, 401] (by decide +kernel) (by decide +kernel)
set_option maxRecDepth 20000 in
theorem ggL_limits_L_refused_17 : GoodIn wsL_limits (wsL_refused_r11) := goodIn_r _ [402, 403, 404, 405, 406, 407, 408, 409, 410, 411, 412, 413, 414, 415, 228, 229, 230, 231, 33, 121, 122, 123, 124, 130] (by decide +kernel) (by decide +kernel)
set_option maxRecDepth 20000 in
theorem ggL_limits_L_refused_18 : GoodIn wsL_limits (wsL_refused_r12) := goodIn_r _ [131, 132, 32, 133, 134, 135, 61, 136, 140, 141, 142, 143, 147, 148, 149, 169, 173, 174, 175, 176, 177, 178, 179, 180] (by decide +kernel) (by decide +kernel)
end
section
set_option maxRecDepth 20000 in
theorem ggL_limits_L_refused_19 : GoodIn wsL_limits (wsL_refused_r13) := goodIn_r _ [158, 159, 160, 161, 181, 182, 183, 184, 185, 186, 187, 205, 206, 207, 208, 209, 210, 212, 213, 214, 215, 166, 232, 233] (by decide +kernel) (by decide +kernel)
set_option maxRecDepth 20000 in
theorem ggL_limits_L_refused_20 : GoodIn wsL_limits (wsL_refused_r14) := goodIn_r _ [234, 235, 236, 237, 238, 239, 240, 241, 242, 243, 244, 250, 251, 252, 253, 416, 417, 418, 419, 420, 224, 225, 226, 227] (by decide +kernel) (by decide +kernel)
set_option maxRecDepth 20000 in
theorem ggL_limits_L_refused_21 : GoodIn wsL_limits (wsL_refused_r15) := goodIn_r _ [113, 114, 115, 116, 117, 118, 119, 120, 150, 151, 152, 153, 154, 155, 156, 157, 162, 163, 164, 165, 421, 422, 423, 424] (by decide +kernel) (by decide +kernel)
set_option maxRecDepth 20000 in
theorem ggL_limits_L_refused_22 : GoodIn wsL_limits (wsL_refused_r16) := goodIn_r _ [425, 426, 188, 189, 190, 191, 192, 193, 194, 195, 196, 197, 198, 199, 200, 427, 428, 429, 430, 431, 201, 202, 203, 204] (by decide +kernel) (by decide +kernel)
set_option maxRecDepth 20000 in
theorem ggL_limits_L_refused_23 : GoodIn wsL_limits (wsL_refused_r17) := goodIn_r _ [432, 433, 434, 435, 21, 436, 437, 438, 20, 439, 47, 440, 441, 442, 443, 444, 445, 446, 447, 448, 449, 450, 451, 452] (by decide +kernel) (by decide +kernel)
set_option maxRecDepth 20000 in
theorem ggL_limits_L_refused_24 : GoodIn wsL_limits (wsL_refused_r18) := goodIn_r _ [453, 454, 455, 456, 457, 458, 459, 460, 461, 462, 463, 464, 465, 466, 467, 468, 469, 470, 471, 472] (by decide +kernel) (by decide +kernel)
set_option maxRecDepth 20000 in
theorem ggL_limits_L_refused_25 : GoodIn wsL_limits (wsX60) := goodIn_r _ [473, 474, 475, 476, 477, 478] (by decide +kernel) (by decide +kernel)
set_option maxRecDepth 20000 in
theorem ggL_limits_L_refused_26 : GoodIn wsL_limits (wsX10) := goodIn_r _ [485, 486] (by decide +kernel) (by decide +kernel)
set_option maxRecDepth 20000 in
theorem ggL_limits_L_refused_27 : GoodIn wsL_limits (wsX00) := goodIn_r _ [480, 481, 482] (by decide +kernel) (by decide +kernel)
end
section
set_option maxRecDepth 20000 in
theorem ggL_limits_L_refused_28 : GoodIn wsL_limits (wsX30) := goodIn_r _ [479] (by decide +kernel) (by decide +kernel)
set_option maxRecDepth 20000 in
theorem ggL_limits_L_refused_29 : GoodIn wsL_limits (wsX20) := goodIn_r _ [487, 488, 489, 490, 491] (by decide +kernel) (by decide +kernel)
set_option maxRecDepth 20000 in
theorem ggL_limits_L_refused_30 : GoodIn wsL_limits (wsX50) := goodIn_r _ [492, 493, 494, 495] (by decide +kernel) (by decide +kernel)
set_option maxRecDepth 20000 in
theorem ggL_limits_L_refused_31 : GoodIn wsL_limits (wsX40) := goodIn_r _ [483, 484] (by decide +kernel) (by decide +kernel)
set_option maxRecDepth 20000 in
theorem ggL_limits_L_refused : GoodIn wsL_limits wsL_refused := x_gc ggL_limits_L_refused_1 (goodIn_app (goodIn_app (goodIn_app (goodIn_app (goodIn_app (goodIn_app (goodIn_app (goodIn_app ggL_limits_L_refused_5 (goodIn_app ggL_limits_L_refused_6 (goodIn_app ggL_limits_L_refused_7 (goodIn_app ggL_limits_L_refused_10 (goodIn_app ggL_limits_L_refused_11 (goodIn_app ggL_limits_L_refused_12 (goodIn_app ggL_limits_L_refused_13 (goodIn_app ggL_limits_L_refused_14 (goodIn_app ggL_limits_L_refused_15 (goodIn_app ggL_limits_L_refused_16 (goodIn_app ggL_limits_L_refused_17 (goodIn_app ggL_limits_L_refused_18 (goodIn_app ggL_limits_L_refused_19 (goodIn_app ggL_limits_L_refused_20 (goodIn_app ggL_limits_L_refused_21 (goodIn_app ggL_limits_L_refused_22 (goodIn_app ggL_limits_L_refused_23 ggL_limits_L_refused_24))))))))))))))))) ggL_limits_L_refused_25) ggL_limits_L_refused_26) ggL_limits_L_refused_27) ggL_limits_L_refused_28) ggL_limits_L_refused_29) ggL_limits_L_refused_30) ggL_limits_L_refused_31)
end
section
set_option maxRecDepth 20000 in
theorem gL_limits_L_refused : GoodIn wsL_limits (va_wsS RL 97 yL_refused wsL_refused) := goodIn_app (goodIn_of _ (by decide +kernel)) ggL_limits_L_refused
theorem dL_limits_0 : decode cL_limits 0 = .ok (.new 14, 3) := by decide +kernel
theorem dL_limits_3 : decode cL_limits 3 = .ok (.dup, 1) := by decide +kernel
theorem dL_limits_4 : decode cL_limits 4 = .ok (.invokespecial 93, 3) := by decide +kernel
theorem dL_limits_7 : decode cL_limits 7 = .ok (.astore_n 0, 1) := by decide +kernel
theorem dL_limits_8 : decode cL_limits 8 = .ok (.iconst 0, 1) := by decide +kernel
theorem dL_limits_9 : decode cL_limits 9 = .ok (.istore_n 1, 1) := by decide +kernel
theorem dL_limits_10 : decode cL_limits 10 = .ok (.iload_n 1, 1) := by decide +kernel
theorem dL_limits_11 : decode cL_limits 11 = .ok (.bipush 8, 2) := by decide +kernel
theorem dL_limits_13 : decode cL_limits 13 = .ok (.if_icmp .ge 25, 3) := by decide +kernel
theorem dL_limits_16 : decode cL_limits 16 = .ok (.aload_n 0, 1) := by decide +kernel
theorem dL_limits_17 : decode cL_limits 17 = .ok (.bipush 24, 2) := by decide +kernel
theorem dL_limits_19 : decode cL_limits 19 = .ok (.iload_n 1, 1) := by decide +kernel
theorem dL_limits_20 : decode cL_limits 20 = .ok (.isub, 1) := by decide +kernel
theorem dL_limits_21 : decode cL_limits 21 = .ok (.bipush 9, 2) := by decide +kernel
theorem dL_limits_23 : decode cL_limits 23 = .ok (.invokevirtual 31, 3) := by decide +kernel
theorem dL_limits_26 : decode cL_limits 26 = .ok (.iload_n 1, 1) := by decide +kernel
theorem dL_limits_27 : decode cL_limits 27 = .ok (.if_icmp .eq 5, 3) := by decide +kernel
theorem dL_limits_30 : decode cL_limits 30 = .ok (.iconst 0, 1) := by decide +kernel
theorem dL_limits_31 : decode cL_limits 31 = .ok (.ireturn, 1) := by decide +kernel
theorem dL_limits_32 : decode cL_limits 32 = .ok (.iinc 1 1, 3) := by decide +kernel
theorem dL_limits_35 : decode cL_limits 35 = .ok (.goto (-25), 3) := by decide +kernel
theorem dL_limits_38 : decode cL_limits 38 = .ok (.aload_n 0, 1) := by decide +kernel
theorem dL_limits_39 : decode cL_limits 39 = .ok (.iconst 2, 1) := by decide +kernel
theorem dL_limits_40 : decode cL_limits 40 = .ok (.iconst 0, 1) := by decide +kernel
theorem dL_limits_41 : decode cL_limits 41 = .ok (.invokevirtual 31, 3) := by decide +kernel
theorem dL_limits_44 : decode cL_limits 44 = .ok (.bipush (-4), 2) := by decide +kernel
theorem dL_limits_46 : decode cL_limits 46 = .ok (.if_icmp .ne 208, 3) := by decide +kernel
theorem dL_limits_49 : decode cL_limits 49 = .ok (.aload_n 0, 1) := by decide +kernel
theorem dL_limits_50 : decode cL_limits 50 = .ok (.iconst 1, 1) := by decide +kernel
theorem dL_limits_51 : decode cL_limits 51 = .ok (.iconst 0, 1) := by decide +kernel
theorem dL_limits_52 : decode cL_limits 52 = .ok (.invokevirtual 31, 3) := by decide +kernel
theorem dL_limits_55 : decode cL_limits 55 = .ok (.bipush (-2), 2) := by decide +kernel
theorem dL_limits_57 : decode cL_limits 57 = .ok (.if_icmp .ne 197, 3) := by decide +kernel
theorem dL_limits_60 : decode cL_limits 60 = .ok (.aload_n 0, 1) := by decide +kernel
theorem dL_limits_61 : decode cL_limits 61 = .ok (.iconst 0, 1) := by decide +kernel
theorem dL_limits_62 : decode cL_limits 62 = .ok (.iconst 1, 1) := by decide +kernel
theorem dL_limits_63 : decode cL_limits 63 = .ok (.bipush 23, 2) := by decide +kernel
theorem dL_limits_65 : decode cL_limits 65 = .ok (.bipush 30, 2) := by decide +kernel
theorem dL_limits_67 : decode cL_limits 67 = .ok (.iconst 0, 1) := by decide +kernel
theorem dL_limits_68 : decode cL_limits 68 = .ok (.invokevirtual 52, 3) := by decide +kernel
end
section
theorem dL_limits_71 : decode cL_limits 71 = .ok (.sipush 552, 3) := by decide +kernel
theorem dL_limits_74 : decode cL_limits 74 = .ok (.if_icmp .ne 180, 3) := by decide +kernel
theorem dL_limits_77 : decode cL_limits 77 = .ok (.aload_n 0, 1) := by decide +kernel
theorem dL_limits_78 : decode cL_limits 78 = .ok (.iconst 0, 1) := by decide +kernel
theorem dL_limits_79 : decode cL_limits 79 = .ok (.iconst 1, 1) := by decide +kernel
theorem dL_limits_80 : decode cL_limits 80 = .ok (.bipush 23, 2) := by decide +kernel
theorem dL_limits_82 : decode cL_limits 82 = .ok (.bipush 30, 2) := by decide +kernel
theorem dL_limits_84 : decode cL_limits 84 = .ok (.iconst 1, 1) := by decide +kernel
theorem dL_limits_85 : decode cL_limits 85 = .ok (.invokevirtual 52, 3) := by decide +kernel
theorem dL_limits_88 : decode cL_limits 88 = .ok (.bipush 112, 2) := by decide +kernel
theorem dL_limits_90 : decode cL_limits 90 = .ok (.if_icmp .ne 164, 3) := by decide +kernel
theorem dL_limits_93 : decode cL_limits 93 = .ok (.aload_n 0, 1) := by decide +kernel
theorem dL_limits_94 : decode cL_limits 94 = .ok (.bipush 7, 2) := by decide +kernel
theorem dL_limits_96 : decode cL_limits 96 = .ok (.iconst 3, 1) := by decide +kernel
theorem dL_limits_97 : decode cL_limits 97 = .ok (.bipush 9, 2) := by decide +kernel
theorem dL_limits_99 : decode cL_limits 99 = .ok (.invokevirtual 59, 3) := by decide +kernel
theorem dL_limits_102 : decode cL_limits 102 = .ok (.bipush 19, 2) := by decide +kernel
theorem dL_limits_104 : decode cL_limits 104 = .ok (.if_icmp .ne 150, 3) := by decide +kernel
theorem dL_limits_107 : decode cL_limits 107 = .ok (.aload_n 0, 1) := by decide +kernel
theorem dL_limits_108 : decode cL_limits 108 = .ok (.bipush 7, 2) := by decide +kernel
theorem dL_limits_110 : decode cL_limits 110 = .ok (.iconst 3, 1) := by decide +kernel
theorem dL_limits_111 : decode cL_limits 111 = .ok (.bipush 24, 2) := by decide +kernel
theorem dL_limits_113 : decode cL_limits 113 = .ok (.invokevirtual 59, 3) := by decide +kernel
theorem dL_limits_116 : decode cL_limits 116 = .ok (.bipush (-2), 2) := by decide +kernel
theorem dL_limits_118 : decode cL_limits 118 = .ok (.if_icmp .ne 136, 3) := by decide +kernel
theorem dL_limits_121 : decode cL_limits 121 = .ok (.aload_n 0, 1) := by decide +kernel
theorem dL_limits_122 : decode cL_limits 122 = .ok (.iconst 0, 1) := by decide +kernel
theorem dL_limits_123 : decode cL_limits 123 = .ok (.iconst 1, 1) := by decide +kernel
theorem dL_limits_124 : decode cL_limits 124 = .ok (.iconst 0, 1) := by decide +kernel
theorem dL_limits_125 : decode cL_limits 125 = .ok (.bipush 30, 2) := by decide +kernel
theorem dL_limits_127 : decode cL_limits 127 = .ok (.invokevirtual 65, 3) := by decide +kernel
theorem dL_limits_130 : decode cL_limits 130 = .ok (.bipush 17, 2) := by decide +kernel
theorem dL_limits_132 : decode cL_limits 132 = .ok (.if_icmp .ne 122, 3) := by decide +kernel
theorem dL_limits_135 : decode cL_limits 135 = .ok (.aload_n 0, 1) := by decide +kernel
theorem dL_limits_136 : decode cL_limits 136 = .ok (.bipush 30, 2) := by decide +kernel
theorem dL_limits_138 : decode cL_limits 138 = .ok (.bipush 30, 2) := by decide +kernel
theorem dL_limits_140 : decode cL_limits 140 = .ok (.invokevirtual 41, 3) := by decide +kernel
theorem dL_limits_143 : decode cL_limits 143 = .ok (.iconst 5, 1) := by decide +kernel
theorem dL_limits_144 : decode cL_limits 144 = .ok (.if_icmp .ne 110, 3) := by decide +kernel
theorem dL_limits_147 : decode cL_limits 147 = .ok (.aload_n 0, 1) := by decide +kernel
theorem dL_limits_148 : decode cL_limits 148 = .ok (.iconst 0, 1) := by decide +kernel
theorem dL_limits_149 : decode cL_limits 149 = .ok (.iconst 1, 1) := by decide +kernel
theorem dL_limits_150 : decode cL_limits 150 = .ok (.iconst 0, 1) := by decide +kernel
theorem dL_limits_151 : decode cL_limits 151 = .ok (.bipush 30, 2) := by decide +kernel
theorem dL_limits_153 : decode cL_limits 153 = .ok (.invokevirtual 65, 3) := by decide +kernel
theorem dL_limits_156 : decode cL_limits 156 = .ok (.bipush 30, 2) := by decide +kernel
theorem dL_limits_158 : decode cL_limits 158 = .ok (.if_icmp .ne 96, 3) := by decide +kernel
theorem dL_limits_161 : decode cL_limits 161 = .ok (.aload_n 0, 1) := by decide +kernel
theorem dL_limits_162 : decode cL_limits 162 = .ok (.iconst 0, 1) := by decide +kernel
theorem dL_limits_163 : decode cL_limits 163 = .ok (.iconst 1, 1) := by decide +kernel
theorem dL_limits_164 : decode cL_limits 164 = .ok (.iconst 0, 1) := by decide +kernel
theorem dL_limits_165 : decode cL_limits 165 = .ok (.bipush 30, 2) := by decide +kernel
theorem dL_limits_167 : decode cL_limits 167 = .ok (.bipush 99, 2) := by decide +kernel
theorem dL_limits_169 : decode cL_limits 169 = .ok (.bipush 99, 2) := by decide +kernel
theorem dL_limits_171 : decode cL_limits 171 = .ok (.invokevirtual 48, 3) := by decide +kernel
theorem dL_limits_174 : decode cL_limits 174 = .ok (.ifCond .ne 80, 3) := by decide +kernel
theorem dL_limits_177 : decode cL_limits 177 = .ok (.aload_n 0, 1) := by decide +kernel
theorem dL_limits_178 : decode cL_limits 178 = .ok (.iconst 5, 1) := by decide +kernel
theorem dL_limits_179 : decode cL_limits 179 = .ok (.invokevirtual 13, 3) := by decide +kernel
theorem dL_limits_182 : decode cL_limits 182 = .ok (.sipush 9801, 3) := by decide +kernel
theorem dL_limits_185 : decode cL_limits 185 = .ok (.if_icmp .ne 69, 3) := by decide +kernel
theorem dL_limits_188 : decode cL_limits 188 = .ok (.aload_n 0, 1) := by decide +kernel
theorem dL_limits_189 : decode cL_limits 189 = .ok (.iconst 0, 1) := by decide +kernel
theorem dL_limits_190 : decode cL_limits 190 = .ok (.bipush 6, 2) := by decide +kernel
theorem dL_limits_192 : decode cL_limits 192 = .ok (.invokevirtual 19, 3) := by decide +kernel
theorem dL_limits_195 : decode cL_limits 195 = .ok (.iconst 1, 1) := by decide +kernel
theorem dL_limits_196 : decode cL_limits 196 = .ok (.if_icmp .ne 58, 3) := by decide +kernel
theorem dL_limits_199 : decode cL_limits 199 = .ok (.aload_n 0, 1) := by decide +kernel
theorem dL_limits_200 : decode cL_limits 200 = .ok (.iconst 0, 1) := by decide +kernel
theorem dL_limits_201 : decode cL_limits 201 = .ok (.bipush 23, 2) := by decide +kernel
theorem dL_limits_203 : decode cL_limits 203 = .ok (.invokevirtual 23, 3) := by decide +kernel
theorem dL_limits_206 : decode cL_limits 206 = .ok (.bipush 17, 2) := by decide +kernel
theorem dL_limits_208 : decode cL_limits 208 = .ok (.if_icmp .ne 46, 3) := by decide +kernel
theorem dL_limits_211 : decode cL_limits 211 = .ok (.aload_n 0, 1) := by decide +kernel
theorem dL_limits_212 : decode cL_limits 212 = .ok (.iconst 1, 1) := by decide +kernel
theorem dL_limits_213 : decode cL_limits 213 = .ok (.bipush 22, 2) := by decide +kernel
theorem dL_limits_215 : decode cL_limits 215 = .ok (.invokevirtual 23, 3) := by decide +kernel
theorem dL_limits_218 : decode cL_limits 218 = .ok (.bipush 17, 2) := by decide +kernel
theorem dL_limits_220 : decode cL_limits 220 = .ok (.if_icmp .ne 34, 3) := by decide +kernel
theorem dL_limits_223 : decode cL_limits 223 = .ok (.aload_n 0, 1) := by decide +kernel
theorem dL_limits_224 : decode cL_limits 224 = .ok (.iconst 2, 1) := by decide +kernel
theorem dL_limits_225 : decode cL_limits 225 = .ok (.iconst 5, 1) := by decide +kernel
theorem dL_limits_226 : decode cL_limits 226 = .ok (.invokevirtual 19, 3) := by decide +kernel
theorem dL_limits_229 : decode cL_limits 229 = .ok (.ifCond .ne 25, 3) := by decide +kernel
theorem dL_limits_232 : decode cL_limits 232 = .ok (.aload_n 0, 1) := by decide +kernel
theorem dL_limits_233 : decode cL_limits 233 = .ok (.bipush 10, 2) := by decide +kernel
theorem dL_limits_235 : decode cL_limits 235 = .ok (.invokevirtual 13, 3) := by decide +kernel
theorem dL_limits_238 : decode cL_limits 238 = .ok (.bipush 6, 2) := by decide +kernel
theorem dL_limits_240 : decode cL_limits 240 = .ok (.if_icmp .ne 14, 3) := by decide +kernel
theorem dL_limits_243 : decode cL_limits 243 = .ok (.aload_n 0, 1) := by decide +kernel
theorem dL_limits_244 : decode cL_limits 244 = .ok (.invokestatic 97, 3) := by decide +kernel
theorem dL_limits_247 : decode cL_limits 247 = .ok (.ifCond .eq 7, 3) := by decide +kernel
theorem dL_limits_250 : decode cL_limits 250 = .ok (.iconst 1, 1) := by decide +kernel
theorem dL_limits_251 : decode cL_limits 251 = .ok (.goto 4, 3) := by decide +kernel
theorem dL_limits_254 : decode cL_limits 254 = .ok (.iconst 0, 1) := by decide +kernel
theorem dL_limits_255 : decode cL_limits 255 = .ok (.ireturn, 1) := by decide +kernel
set_option maxRecDepth 20000 in
theorem ggL_texts_X6_init : GoodIn wsL_texts wsX6_init := goodIn_r _ [33, 34, 35, 36, 37, 38, 39, 40, 41, 42, 43, 44, 45, 46, 47, 48, 49, 50, 51, 52, 53, 54, 55, 56, 57, 58, 59, 60, 61, 62, 63, 64, 65, 66, 67, 68, 69, 70, 71, 72, 73, 74, 75, 76, 77, 78, 79, 80, 81, 82, 83, 84, 85, 86, 87, 88, 408, 402, 403, 404, 405, 406, 407, 409, 410, 411, 412, 413, 414, 415, 416, 417, 418, 419, 420, 421, 422, 423, 424] (by decide +kernel) (by decide +kernel)
set_option maxRecDepth 20000 in
theorem gL_texts_X6_init : GoodIn wsL_texts (wsX6_init) := ggL_texts_X6_init
set_option maxRecDepth 20000 in
theorem ggL_texts_X6_fault : GoodIn wsL_texts wsX6_fault := goodIn_r _ [92, 56, 93, 94, 95, 55, 96, 97, 84, 98, 99, 100, 101, 102, 103, 104, 105, 106, 107, 108, 109, 110, 51, 111, 112, 78, 113, 114, 115, 116, 117, 118, 119, 120, 121, 122, 123, 124, 125, 126, 127, 128, 129, 3, 130, 131, 132, 133, 134, 135, 136, 137, 138, 83, 139, 140, 141, 142, 143, 144, 145, 146, 402, 403, 404, 405, 406, 407, 416, 417, 418, 419, 420, 414, 415] (by decide +kernel) (by decide +kernel)
set_option maxRecDepth 20000 in
theorem gL_texts_X6_fault : GoodIn wsL_texts (wsV RL 101 RX6 yX6_fault wsX6_fault) := goodIn_app (goodIn_of _ (by decide +kernel)) ggL_texts_X6_fault
set_option maxRecDepth 20000 in
theorem ggL_texts_X6_carryOut : GoodIn wsL_texts wsX6_carryOut := goodIn_r _ [150, 56, 44, 40, 52, 93, 94, 95, 55, 96, 97, 84, 98, 99, 100, 101, 102, 103, 104, 105, 106, 107, 108, 109, 110, 51, 111, 112, 78, 113, 114, 115, 116, 117, 118, 119, 120, 121, 122, 123, 124, 125, 126, 127, 128, 129, 3, 130, 131, 132, 133, 134, 135, 136, 137, 138, 83, 139, 140, 141, 142, 143, 144, 145, 146, 151, 152, 153, 43, 154, 70, 155, 156, 157, 158, 39, 159, 66, 160, 161, 162, 163, 164, 165, 166, 167, 168, 169, 170, 171, 172, 173, 174, 175, 176, 177, 178, 179, 180, 181, 182, 183, 184, 185, 186, 187, 188, 189, 190, 191, 192, 193, 194, 195, 196, 197, 198, 199, 200, 201, 202, 203, 204, 205, 206, 207, 208, 209, 210, 211, 212, 213, 214, 215, 216, 217, 218, 219, 220, 221, 222, 223, 224, 225, 226, 227, 228, 229, 230, 231, 232, 60, 233, 234, 235, 236, 237, 238, 239, 240, 241, 59, 242, 243, 244, 245, 246, 247, 88, 248, 249, 250, 251, 252, 253, 254, 255, 256, 257, 258, 259, 260, 261, 262, 263, 264, 265, 266, 267, 268, 269, 270, 271, 272, 273, 274, 275, 276, 277, 278, 279, 280, 281, 282, 283, 284, 285, 286, 287, 288, 289, 290, 291, 292, 293, 294, 295, 296, 297, 298, 299, 300, 301, 302, 303, 304, 305, 306, 307, 308, 309, 310, 311, 312, 313, 314, 315, 316, 317, 318, 319, 320, 321, 322, 323, 324, 325, 326, 327, 328, 402, 403, 404, 405, 406, 407, 416, 417, 418, 419, 420, 414, 415, 409, 410, 411, 408, 421, 422, 423, 424] (by decide +kernel) (by decide +kernel)
set_option maxRecDepth 20000 in
theorem gL_texts_X6_carryOut : GoodIn wsL_texts (wsV RL 44 RX6 yX6_carryOut wsX6_carryOut) := goodIn_app (goodIn_of _ (by decide +kernel)) ggL_texts_X6_carryOut
set_option maxRecDepth 20000 in
theorem ggL_texts_X6_put : GoodIn wsL_texts wsX6_put := goodIn_r _ [332, 52, 333, 334, 335, 51, 336, 112, 337, 338, 339, 340, 341, 342, 129, 3, 130, 343, 344, 345, 346, 78, 402, 403, 404, 405, 406, 407, 414, 415] (by decide +kernel) (by decide +kernel)
set_option maxRecDepth 20000 in
theorem gL_texts_X6_put : GoodIn wsL_texts (wsV RL 77 RX6 yX6_put wsX6_put) := goodIn_app (goodIn_of _ (by decide +kernel)) ggL_texts_X6_put
set_option maxRecDepth 20000 in
theorem ggL_texts_X6_wipe : GoodIn wsL_texts wsX6_wipe := goodIn_r _ [350, 52, 319, 320, 321, 51, 322, 112, 402, 403, 404, 405, 406, 407, 414, 415] (by decide +kernel) (by decide +kernel)
set_option maxRecDepth 20000 in
theorem gL_texts_X6_wipe : GoodIn wsL_texts (wsV RL 106 RX6 yX6_wipe wsX6_wipe) := goodIn_app (goodIn_of _ (by decide +kernel)) ggL_texts_X6_wipe
set_option maxRecDepth 20000 in
theorem ggL_texts_X6_count : GoodIn wsL_texts wsX6_count := goodIn_r _ [354, 52, 44, 40, 238, 129, 3, 130, 355, 144, 145, 51, 146, 112, 356, 357, 358, 43, 359, 327, 285, 187, 188, 39, 189, 66, 402, 403, 404, 405, 406, 407, 414, 415, 409, 410, 411, 408] (by decide +kernel) (by decide +kernel)
set_option maxRecDepth 20000 in
theorem gL_texts_X6_count : GoodIn wsL_texts (wsV RL 13 RX6 yX6_count wsX6_count) := goodIn_app (goodIn_of _ (by decide +kernel)) ggL_texts_X6_count
set_option maxRecDepth 20000 in
theorem ggL_texts_X6_undo : GoodIn wsL_texts wsX6_undo := goodIn_r _ [363, 44, 40, 364, 365, 366, 43, 367, 327, 155, 70, 368, 369, 370, 39, 371, 66, 160, 161, 162, 163, 402, 403, 404, 405, 406, 407, 409, 410, 411, 408] (by decide +kernel) (by decide +kernel)
set_option maxRecDepth 20000 in
theorem gL_texts_X6_undo : GoodIn wsL_texts (wsV RL 94 RX6 yX6_undo wsX6_undo) := goodIn_app (goodIn_of _ (by decide +kernel)) ggL_texts_X6_undo
set_option maxRecDepth 20000 in
theorem ggL_texts_X6_of : GoodIn wsL_texts wsX6_of := goodIn_r _ [375, 40, 237, 218, 219, 39, 220, 186, 187, 188, 189, 66, 376, 222, 223, 224, 190, 191, 192, 377, 378, 379, 380, 221, 225, 226, 227, 228, 381, 382, 383, 384, 385, 291, 245, 292, 386, 387, 388, 389, 390, 244, 246, 391, 306, 307, 308, 392, 393, 394, 395, 402, 403, 404, 405, 406, 407, 408] (by decide +kernel) (by decide +kernel)
set_option maxRecDepth 20000 in
theorem gL_texts_X6_of : GoodIn wsL_texts (wsV RL 19 RX6 yX6_of wsX6_of) := goodIn_app (goodIn_of _ (by decide +kernel)) ggL_texts_X6_of
set_option maxRecDepth 20000 in
theorem ggL_texts_X6_tooth : GoodIn wsL_texts wsX6_tooth := goodIn_r _ [399, 40, 400, 214, 215, 39, 216, 217, 218, 219, 220, 186, 187, 188, 189, 66, 221, 222, 223, 224, 190, 191, 192, 401, 226, 227, 228, 402, 403, 404, 405, 406, 407, 408] (by decide +kernel) (by decide +kernel)
set_option maxRecDepth 20000 in
theorem gL_texts_X6_tooth : GoodIn wsL_texts (wsV RL 23 RX6 yX6_tooth wsX6_tooth) := goodIn_app (goodIn_of _ (by decide +kernel)) ggL_texts_X6_tooth
theorem dL_texts_0 : decode cL_texts 0 = .ok (.new 14, 3) := by decide +kernel
theorem dL_texts_3 : decode cL_texts 3 = .ok (.dup, 1) := by decide +kernel
theorem dL_texts_4 : decode cL_texts 4 = .ok (.invokespecial 93, 3) := by decide +kernel
theorem dL_texts_7 : decode cL_texts 7 = .ok (.astore_n 0, 1) := by decide +kernel
theorem dL_texts_8 : decode cL_texts 8 = .ok (.aload_n 0, 1) := by decide +kernel
theorem dL_texts_9 : decode cL_texts 9 = .ok (.invokevirtual 101, 3) := by decide +kernel
theorem dL_texts_12 : decode cL_texts 12 = .ok (.ifCond .ne 412, 3) := by decide +kernel
theorem dL_texts_15 : decode cL_texts 15 = .ok (.aload_n 0, 1) := by decide +kernel
theorem dL_texts_16 : decode cL_texts 16 = .ok (.invokevirtual 44, 3) := by decide +kernel
theorem dL_texts_19 : decode cL_texts 19 = .ok (.bipush (-3), 2) := by decide +kernel
theorem dL_texts_21 : decode cL_texts 21 = .ok (.if_icmp .ne 403, 3) := by decide +kernel
theorem dL_texts_24 : decode cL_texts 24 = .ok (.aload_n 0, 1) := by decide +kernel
theorem dL_texts_25 : decode cL_texts 25 = .ok (.ldc2_w 104, 3) := by decide +kernel
theorem dL_texts_28 : decode cL_texts 28 = .ok (.invokevirtual 77, 3) := by decide +kernel
theorem dL_texts_31 : decode cL_texts 31 = .ok (.ifCond .lt 393, 3) := by decide +kernel
theorem dL_texts_34 : decode cL_texts 34 = .ok (.aload_n 0, 1) := by decide +kernel
theorem dL_texts_35 : decode cL_texts 35 = .ok (.invokevirtual 101, 3) := by decide +kernel
theorem dL_texts_38 : decode cL_texts 38 = .ok (.iconst 1, 1) := by decide +kernel
theorem dL_texts_39 : decode cL_texts 39 = .ok (.if_icmp .ne 385, 3) := by decide +kernel
theorem dL_texts_42 : decode cL_texts 42 = .ok (.aload_n 0, 1) := by decide +kernel
theorem dL_texts_43 : decode cL_texts 43 = .ok (.invokevirtual 106, 3) := by decide +kernel
theorem dL_texts_46 : decode cL_texts 46 = .ok (.iconst 1, 1) := by decide +kernel
theorem dL_texts_47 : decode cL_texts 47 = .ok (.if_icmp .ne 377, 3) := by decide +kernel
theorem dL_texts_50 : decode cL_texts 50 = .ok (.aload_n 0, 1) := by decide +kernel
theorem dL_texts_51 : decode cL_texts 51 = .ok (.ldc2_w 109, 3) := by decide +kernel
theorem dL_texts_54 : decode cL_texts 54 = .ok (.invokevirtual 77, 3) := by decide +kernel
theorem dL_texts_57 : decode cL_texts 57 = .ok (.ifCond .lt 367, 3) := by decide +kernel
theorem dL_texts_60 : decode cL_texts 60 = .ok (.aload_n 0, 1) := by decide +kernel
theorem dL_texts_61 : decode cL_texts 61 = .ok (.invokevirtual 101, 3) := by decide +kernel
theorem dL_texts_64 : decode cL_texts 64 = .ok (.iconst 2, 1) := by decide +kernel
theorem dL_texts_65 : decode cL_texts 65 = .ok (.if_icmp .ne 359, 3) := by decide +kernel
theorem dL_texts_68 : decode cL_texts 68 = .ok (.aload_n 0, 1) := by decide +kernel
theorem dL_texts_69 : decode cL_texts 69 = .ok (.invokevirtual 106, 3) := by decide +kernel
theorem dL_texts_72 : decode cL_texts 72 = .ok (.iconst 3, 1) := by decide +kernel
theorem dL_texts_73 : decode cL_texts 73 = .ok (.if_icmp .ne 351, 3) := by decide +kernel
theorem dL_texts_76 : decode cL_texts 76 = .ok (.aload_n 0, 1) := by decide +kernel
theorem dL_texts_77 : decode cL_texts 77 = .ok (.ldc2_w 111, 3) := by decide +kernel
theorem dL_texts_80 : decode cL_texts 80 = .ok (.invokevirtual 77, 3) := by decide +kernel
theorem dL_texts_83 : decode cL_texts 83 = .ok (.ifCond .lt 341, 3) := by decide +kernel
theorem dL_texts_86 : decode cL_texts 86 = .ok (.aload_n 0, 1) := by decide +kernel
theorem dL_texts_87 : decode cL_texts 87 = .ok (.invokevirtual 101, 3) := by decide +kernel
theorem dL_texts_90 : decode cL_texts 90 = .ok (.iconst 3, 1) := by decide +kernel
theorem dL_texts_91 : decode cL_texts 91 = .ok (.if_icmp .ne 333, 3) := by decide +kernel
theorem dL_texts_94 : decode cL_texts 94 = .ok (.aload_n 0, 1) := by decide +kernel
theorem dL_texts_95 : decode cL_texts 95 = .ok (.invokevirtual 106, 3) := by decide +kernel
theorem dL_texts_98 : decode cL_texts 98 = .ok (.iconst 3, 1) := by decide +kernel
theorem dL_texts_99 : decode cL_texts 99 = .ok (.if_icmp .ne 325, 3) := by decide +kernel
theorem dL_texts_102 : decode cL_texts 102 = .ok (.aload_n 0, 1) := by decide +kernel
theorem dL_texts_103 : decode cL_texts 103 = .ok (.ldc2_w 113, 3) := by decide +kernel
theorem dL_texts_106 : decode cL_texts 106 = .ok (.invokevirtual 77, 3) := by decide +kernel
theorem dL_texts_109 : decode cL_texts 109 = .ok (.ifCond .lt 315, 3) := by decide +kernel
theorem dL_texts_112 : decode cL_texts 112 = .ok (.aload_n 0, 1) := by decide +kernel
theorem dL_texts_113 : decode cL_texts 113 = .ok (.invokevirtual 101, 3) := by decide +kernel
theorem dL_texts_116 : decode cL_texts 116 = .ok (.iconst 2, 1) := by decide +kernel
theorem dL_texts_117 : decode cL_texts 117 = .ok (.if_icmp .ne 307, 3) := by decide +kernel
theorem dL_texts_120 : decode cL_texts 120 = .ok (.aload_n 0, 1) := by decide +kernel
theorem dL_texts_121 : decode cL_texts 121 = .ok (.invokevirtual 106, 3) := by decide +kernel
theorem dL_texts_124 : decode cL_texts 124 = .ok (.iconst 2, 1) := by decide +kernel
theorem dL_texts_125 : decode cL_texts 125 = .ok (.if_icmp .ne 299, 3) := by decide +kernel
theorem dL_texts_128 : decode cL_texts 128 = .ok (.aload_n 0, 1) := by decide +kernel
theorem dL_texts_129 : decode cL_texts 129 = .ok (.ldc2_w 115, 3) := by decide +kernel
theorem dL_texts_132 : decode cL_texts 132 = .ok (.invokevirtual 77, 3) := by decide +kernel
theorem dL_texts_135 : decode cL_texts 135 = .ok (.ifCond .lt 289, 3) := by decide +kernel
theorem dL_texts_138 : decode cL_texts 138 = .ok (.aload_n 0, 1) := by decide +kernel
theorem dL_texts_139 : decode cL_texts 139 = .ok (.invokevirtual 101, 3) := by decide +kernel
theorem dL_texts_142 : decode cL_texts 142 = .ok (.iconst 2, 1) := by decide +kernel
theorem dL_texts_143 : decode cL_texts 143 = .ok (.if_icmp .ne 281, 3) := by decide +kernel
theorem dL_texts_146 : decode cL_texts 146 = .ok (.aload_n 0, 1) := by decide +kernel
theorem dL_texts_147 : decode cL_texts 147 = .ok (.invokevirtual 106, 3) := by decide +kernel
theorem dL_texts_150 : decode cL_texts 150 = .ok (.iconst 3, 1) := by decide +kernel
theorem dL_texts_151 : decode cL_texts 151 = .ok (.if_icmp .ne 273, 3) := by decide +kernel
theorem dL_texts_154 : decode cL_texts 154 = .ok (.aload_n 0, 1) := by decide +kernel
theorem dL_texts_155 : decode cL_texts 155 = .ok (.ldc2_w 117, 3) := by decide +kernel
theorem dL_texts_158 : decode cL_texts 158 = .ok (.invokevirtual 77, 3) := by decide +kernel
theorem dL_texts_161 : decode cL_texts 161 = .ok (.ifCond .lt 263, 3) := by decide +kernel
theorem dL_texts_164 : decode cL_texts 164 = .ok (.aload_n 0, 1) := by decide +kernel
theorem dL_texts_165 : decode cL_texts 165 = .ok (.invokevirtual 101, 3) := by decide +kernel
theorem dL_texts_168 : decode cL_texts 168 = .ok (.iconst 3, 1) := by decide +kernel
theorem dL_texts_169 : decode cL_texts 169 = .ok (.if_icmp .ne 255, 3) := by decide +kernel
theorem dL_texts_172 : decode cL_texts 172 = .ok (.aload_n 0, 1) := by decide +kernel
theorem dL_texts_173 : decode cL_texts 173 = .ok (.invokevirtual 106, 3) := by decide +kernel
theorem dL_texts_176 : decode cL_texts 176 = .ok (.iconst 4, 1) := by decide +kernel
theorem dL_texts_177 : decode cL_texts 177 = .ok (.if_icmp .ne 247, 3) := by decide +kernel
theorem dL_texts_180 : decode cL_texts 180 = .ok (.aload_n 0, 1) := by decide +kernel
theorem dL_texts_181 : decode cL_texts 181 = .ok (.ldc2_w 119, 3) := by decide +kernel
theorem dL_texts_184 : decode cL_texts 184 = .ok (.invokevirtual 77, 3) := by decide +kernel
theorem dL_texts_187 : decode cL_texts 187 = .ok (.ifCond .lt 237, 3) := by decide +kernel
theorem dL_texts_190 : decode cL_texts 190 = .ok (.aload_n 0, 1) := by decide +kernel
theorem dL_texts_191 : decode cL_texts 191 = .ok (.invokevirtual 101, 3) := by decide +kernel
theorem dL_texts_194 : decode cL_texts 194 = .ok (.iconst 5, 1) := by decide +kernel
theorem dL_texts_195 : decode cL_texts 195 = .ok (.if_icmp .ne 229, 3) := by decide +kernel
theorem dL_texts_198 : decode cL_texts 198 = .ok (.aload_n 0, 1) := by decide +kernel
theorem dL_texts_199 : decode cL_texts 199 = .ok (.invokevirtual 106, 3) := by decide +kernel
theorem dL_texts_202 : decode cL_texts 202 = .ok (.iconst 5, 1) := by decide +kernel
theorem dL_texts_203 : decode cL_texts 203 = .ok (.if_icmp .ne 221, 3) := by decide +kernel
theorem dL_texts_206 : decode cL_texts 206 = .ok (.aload_n 0, 1) := by decide +kernel
theorem dL_texts_207 : decode cL_texts 207 = .ok (.ldc2_w 121, 3) := by decide +kernel
theorem dL_texts_210 : decode cL_texts 210 = .ok (.invokevirtual 77, 3) := by decide +kernel
theorem dL_texts_213 : decode cL_texts 213 = .ok (.ifCond .lt 211, 3) := by decide +kernel
theorem dL_texts_216 : decode cL_texts 216 = .ok (.aload_n 0, 1) := by decide +kernel
theorem dL_texts_217 : decode cL_texts 217 = .ok (.invokevirtual 101, 3) := by decide +kernel
theorem dL_texts_220 : decode cL_texts 220 = .ok (.bipush (-6), 2) := by decide +kernel
theorem dL_texts_222 : decode cL_texts 222 = .ok (.if_icmp .ne 202, 3) := by decide +kernel
theorem dL_texts_225 : decode cL_texts 225 = .ok (.aload_n 0, 1) := by decide +kernel
theorem dL_texts_226 : decode cL_texts 226 = .ok (.invokevirtual 106, 3) := by decide +kernel
theorem dL_texts_229 : decode cL_texts 229 = .ok (.bipush 7, 2) := by decide +kernel
theorem dL_texts_231 : decode cL_texts 231 = .ok (.if_icmp .ne 193, 3) := by decide +kernel
theorem dL_texts_234 : decode cL_texts 234 = .ok (.aload_n 0, 1) := by decide +kernel
theorem dL_texts_235 : decode cL_texts 235 = .ok (.ldc2_w 123, 3) := by decide +kernel
theorem dL_texts_238 : decode cL_texts 238 = .ok (.invokevirtual 77, 3) := by decide +kernel
theorem dL_texts_241 : decode cL_texts 241 = .ok (.ifCond .lt 183, 3) := by decide +kernel
theorem dL_texts_244 : decode cL_texts 244 = .ok (.aload_n 0, 1) := by decide +kernel
theorem dL_texts_245 : decode cL_texts 245 = .ok (.invokevirtual 101, 3) := by decide +kernel
theorem dL_texts_248 : decode cL_texts 248 = .ok (.bipush (-6), 2) := by decide +kernel
theorem dL_texts_250 : decode cL_texts 250 = .ok (.if_icmp .ne 174, 3) := by decide +kernel
theorem dL_texts_253 : decode cL_texts 253 = .ok (.aload_n 0, 1) := by decide +kernel
theorem dL_texts_254 : decode cL_texts 254 = .ok (.invokevirtual 106, 3) := by decide +kernel
theorem dL_texts_257 : decode cL_texts 257 = .ok (.iconst 5, 1) := by decide +kernel
theorem dL_texts_258 : decode cL_texts 258 = .ok (.if_icmp .ne 166, 3) := by decide +kernel
theorem dL_texts_261 : decode cL_texts 261 = .ok (.aload_n 0, 1) := by decide +kernel
theorem dL_texts_262 : decode cL_texts 262 = .ok (.ldc2_w 125, 3) := by decide +kernel
theorem dL_texts_265 : decode cL_texts 265 = .ok (.invokevirtual 77, 3) := by decide +kernel
theorem dL_texts_268 : decode cL_texts 268 = .ok (.ifCond .lt 156, 3) := by decide +kernel
theorem dL_texts_271 : decode cL_texts 271 = .ok (.aload_n 0, 1) := by decide +kernel
theorem dL_texts_272 : decode cL_texts 272 = .ok (.invokevirtual 101, 3) := by decide +kernel
theorem dL_texts_275 : decode cL_texts 275 = .ok (.ifCond .ne 149, 3) := by decide +kernel
theorem dL_texts_278 : decode cL_texts 278 = .ok (.aload_n 0, 1) := by decide +kernel
theorem dL_texts_279 : decode cL_texts 279 = .ok (.invokevirtual 106, 3) := by decide +kernel
theorem dL_texts_282 : decode cL_texts 282 = .ok (.iconst 1, 1) := by decide +kernel
theorem dL_texts_283 : decode cL_texts 283 = .ok (.if_icmp .ne 141, 3) := by decide +kernel
theorem dL_texts_286 : decode cL_texts 286 = .ok (.aload_n 0, 1) := by decide +kernel
theorem dL_texts_287 : decode cL_texts 287 = .ok (.ldc2_w 127, 3) := by decide +kernel
theorem dL_texts_290 : decode cL_texts 290 = .ok (.invokevirtual 77, 3) := by decide +kernel
theorem dL_texts_293 : decode cL_texts 293 = .ok (.ifCond .lt 131, 3) := by decide +kernel
theorem dL_texts_296 : decode cL_texts 296 = .ok (.aload_n 0, 1) := by decide +kernel
theorem dL_texts_297 : decode cL_texts 297 = .ok (.invokevirtual 101, 3) := by decide +kernel
theorem dL_texts_300 : decode cL_texts 300 = .ok (.bipush (-6), 2) := by decide +kernel
theorem dL_texts_302 : decode cL_texts 302 = .ok (.if_icmp .ne 122, 3) := by decide +kernel
theorem dL_texts_305 : decode cL_texts 305 = .ok (.aload_n 0, 1) := by decide +kernel
theorem dL_texts_306 : decode cL_texts 306 = .ok (.invokevirtual 106, 3) := by decide +kernel
theorem dL_texts_309 : decode cL_texts 309 = .ok (.bipush 7, 2) := by decide +kernel
theorem dL_texts_311 : decode cL_texts 311 = .ok (.if_icmp .ne 113, 3) := by decide +kernel
theorem dL_texts_314 : decode cL_texts 314 = .ok (.aload_n 0, 1) := by decide +kernel
theorem dL_texts_315 : decode cL_texts 315 = .ok (.ldc2_w 129, 3) := by decide +kernel
theorem dL_texts_318 : decode cL_texts 318 = .ok (.invokevirtual 77, 3) := by decide +kernel
theorem dL_texts_321 : decode cL_texts 321 = .ok (.ifCond .lt 103, 3) := by decide +kernel
theorem dL_texts_324 : decode cL_texts 324 = .ok (.aload_n 0, 1) := by decide +kernel
theorem dL_texts_325 : decode cL_texts 325 = .ok (.invokevirtual 101, 3) := by decide +kernel
theorem dL_texts_328 : decode cL_texts 328 = .ok (.bipush 7, 2) := by decide +kernel
theorem dL_texts_330 : decode cL_texts 330 = .ok (.if_icmp .ne 94, 3) := by decide +kernel
theorem dL_texts_333 : decode cL_texts 333 = .ok (.aload_n 0, 1) := by decide +kernel
theorem dL_texts_334 : decode cL_texts 334 = .ok (.invokevirtual 106, 3) := by decide +kernel
theorem dL_texts_337 : decode cL_texts 337 = .ok (.bipush 7, 2) := by decide +kernel
theorem dL_texts_339 : decode cL_texts 339 = .ok (.if_icmp .ne 85, 3) := by decide +kernel
theorem dL_texts_342 : decode cL_texts 342 = .ok (.aload_n 0, 1) := by decide +kernel
theorem dL_texts_343 : decode cL_texts 343 = .ok (.ldc2_w 131, 3) := by decide +kernel
theorem dL_texts_346 : decode cL_texts 346 = .ok (.invokevirtual 77, 3) := by decide +kernel
theorem dL_texts_349 : decode cL_texts 349 = .ok (.ifCond .lt 75, 3) := by decide +kernel
theorem dL_texts_352 : decode cL_texts 352 = .ok (.aload_n 0, 1) := by decide +kernel
theorem dL_texts_353 : decode cL_texts 353 = .ok (.invokevirtual 101, 3) := by decide +kernel
theorem dL_texts_356 : decode cL_texts 356 = .ok (.iconst 3, 1) := by decide +kernel
theorem dL_texts_357 : decode cL_texts 357 = .ok (.if_icmp .ne 67, 3) := by decide +kernel
theorem dL_texts_360 : decode cL_texts 360 = .ok (.aload_n 0, 1) := by decide +kernel
theorem dL_texts_361 : decode cL_texts 361 = .ok (.invokevirtual 106, 3) := by decide +kernel
theorem dL_texts_364 : decode cL_texts 364 = .ok (.iconst 3, 1) := by decide +kernel
theorem dL_texts_365 : decode cL_texts 365 = .ok (.if_icmp .ne 59, 3) := by decide +kernel
theorem dL_texts_368 : decode cL_texts 368 = .ok (.aload_n 0, 1) := by decide +kernel
theorem dL_texts_369 : decode cL_texts 369 = .ok (.ldc2_w 133, 3) := by decide +kernel
theorem dL_texts_372 : decode cL_texts 372 = .ok (.invokevirtual 77, 3) := by decide +kernel
theorem dL_texts_375 : decode cL_texts 375 = .ok (.ifCond .lt 49, 3) := by decide +kernel
theorem dL_texts_378 : decode cL_texts 378 = .ok (.aload_n 0, 1) := by decide +kernel
theorem dL_texts_379 : decode cL_texts 379 = .ok (.invokevirtual 101, 3) := by decide +kernel
theorem dL_texts_382 : decode cL_texts 382 = .ok (.bipush 6, 2) := by decide +kernel
theorem dL_texts_384 : decode cL_texts 384 = .ok (.if_icmp .ne 40, 3) := by decide +kernel
theorem dL_texts_387 : decode cL_texts 387 = .ok (.aload_n 0, 1) := by decide +kernel
theorem dL_texts_388 : decode cL_texts 388 = .ok (.invokevirtual 106, 3) := by decide +kernel
theorem dL_texts_391 : decode cL_texts 391 = .ok (.bipush 6, 2) := by decide +kernel
theorem dL_texts_393 : decode cL_texts 393 = .ok (.if_icmp .ne 31, 3) := by decide +kernel
theorem dL_texts_396 : decode cL_texts 396 = .ok (.aload_n 0, 1) := by decide +kernel
theorem dL_texts_397 : decode cL_texts 397 = .ok (.ldc2_w 135, 3) := by decide +kernel
theorem dL_texts_400 : decode cL_texts 400 = .ok (.invokevirtual 77, 3) := by decide +kernel
theorem dL_texts_403 : decode cL_texts 403 = .ok (.ifCond .lt 21, 3) := by decide +kernel
theorem dL_texts_406 : decode cL_texts 406 = .ok (.aload_n 0, 1) := by decide +kernel
theorem dL_texts_407 : decode cL_texts 407 = .ok (.invokevirtual 101, 3) := by decide +kernel
theorem dL_texts_410 : decode cL_texts 410 = .ok (.bipush 6, 2) := by decide +kernel
theorem dL_texts_412 : decode cL_texts 412 = .ok (.if_icmp .ne 12, 3) := by decide +kernel
theorem dL_texts_415 : decode cL_texts 415 = .ok (.aload_n 0, 1) := by decide +kernel
theorem dL_texts_416 : decode cL_texts 416 = .ok (.invokevirtual 106, 3) := by decide +kernel
theorem dL_texts_419 : decode cL_texts 419 = .ok (.bipush 7, 2) := by decide +kernel
theorem dL_texts_421 : decode cL_texts 421 = .ok (.if_icmp .eq 5, 3) := by decide +kernel
theorem dL_texts_424 : decode cL_texts 424 = .ok (.iconst 0, 1) := by decide +kernel
theorem dL_texts_425 : decode cL_texts 425 = .ok (.ireturn, 1) := by decide +kernel
theorem dL_texts_426 : decode cL_texts 426 = .ok (.aload_n 0, 1) := by decide +kernel
theorem dL_texts_427 : decode cL_texts 427 = .ok (.ldc2_w 137, 3) := by decide +kernel
theorem dL_texts_430 : decode cL_texts 430 = .ok (.invokevirtual 77, 3) := by decide +kernel
theorem dL_texts_433 : decode cL_texts 433 = .ok (.bipush 8, 2) := by decide +kernel
theorem dL_texts_435 : decode cL_texts 435 = .ok (.if_icmp .ne 57, 3) := by decide +kernel
theorem dL_texts_438 : decode cL_texts 438 = .ok (.aload_n 0, 1) := by decide +kernel
theorem dL_texts_439 : decode cL_texts 439 = .ok (.ldc2_w 139, 3) := by decide +kernel
theorem dL_texts_442 : decode cL_texts 442 = .ok (.invokevirtual 77, 3) := by decide +kernel
theorem dL_texts_445 : decode cL_texts 445 = .ok (.bipush 12, 2) := by decide +kernel
theorem dL_texts_447 : decode cL_texts 447 = .ok (.if_icmp .ne 45, 3) := by decide +kernel
theorem dL_texts_450 : decode cL_texts 450 = .ok (.aload_n 0, 1) := by decide +kernel
theorem dL_texts_451 : decode cL_texts 451 = .ok (.invokevirtual 101, 3) := by decide +kernel
theorem dL_texts_454 : decode cL_texts 454 = .ok (.bipush (-6), 2) := by decide +kernel
theorem dL_texts_456 : decode cL_texts 456 = .ok (.if_icmp .ne 36, 3) := by decide +kernel
theorem dL_texts_459 : decode cL_texts 459 = .ok (.aload_n 0, 1) := by decide +kernel
theorem dL_texts_460 : decode cL_texts 460 = .ok (.invokevirtual 44, 3) := by decide +kernel
theorem dL_texts_463 : decode cL_texts 463 = .ok (.ifCond .ne 29, 3) := by decide +kernel
theorem dL_texts_466 : decode cL_texts 466 = .ok (.aload_n 0, 1) := by decide +kernel
theorem dL_texts_467 : decode cL_texts 467 = .ok (.bipush 10, 2) := by decide +kernel
theorem dL_texts_469 : decode cL_texts 469 = .ok (.invokevirtual 13, 3) := by decide +kernel
theorem dL_texts_472 : decode cL_texts 472 = .ok (.iconst 1, 1) := by decide +kernel
theorem dL_texts_473 : decode cL_texts 473 = .ok (.if_icmp .ne 19, 3) := by decide +kernel
theorem dL_texts_476 : decode cL_texts 476 = .ok (.aload_n 0, 1) := by decide +kernel
theorem dL_texts_477 : decode cL_texts 477 = .ok (.bipush 9, 2) := by decide +kernel
theorem dL_texts_479 : decode cL_texts 479 = .ok (.invokevirtual 13, 3) := by decide +kernel
theorem dL_texts_482 : decode cL_texts 482 = .ok (.ifCond .ne 10, 3) := by decide +kernel
theorem dL_texts_485 : decode cL_texts 485 = .ok (.aload_n 0, 1) := by decide +kernel
theorem dL_texts_486 : decode cL_texts 486 = .ok (.invokevirtual 94, 3) := by decide +kernel
theorem dL_texts_489 : decode cL_texts 489 = .ok (.ifCond .eq 5, 3) := by decide +kernel
theorem dL_texts_492 : decode cL_texts 492 = .ok (.iconst 0, 1) := by decide +kernel
theorem dL_texts_493 : decode cL_texts 493 = .ok (.ireturn, 1) := by decide +kernel
theorem dL_texts_494 : decode cL_texts 494 = .ok (.aload_n 0, 1) := by decide +kernel
theorem dL_texts_495 : decode cL_texts 495 = .ok (.ldc2_w 141, 3) := by decide +kernel
theorem dL_texts_498 : decode cL_texts 498 = .ok (.invokevirtual 77, 3) := by decide +kernel
theorem dL_texts_501 : decode cL_texts 501 = .ok (.bipush 8, 2) := by decide +kernel
theorem dL_texts_503 : decode cL_texts 503 = .ok (.if_icmp .ne 185, 3) := by decide +kernel
theorem dL_texts_506 : decode cL_texts 506 = .ok (.aload_n 0, 1) := by decide +kernel
theorem dL_texts_507 : decode cL_texts 507 = .ok (.ldc2_w 143, 3) := by decide +kernel
theorem dL_texts_510 : decode cL_texts 510 = .ok (.invokevirtual 77, 3) := by decide +kernel
theorem dL_texts_513 : decode cL_texts 513 = .ok (.bipush 16, 2) := by decide +kernel
theorem dL_texts_515 : decode cL_texts 515 = .ok (.if_icmp .ne 173, 3) := by decide +kernel
theorem dL_texts_518 : decode cL_texts 518 = .ok (.aload_n 0, 1) := by decide +kernel
theorem dL_texts_519 : decode cL_texts 519 = .ok (.ldc2_w 145, 3) := by decide +kernel
theorem dL_texts_522 : decode cL_texts 522 = .ok (.invokevirtual 77, 3) := by decide +kernel
theorem dL_texts_525 : decode cL_texts 525 = .ok (.bipush 24, 2) := by decide +kernel
theorem dL_texts_527 : decode cL_texts 527 = .ok (.if_icmp .ne 161, 3) := by decide +kernel
theorem dL_texts_530 : decode cL_texts 530 = .ok (.aload_n 0, 1) := by decide +kernel
theorem dL_texts_531 : decode cL_texts 531 = .ok (.ldc2_w 147, 3) := by decide +kernel
theorem dL_texts_534 : decode cL_texts 534 = .ok (.invokevirtual 77, 3) := by decide +kernel
theorem dL_texts_537 : decode cL_texts 537 = .ok (.bipush 32, 2) := by decide +kernel
theorem dL_texts_539 : decode cL_texts 539 = .ok (.if_icmp .ne 149, 3) := by decide +kernel
theorem dL_texts_542 : decode cL_texts 542 = .ok (.aload_n 0, 1) := by decide +kernel
theorem dL_texts_543 : decode cL_texts 543 = .ok (.ldc2_w 149, 3) := by decide +kernel
theorem dL_texts_546 : decode cL_texts 546 = .ok (.invokevirtual 77, 3) := by decide +kernel
theorem dL_texts_549 : decode cL_texts 549 = .ok (.bipush 40, 2) := by decide +kernel
theorem dL_texts_551 : decode cL_texts 551 = .ok (.if_icmp .ne 137, 3) := by decide +kernel
theorem dL_texts_554 : decode cL_texts 554 = .ok (.aload_n 0, 1) := by decide +kernel
theorem dL_texts_555 : decode cL_texts 555 = .ok (.ldc2_w 151, 3) := by decide +kernel
theorem dL_texts_558 : decode cL_texts 558 = .ok (.invokevirtual 77, 3) := by decide +kernel
theorem dL_texts_561 : decode cL_texts 561 = .ok (.bipush 48, 2) := by decide +kernel
theorem dL_texts_563 : decode cL_texts 563 = .ok (.if_icmp .ne 125, 3) := by decide +kernel
theorem dL_texts_566 : decode cL_texts 566 = .ok (.aload_n 0, 1) := by decide +kernel
theorem dL_texts_567 : decode cL_texts 567 = .ok (.ldc2_w 153, 3) := by decide +kernel
theorem dL_texts_570 : decode cL_texts 570 = .ok (.invokevirtual 77, 3) := by decide +kernel
theorem dL_texts_573 : decode cL_texts 573 = .ok (.bipush 50, 2) := by decide +kernel
theorem dL_texts_575 : decode cL_texts 575 = .ok (.if_icmp .ne 113, 3) := by decide +kernel
theorem dL_texts_578 : decode cL_texts 578 = .ok (.aload_n 0, 1) := by decide +kernel
theorem dL_texts_579 : decode cL_texts 579 = .ok (.invokevirtual 101, 3) := by decide +kernel
theorem dL_texts_582 : decode cL_texts 582 = .ok (.bipush (-6), 2) := by decide +kernel
theorem dL_texts_584 : decode cL_texts 584 = .ok (.if_icmp .ne 104, 3) := by decide +kernel
theorem dL_texts_587 : decode cL_texts 587 = .ok (.aload_n 0, 1) := by decide +kernel
theorem dL_texts_588 : decode cL_texts 588 = .ok (.invokevirtual 44, 3) := by decide +kernel
theorem dL_texts_591 : decode cL_texts 591 = .ok (.iconst 5, 1) := by decide +kernel
theorem dL_texts_592 : decode cL_texts 592 = .ok (.if_icmp .ne 96, 3) := by decide +kernel
theorem dL_texts_595 : decode cL_texts 595 = .ok (.aload_n 0, 1) := by decide +kernel
theorem dL_texts_596 : decode cL_texts 596 = .ok (.iconst 0, 1) := by decide +kernel
theorem dL_texts_597 : decode cL_texts 597 = .ok (.invokevirtual 13, 3) := by decide +kernel
theorem dL_texts_600 : decode cL_texts 600 = .ok (.iconst 1, 1) := by decide +kernel
theorem dL_texts_601 : decode cL_texts 601 = .ok (.if_icmp .ne 87, 3) := by decide +kernel
theorem dL_texts_604 : decode cL_texts 604 = .ok (.aload_n 0, 1) := by decide +kernel
theorem dL_texts_605 : decode cL_texts 605 = .ok (.iconst 3, 1) := by decide +kernel
theorem dL_texts_606 : decode cL_texts 606 = .ok (.invokevirtual 13, 3) := by decide +kernel
theorem dL_texts_609 : decode cL_texts 609 = .ok (.iconst 3, 1) := by decide +kernel
theorem dL_texts_610 : decode cL_texts 610 = .ok (.if_icmp .ne 78, 3) := by decide +kernel
theorem dL_texts_613 : decode cL_texts 613 = .ok (.aload_n 0, 1) := by decide +kernel
theorem dL_texts_614 : decode cL_texts 614 = .ok (.iconst 5, 1) := by decide +kernel
theorem dL_texts_615 : decode cL_texts 615 = .ok (.invokevirtual 13, 3) := by decide +kernel
theorem dL_texts_618 : decode cL_texts 618 = .ok (.bipush 12, 2) := by decide +kernel
theorem dL_texts_620 : decode cL_texts 620 = .ok (.if_icmp .ne 68, 3) := by decide +kernel
theorem dL_texts_623 : decode cL_texts 623 = .ok (.aload_n 0, 1) := by decide +kernel
theorem dL_texts_624 : decode cL_texts 624 = .ok (.iconst 0, 1) := by decide +kernel
theorem dL_texts_625 : decode cL_texts 625 = .ok (.iconst 5, 1) := by decide +kernel
theorem dL_texts_626 : decode cL_texts 626 = .ok (.invokevirtual 19, 3) := by decide +kernel
theorem dL_texts_629 : decode cL_texts 629 = .ok (.bipush 12, 2) := by decide +kernel
theorem dL_texts_631 : decode cL_texts 631 = .ok (.if_icmp .ne 57, 3) := by decide +kernel
theorem dL_texts_634 : decode cL_texts 634 = .ok (.aload_n 0, 1) := by decide +kernel
theorem dL_texts_635 : decode cL_texts 635 = .ok (.iconst 0, 1) := by decide +kernel
theorem dL_texts_636 : decode cL_texts 636 = .ok (.iconst 0, 1) := by decide +kernel
theorem dL_texts_637 : decode cL_texts 637 = .ok (.invokevirtual 23, 3) := by decide +kernel
theorem dL_texts_640 : decode cL_texts 640 = .ok (.ifCond .ne 48, 3) := by decide +kernel
theorem dL_texts_643 : decode cL_texts 643 = .ok (.aload_n 0, 1) := by decide +kernel
theorem dL_texts_644 : decode cL_texts 644 = .ok (.iconst 0, 1) := by decide +kernel
theorem dL_texts_645 : decode cL_texts 645 = .ok (.iconst 2, 1) := by decide +kernel
theorem dL_texts_646 : decode cL_texts 646 = .ok (.invokevirtual 23, 3) := by decide +kernel
theorem dL_texts_649 : decode cL_texts 649 = .ok (.bipush 8, 2) := by decide +kernel
theorem dL_texts_651 : decode cL_texts 651 = .ok (.if_icmp .ne 37, 3) := by decide +kernel
theorem dL_texts_654 : decode cL_texts 654 = .ok (.aload_n 0, 1) := by decide +kernel
theorem dL_texts_655 : decode cL_texts 655 = .ok (.bipush 10, 2) := by decide +kernel
theorem dL_texts_657 : decode cL_texts 657 = .ok (.invokevirtual 13, 3) := by decide +kernel
theorem dL_texts_660 : decode cL_texts 660 = .ok (.iconst 1, 1) := by decide +kernel
theorem dL_texts_661 : decode cL_texts 661 = .ok (.if_icmp .ne 27, 3) := by decide +kernel
theorem dL_texts_664 : decode cL_texts 664 = .ok (.aload_n 0, 1) := by decide +kernel
theorem dL_texts_665 : decode cL_texts 665 = .ok (.bipush 9, 2) := by decide +kernel
theorem dL_texts_667 : decode cL_texts 667 = .ok (.invokevirtual 13, 3) := by decide +kernel
theorem dL_texts_670 : decode cL_texts 670 = .ok (.ifCond .ne 18, 3) := by decide +kernel
theorem dL_texts_673 : decode cL_texts 673 = .ok (.aload_n 0, 1) := by decide +kernel
theorem dL_texts_674 : decode cL_texts 674 = .ok (.invokevirtual 94, 3) := by decide +kernel
theorem dL_texts_677 : decode cL_texts 677 = .ok (.ifCond .ne 11, 3) := by decide +kernel
theorem dL_texts_680 : decode cL_texts 680 = .ok (.aload_n 0, 1) := by decide +kernel
theorem dL_texts_681 : decode cL_texts 681 = .ok (.iconst 0, 1) := by decide +kernel
theorem dL_texts_682 : decode cL_texts 682 = .ok (.invokevirtual 13, 3) := by decide +kernel
theorem dL_texts_685 : decode cL_texts 685 = .ok (.ifCond .eq 5, 3) := by decide +kernel
theorem dL_texts_688 : decode cL_texts 688 = .ok (.iconst 0, 1) := by decide +kernel
theorem dL_texts_689 : decode cL_texts 689 = .ok (.ireturn, 1) := by decide +kernel
theorem dL_texts_690 : decode cL_texts 690 = .ok (.iconst 0, 1) := by decide +kernel
theorem dL_texts_691 : decode cL_texts 691 = .ok (.istore_n 1, 1) := by decide +kernel
theorem dL_texts_692 : decode cL_texts 692 = .ok (.iload_n 1, 1) := by decide +kernel
theorem dL_texts_693 : decode cL_texts 693 = .ok (.bipush 10, 2) := by decide +kernel
theorem dL_texts_695 : decode cL_texts 695 = .ok (.if_icmp .ge 28, 3) := by decide +kernel
theorem dL_texts_698 : decode cL_texts 698 = .ok (.aload_n 0, 1) := by decide +kernel
theorem dL_texts_699 : decode cL_texts 699 = .ok (.ldc2_w 155, 3) := by decide +kernel
theorem dL_texts_702 : decode cL_texts 702 = .ok (.invokevirtual 77, 3) := by decide +kernel
theorem dL_texts_705 : decode cL_texts 705 = .ok (.bipush 8, 2) := by decide +kernel
theorem dL_texts_707 : decode cL_texts 707 = .ok (.iload_n 1, 1) := by decide +kernel
theorem dL_texts_708 : decode cL_texts 708 = .ok (.imul, 1) := by decide +kernel
theorem dL_texts_709 : decode cL_texts 709 = .ok (.bipush 8, 2) := by decide +kernel
theorem dL_texts_711 : decode cL_texts 711 = .ok (.iadd, 1) := by decide +kernel
theorem dL_texts_712 : decode cL_texts 712 = .ok (.if_icmp .eq 5, 3) := by decide +kernel
theorem dL_texts_715 : decode cL_texts 715 = .ok (.iconst 0, 1) := by decide +kernel
theorem dL_texts_716 : decode cL_texts 716 = .ok (.ireturn, 1) := by decide +kernel
theorem dL_texts_717 : decode cL_texts 717 = .ok (.iinc 1 1, 3) := by decide +kernel
theorem dL_texts_720 : decode cL_texts 720 = .ok (.goto (-28), 3) := by decide +kernel
theorem dL_texts_723 : decode cL_texts 723 = .ok (.aload_n 0, 1) := by decide +kernel
theorem dL_texts_724 : decode cL_texts 724 = .ok (.ldc2_w 157, 3) := by decide +kernel
theorem dL_texts_727 : decode cL_texts 727 = .ok (.invokevirtual 77, 3) := by decide +kernel
theorem dL_texts_730 : decode cL_texts 730 = .ok (.bipush (-4), 2) := by decide +kernel
theorem dL_texts_732 : decode cL_texts 732 = .ok (.if_icmp .ne 37, 3) := by decide +kernel
theorem dL_texts_735 : decode cL_texts 735 = .ok (.aload_n 0, 1) := by decide +kernel
theorem dL_texts_736 : decode cL_texts 736 = .ok (.ldc2_w 75, 3) := by decide +kernel
theorem dL_texts_739 : decode cL_texts 739 = .ok (.invokevirtual 77, 3) := by decide +kernel
theorem dL_texts_742 : decode cL_texts 742 = .ok (.bipush (-2), 2) := by decide +kernel
theorem dL_texts_744 : decode cL_texts 744 = .ok (.if_icmp .ne 25, 3) := by decide +kernel
theorem dL_texts_747 : decode cL_texts 747 = .ok (.aload_n 0, 1) := by decide +kernel
theorem dL_texts_748 : decode cL_texts 748 = .ok (.invokevirtual 101, 3) := by decide +kernel
theorem dL_texts_751 : decode cL_texts 751 = .ok (.bipush 8, 2) := by decide +kernel
theorem dL_texts_753 : decode cL_texts 753 = .ok (.if_icmp .ne 16, 3) := by decide +kernel
theorem dL_texts_756 : decode cL_texts 756 = .ok (.aload_n 0, 1) := by decide +kernel
theorem dL_texts_757 : decode cL_texts 757 = .ok (.invokevirtual 106, 3) := by decide +kernel
theorem dL_texts_760 : decode cL_texts 760 = .ok (.bipush 80, 2) := by decide +kernel
theorem dL_texts_762 : decode cL_texts 762 = .ok (.if_icmp .ne 7, 3) := by decide +kernel
theorem dL_texts_765 : decode cL_texts 765 = .ok (.iconst 1, 1) := by decide +kernel
theorem dL_texts_766 : decode cL_texts 766 = .ok (.goto 4, 3) := by decide +kernel
theorem dL_texts_769 : decode cL_texts 769 = .ok (.iconst 0, 1) := by decide +kernel
theorem dL_texts_770 : decode cL_texts 770 = .ok (.ireturn, 1) := by decide +kernel
end
section
set_option maxRecDepth 20000 in
theorem ggL_law_L_mesh_1 : GoodIn wsL_law [(Cond.code yL_mesh cL_mesh 1 (some .boolean) : Cond)] := x_g1 7 rfl (by decide +kernel)
set_option maxRecDepth 20000 in
theorem ggL_law_L_mesh_2 : GoodIn wsL_law (wsL_mesh_r1) := goodIn_r _ [0, 1, 2, 8, 9, 10, 11, 12, 13, 14, 15, 16, 17, 18, 19, 20, 21, 22, 23, 24, 25, 26, 27, 28] (by decide +kernel) (by decide +kernel)
set_option maxRecDepth 20000 in
theorem ggL_law_L_mesh_3 : GoodIn wsL_law (wsL_mesh_r2) := goodIn_r _ [29, 30, 31, 32, 33, 34, 35, 36, 37, 38, 39, 40, 41, 42, 43, 44, 45, 46, 47, 48, 49, 50, 51, 52] (by decide +kernel) (by decide +kernel)
set_option maxRecDepth 20000 in
theorem ggL_law_L_mesh_4 : GoodIn wsL_law (wsL_mesh_r3) := goodIn_r _ [53, 54, 55, 56, 57, 58, 59, 60, 61, 62, 63, 64, 65, 66, 67, 68, 69, 70, 71, 72, 73, 74, 75, 76] (by decide +kernel) (by decide +kernel)
set_option maxRecDepth 20000 in
theorem ggL_law_L_mesh_5 : GoodIn wsL_law (wsL_mesh_r4) := goodIn_r _ [77, 78, 79, 80, 81, 82, 83, 84, 85, 86, 87, 88, 89, 90, 91, 92, 93, 94, 95, 96, 97, 98, 99, 100] (by decide +kernel) (by decide +kernel)
set_option maxRecDepth 20000 in
theorem ggL_law_L_mesh_6 : GoodIn wsL_law (wsL_mesh_r5) := goodIn_r _ [101, 102, 103, 104, 105, 106, 107, 108, 109, 110, 111, 112, 113, 114, 115, 116, 117, 118, 119, 120, 121, 122, 123, 124] (by decide +kernel) (by decide +kernel)
set_option maxRecDepth 20000 in
theorem ggL_law_L_mesh_7 : GoodIn wsL_law (wsL_mesh_r6) := goodIn_r _ [125, 126, 127, 128, 129, 130, 131, 132, 133, 134, 135, 136, 137, 138, 139, 140, 141, 142, 143, 144, 145, 146, 147, 148] (by decide +kernel) (by decide +kernel)
set_option maxRecDepth 20000 in
theorem ggL_law_L_mesh_8 : GoodIn wsL_law (wsL_mesh_r7) := goodIn_r _ [149, 150, 151, 152, 153, 154, 155, 156, 157, 158, 159, 160, 161, 162, 163, 164, 165, 166, 167, 168, 169, 170, 171, 172] (by decide +kernel) (by decide +kernel)
set_option maxRecDepth 20000 in
theorem ggL_law_L_mesh_9 : GoodIn wsL_law (wsL_mesh_r8) := goodIn_r _ [173, 174, 175, 176, 177, 178, 179, 180, 181, 182, 183, 184, 185, 186, 187, 188, 189, 190, 191, 192, 193, 194, 195, 196] (by decide +kernel) (by decide +kernel)
end
section
set_option maxRecDepth 20000 in
theorem ggL_law_L_mesh_10 : GoodIn wsL_law (wsL_mesh_r9) := goodIn_r _ [197, 198, 199, 200, 201, 202, 203, 204, 205, 206, 207, 208, 209, 210, 211, 212, 213, 214, 215, 216, 217, 218, 219, 220] (by decide +kernel) (by decide +kernel)
set_option maxRecDepth 20000 in
theorem ggL_law_L_mesh_11 : GoodIn wsL_law (wsL_mesh_r10) := goodIn_r _ [221, 222, 223, 224, 225, 226, 227, 228, 229, 230, 231, 232, 233, 234, 235, 236, 237, 238, 239, 240, 241, 242, 243, 244] (by decide +kernel) (by decide +kernel)
set_option maxRecDepth 20000 in
theorem ggL_law_L_mesh_12 : GoodIn wsL_law (wsL_mesh_r11) := goodIn_r _ [245, 246, 247, 248, 249, 250, 251, 252, 253, 254, 255, 256, 257, 258, 259, 260, 261, 262, 263, 264, 265, 266, 267, 268] (by decide +kernel) (by decide +kernel)
set_option maxRecDepth 20000 in
theorem ggL_law_L_mesh_13 : GoodIn wsL_law (wsL_mesh_r12) := goodIn_r _ [269, 270, 271, 272, 273, 274, 275, 276, 277, 278, 279, 280, 281, 282, 283, 284, 285, 286, 287, 288, 289, 290, 291, 292] (by decide +kernel) (by decide +kernel)
set_option maxRecDepth 20000 in
theorem ggL_law_L_mesh_14 : GoodIn wsL_law (wsL_mesh_r13) := goodIn_r _ [293, 294, 295, 296, 297, 298, 299, 300, 301, 302, 303, 304, 305, 306, 307, 308, 309, 310, 311, 312, 313, 314, 315, 316] (by decide +kernel) (by decide +kernel)
set_option maxRecDepth 20000 in
theorem ggL_law_L_mesh_15 : GoodIn wsL_law ([Cond.initialized RL] : List Cond) := goodIn_r _ [6] (by decide +kernel) (by decide +kernel)
set_option maxRecDepth 20000 in
theorem ggL_law_L_mesh_16 : GoodIn wsL_law [(Cond.code yL_refused cL_refused 4 (some .boolean) : Cond)] := x_g1 317 rfl (by decide +kernel)
set_option maxRecDepth 20000 in
theorem ggL_law_L_mesh_17 : GoodIn wsL_law ([Cond.methodLink RL 85 yL_seen, Cond.static yL_seen] : List Cond) := goodIn_r _ [318, 319] (by decide +kernel) (by decide +kernel)
set_option maxRecDepth 20000 in
theorem ggL_law_L_mesh_18 : GoodIn wsL_law [(Cond.code yL_seen cL_seen 4 (some .long) : Cond)] := x_g1 320 rfl (by decide +kernel)
end
section
set_option maxRecDepth 20000 in
theorem ggL_law_L_mesh_19 : GoodIn wsL_law ([Cond.constantLong RL 9 (59), Cond.constantLong RL 11 (31), Cond.methodLink RL 89 yL_refusesAny, Cond.static yL_refusesAny] : List Cond) := goodIn_r _ [321, 322, 323, 324] (by decide +kernel) (by decide +kernel)
set_option maxRecDepth 20000 in
theorem ggL_law_L_mesh_20 : GoodIn wsL_law [(Cond.code yL_refusesAny cL_refusesAny 5 (some .boolean) : Cond)] := x_g1 325 rfl (by decide +kernel)
set_option maxRecDepth 20000 in
theorem ggL_law_L_mesh_21 : GoodIn wsL_law ([Cond.constantLong RL 75 (32), Cond.constantLong RL 81 (127), Cond.constantLong RL 83 (11008), Cond.methodLink RL 26 yX6_set, Cond.instanceMethod yX6_set, Cond.selects RX6 yX6_set yX6_set, Cond.code yX6_set cX6_set 3 (some .int), Cond.methodLink RX6 57 yX3_changeSetting, Cond.instanceMethod yX3_changeSetting, Cond.selects RX3 yX3_changeSetting yX3_changeSetting, Cond.code yX3_changeSetting cX3_changeSetting 5 (some .int), Cond.methodLink RX3 27 yX3_setting, Cond.methodLink RL 38 yX6_melt, Cond.instanceMethod yX6_melt] : List Cond) := goodIn_r _ [326, 327, 328, 329, 330, 331, 332, 333, 334, 335, 336, 337, 338, 339] (by decide +kernel) (by decide +kernel)
set_option maxRecDepth 20000 in
theorem ggL_law_L_mesh_22 : GoodIn wsL_law wsL_mesh_r14 := by
  show GoodIn wsL_law ([Cond.initialized RL] ++ (Cond.code yL_refused cL_refused 4 (some .boolean) :: ([Cond.methodLink RL 85 yL_seen, Cond.static yL_seen] ++ (Cond.code yL_seen cL_seen 4 (some .long) :: ([Cond.constantLong RL 9 (59), Cond.constantLong RL 11 (31), Cond.methodLink RL 89 yL_refusesAny, Cond.static yL_refusesAny] ++ (Cond.code yL_refusesAny cL_refusesAny 5 (some .boolean) :: ([Cond.constantLong RL 75 (32), Cond.constantLong RL 81 (127), Cond.constantLong RL 83 (11008), Cond.methodLink RL 26 yX6_set, Cond.instanceMethod yX6_set, Cond.selects RX6 yX6_set yX6_set, Cond.code yX6_set cX6_set 3 (some .int), Cond.methodLink RX6 57 yX3_changeSetting, Cond.instanceMethod yX3_changeSetting, Cond.selects RX3 yX3_changeSetting yX3_changeSetting, Cond.code yX3_changeSetting cX3_changeSetting 5 (some .int), Cond.methodLink RX3 27 yX3_setting, Cond.methodLink RL 38 yX6_melt, Cond.instanceMethod yX6_melt] ++ [])))))))
  exact (goodIn_app ggL_law_L_mesh_15 (x_gc ggL_law_L_mesh_16 (goodIn_app ggL_law_L_mesh_17 (x_gc ggL_law_L_mesh_18 (goodIn_app ggL_law_L_mesh_19 (x_gc ggL_law_L_mesh_20 (goodIn_app ggL_law_L_mesh_21 x_gn)))))))
set_option maxRecDepth 20000 in
theorem ggL_law_L_mesh_23 : GoodIn wsL_law (wsL_mesh_r15) := goodIn_r _ [340, 341, 342, 343, 344, 345, 346, 347, 348, 349, 350, 351, 352, 353, 354, 355, 356, 357, 358, 359, 360, 361, 362, 363] (by decide +kernel) (by decide +kernel)
set_option maxRecDepth 20000 in
theorem ggL_law_L_mesh_24 : GoodIn wsL_law (wsL_mesh_r16) := goodIn_r _ [364, 365, 366, 367, 368, 369, 370, 371, 372, 373, 374, 375, 376, 377, 378, 379, 380, 381, 382, 383, 384, 385, 386, 387] (by decide +kernel) (by decide +kernel)
set_option maxRecDepth 20000 in
theorem ggL_law_L_mesh_25 : GoodIn wsL_law (wsL_mesh_r17) := goodIn_r _ [388, 389, 390, 391, 392, 393, 394, 395, 396, 397, 398, 399, 400, 401, 402, 403, 404, 405, 406, 407, 408, 409, 410, 411] (by decide +kernel) (by decide +kernel)
set_option maxRecDepth 20000 in
theorem ggL_law_L_mesh_26 : GoodIn wsL_law (wsL_mesh_r18) := goodIn_r _ [412, 413, 414, 415, 416, 417, 418, 419, 420, 421, 422, 423, 424, 425, 426, 427, 428, 429, 430, 431, 432, 433, 434, 435] (by decide +kernel) (by decide +kernel)
set_option maxRecDepth 20000 in
theorem ggL_law_L_mesh_27 : GoodIn wsL_law (wsL_mesh_r19) := goodIn_r _ [436, 437, 438, 439, 440, 441, 442, 443, 444, 445, 446, 447, 448, 449, 450, 451, 452, 453, 454, 455, 456, 457, 458, 459] (by decide +kernel) (by decide +kernel)
end
section
set_option maxRecDepth 20000 in
theorem ggL_law_L_mesh_28 : GoodIn wsL_law (wsL_mesh_r20) := goodIn_r _ [460, 461, 462, 463, 464, 465, 466, 467, 468, 469, 470, 471, 472, 473, 474, 475, 476, 477, 478, 479, 480, 481, 482, 483] (by decide +kernel) (by decide +kernel)
set_option maxRecDepth 20000 in
theorem ggL_law_L_mesh_29 : GoodIn wsL_law (wsL_mesh_r21) := goodIn_r _ [484] (by decide +kernel) (by decide +kernel)
set_option maxRecDepth 20000 in
theorem ggL_law_L_mesh_30 : GoodIn wsL_law (wsX60) := goodIn_r _ [533, 534, 535, 536, 537, 538] (by decide +kernel) (by decide +kernel)
set_option maxRecDepth 20000 in
theorem ggL_law_L_mesh_31 : GoodIn wsL_law (wsX30) := goodIn_r _ [539] (by decide +kernel) (by decide +kernel)
set_option maxRecDepth 20000 in
theorem ggL_law_L_mesh_32 : GoodIn wsL_law (wsX00) := goodIn_r _ [540, 541, 542] (by decide +kernel) (by decide +kernel)
set_option maxRecDepth 20000 in
theorem ggL_law_L_mesh_33 : GoodIn wsL_law (wsX40) := goodIn_r _ [543, 544] (by decide +kernel) (by decide +kernel)
set_option maxRecDepth 20000 in
theorem ggL_law_L_mesh_34 : GoodIn wsL_law (wsX10) := goodIn_r _ [545, 546] (by decide +kernel) (by decide +kernel)
set_option maxRecDepth 20000 in
theorem ggL_law_L_mesh_35 : GoodIn wsL_law (wsX20) := goodIn_r _ [547, 548, 549, 550, 551] (by decide +kernel) (by decide +kernel)
set_option maxRecDepth 20000 in
theorem ggL_law_L_mesh_36 : GoodIn wsL_law (wsX50) := goodIn_r _ [552, 553, 554, 555] (by decide +kernel) (by decide +kernel)
end
section
set_option maxRecDepth 20000 in
theorem ggL_law_L_mesh : GoodIn wsL_law wsL_mesh := x_gc ggL_law_L_mesh_1 (goodIn_app (goodIn_app (goodIn_app (goodIn_app (goodIn_app (goodIn_app (goodIn_app (goodIn_app ggL_law_L_mesh_2 (goodIn_app ggL_law_L_mesh_3 (goodIn_app ggL_law_L_mesh_4 (goodIn_app ggL_law_L_mesh_5 (goodIn_app ggL_law_L_mesh_6 (goodIn_app ggL_law_L_mesh_7 (goodIn_app ggL_law_L_mesh_8 (goodIn_app ggL_law_L_mesh_9 (goodIn_app ggL_law_L_mesh_10 (goodIn_app ggL_law_L_mesh_11 (goodIn_app ggL_law_L_mesh_12 (goodIn_app ggL_law_L_mesh_13 (goodIn_app ggL_law_L_mesh_14 (goodIn_app ggL_law_L_mesh_22 (goodIn_app ggL_law_L_mesh_23 (goodIn_app ggL_law_L_mesh_24 (goodIn_app ggL_law_L_mesh_25 (goodIn_app ggL_law_L_mesh_26 (goodIn_app ggL_law_L_mesh_27 (goodIn_app ggL_law_L_mesh_28 ggL_law_L_mesh_29)))))))))))))))))))) ggL_law_L_mesh_30) ggL_law_L_mesh_31) ggL_law_L_mesh_32) ggL_law_L_mesh_33) ggL_law_L_mesh_34) ggL_law_L_mesh_35) ggL_law_L_mesh_36)
end
section
set_option maxRecDepth 20000 in
theorem gL_law_L_mesh : GoodIn wsL_law (va_wsS RL 159 yL_mesh wsL_mesh) := goodIn_app (goodIn_of _ (by decide +kernel)) ggL_law_L_mesh
end
section
set_option maxRecDepth 20000 in
theorem ggL_law_L_limits_1 : GoodIn wsL_law [(Cond.code yL_limits cL_limits 2 (some .boolean) : Cond)] := x_g1 487 rfl (by decide +kernel)
set_option maxRecDepth 20000 in
theorem ggL_law_L_limits_2 : GoodIn wsL_law (wsL_limits_r1) := goodIn_r _ [0, 1, 2, 8, 9, 10, 11, 12, 13, 14, 15, 16, 17, 18, 19, 20, 21, 22, 23, 24, 25, 26, 27, 28] (by decide +kernel) (by decide +kernel)
set_option maxRecDepth 20000 in
theorem ggL_law_L_limits_3 : GoodIn wsL_law (wsL_limits_r2) := goodIn_r _ [29, 30, 31, 32, 33, 34, 35, 36, 37, 38, 39, 40, 41, 42, 43, 44, 45, 46, 47, 48, 49, 50, 51, 52] (by decide +kernel) (by decide +kernel)
set_option maxRecDepth 20000 in
theorem ggL_law_L_limits_4 : GoodIn wsL_law (wsL_limits_r3) := goodIn_r _ [53, 54, 55, 56, 57, 58, 59, 60, 61, 62, 63, 64, 65, 131, 132, 133, 134, 88, 89, 90, 91, 75, 92, 93] (by decide +kernel) (by decide +kernel)
set_option maxRecDepth 20000 in
theorem ggL_law_L_limits_5 : GoodIn wsL_law (wsL_limits_r4) := goodIn_r _ [94, 95, 80, 81, 82, 83, 135, 136, 137, 138, 101, 102, 139, 105, 106, 107, 140, 141, 142, 143, 144, 145, 146, 147] (by decide +kernel) (by decide +kernel)
set_option maxRecDepth 20000 in
theorem ggL_law_L_limits_6 : GoodIn wsL_law (wsL_limits_r5) := goodIn_r _ [148, 149, 150, 151, 152, 153, 154, 108, 109, 110, 111, 74, 112, 113, 114, 115, 215, 216, 217, 218, 219, 220, 221, 222] (by decide +kernel) (by decide +kernel)
set_option maxRecDepth 20000 in
theorem ggL_law_L_limits_7 : GoodIn wsL_law (wsL_limits_r6) := goodIn_r _ [223, 224, 225, 226, 189, 168, 169, 170, 120, 227, 228, 229, 230, 231, 232, 233, 172, 173, 174, 234, 235, 236, 237, 176] (by decide +kernel) (by decide +kernel)
set_option maxRecDepth 20000 in
theorem ggL_law_L_limits_8 : GoodIn wsL_law (wsL_limits_r7) := goodIn_r _ [177, 178, 238, 239, 240, 241, 242, 243, 244, 245, 246, 247, 248, 249, 250, 251, 252, 253, 254, 255, 256, 257, 200, 201] (by decide +kernel) (by decide +kernel)
set_option maxRecDepth 20000 in
theorem ggL_law_L_limits_9 : GoodIn wsL_law (wsL_limits_r8) := goodIn_r _ [258, 259, 260, 261, 262, 263, 264, 265, 266, 267, 268, 269, 270, 271, 272, 273, 274, 275, 276, 283, 284, 285, 286, 287] (by decide +kernel) (by decide +kernel)
end
section
set_option maxRecDepth 20000 in
theorem ggL_law_L_limits_10 : GoodIn wsL_law (wsL_limits_r9) := goodIn_r _ [288, 289, 290, 291, 292, 293, 294, 295, 301, 302, 303, 304, 305, 306, 307, 308, 309, 310, 130, 311, 312, 313, 314, 346] (by decide +kernel) (by decide +kernel)
set_option maxRecDepth 20000 in
theorem ggL_law_L_limits_11 : GoodIn wsL_law (wsL_limits_r10) := goodIn_r _ [347, 348, 349, 350, 351, 352, 353, 454, 455, 456, 457, 428, 429, 430, 431, 432, 433, 434, 435, 436, 437, 438, 439, 440] (by decide +kernel) (by decide +kernel)
set_option maxRecDepth 20000 in
theorem ggL_law_L_limits_12 : GoodIn wsL_law (wsL_limits_r11) := goodIn_r _ [441, 442, 443, 444, 208, 209, 210, 337, 171, 445, 446, 447, 448, 175, 116, 117, 118, 119, 121, 122, 123, 124, 125, 126] (by decide +kernel) (by decide +kernel)
set_option maxRecDepth 20000 in
theorem ggL_law_L_limits_13 : GoodIn wsL_law (wsL_limits_r12) := goodIn_r _ [127, 128, 129, 185, 186, 187, 188, 190, 191, 192, 193, 194, 195, 196, 197, 198, 199, 202, 203, 204, 205, 206, 207, 211] (by decide +kernel) (by decide +kernel)
set_option maxRecDepth 20000 in
theorem ggL_law_L_limits_14 : GoodIn wsL_law ([Cond.instanceMethod yX3_timesWorn, Cond.selects RX3 yX3_timesWorn yX3_timesWorn, Cond.code yX3_timesWorn cX3_timesWorn 2 (some .int), Cond.methodLink RL 23 yX6_tooth, Cond.instanceMethod yX6_tooth, Cond.selects RX6 yX6_tooth yX6_tooth, Cond.code yX6_tooth cX6_tooth 3 (some .int), Cond.methodLink RX6 144 yX3_hasTooth, Cond.instanceMethod yX3_hasTooth, Cond.selects RX3 yX3_hasTooth yX3_hasTooth, Cond.code yX3_hasTooth cX3_hasTooth 3 (some .boolean), Cond.methodLink RX3 30 yX3_has, Cond.methodLink RX6 148 yX3_height, Cond.methodLink RL 97 yL_refused, Cond.static yL_refused, Cond.initialized RL] : List Cond) := goodIn_r _ [212, 213, 214, 179, 180, 181, 182, 183, 164, 165, 166, 167, 184, 315, 316, 6] (by decide +kernel) (by decide +kernel)
set_option maxRecDepth 20000 in
theorem ggL_law_L_limits_15 : GoodIn wsL_law [(Cond.code yL_refused cL_refused 4 (some .boolean) : Cond)] := x_g1 317 rfl (by decide +kernel)
set_option maxRecDepth 20000 in
theorem ggL_law_L_limits_16 : GoodIn wsL_law ([Cond.methodLink RL 85 yL_seen, Cond.static yL_seen] : List Cond) := goodIn_r _ [318, 319] (by decide +kernel) (by decide +kernel)
set_option maxRecDepth 20000 in
theorem ggL_law_L_limits_17 : GoodIn wsL_law [(Cond.code yL_seen cL_seen 4 (some .long) : Cond)] := x_g1 320 rfl (by decide +kernel)
set_option maxRecDepth 20000 in
theorem ggL_law_L_limits_18 : GoodIn wsL_law ([Cond.constantLong RL 9 (59), Cond.constantLong RL 11 (31), Cond.methodLink RL 89 yL_refusesAny, Cond.static yL_refusesAny] : List Cond) := goodIn_r _ [321, 322, 323, 324] (by decide +kernel) (by decide +kernel)
end
section
set_option maxRecDepth 20000 in
theorem ggL_law_L_limits_19 : GoodIn wsL_law wsL_limits_r13 := by
  show GoodIn wsL_law ([Cond.instanceMethod yX3_timesWorn, Cond.selects RX3 yX3_timesWorn yX3_timesWorn, Cond.code yX3_timesWorn cX3_timesWorn 2 (some .int), Cond.methodLink RL 23 yX6_tooth, Cond.instanceMethod yX6_tooth, Cond.selects RX6 yX6_tooth yX6_tooth, Cond.code yX6_tooth cX6_tooth 3 (some .int), Cond.methodLink RX6 144 yX3_hasTooth, Cond.instanceMethod yX3_hasTooth, Cond.selects RX3 yX3_hasTooth yX3_hasTooth, Cond.code yX3_hasTooth cX3_hasTooth 3 (some .boolean), Cond.methodLink RX3 30 yX3_has, Cond.methodLink RX6 148 yX3_height, Cond.methodLink RL 97 yL_refused, Cond.static yL_refused, Cond.initialized RL] ++ (Cond.code yL_refused cL_refused 4 (some .boolean) :: ([Cond.methodLink RL 85 yL_seen, Cond.static yL_seen] ++ (Cond.code yL_seen cL_seen 4 (some .long) :: ([Cond.constantLong RL 9 (59), Cond.constantLong RL 11 (31), Cond.methodLink RL 89 yL_refusesAny, Cond.static yL_refusesAny] ++ [])))))
  exact (goodIn_app ggL_law_L_limits_14 (x_gc ggL_law_L_limits_15 (goodIn_app ggL_law_L_limits_16 (x_gc ggL_law_L_limits_17 (goodIn_app ggL_law_L_limits_18 x_gn)))))
set_option maxRecDepth 20000 in
theorem ggL_law_L_limits_20 : GoodIn wsL_law [(Cond.code yL_refusesAny cL_refusesAny 5 (some .boolean) : Cond)] := x_g1 325 rfl (by decide +kernel)
set_option maxRecDepth 20000 in
theorem ggL_law_L_limits_21 : GoodIn wsL_law ([Cond.constantLong RL 75 (32), Cond.constantLong RL 81 (127), Cond.constantLong RL 83 (11008), Cond.methodLink RL 26 yX6_set, Cond.instanceMethod yX6_set, Cond.selects RX6 yX6_set yX6_set, Cond.code yX6_set cX6_set 3 (some .int), Cond.methodLink RX6 57 yX3_changeSetting, Cond.instanceMethod yX3_changeSetting, Cond.selects RX3 yX3_changeSetting yX3_changeSetting, Cond.code yX3_changeSetting cX3_changeSetting 5 (some .int), Cond.methodLink RL 34 yX6_file, Cond.instanceMethod yX6_file, Cond.selects RX6 yX6_file yX6_file, Cond.code yX6_file cX6_file 4 (some .int), Cond.methodLink RX6 68 yX3_fileTooth, Cond.instanceMethod yX3_fileTooth, Cond.selects RX3 yX3_fileTooth yX3_fileTooth, Cond.code yX3_fileTooth cX3_fileTooth 5 (some .int), Cond.methodLink RX3 47 yX3_hasTooth, Cond.methodLink RL 38 yX6_melt, Cond.instanceMethod yX6_melt, Cond.selects RX6 yX6_melt yX6_melt] : List Cond) := goodIn_r _ [326, 327, 328, 329, 330, 331, 332, 333, 334, 335, 336, 155, 156, 157, 158, 159, 160, 161, 162, 163, 338, 339, 340] (by decide +kernel) (by decide +kernel)
set_option maxRecDepth 20000 in
theorem ggL_law_L_limits_22 : GoodIn wsL_law wsL_limits_r14 := by
  show GoodIn wsL_law (Cond.code yL_refusesAny cL_refusesAny 5 (some .boolean) :: ([Cond.constantLong RL 75 (32), Cond.constantLong RL 81 (127), Cond.constantLong RL 83 (11008), Cond.methodLink RL 26 yX6_set, Cond.instanceMethod yX6_set, Cond.selects RX6 yX6_set yX6_set, Cond.code yX6_set cX6_set 3 (some .int), Cond.methodLink RX6 57 yX3_changeSetting, Cond.instanceMethod yX3_changeSetting, Cond.selects RX3 yX3_changeSetting yX3_changeSetting, Cond.code yX3_changeSetting cX3_changeSetting 5 (some .int), Cond.methodLink RL 34 yX6_file, Cond.instanceMethod yX6_file, Cond.selects RX6 yX6_file yX6_file, Cond.code yX6_file cX6_file 4 (some .int), Cond.methodLink RX6 68 yX3_fileTooth, Cond.instanceMethod yX3_fileTooth, Cond.selects RX3 yX3_fileTooth yX3_fileTooth, Cond.code yX3_fileTooth cX3_fileTooth 5 (some .int), Cond.methodLink RX3 47 yX3_hasTooth, Cond.methodLink RL 38 yX6_melt, Cond.instanceMethod yX6_melt, Cond.selects RX6 yX6_melt yX6_melt] ++ []))
  exact (x_gc ggL_law_L_limits_20 (goodIn_app ggL_law_L_limits_21 x_gn))
set_option maxRecDepth 20000 in
theorem ggL_law_L_limits_23 : GoodIn wsL_law (wsL_limits_r15) := goodIn_r _ [341, 342, 343, 344, 345, 354, 355, 356, 357, 358, 359, 360, 361, 362, 363, 364, 365, 366, 367, 368, 369, 370, 371, 372] (by decide +kernel) (by decide +kernel)
set_option maxRecDepth 20000 in
theorem ggL_law_L_limits_24 : GoodIn wsL_law (wsL_limits_r16) := goodIn_r _ [373, 374, 375, 376, 377, 378, 379, 380, 381, 382, 383, 384, 385, 386, 387, 388, 389, 390, 391, 392, 393, 394, 395, 396] (by decide +kernel) (by decide +kernel)
set_option maxRecDepth 20000 in
theorem ggL_law_L_limits_25 : GoodIn wsL_law (wsL_limits_r17) := goodIn_r _ [397, 398, 399, 400, 401, 402, 403, 404, 405, 406, 407, 408, 409, 410, 411, 412, 413, 414, 415, 416, 417, 418, 419, 420] (by decide +kernel) (by decide +kernel)
set_option maxRecDepth 20000 in
theorem ggL_law_L_limits_26 : GoodIn wsL_law (wsL_limits_r18) := goodIn_r _ [421, 422, 423, 424, 425, 426, 427, 449, 450, 451, 452, 453, 277, 278, 279, 280, 281, 282, 296, 297, 298, 299, 300, 458] (by decide +kernel) (by decide +kernel)
set_option maxRecDepth 20000 in
theorem ggL_law_L_limits_27 : GoodIn wsL_law (wsL_limits_r19) := goodIn_r _ [459, 460, 461, 462, 463, 464, 465, 100, 466, 104, 84, 85, 86, 87, 96, 97, 98, 99, 103, 77, 78, 79, 467, 468] (by decide +kernel) (by decide +kernel)
end
section
set_option maxRecDepth 20000 in
theorem ggL_law_L_limits_28 : GoodIn wsL_law (wsL_limits_r20) := goodIn_r _ [469, 470, 471, 472, 473, 474, 475, 476, 477, 478, 479, 480, 481, 482, 483, 484] (by decide +kernel) (by decide +kernel)
set_option maxRecDepth 20000 in
theorem ggL_law_L_limits_29 : GoodIn wsL_law (wsX60) := goodIn_r _ [533, 534, 535, 536, 537, 538] (by decide +kernel) (by decide +kernel)
set_option maxRecDepth 20000 in
theorem ggL_law_L_limits_30 : GoodIn wsL_law (wsX30) := goodIn_r _ [539] (by decide +kernel) (by decide +kernel)
set_option maxRecDepth 20000 in
theorem ggL_law_L_limits_31 : GoodIn wsL_law (wsX00) := goodIn_r _ [540, 541, 542] (by decide +kernel) (by decide +kernel)
set_option maxRecDepth 20000 in
theorem ggL_law_L_limits_32 : GoodIn wsL_law (wsX40) := goodIn_r _ [543, 544] (by decide +kernel) (by decide +kernel)
set_option maxRecDepth 20000 in
theorem ggL_law_L_limits_33 : GoodIn wsL_law (wsX10) := goodIn_r _ [545, 546] (by decide +kernel) (by decide +kernel)
set_option maxRecDepth 20000 in
theorem ggL_law_L_limits_34 : GoodIn wsL_law (wsX20) := goodIn_r _ [547, 548, 549, 550, 551] (by decide +kernel) (by decide +kernel)
set_option maxRecDepth 20000 in
theorem ggL_law_L_limits_35 : GoodIn wsL_law (wsX50) := goodIn_r _ [552, 553, 554, 555] (by decide +kernel) (by decide +kernel)
set_option maxRecDepth 20000 in
theorem ggL_law_L_limits : GoodIn wsL_law wsL_limits := x_gc ggL_law_L_limits_1 (goodIn_app (goodIn_app (goodIn_app (goodIn_app (goodIn_app (goodIn_app (goodIn_app (goodIn_app ggL_law_L_limits_2 (goodIn_app ggL_law_L_limits_3 (goodIn_app ggL_law_L_limits_4 (goodIn_app ggL_law_L_limits_5 (goodIn_app ggL_law_L_limits_6 (goodIn_app ggL_law_L_limits_7 (goodIn_app ggL_law_L_limits_8 (goodIn_app ggL_law_L_limits_9 (goodIn_app ggL_law_L_limits_10 (goodIn_app ggL_law_L_limits_11 (goodIn_app ggL_law_L_limits_12 (goodIn_app ggL_law_L_limits_13 (goodIn_app ggL_law_L_limits_19 (goodIn_app ggL_law_L_limits_22 (goodIn_app ggL_law_L_limits_23 (goodIn_app ggL_law_L_limits_24 (goodIn_app ggL_law_L_limits_25 (goodIn_app ggL_law_L_limits_26 (goodIn_app ggL_law_L_limits_27 ggL_law_L_limits_28))))))))))))))))))) ggL_law_L_limits_29) ggL_law_L_limits_30) ggL_law_L_limits_31) ggL_law_L_limits_32) ggL_law_L_limits_33) ggL_law_L_limits_34) ggL_law_L_limits_35)
end
section
set_option maxRecDepth 20000 in
theorem gL_law_L_limits : GoodIn wsL_law (va_wsS RL 163 yL_limits wsL_limits) := goodIn_app (goodIn_of _ (by decide +kernel)) ggL_law_L_limits
end
section
set_option maxRecDepth 20000 in
theorem ggL_law_L_texts_1 : GoodIn wsL_law [(Cond.code yL_texts cL_texts 2 (some .boolean) : Cond)] := x_g1 490 rfl (by decide +kernel)
set_option maxRecDepth 20000 in
theorem ggL_law_L_texts_2 : GoodIn wsL_law (wsL_texts_r1) := goodIn_r _ [0, 1, 2, 491, 492, 493, 494, 495, 496, 497, 498, 499, 500, 501, 502, 503, 504, 505, 506, 507, 508, 509, 510, 511] (by decide +kernel) (by decide +kernel)
set_option maxRecDepth 20000 in
theorem ggL_law_L_texts_3 : GoodIn wsL_law (wsL_texts_r2) := goodIn_r _ [512, 513, 514, 515, 516, 326, 8, 9, 10, 11, 12, 13, 14, 15, 16, 17, 18, 19, 20, 21, 22, 23, 24, 25] (by decide +kernel) (by decide +kernel)
set_option maxRecDepth 20000 in
theorem ggL_law_L_texts_4 : GoodIn wsL_law (wsL_texts_r3) := goodIn_r _ [26, 27, 28, 29, 30, 31, 32, 33, 34, 35, 36, 37, 38, 39, 40, 41, 42, 43, 44, 45, 46, 47, 48, 49] (by decide +kernel) (by decide +kernel)
set_option maxRecDepth 20000 in
theorem ggL_law_L_texts_5 : GoodIn wsL_law (wsL_texts_r4) := goodIn_r _ [50, 51, 52, 53, 54, 55, 56, 57, 58, 59, 60, 61, 62, 63, 64, 65, 517, 518, 519, 520, 358, 359, 360, 361] (by decide +kernel) (by decide +kernel)
set_option maxRecDepth 20000 in
theorem ggL_law_L_texts_6 : GoodIn wsL_law (wsL_texts_r5) := goodIn_r _ [362, 363, 364, 365, 366, 367, 368, 369, 370, 371, 372, 373, 374, 375, 376, 125, 377, 378, 379, 380, 381, 382, 383, 384] (by decide +kernel) (by decide +kernel)
set_option maxRecDepth 20000 in
theorem ggL_law_L_texts_7 : GoodIn wsL_law (wsL_texts_r6) := goodIn_r _ [385, 386, 387, 388, 389, 390, 391, 392, 101, 102, 393, 394, 395, 396, 397, 398, 399, 400, 401, 402, 403, 404, 405, 122] (by decide +kernel) (by decide +kernel)
set_option maxRecDepth 20000 in
theorem ggL_law_L_texts_8 : GoodIn wsL_law (wsL_texts_r7) := goodIn_r _ [123, 124, 354, 355, 356, 357, 88, 89, 90, 91, 75, 92, 93, 94, 95, 80, 81, 82, 83, 406, 407, 408, 409, 410] (by decide +kernel) (by decide +kernel)
set_option maxRecDepth 20000 in
theorem ggL_law_L_texts_9 : GoodIn wsL_law (wsL_texts_r8) := goodIn_r _ [411, 412, 413, 414, 415, 416, 417, 418, 419, 420, 421, 422, 423, 135, 136, 137, 138, 139, 105, 106, 107, 140, 141, 142] (by decide +kernel) (by decide +kernel)
end
section
set_option maxRecDepth 20000 in
theorem ggL_law_L_texts_10 : GoodIn wsL_law (wsL_texts_r9) := goodIn_r _ [143, 144, 145, 146, 147, 148, 149, 150, 151, 152, 153, 154, 424, 425, 426, 427, 159, 160, 161, 162, 163, 164, 165, 166] (by decide +kernel) (by decide +kernel)
set_option maxRecDepth 20000 in
theorem ggL_law_L_texts_11 : GoodIn wsL_law (wsL_texts_r10) := goodIn_r _ [167, 168, 169, 170, 171, 172, 173, 174, 175, 176, 177, 178, 428, 429, 430, 431, 223, 224, 225, 226, 189, 120, 227, 228] (by decide +kernel) (by decide +kernel)
set_option maxRecDepth 20000 in
theorem ggL_law_L_texts_12 : GoodIn wsL_law (wsL_texts_r11) := goodIn_r _ [229, 230, 231, 113, 114, 115, 232, 233, 234, 235, 236, 237, 238, 239, 240, 258, 259, 260, 261, 262, 263, 264, 265, 266] (by decide +kernel) (by decide +kernel)
set_option maxRecDepth 20000 in
theorem ggL_law_L_texts_13 : GoodIn wsL_law (wsL_texts_r12) := goodIn_r _ [267, 268, 269, 249, 250, 251, 252, 270, 271, 272, 273, 274, 275, 276, 305, 306, 307, 308, 309, 310, 130, 311, 312, 313] (by decide +kernel) (by decide +kernel)
set_option maxRecDepth 20000 in
theorem ggL_law_L_texts_14 : GoodIn wsL_law (wsL_texts_r13) := goodIn_r _ [314, 257, 200, 201, 432, 433, 434, 435, 436, 437, 438, 439, 440, 441, 442, 443, 444, 208, 209, 210, 337, 445, 446, 447] (by decide +kernel) (by decide +kernel)
set_option maxRecDepth 20000 in
theorem ggL_law_L_texts_15 : GoodIn wsL_law (wsL_texts_r14) := goodIn_r _ [448, 342, 343, 344, 345, 449, 450, 451, 452, 453, 108, 109, 110, 111, 74, 112, 467, 468, 469, 470, 471, 472, 473, 474] (by decide +kernel) (by decide +kernel)
set_option maxRecDepth 20000 in
theorem ggL_law_L_texts_16 : GoodIn wsL_law (wsL_texts_r15) := goodIn_r _ [475, 476, 477, 478, 479, 480, 481, 482, 483, 484, 521, 522, 523, 524, 116, 117, 118, 119, 121, 126, 127, 128, 129, 66] (by decide +kernel) (by decide +kernel)
set_option maxRecDepth 20000 in
theorem ggL_law_L_texts_17 : GoodIn wsL_law (wsL_texts_r16) := goodIn_r _ [67, 68, 69, 70, 71, 72, 73, 76, 77, 78, 79, 185, 186, 187, 188, 190, 191, 192, 193, 194, 195, 196, 197, 198] (by decide +kernel) (by decide +kernel)
set_option maxRecDepth 20000 in
theorem ggL_law_L_texts_18 : GoodIn wsL_law (wsL_texts_r17) := goodIn_r _ [199, 202, 203, 204, 205, 206, 207, 211, 212, 213, 214, 179, 180, 181, 182, 183, 184] (by decide +kernel) (by decide +kernel)
end
section
set_option maxRecDepth 20000 in
theorem ggL_law_L_texts_19 : GoodIn wsL_law (wsX60) := goodIn_r _ [533, 534, 535, 536, 537, 538] (by decide +kernel) (by decide +kernel)
set_option maxRecDepth 20000 in
theorem ggL_law_L_texts_20 : GoodIn wsL_law (wsX30) := goodIn_r _ [539] (by decide +kernel) (by decide +kernel)
set_option maxRecDepth 20000 in
theorem ggL_law_L_texts_21 : GoodIn wsL_law (wsX00) := goodIn_r _ [540, 541, 542] (by decide +kernel) (by decide +kernel)
set_option maxRecDepth 20000 in
theorem ggL_law_L_texts_22 : GoodIn wsL_law (wsX40) := goodIn_r _ [543, 544] (by decide +kernel) (by decide +kernel)
set_option maxRecDepth 20000 in
theorem ggL_law_L_texts_23 : GoodIn wsL_law (wsX10) := goodIn_r _ [545, 546] (by decide +kernel) (by decide +kernel)
set_option maxRecDepth 20000 in
theorem ggL_law_L_texts_24 : GoodIn wsL_law (wsX20) := goodIn_r _ [547, 548, 549, 550, 551] (by decide +kernel) (by decide +kernel)
set_option maxRecDepth 20000 in
theorem ggL_law_L_texts_25 : GoodIn wsL_law (wsX50) := goodIn_r _ [552, 553, 554, 555] (by decide +kernel) (by decide +kernel)
set_option maxRecDepth 20000 in
theorem ggL_law_L_texts : GoodIn wsL_law wsL_texts := x_gc ggL_law_L_texts_1 (goodIn_app (goodIn_app (goodIn_app (goodIn_app (goodIn_app (goodIn_app (goodIn_app (goodIn_app ggL_law_L_texts_2 (goodIn_app ggL_law_L_texts_3 (goodIn_app ggL_law_L_texts_4 (goodIn_app ggL_law_L_texts_5 (goodIn_app ggL_law_L_texts_6 (goodIn_app ggL_law_L_texts_7 (goodIn_app ggL_law_L_texts_8 (goodIn_app ggL_law_L_texts_9 (goodIn_app ggL_law_L_texts_10 (goodIn_app ggL_law_L_texts_11 (goodIn_app ggL_law_L_texts_12 (goodIn_app ggL_law_L_texts_13 (goodIn_app ggL_law_L_texts_14 (goodIn_app ggL_law_L_texts_15 (goodIn_app ggL_law_L_texts_16 (goodIn_app ggL_law_L_texts_17 ggL_law_L_texts_18)))))))))))))))) ggL_law_L_texts_19) ggL_law_L_texts_20) ggL_law_L_texts_21) ggL_law_L_texts_22) ggL_law_L_texts_23) ggL_law_L_texts_24) ggL_law_L_texts_25)
end
section
set_option maxRecDepth 20000 in
theorem gL_law_L_texts : GoodIn wsL_law (va_wsS RL 166 yL_texts wsL_texts) := goodIn_app (goodIn_of _ (by decide +kernel)) ggL_law_L_texts
set_option maxRecDepth 20000 in
theorem ggL_law_X6_init : GoodIn wsL_law wsX6_init := goodIn_r _ [10, 11, 12, 13, 14, 15, 16, 17, 18, 19, 20, 21, 22, 23, 24, 25, 26, 27, 28, 29, 30, 31, 32, 33, 34, 35, 36, 37, 38, 39, 40, 41, 42, 43, 44, 45, 46, 47, 48, 49, 50, 51, 52, 53, 54, 55, 56, 57, 58, 59, 60, 61, 62, 63, 64, 65, 539, 533, 534, 535, 536, 537, 538, 540, 541, 542, 543, 544, 545, 546, 547, 548, 549, 550, 551, 552, 553, 554, 555] (by decide +kernel) (by decide +kernel)
set_option maxRecDepth 20000 in
theorem gL_law_X6_init : GoodIn wsL_law (wsX6_init) := ggL_law_X6_init
set_option maxRecDepth 20000 in
theorem ggL_law_X6_roller : GoodIn wsL_law wsX6_roller := goodIn_r _ [134, 21, 17, 88, 89, 90, 20, 91, 47, 75, 92, 93, 94, 16, 95, 43, 80, 81, 82, 83, 135, 136, 137, 138, 101, 2, 102, 139, 105, 106, 107, 140, 141, 142, 143, 144, 145, 146, 147, 148, 149, 150, 151, 152, 153, 154, 108, 109, 110, 111, 74, 112, 113, 114, 115, 533, 534, 535, 536, 537, 538, 540, 541, 542, 539] (by decide +kernel) (by decide +kernel)
set_option maxRecDepth 20000 in
theorem gL_law_X6_roller : GoodIn wsL_law (wsV RL 31 RX6 yX6_roller wsX6_roller) := goodIn_app (goodIn_of _ (by decide +kernel)) ggL_law_X6_roller
set_option maxRecDepth 20000 in
theorem ggL_law_X6_save : GoodIn wsL_law wsX6_save := goodIn_r _ [461, 25, 17, 462, 463, 464, 24, 465, 51, 100, 101, 2, 102, 466, 93, 94, 16, 95, 43, 80, 81, 82, 83, 104, 105, 106, 107, 533, 534, 535, 536, 537, 538, 543, 544, 539] (by decide +kernel) (by decide +kernel)
set_option maxRecDepth 20000 in
theorem gL_law_X6_save : GoodIn wsL_law (wsV RL 69 RX6 yX6_save wsX6_save) := goodIn_app (goodIn_of _ (by decide +kernel)) ggL_law_X6_save
end
section
set_option maxRecDepth 20000 in
theorem ggL_law_L_seen_1 : GoodIn wsL_law [(Cond.code yL_seen cL_seen 4 (some .long) : Cond)] := x_g1 320 rfl (by decide +kernel)
set_option maxRecDepth 20000 in
theorem ggL_law_L_seen_2 : GoodIn wsL_law (wsL_seen_r1) := goodIn_r _ [321, 322, 116, 117, 118, 2, 119, 29, 21, 17, 120, 101, 102, 121, 122, 123, 28, 124, 125, 126, 127, 128, 20, 129] (by decide +kernel) (by decide +kernel)
set_option maxRecDepth 20000 in
theorem ggL_law_L_seen_3 : GoodIn wsL_law (wsL_seen_r2) := goodIn_r _ [74, 130, 105, 106, 16, 107, 43, 185, 186, 187, 188, 189, 168, 169, 170, 139, 190, 172, 173, 174, 140, 141, 142, 191] (by decide +kernel) (by decide +kernel)
set_option maxRecDepth 20000 in
theorem ggL_law_L_seen_4 : GoodIn wsL_law (wsL_seen_r3) := goodIn_r _ [192, 193, 194, 171, 175, 176, 177, 178, 195, 196, 197, 198, 199, 200, 114, 201, 202, 203, 204, 205, 206, 113, 115, 207] (by decide +kernel) (by decide +kernel)
set_option maxRecDepth 20000 in
theorem ggL_law_L_seen_5 : GoodIn wsL_law (wsL_seen_r4) := goodIn_r _ [208, 209, 210, 211, 212, 213, 214, 179, 180, 181, 182, 183, 164, 165, 166, 167, 184] (by decide +kernel) (by decide +kernel)
set_option maxRecDepth 20000 in
theorem ggL_law_L_seen_6 : GoodIn wsL_law (wsX60) := goodIn_r _ [533, 534, 535, 536, 537, 538] (by decide +kernel) (by decide +kernel)
set_option maxRecDepth 20000 in
theorem ggL_law_L_seen_7 : GoodIn wsL_law (wsX10) := goodIn_r _ [545, 546] (by decide +kernel) (by decide +kernel)
set_option maxRecDepth 20000 in
theorem ggL_law_L_seen_8 : GoodIn wsL_law (wsX00) := goodIn_r _ [540, 541, 542] (by decide +kernel) (by decide +kernel)
set_option maxRecDepth 20000 in
theorem ggL_law_L_seen_9 : GoodIn wsL_law (wsX30) := goodIn_r _ [539] (by decide +kernel) (by decide +kernel)
end
section
set_option maxRecDepth 20000 in
theorem ggL_law_L_seen : GoodIn wsL_law wsL_seen := x_gc ggL_law_L_seen_1 (goodIn_app (goodIn_app (goodIn_app (goodIn_app (goodIn_app ggL_law_L_seen_2 (goodIn_app ggL_law_L_seen_3 (goodIn_app ggL_law_L_seen_4 ggL_law_L_seen_5))) ggL_law_L_seen_6) ggL_law_L_seen_7) ggL_law_L_seen_8) ggL_law_L_seen_9)
end
section
set_option maxRecDepth 20000 in
theorem gL_law_L_seen : GoodIn wsL_law (va_wsS RL 85 yL_seen wsL_seen) := goodIn_app (goodIn_of _ (by decide +kernel)) ggL_law_L_seen
set_option maxRecDepth 20000 in
theorem ggL_law_L_drawn : GoodIn wsL_law wsL_drawn := goodIn_r _ [527, 528] (by decide +kernel) (by decide +kernel)
set_option maxRecDepth 20000 in
theorem gL_law_L_drawn : GoodIn wsL_law (va_wsS RL 169 yL_drawn wsL_drawn) := goodIn_app (goodIn_of _ (by decide +kernel)) ggL_law_L_drawn
set_option maxRecDepth 20000 in
theorem ggL_law_L_part : GoodIn wsL_law wsL_part := goodIn_r _ [531, 532] (by decide +kernel) (by decide +kernel)
set_option maxRecDepth 20000 in
theorem gL_law_L_part : GoodIn wsL_law (va_wsS RL 173 yL_part wsL_part) := goodIn_app (goodIn_of _ (by decide +kernel)) ggL_law_L_part
set_option maxRecDepth 20000 in
theorem ggL_law_X6_count : GoodIn wsL_law wsX6_count := goodIn_r _ [119, 29, 21, 17, 120, 101, 2, 102, 121, 122, 123, 28, 124, 125, 126, 127, 128, 20, 129, 74, 130, 105, 106, 16, 107, 43, 533, 534, 535, 536, 537, 538, 545, 546, 540, 541, 542, 539] (by decide +kernel) (by decide +kernel)
set_option maxRecDepth 20000 in
theorem gL_law_X6_count : GoodIn wsL_law (wsV RL 13 RX6 yX6_count wsX6_count) := goodIn_app (goodIn_of _ (by decide +kernel)) ggL_law_X6_count
set_option maxRecDepth 20000 in
theorem ggL_law_X6_file : GoodIn wsL_law wsX6_file := goodIn_r _ [158, 21, 17, 88, 89, 90, 20, 91, 47, 75, 92, 93, 94, 16, 95, 43, 80, 81, 82, 83, 159, 160, 161, 162, 163, 164, 165, 166, 167, 168, 169, 170, 139, 105, 106, 107, 171, 172, 173, 174, 140, 141, 142, 101, 2, 102, 175, 176, 177, 178, 147, 148, 149, 150, 143, 144, 145, 146, 108, 109, 110, 111, 74, 112, 113, 114, 115, 533, 534, 535, 536, 537, 538, 540, 541, 542, 539] (by decide +kernel) (by decide +kernel)
set_option maxRecDepth 20000 in
theorem gL_law_X6_file : GoodIn wsL_law (wsV RL 34 RX6 yX6_file wsX6_file) := goodIn_app (goodIn_of _ (by decide +kernel)) ggL_law_X6_file
set_option maxRecDepth 20000 in
theorem ggL_law_X6_card : GoodIn wsL_law wsX6_card := goodIn_r _ [349, 21, 17, 88, 89, 90, 20, 91, 47, 75, 92, 93, 94, 16, 95, 43, 80, 81, 82, 83, 350, 351, 352, 353, 101, 2, 102, 139, 105, 106, 107, 143, 144, 145, 146, 108, 109, 110, 111, 74, 112, 113, 114, 115, 533, 534, 535, 536, 537, 538, 540, 541, 542, 539] (by decide +kernel) (by decide +kernel)
set_option maxRecDepth 20000 in
theorem gL_law_X6_card : GoodIn wsL_law (wsV RL 41 RX6 yX6_card wsX6_card) := goodIn_app (goodIn_of _ (by decide +kernel)) ggL_law_X6_card
set_option maxRecDepth 20000 in
theorem ggL_law_X6_set : GoodIn wsL_law wsX6_set := goodIn_r _ [332, 21, 17, 88, 89, 90, 20, 91, 47, 75, 92, 93, 94, 16, 95, 43, 80, 81, 82, 83, 333, 334, 335, 336, 101, 2, 102, 337, 259, 260, 261, 139, 105, 106, 107, 143, 144, 145, 146, 108, 109, 110, 111, 74, 112, 113, 114, 115, 533, 534, 535, 536, 537, 538, 540, 541, 542, 539] (by decide +kernel) (by decide +kernel)
set_option maxRecDepth 20000 in
theorem gL_law_X6_set : GoodIn wsL_law (wsV RL 26 RX6 yX6_set wsX6_set) := goodIn_app (goodIn_of _ (by decide +kernel)) ggL_law_X6_set
set_option maxRecDepth 20000 in
theorem ggL_law_X6_run : GoodIn wsL_law wsX6_run := goodIn_r _ [457, 21, 17, 88, 89, 90, 20, 91, 47, 75, 92, 93, 94, 16, 95, 43, 80, 81, 82, 83, 428, 429, 430, 2, 431, 37, 223, 224, 225, 226, 189, 168, 169, 170, 139, 105, 106, 107, 120, 101, 102, 227, 228, 229, 36, 230, 231, 113, 114, 115, 232, 65, 233, 172, 173, 174, 140, 141, 142, 234, 235, 236, 237, 176, 177, 178, 238, 239, 240, 258, 259, 260, 261, 262, 263, 264, 265, 266, 267, 268, 269, 249, 250, 251, 252, 270, 271, 272, 273, 274, 275, 276, 305, 306, 307, 308, 309, 310, 130, 311, 312, 313, 314, 257, 200, 201, 432, 433, 434, 435, 436, 437, 438, 439, 151, 152, 153, 154, 143, 144, 145, 146, 440, 441, 442, 443, 444, 208, 209, 210, 337, 171, 445, 446, 447, 448, 175, 147, 148, 149, 150, 108, 109, 110, 111, 74, 112, 533, 534, 535, 536, 537, 538, 540, 541, 542, 539, 552, 553, 554, 555] (by decide +kernel) (by decide +kernel)
set_option maxRecDepth 20000 in
theorem gL_law_X6_run : GoodIn wsL_law (wsV RL 48 RX6 yX6_run wsX6_run) := goodIn_app (goodIn_of _ (by decide +kernel)) ggL_law_X6_run
set_option maxRecDepth 20000 in
theorem ggL_law_X6_melt : GoodIn wsL_law wsX6_melt := goodIn_r _ [341, 21, 17, 88, 89, 90, 20, 91, 47, 75, 92, 93, 94, 16, 95, 43, 80, 81, 82, 83, 342, 343, 344, 345, 167, 168, 169, 170, 139, 105, 106, 107, 140, 141, 142, 143, 144, 145, 146, 108, 109, 110, 111, 74, 112, 113, 114, 115, 533, 534, 535, 536, 537, 538, 540, 541, 542, 539] (by decide +kernel) (by decide +kernel)
set_option maxRecDepth 20000 in
theorem gL_law_X6_melt : GoodIn wsL_law (wsV RL 38 RX6 yX6_melt wsX6_melt) := goodIn_app (goodIn_of _ (by decide +kernel)) ggL_law_X6_melt
set_option maxRecDepth 20000 in
theorem ggL_law_X6_restore : GoodIn wsL_law wsX6_restore := goodIn_r _ [87, 21, 17, 25, 88, 89, 90, 20, 91, 47, 75, 92, 93, 94, 16, 95, 43, 80, 81, 82, 83, 96, 97, 98, 24, 99, 100, 51, 101, 2, 102, 103, 77, 78, 79, 104, 105, 106, 107, 108, 109, 110, 111, 74, 112, 113, 114, 115, 533, 534, 535, 536, 537, 538, 540, 541, 542, 539, 543, 544] (by decide +kernel) (by decide +kernel)
set_option maxRecDepth 20000 in
theorem gL_law_X6_restore : GoodIn wsL_law (wsV RL 72 RX6 yX6_restore wsX6_restore) := goodIn_app (goodIn_of _ (by decide +kernel)) ggL_law_X6_restore
end
section
set_option maxRecDepth 20000 in
theorem ggL_law_L_refused_1 : GoodIn wsL_law [(Cond.code yL_refused cL_refused 4 (some .boolean) : Cond)] := x_g1 317 rfl (by decide +kernel)
set_option maxRecDepth 20000 in
theorem ggL_law_L_refused_2 : GoodIn wsL_law ([Cond.methodLink RL 85 yL_seen, Cond.static yL_seen, Cond.initialized RL] : List Cond) := goodIn_r _ [318, 319, 6] (by decide +kernel) (by decide +kernel)
set_option maxRecDepth 20000 in
theorem ggL_law_L_refused_3 : GoodIn wsL_law [(Cond.code yL_seen cL_seen 4 (some .long) : Cond)] := x_g1 320 rfl (by decide +kernel)
set_option maxRecDepth 20000 in
theorem ggL_law_L_refused_4 : GoodIn wsL_law ([Cond.constantLong RL 9 (59), Cond.constantLong RL 11 (31), Cond.methodLink RL 13 yX6_count, Cond.instanceMethod yX6_count, Cond.selects RX6 yX6_count yX6_count, Cond.initialized RX6, Cond.code yX6_count cX6_count 2 (some .int), Cond.fieldLink RX6 33 "RollerMesh" "pad" "LRollerMesh$Pad;", Cond.fieldLink RX6 19 "RollerMesh" "history" "LRollerMesh$History;", Cond.fieldLink RX6 10 "RollerMesh" "shop" "LRollerMesh$Shop;", Cond.methodLink RX6 86 yX6_outside, Cond.static yX6_outside, Cond.code yX6_outside cX6_outside 3 (some .boolean), Cond.methodLink RX6 151 yX1_length, Cond.instanceMethod yX1_length, Cond.selects RX1 yX1_length yX1_length, Cond.initialized RX1, Cond.code yX1_length cX1_length 1 (some .int), Cond.fieldLink RX1 15 "RollerMesh$Pad" "length" "I", Cond.methodLink RX6 154 yX0_length] : List Cond) := goodIn_r _ [321, 322, 116, 117, 118, 2, 119, 29, 21, 17, 120, 101, 102, 121, 122, 123, 28, 124, 125, 126] (by decide +kernel) (by decide +kernel)
set_option maxRecDepth 20000 in
theorem ggL_law_L_refused_5 : GoodIn wsL_law wsL_refused_r1 := by
  show GoodIn wsL_law ([Cond.methodLink RL 85 yL_seen, Cond.static yL_seen, Cond.initialized RL] ++ (Cond.code yL_seen cL_seen 4 (some .long) :: ([Cond.constantLong RL 9 (59), Cond.constantLong RL 11 (31), Cond.methodLink RL 13 yX6_count, Cond.instanceMethod yX6_count, Cond.selects RX6 yX6_count yX6_count, Cond.initialized RX6, Cond.code yX6_count cX6_count 2 (some .int), Cond.fieldLink RX6 33 "RollerMesh" "pad" "LRollerMesh$Pad;", Cond.fieldLink RX6 19 "RollerMesh" "history" "LRollerMesh$History;", Cond.fieldLink RX6 10 "RollerMesh" "shop" "LRollerMesh$Shop;", Cond.methodLink RX6 86 yX6_outside, Cond.static yX6_outside, Cond.code yX6_outside cX6_outside 3 (some .boolean), Cond.methodLink RX6 151 yX1_length, Cond.instanceMethod yX1_length, Cond.selects RX1 yX1_length yX1_length, Cond.initialized RX1, Cond.code yX1_length cX1_length 1 (some .int), Cond.fieldLink RX1 15 "RollerMesh$Pad" "length" "I", Cond.methodLink RX6 154 yX0_length] ++ [])))
  exact (goodIn_app ggL_law_L_refused_2 (x_gc ggL_law_L_refused_3 (goodIn_app ggL_law_L_refused_4 x_gn)))
set_option maxRecDepth 20000 in
theorem ggL_law_L_refused_6 : GoodIn wsL_law (wsL_refused_r2) := goodIn_r _ [127, 128, 20, 129, 74, 130, 105, 106, 16, 107, 43, 185, 186, 187, 188, 189, 168, 169, 170, 139, 190, 172, 173, 174] (by decide +kernel) (by decide +kernel)
set_option maxRecDepth 20000 in
theorem ggL_law_L_refused_7 : GoodIn wsL_law (wsL_refused_r3) := goodIn_r _ [140, 141, 142, 191, 192, 193, 194, 171, 175, 176, 177, 178, 195, 196, 197, 198, 199, 200, 114, 201, 202, 203, 204, 205] (by decide +kernel) (by decide +kernel)
set_option maxRecDepth 20000 in
theorem ggL_law_L_refused_8 : GoodIn wsL_law ([Cond.methodLink RX3 60 Lib.Math.min.name, Cond.static Lib.Math.min.name, Cond.code Lib.Math.min.name Lib.Math.min.code 2 (some .int), Cond.methodLink RX6 138 yX3_stepsSinceWorn, Cond.instanceMethod yX3_stepsSinceWorn, Cond.selects RX3 yX3_stepsSinceWorn yX3_stepsSinceWorn, Cond.code yX3_stepsSinceWorn cX3_stepsSinceWorn 2 (some .int), Cond.methodLink RX6 141 yX3_timesWorn, Cond.instanceMethod yX3_timesWorn, Cond.selects RX3 yX3_timesWorn yX3_timesWorn, Cond.code yX3_timesWorn cX3_timesWorn 2 (some .int), Cond.methodLink RL 23 yX6_tooth, Cond.instanceMethod yX6_tooth, Cond.selects RX6 yX6_tooth yX6_tooth, Cond.code yX6_tooth cX6_tooth 3 (some .int), Cond.methodLink RX6 144 yX3_hasTooth, Cond.instanceMethod yX3_hasTooth, Cond.selects RX3 yX3_hasTooth yX3_hasTooth, Cond.code yX3_hasTooth cX3_hasTooth 3 (some .boolean), Cond.methodLink RX3 30 yX3_has, Cond.methodLink RX6 148 yX3_height, Cond.methodLink RL 89 yL_refusesAny, Cond.static yL_refusesAny] : List Cond) := goodIn_r _ [206, 113, 115, 207, 208, 209, 210, 211, 212, 213, 214, 179, 180, 181, 182, 183, 164, 165, 166, 167, 184, 323, 324] (by decide +kernel) (by decide +kernel)
set_option maxRecDepth 20000 in
theorem ggL_law_L_refused_9 : GoodIn wsL_law [(Cond.code yL_refusesAny cL_refusesAny 5 (some .boolean) : Cond)] := x_g1 325 rfl (by decide +kernel)
end
section
set_option maxRecDepth 20000 in
theorem ggL_law_L_refused_10 : GoodIn wsL_law wsL_refused_r4 := by
  show GoodIn wsL_law ([Cond.methodLink RX3 60 Lib.Math.min.name, Cond.static Lib.Math.min.name, Cond.code Lib.Math.min.name Lib.Math.min.code 2 (some .int), Cond.methodLink RX6 138 yX3_stepsSinceWorn, Cond.instanceMethod yX3_stepsSinceWorn, Cond.selects RX3 yX3_stepsSinceWorn yX3_stepsSinceWorn, Cond.code yX3_stepsSinceWorn cX3_stepsSinceWorn 2 (some .int), Cond.methodLink RX6 141 yX3_timesWorn, Cond.instanceMethod yX3_timesWorn, Cond.selects RX3 yX3_timesWorn yX3_timesWorn, Cond.code yX3_timesWorn cX3_timesWorn 2 (some .int), Cond.methodLink RL 23 yX6_tooth, Cond.instanceMethod yX6_tooth, Cond.selects RX6 yX6_tooth yX6_tooth, Cond.code yX6_tooth cX6_tooth 3 (some .int), Cond.methodLink RX6 144 yX3_hasTooth, Cond.instanceMethod yX3_hasTooth, Cond.selects RX3 yX3_hasTooth yX3_hasTooth, Cond.code yX3_hasTooth cX3_hasTooth 3 (some .boolean), Cond.methodLink RX3 30 yX3_has, Cond.methodLink RX6 148 yX3_height, Cond.methodLink RL 89 yL_refusesAny, Cond.static yL_refusesAny] ++ (Cond.code yL_refusesAny cL_refusesAny 5 (some .boolean) :: []))
  exact (goodIn_app ggL_law_L_refused_8 (x_gc ggL_law_L_refused_9 x_gn))
set_option maxRecDepth 20000 in
theorem ggL_law_L_refused_11 : GoodIn wsL_law (wsL_refused_r5) := goodIn_r _ [326, 327, 328, 329, 330, 331, 332, 88, 89, 90, 91, 47, 75, 92, 93, 94, 95, 80, 81, 82, 83, 333, 334, 335] (by decide +kernel) (by decide +kernel)
set_option maxRecDepth 20000 in
theorem ggL_law_L_refused_12 : GoodIn wsL_law (wsL_refused_r6) := goodIn_r _ [336, 337, 259, 260, 261, 143, 144, 145, 146, 108, 109, 110, 111, 112, 131, 132, 133, 134, 135, 136, 137, 138, 147, 148] (by decide +kernel) (by decide +kernel)
set_option maxRecDepth 20000 in
theorem ggL_law_L_refused_13 : GoodIn wsL_law (wsL_refused_r7) := goodIn_r _ [149, 150, 151, 152, 153, 154, 155, 156, 157, 158, 159, 160, 161, 162, 163, 338, 339, 340, 341, 342, 343, 344, 345, 346] (by decide +kernel) (by decide +kernel)
set_option maxRecDepth 20000 in
theorem ggL_law_L_refused_14 : GoodIn wsL_law (wsL_refused_r8) := goodIn_r _ [347, 348, 349, 350, 351, 352, 353, 354, 355, 356, 357, 33, 358, 359, 360, 32, 361, 362, 61, 363, 364, 365, 366, 367] (by decide +kernel) (by decide +kernel)
set_option maxRecDepth 20000 in
theorem ggL_law_L_refused_15 : GoodIn wsL_law (wsL_refused_r9) := goodIn_r _ [368, 369, 370, 371, 372, 373, 374, 375, 376, 55, 377, 378, 379, 380, 381, 382, 383, 384, 385, 386, 387, 388, 389, 390] (by decide +kernel) (by decide +kernel)
set_option maxRecDepth 20000 in
theorem ggL_law_L_refused_16 : GoodIn wsL_law (wsL_refused_r10) := goodIn_r _ [391, 392, 393, 394, 395, 396, 397, 398, 399, 400, 60, 401, 402, 403, 404, 405, 406, 407, 408, 409, 410, 411, 412, 413] (by decide +kernel) (by decide +kernel)
set_option maxRecDepth 20000 in
theorem ggL_law_L_refused_17 : GoodIn wsL_law (wsL_refused_r11) := goodIn_r _ [414, 415, 416, 417, 418, 419, 420, 421, 422, 423, 424, 425, 426, 427, 428, 429, 430, 431, 37, 223, 224, 225, 226, 227] (by decide +kernel) (by decide +kernel)
set_option maxRecDepth 20000 in
theorem ggL_law_L_refused_18 : GoodIn wsL_law (wsL_refused_r12) := goodIn_r _ [228, 229, 36, 230, 231, 232, 65, 233, 234, 235, 236, 237, 238, 239, 240, 258, 262, 263, 264, 265, 266, 267, 268, 269] (by decide +kernel) (by decide +kernel)
end
section
set_option maxRecDepth 20000 in
theorem ggL_law_L_refused_19 : GoodIn wsL_law (wsL_refused_r13) := goodIn_r _ [249, 250, 251, 252, 270, 271, 272, 273, 274, 275, 276, 305, 306, 307, 308, 309, 310, 311, 312, 313, 314, 257, 432, 433] (by decide +kernel) (by decide +kernel)
set_option maxRecDepth 20000 in
theorem ggL_law_L_refused_20 : GoodIn wsL_law (wsL_refused_r14) := goodIn_r _ [434, 435, 436, 437, 438, 439, 440, 441, 442, 443, 444, 445, 446, 447, 448, 449, 450, 451, 452, 453, 454, 455, 456, 457] (by decide +kernel) (by decide +kernel)
set_option maxRecDepth 20000 in
theorem ggL_law_L_refused_21 : GoodIn wsL_law (wsL_refused_r15) := goodIn_r _ [215, 216, 217, 218, 219, 220, 221, 222, 241, 242, 243, 244, 245, 246, 247, 248, 253, 254, 255, 256, 277, 278, 279, 280] (by decide +kernel) (by decide +kernel)
set_option maxRecDepth 20000 in
theorem ggL_law_L_refused_22 : GoodIn wsL_law (wsL_refused_r16) := goodIn_r _ [281, 282, 283, 284, 285, 286, 287, 288, 289, 290, 291, 292, 293, 294, 295, 296, 297, 298, 299, 300, 301, 302, 303, 304] (by decide +kernel) (by decide +kernel)
set_option maxRecDepth 20000 in
theorem ggL_law_L_refused_23 : GoodIn wsL_law (wsL_refused_r17) := goodIn_r _ [458, 459, 460, 461, 25, 462, 463, 464, 24, 465, 51, 100, 466, 104, 84, 85, 86, 87, 96, 97, 98, 99, 103, 77] (by decide +kernel) (by decide +kernel)
set_option maxRecDepth 20000 in
theorem ggL_law_L_refused_24 : GoodIn wsL_law (wsL_refused_r18) := goodIn_r _ [78, 79, 467, 468, 469, 470, 471, 472, 473, 474, 475, 476, 477, 478, 479, 480, 481, 482, 483, 484] (by decide +kernel) (by decide +kernel)
set_option maxRecDepth 20000 in
theorem ggL_law_L_refused_25 : GoodIn wsL_law (wsX60) := goodIn_r _ [533, 534, 535, 536, 537, 538] (by decide +kernel) (by decide +kernel)
set_option maxRecDepth 20000 in
theorem ggL_law_L_refused_26 : GoodIn wsL_law (wsX10) := goodIn_r _ [545, 546] (by decide +kernel) (by decide +kernel)
set_option maxRecDepth 20000 in
theorem ggL_law_L_refused_27 : GoodIn wsL_law (wsX00) := goodIn_r _ [540, 541, 542] (by decide +kernel) (by decide +kernel)
end
section
set_option maxRecDepth 20000 in
theorem ggL_law_L_refused_28 : GoodIn wsL_law (wsX30) := goodIn_r _ [539] (by decide +kernel) (by decide +kernel)
set_option maxRecDepth 20000 in
theorem ggL_law_L_refused_29 : GoodIn wsL_law (wsX20) := goodIn_r _ [547, 548, 549, 550, 551] (by decide +kernel) (by decide +kernel)
set_option maxRecDepth 20000 in
theorem ggL_law_L_refused_30 : GoodIn wsL_law (wsX50) := goodIn_r _ [552, 553, 554, 555] (by decide +kernel) (by decide +kernel)
set_option maxRecDepth 20000 in
theorem ggL_law_L_refused_31 : GoodIn wsL_law (wsX40) := goodIn_r _ [543, 544] (by decide +kernel) (by decide +kernel)
set_option maxRecDepth 20000 in
theorem ggL_law_L_refused : GoodIn wsL_law wsL_refused := x_gc ggL_law_L_refused_1 (goodIn_app (goodIn_app (goodIn_app (goodIn_app (goodIn_app (goodIn_app (goodIn_app (goodIn_app ggL_law_L_refused_5 (goodIn_app ggL_law_L_refused_6 (goodIn_app ggL_law_L_refused_7 (goodIn_app ggL_law_L_refused_10 (goodIn_app ggL_law_L_refused_11 (goodIn_app ggL_law_L_refused_12 (goodIn_app ggL_law_L_refused_13 (goodIn_app ggL_law_L_refused_14 (goodIn_app ggL_law_L_refused_15 (goodIn_app ggL_law_L_refused_16 (goodIn_app ggL_law_L_refused_17 (goodIn_app ggL_law_L_refused_18 (goodIn_app ggL_law_L_refused_19 (goodIn_app ggL_law_L_refused_20 (goodIn_app ggL_law_L_refused_21 (goodIn_app ggL_law_L_refused_22 (goodIn_app ggL_law_L_refused_23 ggL_law_L_refused_24))))))))))))))))) ggL_law_L_refused_25) ggL_law_L_refused_26) ggL_law_L_refused_27) ggL_law_L_refused_28) ggL_law_L_refused_29) ggL_law_L_refused_30) ggL_law_L_refused_31)
end
section
set_option maxRecDepth 20000 in
theorem gL_law_L_refused : GoodIn wsL_law (va_wsS RL 97 yL_refused wsL_refused) := goodIn_app (goodIn_of _ (by decide +kernel)) ggL_law_L_refused
set_option maxRecDepth 20000 in
theorem ggL_law_X6_undo : GoodIn wsL_law wsX6_undo := goodIn_r _ [69, 21, 17, 70, 71, 72, 20, 73, 74, 75, 47, 76, 77, 78, 16, 79, 43, 80, 81, 82, 83, 533, 534, 535, 536, 537, 538, 540, 541, 542, 539] (by decide +kernel) (by decide +kernel)
set_option maxRecDepth 20000 in
theorem gL_law_X6_undo : GoodIn wsL_law (wsV RL 94 RX6 yX6_undo wsX6_undo) := goodIn_app (goodIn_of _ (by decide +kernel)) ggL_law_X6_undo
theorem dL_law_0 : decode cL_law 0 = .ok (.invokestatic 159, 3) := by decide +kernel
theorem dL_law_3 : decode cL_law 3 = .ok (.ifCond .eq 15, 3) := by decide +kernel
theorem dL_law_6 : decode cL_law 6 = .ok (.invokestatic 163, 3) := by decide +kernel
theorem dL_law_9 : decode cL_law 9 = .ok (.ifCond .eq 9, 3) := by decide +kernel
theorem dL_law_12 : decode cL_law 12 = .ok (.invokestatic 166, 3) := by decide +kernel
theorem dL_law_15 : decode cL_law 15 = .ok (.ifCond .ne 5, 3) := by decide +kernel
theorem dL_law_18 : decode cL_law 18 = .ok (.iconst 0, 1) := by decide +kernel
theorem dL_law_19 : decode cL_law 19 = .ok (.ireturn, 1) := by decide +kernel
theorem dL_law_20 : decode cL_law 20 = .ok (.new 14, 3) := by decide +kernel
theorem dL_law_23 : decode cL_law 23 = .ok (.dup, 1) := by decide +kernel
theorem dL_law_24 : decode cL_law 24 = .ok (.invokespecial 93, 3) := by decide +kernel
theorem dL_law_27 : decode cL_law 27 = .ok (.astore_n 1, 1) := by decide +kernel
theorem dL_law_28 : decode cL_law 28 = .ok (.bipush 64, 2) := by decide +kernel
theorem dL_law_30 : decode cL_law 30 = .ok (.newarray .long, 2) := by decide +kernel
theorem dL_law_32 : decode cL_law 32 = .ok (.astore_n 2, 1) := by decide +kernel
theorem dL_law_33 : decode cL_law 33 = .ok (.iconst 0, 1) := by decide +kernel
theorem dL_law_34 : decode cL_law 34 = .ok (.istore_n 3, 1) := by decide +kernel
theorem dL_law_35 : decode cL_law 35 = .ok (.aload_n 1, 1) := by decide +kernel
theorem dL_law_36 : decode cL_law 36 = .ok (.iconst 3, 1) := by decide +kernel
theorem dL_law_37 : decode cL_law 37 = .ok (.iconst 1, 1) := by decide +kernel
theorem dL_law_38 : decode cL_law 38 = .ok (.invokevirtual 31, 3) := by decide +kernel
theorem dL_law_41 : decode cL_law 41 = .ok (.ifCond .ne 22, 3) := by decide +kernel
theorem dL_law_44 : decode cL_law 44 = .ok (.aload_n 1, 1) := by decide +kernel
theorem dL_law_45 : decode cL_law 45 = .ok (.iconst 5, 1) := by decide +kernel
theorem dL_law_46 : decode cL_law 46 = .ok (.iconst (-1), 1) := by decide +kernel
theorem dL_law_47 : decode cL_law 47 = .ok (.invokevirtual 31, 3) := by decide +kernel
theorem dL_law_50 : decode cL_law 50 = .ok (.iconst 1, 1) := by decide +kernel
theorem dL_law_51 : decode cL_law 51 = .ok (.if_icmp .ne 12, 3) := by decide +kernel
theorem dL_law_54 : decode cL_law 54 = .ok (.aload_n 1, 1) := by decide +kernel
theorem dL_law_55 : decode cL_law 55 = .ok (.iconst 0, 1) := by decide +kernel
theorem dL_law_56 : decode cL_law 56 = .ok (.invokevirtual 69, 3) := by decide +kernel
theorem dL_law_59 : decode cL_law 59 = .ok (.iconst 2, 1) := by decide +kernel
theorem dL_law_60 : decode cL_law 60 = .ok (.if_icmp .eq 5, 3) := by decide +kernel
theorem dL_law_63 : decode cL_law 63 = .ok (.iconst 0, 1) := by decide +kernel
theorem dL_law_64 : decode cL_law 64 = .ok (.ireturn, 1) := by decide +kernel
theorem dL_law_65 : decode cL_law 65 = .ok (.aload_n 1, 1) := by decide +kernel
theorem dL_law_66 : decode cL_law 66 = .ok (.invokestatic 85, 3) := by decide +kernel
theorem dL_law_69 : decode cL_law 69 = .ok (.lstore 4, 2) := by decide +kernel
theorem dL_law_71 : decode cL_law 71 = .ok (.iconst 0, 1) := by decide +kernel
theorem dL_law_72 : decode cL_law 72 = .ok (.istore 6, 2) := by decide +kernel
theorem dL_law_74 : decode cL_law 74 = .ok (.iload 6, 2) := by decide +kernel
theorem dL_law_76 : decode cL_law 76 = .ok (.bipush 26, 2) := by decide +kernel
theorem dL_law_78 : decode cL_law 78 = .ok (.if_icmp .ge 332, 3) := by decide +kernel
theorem dL_law_81 : decode cL_law 81 = .ok (.aload_n 0, 1) := by decide +kernel
theorem dL_law_82 : decode cL_law 82 = .ok (.iload 6, 2) := by decide +kernel
theorem dL_law_84 : decode cL_law 84 = .ok (.invokestatic 169, 3) := by decide +kernel
theorem dL_law_87 : decode cL_law 87 = .ok (.istore 7, 2) := by decide +kernel
theorem dL_law_89 : decode cL_law 89 = .ok (.iload 7, 2) := by decide +kernel
theorem dL_law_91 : decode cL_law 91 = .ok (.bipush 11, 2) := by decide +kernel
theorem dL_law_93 : decode cL_law 93 = .ok (.invokestatic 173, 3) := by decide +kernel
theorem dL_law_96 : decode cL_law 96 = .ok (.istore 8, 2) := by decide +kernel
theorem dL_law_98 : decode cL_law 98 = .ok (.aload_n 2, 1) := by decide +kernel
theorem dL_law_99 : decode cL_law 99 = .ok (.iload_n 3, 1) := by decide +kernel
theorem dL_law_100 : decode cL_law 100 = .ok (.aload_n 1, 1) := by decide +kernel
theorem dL_law_101 : decode cL_law 101 = .ok (.invokestatic 85, 3) := by decide +kernel
theorem dL_law_104 : decode cL_law 104 = .ok (.lastore, 1) := by decide +kernel
theorem dL_law_105 : decode cL_law 105 = .ok (.aload_n 1, 1) := by decide +kernel
theorem dL_law_106 : decode cL_law 106 = .ok (.bipush 10, 2) := by decide +kernel
theorem dL_law_108 : decode cL_law 108 = .ok (.invokevirtual 13, 3) := by decide +kernel
theorem dL_law_111 : decode cL_law 111 = .ok (.istore 9, 2) := by decide +kernel
theorem dL_law_113 : decode cL_law 113 = .ok (.iload 7, 2) := by decide +kernel
theorem dL_law_115 : decode cL_law 115 = .ok (.iconst 4, 1) := by decide +kernel
theorem dL_law_116 : decode cL_law 116 = .ok (.ishr, 1) := by decide +kernel
theorem dL_law_117 : decode cL_law 117 = .ok (.iconst 4, 1) := by decide +kernel
theorem dL_law_118 : decode cL_law 118 = .ok (.invokestatic 173, 3) := by decide +kernel
theorem dL_law_121 : decode cL_law 121 = .ok (.istore 10, 2) := by decide +kernel
theorem dL_law_123 : decode cL_law 123 = .ok (.iload 7, 2) := by decide +kernel
theorem dL_law_125 : decode cL_law 125 = .ok (.bipush 6, 2) := by decide +kernel
theorem dL_law_127 : decode cL_law 127 = .ok (.ishr, 1) := by decide +kernel
theorem dL_law_128 : decode cL_law 128 = .ok (.iconst 3, 1) := by decide +kernel
theorem dL_law_129 : decode cL_law 129 = .ok (.invokestatic 173, 3) := by decide +kernel
theorem dL_law_132 : decode cL_law 132 = .ok (.istore 11, 2) := by decide +kernel
theorem dL_law_134 : decode cL_law 134 = .ok (.iload 8, 2) := by decide +kernel
theorem dL_law_136 : decode cL_law 136 = .ok (.ifCond .ne 32, 3) := by decide +kernel
theorem dL_law_139 : decode cL_law 139 = .ok (.aload_n 1, 1) := by decide +kernel
theorem dL_law_140 : decode cL_law 140 = .ok (.iload 7, 2) := by decide +kernel
theorem dL_law_142 : decode cL_law 142 = .ok (.iconst 4, 1) := by decide +kernel
theorem dL_law_143 : decode cL_law 143 = .ok (.ishr, 1) := by decide +kernel
theorem dL_law_144 : decode cL_law 144 = .ok (.bipush 27, 2) := by decide +kernel
theorem dL_law_146 : decode cL_law 146 = .ok (.invokestatic 173, 3) := by decide +kernel
theorem dL_law_149 : decode cL_law 149 = .ok (.iload 7, 2) := by decide +kernel
theorem dL_law_151 : decode cL_law 151 = .ok (.bipush 9, 2) := by decide +kernel
theorem dL_law_153 : decode cL_law 153 = .ok (.ishr, 1) := by decide +kernel
theorem dL_law_154 : decode cL_law 154 = .ok (.bipush 21, 2) := by decide +kernel
theorem dL_law_156 : decode cL_law 156 = .ok (.invokestatic 173, 3) := by decide +kernel
theorem dL_law_159 : decode cL_law 159 = .ok (.bipush 10, 2) := by decide +kernel
theorem dL_law_161 : decode cL_law 161 = .ok (.isub, 1) := by decide +kernel
theorem dL_law_162 : decode cL_law 162 = .ok (.invokevirtual 31, 3) := by decide +kernel
theorem dL_law_165 : decode cL_law 165 = .ok (.goto 195, 3) := by decide +kernel
theorem dL_law_168 : decode cL_law 168 = .ok (.iload 8, 2) := by decide +kernel
theorem dL_law_170 : decode cL_law 170 = .ok (.iconst 3, 1) := by decide +kernel
theorem dL_law_171 : decode cL_law 171 = .ok (.if_icmp .ge 34, 3) := by decide +kernel
theorem dL_law_174 : decode cL_law 174 = .ok (.aload_n 1, 1) := by decide +kernel
theorem dL_law_175 : decode cL_law 175 = .ok (.iload 10, 2) := by decide +kernel
theorem dL_law_177 : decode cL_law 177 = .ok (.iload 7, 2) := by decide +kernel
theorem dL_law_179 : decode cL_law 179 = .ok (.bipush 8, 2) := by decide +kernel
theorem dL_law_181 : decode cL_law 181 = .ok (.ishr, 1) := by decide +kernel
theorem dL_law_182 : decode cL_law 182 = .ok (.bipush 6, 2) := by decide +kernel
theorem dL_law_184 : decode cL_law 184 = .ok (.invokestatic 173, 3) := by decide +kernel
theorem dL_law_187 : decode cL_law 187 = .ok (.iload 7, 2) := by decide +kernel
theorem dL_law_189 : decode cL_law 189 = .ok (.bipush 11, 2) := by decide +kernel
theorem dL_law_191 : decode cL_law 191 = .ok (.ishr, 1) := by decide +kernel
theorem dL_law_192 : decode cL_law 192 = .ok (.bipush 9, 2) := by decide +kernel
theorem dL_law_194 : decode cL_law 194 = .ok (.invokestatic 173, 3) := by decide +kernel
theorem dL_law_197 : decode cL_law 197 = .ok (.iconst 4, 1) := by decide +kernel
theorem dL_law_198 : decode cL_law 198 = .ok (.isub, 1) := by decide +kernel
theorem dL_law_199 : decode cL_law 199 = .ok (.invokevirtual 34, 3) := by decide +kernel
theorem dL_law_202 : decode cL_law 202 = .ok (.goto 158, 3) := by decide +kernel
theorem dL_law_205 : decode cL_law 205 = .ok (.iload 8, 2) := by decide +kernel
theorem dL_law_207 : decode cL_law 207 = .ok (.iconst 3, 1) := by decide +kernel
theorem dL_law_208 : decode cL_law 208 = .ok (.if_icmp .ne 29, 3) := by decide +kernel
theorem dL_law_211 : decode cL_law 211 = .ok (.aload_n 1, 1) := by decide +kernel
theorem dL_law_212 : decode cL_law 212 = .ok (.iload 7, 2) := by decide +kernel
theorem dL_law_214 : decode cL_law 214 = .ok (.iconst 4, 1) := by decide +kernel
theorem dL_law_215 : decode cL_law 215 = .ok (.ishr, 1) := by decide +kernel
theorem dL_law_216 : decode cL_law 216 = .ok (.bipush 32, 2) := by decide +kernel
theorem dL_law_218 : decode cL_law 218 = .ok (.invokestatic 173, 3) := by decide +kernel
theorem dL_law_221 : decode cL_law 221 = .ok (.iload 7, 2) := by decide +kernel
theorem dL_law_223 : decode cL_law 223 = .ok (.bipush 9, 2) := by decide +kernel
theorem dL_law_225 : decode cL_law 225 = .ok (.ishr, 1) := by decide +kernel
theorem dL_law_226 : decode cL_law 226 = .ok (.bipush 32, 2) := by decide +kernel
theorem dL_law_228 : decode cL_law 228 = .ok (.invokestatic 173, 3) := by decide +kernel
theorem dL_law_231 : decode cL_law 231 = .ok (.invokevirtual 41, 3) := by decide +kernel
theorem dL_law_234 : decode cL_law 234 = .ok (.goto 126, 3) := by decide +kernel
theorem dL_law_237 : decode cL_law 237 = .ok (.iload 8, 2) := by decide +kernel
theorem dL_law_239 : decode cL_law 239 = .ok (.iconst 4, 1) := by decide +kernel
theorem dL_law_240 : decode cL_law 240 = .ok (.if_icmp .ne 22, 3) := by decide +kernel
theorem dL_law_243 : decode cL_law 243 = .ok (.aload_n 1, 1) := by decide +kernel
theorem dL_law_244 : decode cL_law 244 = .ok (.iload 10, 2) := by decide +kernel
theorem dL_law_246 : decode cL_law 246 = .ok (.iload 7, 2) := by decide +kernel
theorem dL_law_248 : decode cL_law 248 = .ok (.bipush 6, 2) := by decide +kernel
theorem dL_law_250 : decode cL_law 250 = .ok (.ishr, 1) := by decide +kernel
theorem dL_law_251 : decode cL_law 251 = .ok (.bipush 12, 2) := by decide +kernel
theorem dL_law_253 : decode cL_law 253 = .ok (.invokestatic 173, 3) := by decide +kernel
theorem dL_law_256 : decode cL_law 256 = .ok (.invokevirtual 26, 3) := by decide +kernel
theorem dL_law_259 : decode cL_law 259 = .ok (.goto 101, 3) := by decide +kernel
theorem dL_law_262 : decode cL_law 262 = .ok (.iload 8, 2) := by decide +kernel
theorem dL_law_264 : decode cL_law 264 = .ok (.bipush 9, 2) := by decide +kernel
theorem dL_law_266 : decode cL_law 266 = .ok (.if_icmp .ge 57, 3) := by decide +kernel
theorem dL_law_269 : decode cL_law 269 = .ok (.aload_n 1, 1) := by decide +kernel
theorem dL_law_270 : decode cL_law 270 = .ok (.iload 10, 2) := by decide +kernel
theorem dL_law_272 : decode cL_law 272 = .ok (.iload 11, 2) := by decide +kernel
theorem dL_law_274 : decode cL_law 274 = .ok (.iload 7, 2) := by decide +kernel
theorem dL_law_276 : decode cL_law 276 = .ok (.bipush 8, 2) := by decide +kernel
theorem dL_law_278 : decode cL_law 278 = .ok (.ishr, 1) := by decide +kernel
theorem dL_law_279 : decode cL_law 279 = .ok (.bipush 25, 2) := by decide +kernel
theorem dL_law_281 : decode cL_law 281 = .ok (.invokestatic 173, 3) := by decide +kernel
theorem dL_law_284 : decode cL_law 284 = .ok (.iload 7, 2) := by decide +kernel
theorem dL_law_286 : decode cL_law 286 = .ok (.bipush 12, 2) := by decide +kernel
theorem dL_law_288 : decode cL_law 288 = .ok (.ishr, 1) := by decide +kernel
theorem dL_law_289 : decode cL_law 289 = .ok (.bipush 20, 2) := by decide +kernel
theorem dL_law_291 : decode cL_law 291 = .ok (.invokestatic 173, 3) := by decide +kernel
theorem dL_law_294 : decode cL_law 294 = .ok (.iconst 1, 1) := by decide +kernel
theorem dL_law_295 : decode cL_law 295 = .ok (.iload 7, 2) := by decide +kernel
theorem dL_law_297 : decode cL_law 297 = .ok (.iconst 4, 1) := by decide +kernel
theorem dL_law_298 : decode cL_law 298 = .ok (.ishr, 1) := by decide +kernel
theorem dL_law_299 : decode cL_law 299 = .ok (.bipush 20, 2) := by decide +kernel
theorem dL_law_301 : decode cL_law 301 = .ok (.invokestatic 173, 3) := by decide +kernel
theorem dL_law_304 : decode cL_law 304 = .ok (.iadd, 1) := by decide +kernel
theorem dL_law_305 : decode cL_law 305 = .ok (.iconst 1, 1) := by decide +kernel
theorem dL_law_306 : decode cL_law 306 = .ok (.iload 7, 2) := by decide +kernel
theorem dL_law_308 : decode cL_law 308 = .ok (.bipush 8, 2) := by decide +kernel
theorem dL_law_310 : decode cL_law 310 = .ok (.ishr, 1) := by decide +kernel
theorem dL_law_311 : decode cL_law 311 = .ok (.bipush 20, 2) := by decide +kernel
theorem dL_law_313 : decode cL_law 313 = .ok (.invokestatic 173, 3) := by decide +kernel
theorem dL_law_316 : decode cL_law 316 = .ok (.iadd, 1) := by decide +kernel
theorem dL_law_317 : decode cL_law 317 = .ok (.invokevirtual 48, 3) := by decide +kernel
theorem dL_law_320 : decode cL_law 320 = .ok (.goto 40, 3) := by decide +kernel
theorem dL_law_323 : decode cL_law 323 = .ok (.iload 8, 2) := by decide +kernel
theorem dL_law_325 : decode cL_law 325 = .ok (.bipush 9, 2) := by decide +kernel
theorem dL_law_327 : decode cL_law 327 = .ok (.if_icmp .ne 21, 3) := by decide +kernel
theorem dL_law_330 : decode cL_law 330 = .ok (.aload_n 1, 1) := by decide +kernel
theorem dL_law_331 : decode cL_law 331 = .ok (.iconst 0, 1) := by decide +kernel
theorem dL_law_332 : decode cL_law 332 = .ok (.invokevirtual 13, 3) := by decide +kernel
theorem dL_law_335 : decode cL_law 335 = .ok (.iconst 2, 1) := by decide +kernel
theorem dL_law_336 : decode cL_law 336 = .ok (.if_icmp .le 12, 3) := by decide +kernel
theorem dL_law_339 : decode cL_law 339 = .ok (.aload_n 1, 1) := by decide +kernel
theorem dL_law_340 : decode cL_law 340 = .ok (.iload 10, 2) := by decide +kernel
theorem dL_law_342 : decode cL_law 342 = .ok (.invokevirtual 38, 3) := by decide +kernel
theorem dL_law_345 : decode cL_law 345 = .ok (.goto 15, 3) := by decide +kernel
theorem dL_law_348 : decode cL_law 348 = .ok (.aload_n 1, 1) := by decide +kernel
theorem dL_law_349 : decode cL_law 349 = .ok (.iload 7, 2) := by decide +kernel
theorem dL_law_351 : decode cL_law 351 = .ok (.iconst 4, 1) := by decide +kernel
theorem dL_law_352 : decode cL_law 352 = .ok (.ishr, 1) := by decide +kernel
theorem dL_law_353 : decode cL_law 353 = .ok (.iconst 2, 1) := by decide +kernel
theorem dL_law_354 : decode cL_law 354 = .ok (.invokestatic 173, 3) := by decide +kernel
theorem dL_law_357 : decode cL_law 357 = .ok (.invokevirtual 72, 3) := by decide +kernel
theorem dL_law_360 : decode cL_law 360 = .ok (.istore 12, 2) := by decide +kernel
theorem dL_law_362 : decode cL_law 362 = .ok (.iload 12, 2) := by decide +kernel
theorem dL_law_364 : decode cL_law 364 = .ok (.ifCond .ge 27, 3) := by decide +kernel
theorem dL_law_367 : decode cL_law 367 = .ok (.aload_n 1, 1) := by decide +kernel
theorem dL_law_368 : decode cL_law 368 = .ok (.bipush 10, 2) := by decide +kernel
theorem dL_law_370 : decode cL_law 370 = .ok (.invokevirtual 13, 3) := by decide +kernel
theorem dL_law_373 : decode cL_law 373 = .ok (.iload 9, 2) := by decide +kernel
theorem dL_law_375 : decode cL_law 375 = .ok (.if_icmp .ne 14, 3) := by decide +kernel
theorem dL_law_378 : decode cL_law 378 = .ok (.aload_n 1, 1) := by decide +kernel
theorem dL_law_379 : decode cL_law 379 = .ok (.invokestatic 85, 3) := by decide +kernel
theorem dL_law_382 : decode cL_law 382 = .ok (.aload_n 2, 1) := by decide +kernel
theorem dL_law_383 : decode cL_law 383 = .ok (.iload_n 3, 1) := by decide +kernel
theorem dL_law_384 : decode cL_law 384 = .ok (.laload, 1) := by decide +kernel
theorem dL_law_385 : decode cL_law 385 = .ok (.lcmp, 1) := by decide +kernel
theorem dL_law_386 : decode cL_law 386 = .ok (.ifCond .eq 5, 3) := by decide +kernel
theorem dL_law_389 : decode cL_law 389 = .ok (.iconst 0, 1) := by decide +kernel
theorem dL_law_390 : decode cL_law 390 = .ok (.ireturn, 1) := by decide +kernel
theorem dL_law_391 : decode cL_law 391 = .ok (.iload_n 3, 1) := by decide +kernel
theorem dL_law_392 : decode cL_law 392 = .ok (.iload 12, 2) := by decide +kernel
theorem dL_law_394 : decode cL_law 394 = .ok (.ifCond .ge 7, 3) := by decide +kernel
theorem dL_law_397 : decode cL_law 397 = .ok (.iconst 0, 1) := by decide +kernel
theorem dL_law_398 : decode cL_law 398 = .ok (.goto 4, 3) := by decide +kernel
theorem dL_law_401 : decode cL_law 401 = .ok (.iconst 1, 1) := by decide +kernel
theorem dL_law_402 : decode cL_law 402 = .ok (.iadd, 1) := by decide +kernel
theorem dL_law_403 : decode cL_law 403 = .ok (.istore_n 3, 1) := by decide +kernel
theorem dL_law_404 : decode cL_law 404 = .ok (.iinc 6 1, 3) := by decide +kernel
theorem dL_law_407 : decode cL_law 407 = .ok (.goto (-333), 3) := by decide +kernel
theorem dL_law_410 : decode cL_law 410 = .ok (.aload_n 2, 1) := by decide +kernel
theorem dL_law_411 : decode cL_law 411 = .ok (.iload_n 3, 1) := by decide +kernel
theorem dL_law_412 : decode cL_law 412 = .ok (.aload_n 1, 1) := by decide +kernel
theorem dL_law_413 : decode cL_law 413 = .ok (.invokestatic 85, 3) := by decide +kernel
theorem dL_law_416 : decode cL_law 416 = .ok (.lastore, 1) := by decide +kernel
theorem dL_law_417 : decode cL_law 417 = .ok (.aload_n 1, 1) := by decide +kernel
theorem dL_law_418 : decode cL_law 418 = .ok (.invokestatic 97, 3) := by decide +kernel
theorem dL_law_421 : decode cL_law 421 = .ok (.ifCond .ne 5, 3) := by decide +kernel
theorem dL_law_424 : decode cL_law 424 = .ok (.iconst 0, 1) := by decide +kernel
theorem dL_law_425 : decode cL_law 425 = .ok (.ireturn, 1) := by decide +kernel
theorem dL_law_426 : decode cL_law 426 = .ok (.iconst 0, 1) := by decide +kernel
theorem dL_law_427 : decode cL_law 427 = .ok (.istore 6, 2) := by decide +kernel
theorem dL_law_429 : decode cL_law 429 = .ok (.aload_n 1, 1) := by decide +kernel
theorem dL_law_430 : decode cL_law 430 = .ok (.bipush 10, 2) := by decide +kernel
theorem dL_law_432 : decode cL_law 432 = .ok (.invokevirtual 13, 3) := by decide +kernel
theorem dL_law_435 : decode cL_law 435 = .ok (.ifCond .le 56, 3) := by decide +kernel
theorem dL_law_438 : decode cL_law 438 = .ok (.iload 6, 2) := by decide +kernel
theorem dL_law_440 : decode cL_law 440 = .ok (.iload_n 3, 1) := by decide +kernel
theorem dL_law_441 : decode cL_law 441 = .ok (.if_icmp .ge 50, 3) := by decide +kernel
theorem dL_law_444 : decode cL_law 444 = .ok (.aload_n 1, 1) := by decide +kernel
theorem dL_law_445 : decode cL_law 445 = .ok (.bipush 10, 2) := by decide +kernel
theorem dL_law_447 : decode cL_law 447 = .ok (.invokevirtual 13, 3) := by decide +kernel
theorem dL_law_450 : decode cL_law 450 = .ok (.istore 7, 2) := by decide +kernel
theorem dL_law_452 : decode cL_law 452 = .ok (.iload 6, 2) := by decide +kernel
theorem dL_law_454 : decode cL_law 454 = .ok (.iconst 5, 1) := by decide +kernel
theorem dL_law_455 : decode cL_law 455 = .ok (.if_icmp .gt 28, 3) := by decide +kernel
theorem dL_law_458 : decode cL_law 458 = .ok (.aload_n 1, 1) := by decide +kernel
theorem dL_law_459 : decode cL_law 459 = .ok (.invokestatic 85, 3) := by decide +kernel
theorem dL_law_462 : decode cL_law 462 = .ok (.aload_n 2, 1) := by decide +kernel
theorem dL_law_463 : decode cL_law 463 = .ok (.iload_n 3, 1) := by decide +kernel
theorem dL_law_464 : decode cL_law 464 = .ok (.iload 6, 2) := by decide +kernel
theorem dL_law_466 : decode cL_law 466 = .ok (.isub, 1) := by decide +kernel
theorem dL_law_467 : decode cL_law 467 = .ok (.laload, 1) := by decide +kernel
theorem dL_law_468 : decode cL_law 468 = .ok (.lcmp, 1) := by decide +kernel
theorem dL_law_469 : decode cL_law 469 = .ok (.ifCond .ne 14, 3) := by decide +kernel
theorem dL_law_472 : decode cL_law 472 = .ok (.aload_n 1, 1) := by decide +kernel
theorem dL_law_473 : decode cL_law 473 = .ok (.invokevirtual 94, 3) := by decide +kernel
theorem dL_law_476 : decode cL_law 476 = .ok (.iload 7, 2) := by decide +kernel
theorem dL_law_478 : decode cL_law 478 = .ok (.iconst 1, 1) := by decide +kernel
theorem dL_law_479 : decode cL_law 479 = .ok (.isub, 1) := by decide +kernel
theorem dL_law_480 : decode cL_law 480 = .ok (.if_icmp .eq 5, 3) := by decide +kernel
theorem dL_law_483 : decode cL_law 483 = .ok (.iconst 0, 1) := by decide +kernel
theorem dL_law_484 : decode cL_law 484 = .ok (.ireturn, 1) := by decide +kernel
theorem dL_law_485 : decode cL_law 485 = .ok (.iinc 6 1, 3) := by decide +kernel
theorem dL_law_488 : decode cL_law 488 = .ok (.goto (-59), 3) := by decide +kernel
theorem dL_law_491 : decode cL_law 491 = .ok (.aload_n 1, 1) := by decide +kernel
theorem dL_law_492 : decode cL_law 492 = .ok (.bipush 10, 2) := by decide +kernel
theorem dL_law_494 : decode cL_law 494 = .ok (.invokevirtual 13, 3) := by decide +kernel
theorem dL_law_497 : decode cL_law 497 = .ok (.ifCond .le 12, 3) := by decide +kernel
theorem dL_law_500 : decode cL_law 500 = .ok (.aload_n 1, 1) := by decide +kernel
theorem dL_law_501 : decode cL_law 501 = .ok (.invokevirtual 94, 3) := by decide +kernel
theorem dL_law_504 : decode cL_law 504 = .ok (.ifCond .ge (-13), 3) := by decide +kernel
theorem dL_law_507 : decode cL_law 507 = .ok (.iconst 0, 1) := by decide +kernel
theorem dL_law_508 : decode cL_law 508 = .ok (.ireturn, 1) := by decide +kernel
theorem dL_law_509 : decode cL_law 509 = .ok (.aload_n 1, 1) := by decide +kernel
theorem dL_law_510 : decode cL_law 510 = .ok (.invokevirtual 94, 3) := by decide +kernel
theorem dL_law_513 : decode cL_law 513 = .ok (.bipush (-5), 2) := by decide +kernel
theorem dL_law_515 : decode cL_law 515 = .ok (.if_icmp .ne 36, 3) := by decide +kernel
theorem dL_law_518 : decode cL_law 518 = .ok (.aload_n 1, 1) := by decide +kernel
theorem dL_law_519 : decode cL_law 519 = .ok (.iconst 0, 1) := by decide +kernel
theorem dL_law_520 : decode cL_law 520 = .ok (.invokevirtual 72, 3) := by decide +kernel
theorem dL_law_523 : decode cL_law 523 = .ok (.iconst 2, 1) := by decide +kernel
theorem dL_law_524 : decode cL_law 524 = .ok (.if_icmp .ne 27, 3) := by decide +kernel
theorem dL_law_527 : decode cL_law 527 = .ok (.aload_n 1, 1) := by decide +kernel
theorem dL_law_528 : decode cL_law 528 = .ok (.invokestatic 85, 3) := by decide +kernel
theorem dL_law_531 : decode cL_law 531 = .ok (.lload 4, 2) := by decide +kernel
theorem dL_law_533 : decode cL_law 533 = .ok (.lcmp, 1) := by decide +kernel
theorem dL_law_534 : decode cL_law 534 = .ok (.ifCond .ne 17, 3) := by decide +kernel
theorem dL_law_537 : decode cL_law 537 = .ok (.aload_n 1, 1) := by decide +kernel
theorem dL_law_538 : decode cL_law 538 = .ok (.bipush 10, 2) := by decide +kernel
theorem dL_law_540 : decode cL_law 540 = .ok (.invokevirtual 13, 3) := by decide +kernel
theorem dL_law_543 : decode cL_law 543 = .ok (.iconst 1, 1) := by decide +kernel
theorem dL_law_544 : decode cL_law 544 = .ok (.if_icmp .ne 7, 3) := by decide +kernel
theorem dL_law_547 : decode cL_law 547 = .ok (.iconst 1, 1) := by decide +kernel
theorem dL_law_548 : decode cL_law 548 = .ok (.goto 4, 3) := by decide +kernel
theorem dL_law_551 : decode cL_law 551 = .ok (.iconst 0, 1) := by decide +kernel
theorem dL_law_552 : decode cL_law 552 = .ok (.ireturn, 1) := by decide +kernel
end
