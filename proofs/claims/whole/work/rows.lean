section
-- ===== PART A: goes FIRST, ahead of the names: the tables' words, and 'selects' of the private methods out of them =====
/-- a private method of a class that the tables say can be made, by its rows of tables_1 -/
def lw_okq (q : MethodName × Nat) : Prop := (q.1.cls ≠ "java/lang/invoke/MethodHandle" ∧ q.1.cls ≠ "java/lang/invoke/VarHandle") ∧ Cond.instantiable q.1.cls q.2 ∈ tables_1 ∧ Cond.privateMethod q.1 ∈ tables_1 ∧ Cond.instanceMethod q.1 ∈ tables_1
theorem lw_p0 : lw_okq (⟨"LampLoft", "leave", "(II)I"⟩, 12) := ⟨⟨by decide +kernel, by decide +kernel⟩, List.mem_of_getElem? (i := 8) (by decide +kernel), List.mem_of_getElem? (i := 93) (by decide +kernel), List.mem_of_getElem? (i := 94) (by decide +kernel)⟩
theorem lw_p1 : lw_okq (⟨"LampLoft", "counted", "(I)I"⟩, 12) := ⟨⟨by decide +kernel, by decide +kernel⟩, List.mem_of_getElem? (i := 8) (by decide +kernel), List.mem_of_getElem? (i := 97) (by decide +kernel), List.mem_of_getElem? (i := 98) (by decide +kernel)⟩
theorem lw_p2 : lw_okq (⟨"LampLoft", "measure", "(II)I"⟩, 12) := ⟨⟨by decide +kernel, by decide +kernel⟩, List.mem_of_getElem? (i := 8) (by decide +kernel), List.mem_of_getElem? (i := 122) (by decide +kernel), List.mem_of_getElem? (i := 123) (by decide +kernel)⟩
theorem lw_p3 : lw_okq (⟨"LampLoft", "leaveFound", "(I)I"⟩, 12) := ⟨⟨by decide +kernel, by decide +kernel⟩, List.mem_of_getElem? (i := 8) (by decide +kernel), List.mem_of_getElem? (i := 126) (by decide +kernel), List.mem_of_getElem? (i := 127) (by decide +kernel)⟩
theorem lw_p4 : lw_okq (⟨"LampLoft", "look", "(III)I"⟩, 12) := ⟨⟨by decide +kernel, by decide +kernel⟩, List.mem_of_getElem? (i := 8) (by decide +kernel), List.mem_of_getElem? (i := 134) (by decide +kernel), List.mem_of_getElem? (i := 135) (by decide +kernel)⟩
theorem lw_p5 : lw_okq (⟨"LampLoft", "put", "(IIII)I"⟩, 12) := ⟨⟨by decide +kernel, by decide +kernel⟩, List.mem_of_getElem? (i := 8) (by decide +kernel), List.mem_of_getElem? (i := 151) (by decide +kernel), List.mem_of_getElem? (i := 152) (by decide +kernel)⟩
theorem lw_p6 : lw_okq (⟨"LampLoft", "findShown", "(II)I"⟩, 12) := ⟨⟨by decide +kernel, by decide +kernel⟩, List.mem_of_getElem? (i := 8) (by decide +kernel), List.mem_of_getElem? (i := 197) (by decide +kernel), List.mem_of_getElem? (i := 198) (by decide +kernel)⟩
theorem lw_p7 : lw_okq (⟨"LampLoft", "isLit", "(II)Z"⟩, 12) := ⟨⟨by decide +kernel, by decide +kernel⟩, List.mem_of_getElem? (i := 8) (by decide +kernel), List.mem_of_getElem? (i := 205) (by decide +kernel), List.mem_of_getElem? (i := 206) (by decide +kernel)⟩
theorem lw_p8 : lw_okq (⟨"LampLoft", "runsOn", "(LLampLoft$Fade;)Z"⟩, 12) := ⟨⟨by decide +kernel, by decide +kernel⟩, List.mem_of_getElem? (i := 8) (by decide +kernel), List.mem_of_getElem? (i := 238) (by decide +kernel), List.mem_of_getElem? (i := 239) (by decide +kernel)⟩
theorem lw_p9 : lw_okq (⟨"LampLoft", "countDropped", "(I)V"⟩, 12) := ⟨⟨by decide +kernel, by decide +kernel⟩, List.mem_of_getElem? (i := 8) (by decide +kernel), List.mem_of_getElem? (i := 242) (by decide +kernel), List.mem_of_getElem? (i := 243) (by decide +kernel)⟩
theorem lw_p10 : lw_okq (⟨"LampLoft", "drawLamp", "(III)I"⟩, 12) := ⟨⟨by decide +kernel, by decide +kernel⟩, List.mem_of_getElem? (i := 8) (by decide +kernel), List.mem_of_getElem? (i := 303) (by decide +kernel), List.mem_of_getElem? (i := 304) (by decide +kernel)⟩
theorem lw_p11 : lw_okq (⟨"LampLoftModel", "begins", "(Z)Z"⟩, 23) := ⟨⟨by decide +kernel, by decide +kernel⟩, List.mem_of_getElem? (i := 332) (by decide +kernel), List.mem_of_getElem? (i := 421) (by decide +kernel), List.mem_of_getElem? (i := 422) (by decide +kernel)⟩
theorem lw_p12 : lw_okq (⟨"LampLoftModel", "counted", "(I)I"⟩, 23) := ⟨⟨by decide +kernel, by decide +kernel⟩, List.mem_of_getElem? (i := 332) (by decide +kernel), List.mem_of_getElem? (i := 437) (by decide +kernel), List.mem_of_getElem? (i := 438) (by decide +kernel)⟩
theorem lw_p13 : lw_okq (⟨"LampLoftModel", "refused", "(III)I"⟩, 23) := ⟨⟨by decide +kernel, by decide +kernel⟩, List.mem_of_getElem? (i := 332) (by decide +kernel), List.mem_of_getElem? (i := 445) (by decide +kernel), List.mem_of_getElem? (i := 446) (by decide +kernel)⟩
theorem lw_p14 : lw_okq (⟨"LampLoftModel", "why", "(III)I"⟩, 23) := ⟨⟨by decide +kernel, by decide +kernel⟩, List.mem_of_getElem? (i := 332) (by decide +kernel), List.mem_of_getElem? (i := 449) (by decide +kernel), List.mem_of_getElem? (i := 450) (by decide +kernel)⟩
theorem lw_p15 : lw_okq (⟨"LampLoftModel", "at", "(III)I"⟩, 23) := ⟨⟨by decide +kernel, by decide +kernel⟩, List.mem_of_getElem? (i := 332) (by decide +kernel), List.mem_of_getElem? (i := 453) (by decide +kernel), List.mem_of_getElem? (i := 454) (by decide +kernel)⟩
def lw_privs_1 : List (MethodName × Nat) := [(⟨"LampLoft", "leave", "(II)I"⟩, 12), (⟨"LampLoft", "counted", "(I)I"⟩, 12), (⟨"LampLoft", "measure", "(II)I"⟩, 12), (⟨"LampLoft", "leaveFound", "(I)I"⟩, 12), (⟨"LampLoft", "look", "(III)I"⟩, 12), (⟨"LampLoft", "put", "(IIII)I"⟩, 12), (⟨"LampLoft", "findShown", "(II)I"⟩, 12), (⟨"LampLoft", "isLit", "(II)Z"⟩, 12), (⟨"LampLoft", "runsOn", "(LLampLoft$Fade;)Z"⟩, 12), (⟨"LampLoft", "countDropped", "(I)V"⟩, 12), (⟨"LampLoft", "drawLamp", "(III)I"⟩, 12), (⟨"LampLoftModel", "begins", "(Z)Z"⟩, 23), (⟨"LampLoftModel", "counted", "(I)I"⟩, 23), (⟨"LampLoftModel", "refused", "(III)I"⟩, 23), (⟨"LampLoftModel", "why", "(III)I"⟩, 23), (⟨"LampLoftModel", "at", "(III)I"⟩, 23)]
theorem lw_r1 : ∀ q ∈ lw_privs_1, lw_okq q := List.forall_mem_cons.mpr ⟨lw_p0, List.forall_mem_cons.mpr ⟨lw_p1, List.forall_mem_cons.mpr ⟨lw_p2, List.forall_mem_cons.mpr ⟨lw_p3, List.forall_mem_cons.mpr ⟨lw_p4, List.forall_mem_cons.mpr ⟨lw_p5, List.forall_mem_cons.mpr ⟨lw_p6, List.forall_mem_cons.mpr ⟨lw_p7, List.forall_mem_cons.mpr ⟨lw_p8, List.forall_mem_cons.mpr ⟨lw_p9, List.forall_mem_cons.mpr ⟨lw_p10, List.forall_mem_cons.mpr ⟨lw_p11, List.forall_mem_cons.mpr ⟨lw_p12, List.forall_mem_cons.mpr ⟨lw_p13, List.forall_mem_cons.mpr ⟨lw_p14, List.forall_mem_cons.mpr ⟨lw_p15, fun _ h => absurd h List.not_mem_nil⟩⟩⟩⟩⟩⟩⟩⟩⟩⟩⟩⟩⟩⟩⟩⟩
theorem lw_p16 : lw_okq (⟨"LampLoftModel", "put", "(IIII)V"⟩, 23) := ⟨⟨by decide +kernel, by decide +kernel⟩, List.mem_of_getElem? (i := 332) (by decide +kernel), List.mem_of_getElem? (i := 461) (by decide +kernel), List.mem_of_getElem? (i := 462) (by decide +kernel)⟩
theorem lw_p17 : lw_okq (⟨"LampLoftModel", "light", "(II)I"⟩, 23) := ⟨⟨by decide +kernel, by decide +kernel⟩, List.mem_of_getElem? (i := 332) (by decide +kernel), List.mem_of_getElem? (i := 498) (by decide +kernel), List.mem_of_getElem? (i := 499) (by decide +kernel)⟩
theorem lw_p18 : lw_okq (⟨"LampLoftModel", "whyCell", "(II)I"⟩, 23) := ⟨⟨by decide +kernel, by decide +kernel⟩, List.mem_of_getElem? (i := 332) (by decide +kernel), List.mem_of_getElem? (i := 522) (by decide +kernel), List.mem_of_getElem? (i := 523) (by decide +kernel)⟩
def lw_privs_2 : List (MethodName × Nat) := [(⟨"LampLoftModel", "put", "(IIII)V"⟩, 23), (⟨"LampLoftModel", "light", "(II)I"⟩, 23), (⟨"LampLoftModel", "whyCell", "(II)I"⟩, 23)]
theorem lw_r2 : ∀ q ∈ lw_privs_2, lw_okq q := List.forall_mem_cons.mpr ⟨lw_p16, List.forall_mem_cons.mpr ⟨lw_p17, List.forall_mem_cons.mpr ⟨lw_p18, fun _ h => absurd h List.not_mem_nil⟩⟩⟩
def lw_privs : List (MethodName × Nat) := lw_privs_1 ++ (lw_privs_2)
def lw_tbl : List Cond := k2_sels lw_privs ++ tables_1
theorem lw_privs_ok : ∀ q ∈ lw_privs, lw_okq q := by
  show ∀ q ∈ lw_privs_1 ++ (lw_privs_2), lw_okq q
  exact List.forall_mem_append.mpr ⟨lw_r1, lw_r2⟩
end
section
def RX0 : String := "LampLoft$Fade"
def TX0 : u_T := fun k => match k with
  | 0 => ("LampLoft$Fade", "bank", "I", true)
  | 1 => ("LampLoft$Fade", "place", "I", true)
  | 2 => ("LampLoft$Fade", "target", "I", true)
  | _ => ("LampLoft$Fade", "step", "I", true)
def tyX0 : Nat → FieldType := fun k => match k with
  | 0 => .int
  | 1 => .int
  | 2 => .int
  | _ => .int
abbrev wsX00 : List Cond := u_ws RX0 TX0 4
theorem nmX0 : ∀ a, a < 4 → ∀ b, b < 4 → a ≠ b → (TX0 a).2.1 ≠ (TX0 b).2.1 := by decide +kernel
theorem tyX0_ok : ∀ k, k < 4 → parseFieldDescriptor (TX0 k).2.2.1 = some (tyX0 k) := by decide +kernel
abbrev cX0_init : ByteArray := prog_2_method_1_code
def yX0_init : MethodName := ⟨RX0, "<init>", "(IIII)V"⟩
abbrev cX0_nextLevel : ByteArray := prog_2_method_2_code
def yX0_nextLevel : MethodName := ⟨RX0, "nextLevel", "(I)I"⟩
def RX1 : String := "LampLoft$Paper"
def TX1 : u_T := fun k => match k with
  | 0 => ("LampLoft$Paper", "rows", "[[I", false)
  | _ => ("LampLoft$Paper", "cellsWritten", "I", false)
def tyX1 : Nat → FieldType := fun k => match k with
  | 0 => .array (.array .int)
  | _ => .int
abbrev wsX10 : List Cond := u_ws RX1 TX1 2
theorem nmX1 : ∀ a, a < 2 → ∀ b, b < 2 → a ≠ b → (TX1 a).2.1 ≠ (TX1 b).2.1 := by decide +kernel
theorem tyX1_ok : ∀ k, k < 2 → parseFieldDescriptor (TX1 k).2.2.1 = some (tyX1 k) := by decide +kernel
abbrev cX1_init : ByteArray := prog_3_method_1_code
def yX1_init : MethodName := ⟨RX1, "<init>", "()V"⟩
abbrev cX1_isThere : ByteArray := prog_3_method_2_code
def yX1_isThere : MethodName := ⟨RX1, "isThere", "()Z"⟩
abbrev cX1_replace : ByteArray := prog_3_method_3_code
def yX1_replace : MethodName := ⟨RX1, "replace", "([[I)V"⟩
abbrev cX1_rowCount : ByteArray := prog_3_method_4_code
def yX1_rowCount : MethodName := ⟨RX1, "rowCount", "()I"⟩
abbrev cX1_hasRow : ByteArray := prog_3_method_5_code
def yX1_hasRow : MethodName := ⟨RX1, "hasRow", "(I)Z"⟩
abbrev cX1_rowOf : ByteArray := prog_3_method_6_code
def yX1_rowOf : MethodName := ⟨RX1, "rowOf", "(I)[I"⟩
abbrev cX1_replaceRow : ByteArray := prog_3_method_7_code
def yX1_replaceRow : MethodName := ⟨RX1, "replaceRow", "(I[I)V"⟩
abbrev cX1_refusalAt : ByteArray := prog_3_method_8_code
def yX1_refusalAt : MethodName := ⟨RX1, "refusalAt", "(II)I"⟩
abbrev cX1_numberAt : ByteArray := prog_3_method_9_code
def yX1_numberAt : MethodName := ⟨RX1, "numberAt", "(II)I"⟩
abbrev cX1_write : ByteArray := prog_3_method_10_code
def yX1_write : MethodName := ⟨RX1, "write", "(III)V"⟩
abbrev cX1_cellsWritten : ByteArray := prog_3_method_11_code
def yX1_cellsWritten : MethodName := ⟨RX1, "cellsWritten", "()I"⟩
def RX2 : String := "LampLoft$Rack"
def TX2 : u_T := fun k => match k with
  | 0 => ("LampLoft$Rack", "strips", "[[I", true)
  | _ => ("LampLoft$Rack", "placesSet", "I", false)
def tyX2 : Nat → FieldType := fun k => match k with
  | 0 => .array (.array .int)
  | _ => .int
abbrev wsX20 : List Cond := u_ws RX2 TX2 2
theorem nmX2 : ∀ a, a < 2 → ∀ b, b < 2 → a ≠ b → (TX2 a).2.1 ≠ (TX2 b).2.1 := by decide +kernel
theorem tyX2_ok : ∀ k, k < 2 → parseFieldDescriptor (TX2 k).2.2.1 = some (tyX2 k) := by decide +kernel
abbrev cX2_init : ByteArray := prog_4_method_1_code
def yX2_init : MethodName := ⟨RX2, "<init>", "()V"⟩
abbrev cX2_stripOf : ByteArray := prog_4_method_2_code
def yX2_stripOf : MethodName := ⟨RX2, "stripOf", "(II)[I"⟩
abbrev cX2_replace : ByteArray := prog_4_method_3_code
def yX2_replace : MethodName := ⟨RX2, "replace", "(II[I)V"⟩
abbrev cX2_refusalAt : ByteArray := prog_4_method_4_code
def yX2_refusalAt : MethodName := ⟨RX2, "refusalAt", "(III)I"⟩
abbrev cX2_numberAt : ByteArray := prog_4_method_5_code
def yX2_numberAt : MethodName := ⟨RX2, "numberAt", "(III)I"⟩
abbrev cX2_setAt : ByteArray := prog_4_method_6_code
def yX2_setAt : MethodName := ⟨RX2, "setAt", "(IIII)V"⟩
abbrev cX2_placesSet : ByteArray := prog_4_method_7_code
def yX2_placesSet : MethodName := ⟨RX2, "placesSet", "()I"⟩
abbrev cX2_stripsThere : ByteArray := prog_4_method_8_code
def yX2_stripsThere : MethodName := ⟨RX2, "stripsThere", "()I"⟩
def RX3 : String := "LampLoft"
def TX3 : u_T := fun k => match k with
  | 0 => ("LampLoft", "rack", "LLampLoft$Rack;", true)
  | 1 => ("LampLoft", "paper", "LLampLoft$Paper;", true)
  | 2 => ("LampLoft", "fades", "[LLampLoft$Fade;", true)
  | 3 => ("LampLoft", "running", "I", false)
  | 4 => ("LampLoft", "reached", "I", false)
  | 5 => ("LampLoft", "droppedAsMissing", "I", false)
  | 6 => ("LampLoft", "droppedAsOutside", "I", false)
  | 7 => ("LampLoft", "refusedAsMissing", "I", false)
  | 8 => ("LampLoft", "refusedAsOutside", "I", false)
  | 9 => ("LampLoft", "refusedAsNegative", "I", false)
  | 10 => ("LampLoft", "lastStatus", "I", false)
  | _ => ("LampLoft", "found", "I", false)
def tyX3 : Nat → FieldType := fun k => match k with
  | 0 => .object "LampLoft$Rack"
  | 1 => .object "LampLoft$Paper"
  | 2 => .array (.object "LampLoft$Fade")
  | 3 => .int
  | 4 => .int
  | 5 => .int
  | 6 => .int
  | 7 => .int
  | 8 => .int
  | 9 => .int
  | 10 => .int
  | _ => .int
abbrev wsX30 : List Cond := u_ws RX3 TX3 12
theorem nmX3 : ∀ a, a < 12 → ∀ b, b < 12 → a ≠ b → (TX3 a).2.1 ≠ (TX3 b).2.1 := by decide +kernel
theorem tyX3_ok : ∀ k, k < 12 → parseFieldDescriptor (TX3 k).2.2.1 = some (tyX3 k) := by decide +kernel
abbrev cX3_init : ByteArray := prog_1_method_1_code
def yX3_init : MethodName := ⟨RX3, "<init>", "()V"⟩
abbrev cX3_hang : ByteArray := prog_1_method_2_code
def yX3_hang : MethodName := ⟨RX3, "hang", "(III)I"⟩
abbrev cX3_strike : ByteArray := prog_1_method_3_code
def yX3_strike : MethodName := ⟨RX3, "strike", "(II)I"⟩
abbrev cX3_share : ByteArray := prog_1_method_4_code
def yX3_share : MethodName := ⟨RX3, "share", "(III)I"⟩
abbrev cX3_size : ByteArray := prog_1_method_5_code
def yX3_size : MethodName := ⟨RX3, "size", "(II)I"⟩
abbrev cX3_get : ByteArray := prog_1_method_6_code
def yX3_get : MethodName := ⟨RX3, "get", "(III)I"⟩
abbrev cX3_set : ByteArray := prog_1_method_7_code
def yX3_set : MethodName := ⟨RX3, "set", "(IIII)I"⟩
abbrev cX3_patch : ByteArray := prog_1_method_8_code
def yX3_patch : MethodName := ⟨RX3, "patch", "(IIIII)I"⟩
abbrev cX3_ripple : ByteArray := prog_1_method_9_code
def yX3_ripple : MethodName := ⟨RX3, "ripple", "(IIIII)I"⟩
abbrev cX3_probe : ByteArray := prog_1_method_10_code
def yX3_probe : MethodName := ⟨RX3, "probe", "(II)I"⟩
abbrev cX3_poke : ByteArray := prog_1_method_11_code
def yX3_poke : MethodName := ⟨RX3, "poke", "(III)I"⟩
abbrev cX3_shown : ByteArray := prog_1_method_12_code
def yX3_shown : MethodName := ⟨RX3, "shown", "(II)I"⟩
abbrev cX3_lit : ByteArray := prog_1_method_13_code
def yX3_lit : MethodName := ⟨RX3, "lit", "(I)I"⟩
abbrev cX3_fade : ByteArray := prog_1_method_14_code
def yX3_fade : MethodName := ⟨RX3, "fade", "(IIII)I"⟩
abbrev cX3_tick : ByteArray := prog_1_method_15_code
def yX3_tick : MethodName := ⟨RX3, "tick", "()I"⟩
abbrev cX3_sheet : ByteArray := prog_1_method_16_code
def yX3_sheet : MethodName := ⟨RX3, "sheet", "(II)I"⟩
abbrev cX3_cell : ByteArray := prog_1_method_17_code
def yX3_cell : MethodName := ⟨RX3, "cell", "(II)I"⟩
abbrev cX3_tear : ByteArray := prog_1_method_18_code
def yX3_tear : MethodName := ⟨RX3, "tear", "(II)I"⟩
abbrev cX3_draw : ByteArray := prog_1_method_19_code
def yX3_draw : MethodName := ⟨RX3, "draw", "(II)I"⟩
abbrev cX3_status : ByteArray := prog_1_method_20_code
def yX3_status : MethodName := ⟨RX3, "status", "()I"⟩
abbrev cX3_count : ByteArray := prog_1_method_21_code
def yX3_count : MethodName := ⟨RX3, "count", "(I)I"⟩
abbrev cX3_leave : ByteArray := prog_1_method_22_code
def yX3_leave : MethodName := ⟨RX3, "leave", "(II)I"⟩
abbrev cX3_leaveFound : ByteArray := prog_1_method_23_code
def yX3_leaveFound : MethodName := ⟨RX3, "leaveFound", "(I)I"⟩
abbrev cX3_counted : ByteArray := prog_1_method_24_code
def yX3_counted : MethodName := ⟨RX3, "counted", "(I)I"⟩
abbrev cX3_look : ByteArray := prog_1_method_25_code
def yX3_look : MethodName := ⟨RX3, "look", "(III)I"⟩
abbrev cX3_put : ByteArray := prog_1_method_26_code
def yX3_put : MethodName := ⟨RX3, "put", "(IIII)I"⟩
abbrev cX3_measure : ByteArray := prog_1_method_27_code
def yX3_measure : MethodName := ⟨RX3, "measure", "(II)I"⟩
abbrev cX3_findShown : ByteArray := prog_1_method_28_code
def yX3_findShown : MethodName := ⟨RX3, "findShown", "(II)I"⟩
abbrev cX3_drawLamp : ByteArray := prog_1_method_29_code
def yX3_drawLamp : MethodName := ⟨RX3, "drawLamp", "(III)I"⟩
abbrev cX3_isLit : ByteArray := prog_1_method_30_code
def yX3_isLit : MethodName := ⟨RX3, "isLit", "(II)Z"⟩
abbrev cX3_runsOn : ByteArray := prog_1_method_31_code
def yX3_runsOn : MethodName := ⟨RX3, "runsOn", "(LLampLoft$Fade;)Z"⟩
abbrev cX3_countDropped : ByteArray := prog_1_method_32_code
def yX3_countDropped : MethodName := ⟨RX3, "countDropped", "(I)V"⟩
abbrev cX3_isBank : ByteArray := prog_1_method_33_code
def yX3_isBank : MethodName := ⟨RX3, "isBank", "(I)Z"⟩
abbrev cX3_isStrip : ByteArray := prog_1_method_34_code
def yX3_isStrip : MethodName := ⟨RX3, "isStrip", "(I)Z"⟩
abbrev cX3_digitOf : ByteArray := prog_1_method_35_code
def yX3_digitOf : MethodName := ⟨RX3, "digitOf", "(I)I"⟩
abbrev cX3_asNumber : ByteArray := prog_1_method_36_code
def yX3_asNumber : MethodName := ⟨RX3, "asNumber", "(II)I"⟩
abbrev cX3_asLevel : ByteArray := prog_1_method_37_code
def yX3_asLevel : MethodName := ⟨RX3, "asLevel", "(I)I"⟩
def RX4 : String := "LampLoftModel"
def TX4 : u_T := fun k => match k with
  | 0 => ("LampLoftModel", "strips", "[I", true)
  | 1 => ("LampLoftModel", "lengths", "[I", true)
  | 2 => ("LampLoftModel", "places", "[I", true)
  | 3 => ("LampLoftModel", "hasSheet", "Z", false)
  | 4 => ("LampLoftModel", "rowMany", "I", false)
  | 5 => ("LampLoftModel", "cellMany", "I", false)
  | 6 => ("LampLoftModel", "rows", "[I", true)
  | 7 => ("LampLoftModel", "cells", "[I", true)
  | 8 => ("LampLoftModel", "fades", "I", false)
  | 9 => ("LampLoftModel", "fadeBank", "[I", true)
  | 10 => ("LampLoftModel", "fadePlace", "[I", true)
  | 11 => ("LampLoftModel", "fadeTarget", "[I", true)
  | 12 => ("LampLoftModel", "fadeStep", "[I", true)
  | 13 => ("LampLoftModel", "status", "I", false)
  | 14 => ("LampLoftModel", "missing", "I", false)
  | 15 => ("LampLoftModel", "outside", "I", false)
  | 16 => ("LampLoftModel", "negative", "I", false)
  | 17 => ("LampLoftModel", "reached", "I", false)
  | 18 => ("LampLoftModel", "droppedMissing", "I", false)
  | 19 => ("LampLoftModel", "droppedOutside", "I", false)
  | 20 => ("LampLoftModel", "sets", "I", false)
  | 21 => ("LampLoftModel", "written", "I", false)
  | _ => ("LampLoftModel", "dark", "I", false)
def tyX4 : Nat → FieldType := fun k => match k with
  | 0 => .array .int
  | 1 => .array .int
  | 2 => .array .int
  | 3 => .boolean
  | 4 => .int
  | 5 => .int
  | 6 => .array .int
  | 7 => .array .int
  | 8 => .int
  | 9 => .array .int
  | 10 => .array .int
  | 11 => .array .int
  | 12 => .array .int
  | 13 => .int
  | 14 => .int
  | 15 => .int
  | 16 => .int
  | 17 => .int
  | 18 => .int
  | 19 => .int
  | 20 => .int
  | 21 => .int
  | _ => .int
abbrev wsX40 : List Cond := u_ws RX4 TX4 23
theorem nmX4 : ∀ a, a < 23 → ∀ b, b < 23 → a ≠ b → (TX4 a).2.1 ≠ (TX4 b).2.1 := by decide +kernel
theorem tyX4_ok : ∀ k, k < 23 → parseFieldDescriptor (TX4 k).2.2.1 = some (tyX4 k) := by decide +kernel
abbrev cX4_init : ByteArray := prog_6_method_1_code
def yX4_init : MethodName := ⟨RX4, "<init>", "()V"⟩
abbrev cX4_in : ByteArray := prog_6_method_2_code
def yX4_in : MethodName := ⟨RX4, "in", "(III)Z"⟩
abbrev cX4_isBank : ByteArray := prog_6_method_3_code
def yX4_isBank : MethodName := ⟨RX4, "isBank", "(I)Z"⟩
abbrev cX4_isStrip : ByteArray := prog_6_method_4_code
def yX4_isStrip : MethodName := ⟨RX4, "isStrip", "(I)Z"⟩
abbrev cX4_begins : ByteArray := prog_6_method_5_code
def yX4_begins : MethodName := ⟨RX4, "begins", "(Z)Z"⟩
abbrev cX4_nearest : ByteArray := prog_6_method_6_code
def yX4_nearest : MethodName := ⟨RX4, "nearest", "(I)I"⟩
abbrev cX4_kept : ByteArray := prog_6_method_7_code
def yX4_kept : MethodName := ⟨RX4, "kept", "(II)I"⟩
abbrev cX4_why : ByteArray := prog_6_method_8_code
def yX4_why : MethodName := ⟨RX4, "why", "(III)I"⟩
abbrev cX4_refused : ByteArray := prog_6_method_9_code
def yX4_refused : MethodName := ⟨RX4, "refused", "(III)I"⟩
abbrev cX4_counted : ByteArray := prog_6_method_10_code
def yX4_counted : MethodName := ⟨RX4, "counted", "(I)I"⟩
abbrev cX4_at : ByteArray := prog_6_method_11_code
def yX4_at : MethodName := ⟨RX4, "at", "(III)I"⟩
abbrev cX4_put : ByteArray := prog_6_method_12_code
def yX4_put : MethodName := ⟨RX4, "put", "(IIII)V"⟩
abbrev cX4_hang : ByteArray := prog_6_method_13_code
def yX4_hang : MethodName := ⟨RX4, "hang", "(III)I"⟩
abbrev cX4_strike : ByteArray := prog_6_method_14_code
def yX4_strike : MethodName := ⟨RX4, "strike", "(II)I"⟩
abbrev cX4_share : ByteArray := prog_6_method_15_code
def yX4_share : MethodName := ⟨RX4, "share", "(III)I"⟩
abbrev cX4_size : ByteArray := prog_6_method_16_code
def yX4_size : MethodName := ⟨RX4, "size", "(II)I"⟩
abbrev cX4_get : ByteArray := prog_6_method_17_code
def yX4_get : MethodName := ⟨RX4, "get", "(III)I"⟩
abbrev cX4_set : ByteArray := prog_6_method_18_code
def yX4_set : MethodName := ⟨RX4, "set", "(IIII)I"⟩
abbrev cX4_patch : ByteArray := prog_6_method_19_code
def yX4_patch : MethodName := ⟨RX4, "patch", "(IIIII)I"⟩
abbrev cX4_ripple : ByteArray := prog_6_method_20_code
def yX4_ripple : MethodName := ⟨RX4, "ripple", "(IIIII)I"⟩
abbrev cX4_digit : ByteArray := prog_6_method_21_code
def yX4_digit : MethodName := ⟨RX4, "digit", "(I)I"⟩
abbrev cX4_probe : ByteArray := prog_6_method_22_code
def yX4_probe : MethodName := ⟨RX4, "probe", "(II)I"⟩
abbrev cX4_poke : ByteArray := prog_6_method_23_code
def yX4_poke : MethodName := ⟨RX4, "poke", "(III)I"⟩
abbrev cX4_light : ByteArray := prog_6_method_24_code
def yX4_light : MethodName := ⟨RX4, "light", "(II)I"⟩
abbrev cX4_shown : ByteArray := prog_6_method_25_code
def yX4_shown : MethodName := ⟨RX4, "shown", "(II)I"⟩
abbrev cX4_lit : ByteArray := prog_6_method_26_code
def yX4_lit : MethodName := ⟨RX4, "lit", "(I)I"⟩
abbrev cX4_fade : ByteArray := prog_6_method_27_code
def yX4_fade : MethodName := ⟨RX4, "fade", "(IIII)I"⟩
abbrev cX4_tick : ByteArray := prog_6_method_28_code
def yX4_tick : MethodName := ⟨RX4, "tick", "()I"⟩
abbrev cX4_sheet : ByteArray := prog_6_method_29_code
def yX4_sheet : MethodName := ⟨RX4, "sheet", "(II)I"⟩
abbrev cX4_whyCell : ByteArray := prog_6_method_30_code
def yX4_whyCell : MethodName := ⟨RX4, "whyCell", "(II)I"⟩
abbrev cX4_cell : ByteArray := prog_6_method_31_code
def yX4_cell : MethodName := ⟨RX4, "cell", "(II)I"⟩
abbrev cX4_tear : ByteArray := prog_6_method_32_code
def yX4_tear : MethodName := ⟨RX4, "tear", "(II)I"⟩
abbrev cX4_draw : ByteArray := prog_6_method_33_code
def yX4_draw : MethodName := ⟨RX4, "draw", "(II)I"⟩
abbrev cX4_status : ByteArray := prog_6_method_34_code
def yX4_status : MethodName := ⟨RX4, "status", "()I"⟩
abbrev cX4_count : ByteArray := prog_6_method_35_code
def yX4_count : MethodName := ⟨RX4, "count", "(I)I"⟩
def RL : String := "LampLoftLaw"
abbrev cL_law : ByteArray := code
abbrev vwCl : List vw_C := [(RX0, TX0, 4), (RX1, TX1, 2), (RX2, TX2, 2), (RX3, TX3, 12), (RX4, TX4, 23)]
theorem dX0_init_0 : decode cX0_init 0 = .ok (.aload_n 0, 1) := by decide +kernel
theorem dX0_init_1 : decode cX0_init 1 = .ok (.invokespecial 1, 3) := by decide +kernel
theorem dX0_init_4 : decode cX0_init 4 = .ok (.aload_n 0, 1) := by decide +kernel
theorem dX0_init_5 : decode cX0_init 5 = .ok (.iload_n 1, 1) := by decide +kernel
theorem dX0_init_6 : decode cX0_init 6 = .ok (.putfield 7, 3) := by decide +kernel
theorem dX0_init_9 : decode cX0_init 9 = .ok (.aload_n 0, 1) := by decide +kernel
theorem dX0_init_10 : decode cX0_init 10 = .ok (.iload_n 2, 1) := by decide +kernel
theorem dX0_init_11 : decode cX0_init 11 = .ok (.putfield 13, 3) := by decide +kernel
theorem dX0_init_14 : decode cX0_init 14 = .ok (.aload_n 0, 1) := by decide +kernel
theorem dX0_init_15 : decode cX0_init 15 = .ok (.iload_n 3, 1) := by decide +kernel
theorem dX0_init_16 : decode cX0_init 16 = .ok (.putfield 16, 3) := by decide +kernel
theorem dX0_init_19 : decode cX0_init 19 = .ok (.aload_n 0, 1) := by decide +kernel
theorem dX0_init_20 : decode cX0_init 20 = .ok (.iload 4, 2) := by decide +kernel
theorem dX0_init_22 : decode cX0_init 22 = .ok (.putfield 19, 3) := by decide +kernel
theorem dX0_init_25 : decode cX0_init 25 = .ok (.return_, 1) := by decide +kernel
theorem dX0_nextLevel_0 : decode cX0_nextLevel 0 = .ok (.aload_n 0, 1) := by decide +kernel
theorem dX0_nextLevel_1 : decode cX0_nextLevel 1 = .ok (.getfield 16, 3) := by decide +kernel
theorem dX0_nextLevel_4 : decode cX0_nextLevel 4 = .ok (.iload_n 1, 1) := by decide +kernel
theorem dX0_nextLevel_5 : decode cX0_nextLevel 5 = .ok (.isub, 1) := by decide +kernel
theorem dX0_nextLevel_6 : decode cX0_nextLevel 6 = .ok (.invokestatic 22, 3) := by decide +kernel
theorem dX0_nextLevel_9 : decode cX0_nextLevel 9 = .ok (.aload_n 0, 1) := by decide +kernel
theorem dX0_nextLevel_10 : decode cX0_nextLevel 10 = .ok (.getfield 19, 3) := by decide +kernel
theorem dX0_nextLevel_13 : decode cX0_nextLevel 13 = .ok (.if_icmp .gt 8, 3) := by decide +kernel
theorem dX0_nextLevel_16 : decode cX0_nextLevel 16 = .ok (.aload_n 0, 1) := by decide +kernel
theorem dX0_nextLevel_17 : decode cX0_nextLevel 17 = .ok (.getfield 16, 3) := by decide +kernel
theorem dX0_nextLevel_20 : decode cX0_nextLevel 20 = .ok (.ireturn, 1) := by decide +kernel
theorem dX0_nextLevel_21 : decode cX0_nextLevel 21 = .ok (.iload_n 1, 1) := by decide +kernel
theorem dX0_nextLevel_22 : decode cX0_nextLevel 22 = .ok (.aload_n 0, 1) := by decide +kernel
theorem dX0_nextLevel_23 : decode cX0_nextLevel 23 = .ok (.getfield 16, 3) := by decide +kernel
theorem dX0_nextLevel_26 : decode cX0_nextLevel 26 = .ok (.if_icmp .ge 12, 3) := by decide +kernel
theorem dX0_nextLevel_29 : decode cX0_nextLevel 29 = .ok (.iload_n 1, 1) := by decide +kernel
theorem dX0_nextLevel_30 : decode cX0_nextLevel 30 = .ok (.aload_n 0, 1) := by decide +kernel
theorem dX0_nextLevel_31 : decode cX0_nextLevel 31 = .ok (.getfield 19, 3) := by decide +kernel
theorem dX0_nextLevel_34 : decode cX0_nextLevel 34 = .ok (.iadd, 1) := by decide +kernel
theorem dX0_nextLevel_35 : decode cX0_nextLevel 35 = .ok (.goto 9, 3) := by decide +kernel
theorem dX0_nextLevel_38 : decode cX0_nextLevel 38 = .ok (.iload_n 1, 1) := by decide +kernel
theorem dX0_nextLevel_39 : decode cX0_nextLevel 39 = .ok (.aload_n 0, 1) := by decide +kernel
theorem dX0_nextLevel_40 : decode cX0_nextLevel 40 = .ok (.getfield 19, 3) := by decide +kernel
theorem dX0_nextLevel_43 : decode cX0_nextLevel 43 = .ok (.isub, 1) := by decide +kernel
theorem dX0_nextLevel_44 : decode cX0_nextLevel 44 = .ok (.ireturn, 1) := by decide +kernel
theorem dX1_init_0 : decode cX1_init 0 = .ok (.aload_n 0, 1) := by decide +kernel
theorem dX1_init_1 : decode cX1_init 1 = .ok (.invokespecial 3, 3) := by decide +kernel
theorem dX1_init_4 : decode cX1_init 4 = .ok (.return_, 1) := by decide +kernel
theorem dX1_isThere_0 : decode cX1_isThere 0 = .ok (.aload_n 0, 1) := by decide +kernel
theorem dX1_isThere_1 : decode cX1_isThere 1 = .ok (.getfield 9, 3) := by decide +kernel
theorem dX1_isThere_4 : decode cX1_isThere 4 = .ok (.ifnull 7, 3) := by decide +kernel
theorem dX1_isThere_7 : decode cX1_isThere 7 = .ok (.iconst 1, 1) := by decide +kernel
theorem dX1_isThere_8 : decode cX1_isThere 8 = .ok (.goto 4, 3) := by decide +kernel
theorem dX1_isThere_11 : decode cX1_isThere 11 = .ok (.iconst 0, 1) := by decide +kernel
theorem dX1_isThere_12 : decode cX1_isThere 12 = .ok (.ireturn, 1) := by decide +kernel
theorem dX1_replace_0 : decode cX1_replace 0 = .ok (.aload_n 0, 1) := by decide +kernel
theorem dX1_replace_1 : decode cX1_replace 1 = .ok (.aload_n 1, 1) := by decide +kernel
theorem dX1_replace_2 : decode cX1_replace 2 = .ok (.putfield 9, 3) := by decide +kernel
theorem dX1_replace_5 : decode cX1_replace 5 = .ok (.return_, 1) := by decide +kernel
theorem dX1_rowCount_0 : decode cX1_rowCount 0 = .ok (.aload_n 0, 1) := by decide +kernel
theorem dX1_rowCount_1 : decode cX1_rowCount 1 = .ok (.getfield 9, 3) := by decide +kernel
theorem dX1_rowCount_4 : decode cX1_rowCount 4 = .ok (.ifnonnull 7, 3) := by decide +kernel
theorem dX1_rowCount_7 : decode cX1_rowCount 7 = .ok (.iconst 0, 1) := by decide +kernel
theorem dX1_rowCount_8 : decode cX1_rowCount 8 = .ok (.goto 8, 3) := by decide +kernel
theorem dX1_rowCount_11 : decode cX1_rowCount 11 = .ok (.aload_n 0, 1) := by decide +kernel
theorem dX1_rowCount_12 : decode cX1_rowCount 12 = .ok (.getfield 9, 3) := by decide +kernel
theorem dX1_rowCount_15 : decode cX1_rowCount 15 = .ok (.arraylength, 1) := by decide +kernel
theorem dX1_rowCount_16 : decode cX1_rowCount 16 = .ok (.ireturn, 1) := by decide +kernel
theorem dX1_hasRow_0 : decode cX1_hasRow 0 = .ok (.iload_n 1, 1) := by decide +kernel
theorem dX1_hasRow_1 : decode cX1_hasRow 1 = .ok (.ifCond .lt 15, 3) := by decide +kernel
theorem dX1_hasRow_4 : decode cX1_hasRow 4 = .ok (.iload_n 1, 1) := by decide +kernel
theorem dX1_hasRow_5 : decode cX1_hasRow 5 = .ok (.aload_n 0, 1) := by decide +kernel
theorem dX1_hasRow_6 : decode cX1_hasRow 6 = .ok (.invokevirtual 15, 3) := by decide +kernel
theorem dX1_hasRow_9 : decode cX1_hasRow 9 = .ok (.if_icmp .ge 7, 3) := by decide +kernel
theorem dX1_hasRow_12 : decode cX1_hasRow 12 = .ok (.iconst 1, 1) := by decide +kernel
theorem dX1_hasRow_13 : decode cX1_hasRow 13 = .ok (.goto 4, 3) := by decide +kernel
theorem dX1_hasRow_16 : decode cX1_hasRow 16 = .ok (.iconst 0, 1) := by decide +kernel
theorem dX1_hasRow_17 : decode cX1_hasRow 17 = .ok (.ireturn, 1) := by decide +kernel
theorem dX1_rowOf_0 : decode cX1_rowOf 0 = .ok (.aload_n 0, 1) := by decide +kernel
theorem dX1_rowOf_1 : decode cX1_rowOf 1 = .ok (.getfield 9, 3) := by decide +kernel
theorem dX1_rowOf_4 : decode cX1_rowOf 4 = .ok (.iload_n 1, 1) := by decide +kernel
theorem dX1_rowOf_5 : decode cX1_rowOf 5 = .ok (.aaload, 1) := by decide +kernel
theorem dX1_rowOf_6 : decode cX1_rowOf 6 = .ok (.areturn, 1) := by decide +kernel
theorem dX1_replaceRow_0 : decode cX1_replaceRow 0 = .ok (.aload_n 0, 1) := by decide +kernel
theorem dX1_replaceRow_1 : decode cX1_replaceRow 1 = .ok (.getfield 9, 3) := by decide +kernel
theorem dX1_replaceRow_4 : decode cX1_replaceRow 4 = .ok (.iload_n 1, 1) := by decide +kernel
theorem dX1_replaceRow_5 : decode cX1_replaceRow 5 = .ok (.aload_n 2, 1) := by decide +kernel
theorem dX1_replaceRow_6 : decode cX1_replaceRow 6 = .ok (.aastore, 1) := by decide +kernel
theorem dX1_replaceRow_7 : decode cX1_replaceRow 7 = .ok (.return_, 1) := by decide +kernel
theorem dX1_refusalAt_0 : decode cX1_refusalAt 0 = .ok (.aload_n 0, 1) := by decide +kernel
theorem dX1_refusalAt_1 : decode cX1_refusalAt 1 = .ok (.getfield 9, 3) := by decide +kernel
theorem dX1_refusalAt_4 : decode cX1_refusalAt 4 = .ok (.ifnonnull 5, 3) := by decide +kernel
theorem dX1_refusalAt_7 : decode cX1_refusalAt 7 = .ok (.iconst 2, 1) := by decide +kernel
theorem dX1_refusalAt_8 : decode cX1_refusalAt 8 = .ok (.ireturn, 1) := by decide +kernel
theorem dX1_refusalAt_9 : decode cX1_refusalAt 9 = .ok (.aload_n 0, 1) := by decide +kernel
theorem dX1_refusalAt_10 : decode cX1_refusalAt 10 = .ok (.iload_n 1, 1) := by decide +kernel
theorem dX1_refusalAt_11 : decode cX1_refusalAt 11 = .ok (.invokevirtual 19, 3) := by decide +kernel
theorem dX1_refusalAt_14 : decode cX1_refusalAt 14 = .ok (.ifCond .ne 5, 3) := by decide +kernel
theorem dX1_refusalAt_17 : decode cX1_refusalAt 17 = .ok (.iconst 3, 1) := by decide +kernel
theorem dX1_refusalAt_18 : decode cX1_refusalAt 18 = .ok (.ireturn, 1) := by decide +kernel
theorem dX1_refusalAt_19 : decode cX1_refusalAt 19 = .ok (.aload_n 0, 1) := by decide +kernel
theorem dX1_refusalAt_20 : decode cX1_refusalAt 20 = .ok (.getfield 9, 3) := by decide +kernel
theorem dX1_refusalAt_23 : decode cX1_refusalAt 23 = .ok (.iload_n 1, 1) := by decide +kernel
theorem dX1_refusalAt_24 : decode cX1_refusalAt 24 = .ok (.aaload, 1) := by decide +kernel
theorem dX1_refusalAt_25 : decode cX1_refusalAt 25 = .ok (.astore_n 3, 1) := by decide +kernel
theorem dX1_refusalAt_26 : decode cX1_refusalAt 26 = .ok (.aload_n 3, 1) := by decide +kernel
theorem dX1_refusalAt_27 : decode cX1_refusalAt 27 = .ok (.ifnonnull 5, 3) := by decide +kernel
theorem dX1_refusalAt_30 : decode cX1_refusalAt 30 = .ok (.iconst 2, 1) := by decide +kernel
theorem dX1_refusalAt_31 : decode cX1_refusalAt 31 = .ok (.ireturn, 1) := by decide +kernel
theorem dX1_refusalAt_32 : decode cX1_refusalAt 32 = .ok (.iload_n 2, 1) := by decide +kernel
theorem dX1_refusalAt_33 : decode cX1_refusalAt 33 = .ok (.ifCond .lt 13, 3) := by decide +kernel
theorem dX1_refusalAt_36 : decode cX1_refusalAt 36 = .ok (.iload_n 2, 1) := by decide +kernel
theorem dX1_refusalAt_37 : decode cX1_refusalAt 37 = .ok (.aload_n 3, 1) := by decide +kernel
theorem dX1_refusalAt_38 : decode cX1_refusalAt 38 = .ok (.arraylength, 1) := by decide +kernel
theorem dX1_refusalAt_39 : decode cX1_refusalAt 39 = .ok (.if_icmp .ge 7, 3) := by decide +kernel
theorem dX1_refusalAt_42 : decode cX1_refusalAt 42 = .ok (.iconst 0, 1) := by decide +kernel
theorem dX1_refusalAt_43 : decode cX1_refusalAt 43 = .ok (.goto 4, 3) := by decide +kernel
theorem dX1_refusalAt_46 : decode cX1_refusalAt 46 = .ok (.iconst 3, 1) := by decide +kernel
theorem dX1_refusalAt_47 : decode cX1_refusalAt 47 = .ok (.ireturn, 1) := by decide +kernel
theorem dX1_numberAt_0 : decode cX1_numberAt 0 = .ok (.aload_n 0, 1) := by decide +kernel
theorem dX1_numberAt_1 : decode cX1_numberAt 1 = .ok (.getfield 9, 3) := by decide +kernel
theorem dX1_numberAt_4 : decode cX1_numberAt 4 = .ok (.iload_n 1, 1) := by decide +kernel
theorem dX1_numberAt_5 : decode cX1_numberAt 5 = .ok (.aaload, 1) := by decide +kernel
theorem dX1_numberAt_6 : decode cX1_numberAt 6 = .ok (.iload_n 2, 1) := by decide +kernel
theorem dX1_numberAt_7 : decode cX1_numberAt 7 = .ok (.iaload, 1) := by decide +kernel
theorem dX1_numberAt_8 : decode cX1_numberAt 8 = .ok (.ireturn, 1) := by decide +kernel
theorem dX1_write_0 : decode cX1_write 0 = .ok (.aload_n 0, 1) := by decide +kernel
theorem dX1_write_1 : decode cX1_write 1 = .ok (.getfield 9, 3) := by decide +kernel
theorem dX1_write_4 : decode cX1_write 4 = .ok (.iload_n 1, 1) := by decide +kernel
theorem dX1_write_5 : decode cX1_write 5 = .ok (.aaload, 1) := by decide +kernel
theorem dX1_write_6 : decode cX1_write 6 = .ok (.iload_n 2, 1) := by decide +kernel
theorem dX1_write_7 : decode cX1_write 7 = .ok (.iload_n 3, 1) := by decide +kernel
theorem dX1_write_8 : decode cX1_write 8 = .ok (.iastore, 1) := by decide +kernel
theorem dX1_write_9 : decode cX1_write 9 = .ok (.aload_n 0, 1) := by decide +kernel
theorem dX1_write_10 : decode cX1_write 10 = .ok (.dup, 1) := by decide +kernel
theorem dX1_write_11 : decode cX1_write 11 = .ok (.getfield 23, 3) := by decide +kernel
theorem dX1_write_14 : decode cX1_write 14 = .ok (.iconst 1, 1) := by decide +kernel
theorem dX1_write_15 : decode cX1_write 15 = .ok (.iadd, 1) := by decide +kernel
theorem dX1_write_16 : decode cX1_write 16 = .ok (.putfield 23, 3) := by decide +kernel
theorem dX1_write_19 : decode cX1_write 19 = .ok (.return_, 1) := by decide +kernel
theorem dX1_cellsWritten_0 : decode cX1_cellsWritten 0 = .ok (.aload_n 0, 1) := by decide +kernel
theorem dX1_cellsWritten_1 : decode cX1_cellsWritten 1 = .ok (.getfield 23, 3) := by decide +kernel
theorem dX1_cellsWritten_4 : decode cX1_cellsWritten 4 = .ok (.ireturn, 1) := by decide +kernel
theorem dX2_init_0 : decode cX2_init 0 = .ok (.aload_n 0, 1) := by decide +kernel
theorem dX2_init_1 : decode cX2_init 1 = .ok (.invokespecial 3, 3) := by decide +kernel
theorem dX2_init_4 : decode cX2_init 4 = .ok (.aload_n 0, 1) := by decide +kernel
theorem dX2_init_5 : decode cX2_init 5 = .ok (.bipush 24, 2) := by decide +kernel
theorem dX2_init_7 : decode cX2_init 7 = .ok (.anewarray 9, 3) := by decide +kernel
theorem dX2_init_10 : decode cX2_init 10 = .ok (.putfield 11, 3) := by decide +kernel
theorem dX2_init_13 : decode cX2_init 13 = .ok (.return_, 1) := by decide +kernel
theorem dX2_stripOf_0 : decode cX2_stripOf 0 = .ok (.aload_n 0, 1) := by decide +kernel
theorem dX2_stripOf_1 : decode cX2_stripOf 1 = .ok (.getfield 11, 3) := by decide +kernel
theorem dX2_stripOf_4 : decode cX2_stripOf 4 = .ok (.iload_n 1, 1) := by decide +kernel
theorem dX2_stripOf_5 : decode cX2_stripOf 5 = .ok (.iconst 4, 1) := by decide +kernel
theorem dX2_stripOf_6 : decode cX2_stripOf 6 = .ok (.imul, 1) := by decide +kernel
theorem dX2_stripOf_7 : decode cX2_stripOf 7 = .ok (.iload_n 2, 1) := by decide +kernel
theorem dX2_stripOf_8 : decode cX2_stripOf 8 = .ok (.iadd, 1) := by decide +kernel
theorem dX2_stripOf_9 : decode cX2_stripOf 9 = .ok (.aaload, 1) := by decide +kernel
theorem dX2_stripOf_10 : decode cX2_stripOf 10 = .ok (.areturn, 1) := by decide +kernel
theorem dX2_replace_0 : decode cX2_replace 0 = .ok (.aload_n 0, 1) := by decide +kernel
theorem dX2_replace_1 : decode cX2_replace 1 = .ok (.getfield 11, 3) := by decide +kernel
theorem dX2_replace_4 : decode cX2_replace 4 = .ok (.iload_n 1, 1) := by decide +kernel
theorem dX2_replace_5 : decode cX2_replace 5 = .ok (.iconst 4, 1) := by decide +kernel
theorem dX2_replace_6 : decode cX2_replace 6 = .ok (.imul, 1) := by decide +kernel
theorem dX2_replace_7 : decode cX2_replace 7 = .ok (.iload_n 2, 1) := by decide +kernel
theorem dX2_replace_8 : decode cX2_replace 8 = .ok (.iadd, 1) := by decide +kernel
theorem dX2_replace_9 : decode cX2_replace 9 = .ok (.aload_n 3, 1) := by decide +kernel
theorem dX2_replace_10 : decode cX2_replace 10 = .ok (.aastore, 1) := by decide +kernel
theorem dX2_replace_11 : decode cX2_replace 11 = .ok (.return_, 1) := by decide +kernel
theorem dX2_refusalAt_0 : decode cX2_refusalAt 0 = .ok (.aload_n 0, 1) := by decide +kernel
theorem dX2_refusalAt_1 : decode cX2_refusalAt 1 = .ok (.iload_n 1, 1) := by decide +kernel
theorem dX2_refusalAt_2 : decode cX2_refusalAt 2 = .ok (.iload_n 2, 1) := by decide +kernel
theorem dX2_refusalAt_3 : decode cX2_refusalAt 3 = .ok (.invokevirtual 17, 3) := by decide +kernel
theorem dX2_refusalAt_6 : decode cX2_refusalAt 6 = .ok (.astore 4, 2) := by decide +kernel
theorem dX2_refusalAt_8 : decode cX2_refusalAt 8 = .ok (.aload 4, 2) := by decide +kernel
theorem dX2_refusalAt_10 : decode cX2_refusalAt 10 = .ok (.ifnonnull 5, 3) := by decide +kernel
theorem dX2_refusalAt_13 : decode cX2_refusalAt 13 = .ok (.iconst 2, 1) := by decide +kernel
theorem dX2_refusalAt_14 : decode cX2_refusalAt 14 = .ok (.ireturn, 1) := by decide +kernel
theorem dX2_refusalAt_15 : decode cX2_refusalAt 15 = .ok (.iload_n 3, 1) := by decide +kernel
theorem dX2_refusalAt_16 : decode cX2_refusalAt 16 = .ok (.ifCond .lt 14, 3) := by decide +kernel
theorem dX2_refusalAt_19 : decode cX2_refusalAt 19 = .ok (.iload_n 3, 1) := by decide +kernel
theorem dX2_refusalAt_20 : decode cX2_refusalAt 20 = .ok (.aload 4, 2) := by decide +kernel
theorem dX2_refusalAt_22 : decode cX2_refusalAt 22 = .ok (.arraylength, 1) := by decide +kernel
theorem dX2_refusalAt_23 : decode cX2_refusalAt 23 = .ok (.if_icmp .ge 7, 3) := by decide +kernel
theorem dX2_refusalAt_26 : decode cX2_refusalAt 26 = .ok (.iconst 0, 1) := by decide +kernel
theorem dX2_refusalAt_27 : decode cX2_refusalAt 27 = .ok (.goto 4, 3) := by decide +kernel
theorem dX2_refusalAt_30 : decode cX2_refusalAt 30 = .ok (.iconst 3, 1) := by decide +kernel
theorem dX2_refusalAt_31 : decode cX2_refusalAt 31 = .ok (.ireturn, 1) := by decide +kernel
theorem dX2_numberAt_0 : decode cX2_numberAt 0 = .ok (.aload_n 0, 1) := by decide +kernel
theorem dX2_numberAt_1 : decode cX2_numberAt 1 = .ok (.iload_n 1, 1) := by decide +kernel
theorem dX2_numberAt_2 : decode cX2_numberAt 2 = .ok (.iload_n 2, 1) := by decide +kernel
theorem dX2_numberAt_3 : decode cX2_numberAt 3 = .ok (.invokevirtual 17, 3) := by decide +kernel
theorem dX2_numberAt_6 : decode cX2_numberAt 6 = .ok (.iload_n 3, 1) := by decide +kernel
theorem dX2_numberAt_7 : decode cX2_numberAt 7 = .ok (.iaload, 1) := by decide +kernel
theorem dX2_numberAt_8 : decode cX2_numberAt 8 = .ok (.ireturn, 1) := by decide +kernel
theorem dX2_setAt_0 : decode cX2_setAt 0 = .ok (.aload_n 0, 1) := by decide +kernel
theorem dX2_setAt_1 : decode cX2_setAt 1 = .ok (.iload_n 1, 1) := by decide +kernel
theorem dX2_setAt_2 : decode cX2_setAt 2 = .ok (.iload_n 2, 1) := by decide +kernel
theorem dX2_setAt_3 : decode cX2_setAt 3 = .ok (.invokevirtual 17, 3) := by decide +kernel
theorem dX2_setAt_6 : decode cX2_setAt 6 = .ok (.iload_n 3, 1) := by decide +kernel
theorem dX2_setAt_7 : decode cX2_setAt 7 = .ok (.iload 4, 2) := by decide +kernel
theorem dX2_setAt_9 : decode cX2_setAt 9 = .ok (.iastore, 1) := by decide +kernel
theorem dX2_setAt_10 : decode cX2_setAt 10 = .ok (.aload_n 0, 1) := by decide +kernel
theorem dX2_setAt_11 : decode cX2_setAt 11 = .ok (.dup, 1) := by decide +kernel
theorem dX2_setAt_12 : decode cX2_setAt 12 = .ok (.getfield 21, 3) := by decide +kernel
theorem dX2_setAt_15 : decode cX2_setAt 15 = .ok (.iconst 1, 1) := by decide +kernel
theorem dX2_setAt_16 : decode cX2_setAt 16 = .ok (.iadd, 1) := by decide +kernel
theorem dX2_setAt_17 : decode cX2_setAt 17 = .ok (.putfield 21, 3) := by decide +kernel
theorem dX2_setAt_20 : decode cX2_setAt 20 = .ok (.return_, 1) := by decide +kernel
theorem dX2_placesSet_0 : decode cX2_placesSet 0 = .ok (.aload_n 0, 1) := by decide +kernel
theorem dX2_placesSet_1 : decode cX2_placesSet 1 = .ok (.getfield 21, 3) := by decide +kernel
theorem dX2_placesSet_4 : decode cX2_placesSet 4 = .ok (.ireturn, 1) := by decide +kernel
theorem dX2_stripsThere_0 : decode cX2_stripsThere 0 = .ok (.iconst 0, 1) := by decide +kernel
theorem dX2_stripsThere_1 : decode cX2_stripsThere 1 = .ok (.istore_n 1, 1) := by decide +kernel
theorem dX2_stripsThere_2 : decode cX2_stripsThere 2 = .ok (.iconst 0, 1) := by decide +kernel
theorem dX2_stripsThere_3 : decode cX2_stripsThere 3 = .ok (.istore_n 2, 1) := by decide +kernel
theorem dX2_stripsThere_4 : decode cX2_stripsThere 4 = .ok (.iload_n 2, 1) := by decide +kernel
theorem dX2_stripsThere_5 : decode cX2_stripsThere 5 = .ok (.aload_n 0, 1) := by decide +kernel
theorem dX2_stripsThere_6 : decode cX2_stripsThere 6 = .ok (.getfield 11, 3) := by decide +kernel
theorem dX2_stripsThere_9 : decode cX2_stripsThere 9 = .ok (.arraylength, 1) := by decide +kernel
theorem dX2_stripsThere_10 : decode cX2_stripsThere 10 = .ok (.if_icmp .ge 21, 3) := by decide +kernel
theorem dX2_stripsThere_13 : decode cX2_stripsThere 13 = .ok (.aload_n 0, 1) := by decide +kernel
theorem dX2_stripsThere_14 : decode cX2_stripsThere 14 = .ok (.getfield 11, 3) := by decide +kernel
theorem dX2_stripsThere_17 : decode cX2_stripsThere 17 = .ok (.iload_n 2, 1) := by decide +kernel
theorem dX2_stripsThere_18 : decode cX2_stripsThere 18 = .ok (.aaload, 1) := by decide +kernel
theorem dX2_stripsThere_19 : decode cX2_stripsThere 19 = .ok (.ifnull 6, 3) := by decide +kernel
theorem dX2_stripsThere_22 : decode cX2_stripsThere 22 = .ok (.iinc 1 1, 3) := by decide +kernel
theorem dX2_stripsThere_25 : decode cX2_stripsThere 25 = .ok (.iinc 2 1, 3) := by decide +kernel
theorem dX2_stripsThere_28 : decode cX2_stripsThere 28 = .ok (.goto (-24), 3) := by decide +kernel
theorem dX2_stripsThere_31 : decode cX2_stripsThere 31 = .ok (.iload_n 1, 1) := by decide +kernel
theorem dX2_stripsThere_32 : decode cX2_stripsThere 32 = .ok (.ireturn, 1) := by decide +kernel
end
section
theorem dX3_init_0 : decode cX3_init 0 = .ok (.aload_n 0, 1) := by decide +kernel
theorem dX3_init_1 : decode cX3_init 1 = .ok (.invokespecial 1, 3) := by decide +kernel
theorem dX3_init_4 : decode cX3_init 4 = .ok (.aload_n 0, 1) := by decide +kernel
theorem dX3_init_5 : decode cX3_init 5 = .ok (.new 7, 3) := by decide +kernel
theorem dX3_init_8 : decode cX3_init 8 = .ok (.dup, 1) := by decide +kernel
theorem dX3_init_9 : decode cX3_init 9 = .ok (.invokespecial 9, 3) := by decide +kernel
theorem dX3_init_12 : decode cX3_init 12 = .ok (.putfield 10, 3) := by decide +kernel
theorem dX3_init_15 : decode cX3_init 15 = .ok (.aload_n 0, 1) := by decide +kernel
theorem dX3_init_16 : decode cX3_init 16 = .ok (.new 16, 3) := by decide +kernel
theorem dX3_init_19 : decode cX3_init 19 = .ok (.dup, 1) := by decide +kernel
theorem dX3_init_20 : decode cX3_init 20 = .ok (.invokespecial 18, 3) := by decide +kernel
theorem dX3_init_23 : decode cX3_init 23 = .ok (.putfield 19, 3) := by decide +kernel
theorem dX3_init_26 : decode cX3_init 26 = .ok (.aload_n 0, 1) := by decide +kernel
theorem dX3_init_27 : decode cX3_init 27 = .ok (.bipush 16, 2) := by decide +kernel
theorem dX3_init_29 : decode cX3_init 29 = .ok (.anewarray 23, 3) := by decide +kernel
theorem dX3_init_32 : decode cX3_init 32 = .ok (.putfield 25, 3) := by decide +kernel
theorem dX3_init_35 : decode cX3_init 35 = .ok (.return_, 1) := by decide +kernel
theorem dX3_hang_0 : decode cX3_hang 0 = .ok (.iload_n 1, 1) := by decide +kernel
theorem dX3_hang_1 : decode cX3_hang 1 = .ok (.invokestatic 29, 3) := by decide +kernel
theorem dX3_hang_4 : decode cX3_hang 4 = .ok (.ifCond .eq 10, 3) := by decide +kernel
theorem dX3_hang_7 : decode cX3_hang 7 = .ok (.iload_n 2, 1) := by decide +kernel
theorem dX3_hang_8 : decode cX3_hang 8 = .ok (.invokestatic 33, 3) := by decide +kernel
theorem dX3_hang_11 : decode cX3_hang 11 = .ok (.ifCond .ne 10, 3) := by decide +kernel
theorem dX3_hang_14 : decode cX3_hang 14 = .ok (.aload_n 0, 1) := by decide +kernel
theorem dX3_hang_15 : decode cX3_hang 15 = .ok (.iconst 1, 1) := by decide +kernel
theorem dX3_hang_16 : decode cX3_hang 16 = .ok (.iconst 0, 1) := by decide +kernel
theorem dX3_hang_17 : decode cX3_hang 17 = .ok (.invokevirtual 36, 3) := by decide +kernel
theorem dX3_hang_20 : decode cX3_hang 20 = .ok (.ireturn, 1) := by decide +kernel
theorem dX3_hang_21 : decode cX3_hang 21 = .ok (.iload_n 3, 1) := by decide +kernel
theorem dX3_hang_22 : decode cX3_hang 22 = .ok (.bipush 24, 2) := by decide +kernel
theorem dX3_hang_24 : decode cX3_hang 24 = .ok (.if_icmp .le 10, 3) := by decide +kernel
theorem dX3_hang_27 : decode cX3_hang 27 = .ok (.aload_n 0, 1) := by decide +kernel
theorem dX3_hang_28 : decode cX3_hang 28 = .ok (.iconst 5, 1) := by decide +kernel
theorem dX3_hang_29 : decode cX3_hang 29 = .ok (.iconst 0, 1) := by decide +kernel
theorem dX3_hang_30 : decode cX3_hang 30 = .ok (.invokevirtual 36, 3) := by decide +kernel
theorem dX3_hang_33 : decode cX3_hang 33 = .ok (.ireturn, 1) := by decide +kernel
theorem dX3_hang_34 : decode cX3_hang 34 = .ok (.iload_n 3, 1) := by decide +kernel
theorem dX3_hang_35 : decode cX3_hang 35 = .ok (.ifCond .ge 14, 3) := by decide +kernel
theorem dX3_hang_38 : decode cX3_hang 38 = .ok (.aload_n 0, 1) := by decide +kernel
theorem dX3_hang_39 : decode cX3_hang 39 = .ok (.aload_n 0, 1) := by decide +kernel
theorem dX3_hang_40 : decode cX3_hang 40 = .ok (.iconst 4, 1) := by decide +kernel
theorem dX3_hang_41 : decode cX3_hang 41 = .ok (.invokevirtual 40, 3) := by decide +kernel
theorem dX3_hang_44 : decode cX3_hang 44 = .ok (.iconst 0, 1) := by decide +kernel
theorem dX3_hang_45 : decode cX3_hang 45 = .ok (.invokevirtual 36, 3) := by decide +kernel
theorem dX3_hang_48 : decode cX3_hang 48 = .ok (.ireturn, 1) := by decide +kernel
theorem dX3_hang_49 : decode cX3_hang 49 = .ok (.aload_n 0, 1) := by decide +kernel
theorem dX3_hang_50 : decode cX3_hang 50 = .ok (.getfield 10, 3) := by decide +kernel
theorem dX3_hang_53 : decode cX3_hang 53 = .ok (.iload_n 1, 1) := by decide +kernel
theorem dX3_hang_54 : decode cX3_hang 54 = .ok (.iload_n 2, 1) := by decide +kernel
theorem dX3_hang_55 : decode cX3_hang 55 = .ok (.iload_n 3, 1) := by decide +kernel
theorem dX3_hang_56 : decode cX3_hang 56 = .ok (.newarray .int, 2) := by decide +kernel
theorem dX3_hang_58 : decode cX3_hang 58 = .ok (.invokevirtual 44, 3) := by decide +kernel
theorem dX3_hang_61 : decode cX3_hang 61 = .ok (.aload_n 0, 1) := by decide +kernel
theorem dX3_hang_62 : decode cX3_hang 62 = .ok (.iconst 0, 1) := by decide +kernel
theorem dX3_hang_63 : decode cX3_hang 63 = .ok (.iload_n 3, 1) := by decide +kernel
theorem dX3_hang_64 : decode cX3_hang 64 = .ok (.invokevirtual 36, 3) := by decide +kernel
theorem dX3_hang_67 : decode cX3_hang 67 = .ok (.ireturn, 1) := by decide +kernel
theorem dX3_strike_0 : decode cX3_strike 0 = .ok (.iload_n 1, 1) := by decide +kernel
theorem dX3_strike_1 : decode cX3_strike 1 = .ok (.invokestatic 29, 3) := by decide +kernel
theorem dX3_strike_4 : decode cX3_strike 4 = .ok (.ifCond .eq 10, 3) := by decide +kernel
theorem dX3_strike_7 : decode cX3_strike 7 = .ok (.iload_n 2, 1) := by decide +kernel
theorem dX3_strike_8 : decode cX3_strike 8 = .ok (.invokestatic 33, 3) := by decide +kernel
theorem dX3_strike_11 : decode cX3_strike 11 = .ok (.ifCond .ne 10, 3) := by decide +kernel
theorem dX3_strike_14 : decode cX3_strike 14 = .ok (.aload_n 0, 1) := by decide +kernel
theorem dX3_strike_15 : decode cX3_strike 15 = .ok (.iconst 1, 1) := by decide +kernel
theorem dX3_strike_16 : decode cX3_strike 16 = .ok (.iconst 0, 1) := by decide +kernel
theorem dX3_strike_17 : decode cX3_strike 17 = .ok (.invokevirtual 36, 3) := by decide +kernel
theorem dX3_strike_20 : decode cX3_strike 20 = .ok (.ireturn, 1) := by decide +kernel
theorem dX3_strike_21 : decode cX3_strike 21 = .ok (.aload_n 0, 1) := by decide +kernel
theorem dX3_strike_22 : decode cX3_strike 22 = .ok (.getfield 10, 3) := by decide +kernel
theorem dX3_strike_25 : decode cX3_strike 25 = .ok (.iload_n 1, 1) := by decide +kernel
theorem dX3_strike_26 : decode cX3_strike 26 = .ok (.iload_n 2, 1) := by decide +kernel
theorem dX3_strike_27 : decode cX3_strike 27 = .ok (.invokevirtual 48, 3) := by decide +kernel
theorem dX3_strike_30 : decode cX3_strike 30 = .ok (.ifnull 7, 3) := by decide +kernel
theorem dX3_strike_33 : decode cX3_strike 33 = .ok (.iconst 1, 1) := by decide +kernel
theorem dX3_strike_34 : decode cX3_strike 34 = .ok (.goto 4, 3) := by decide +kernel
theorem dX3_strike_37 : decode cX3_strike 37 = .ok (.iconst 0, 1) := by decide +kernel
theorem dX3_strike_38 : decode cX3_strike 38 = .ok (.istore_n 3, 1) := by decide +kernel
theorem dX3_strike_39 : decode cX3_strike 39 = .ok (.aload_n 0, 1) := by decide +kernel
theorem dX3_strike_40 : decode cX3_strike 40 = .ok (.getfield 10, 3) := by decide +kernel
theorem dX3_strike_43 : decode cX3_strike 43 = .ok (.iload_n 1, 1) := by decide +kernel
theorem dX3_strike_44 : decode cX3_strike 44 = .ok (.iload_n 2, 1) := by decide +kernel
theorem dX3_strike_45 : decode cX3_strike 45 = .ok (.aconst_null, 1) := by decide +kernel
theorem dX3_strike_46 : decode cX3_strike 46 = .ok (.invokevirtual 44, 3) := by decide +kernel
theorem dX3_strike_49 : decode cX3_strike 49 = .ok (.aload_n 0, 1) := by decide +kernel
theorem dX3_strike_50 : decode cX3_strike 50 = .ok (.iconst 0, 1) := by decide +kernel
theorem dX3_strike_51 : decode cX3_strike 51 = .ok (.iload_n 3, 1) := by decide +kernel
theorem dX3_strike_52 : decode cX3_strike 52 = .ok (.ifCond .eq 7, 3) := by decide +kernel
theorem dX3_strike_55 : decode cX3_strike 55 = .ok (.iconst 1, 1) := by decide +kernel
theorem dX3_strike_56 : decode cX3_strike 56 = .ok (.goto 4, 3) := by decide +kernel
theorem dX3_strike_59 : decode cX3_strike 59 = .ok (.iconst 0, 1) := by decide +kernel
theorem dX3_strike_60 : decode cX3_strike 60 = .ok (.invokevirtual 36, 3) := by decide +kernel
theorem dX3_strike_63 : decode cX3_strike 63 = .ok (.ireturn, 1) := by decide +kernel
theorem dX3_share_0 : decode cX3_share 0 = .ok (.iload_n 1, 1) := by decide +kernel
theorem dX3_share_1 : decode cX3_share 1 = .ok (.invokestatic 29, 3) := by decide +kernel
theorem dX3_share_4 : decode cX3_share 4 = .ok (.ifCond .eq 17, 3) := by decide +kernel
theorem dX3_share_7 : decode cX3_share 7 = .ok (.iload_n 2, 1) := by decide +kernel
theorem dX3_share_8 : decode cX3_share 8 = .ok (.invokestatic 33, 3) := by decide +kernel
theorem dX3_share_11 : decode cX3_share 11 = .ok (.ifCond .eq 10, 3) := by decide +kernel
theorem dX3_share_14 : decode cX3_share 14 = .ok (.iload_n 3, 1) := by decide +kernel
theorem dX3_share_15 : decode cX3_share 15 = .ok (.invokestatic 29, 3) := by decide +kernel
theorem dX3_share_18 : decode cX3_share 18 = .ok (.ifCond .ne 10, 3) := by decide +kernel
theorem dX3_share_21 : decode cX3_share 21 = .ok (.aload_n 0, 1) := by decide +kernel
theorem dX3_share_22 : decode cX3_share 22 = .ok (.iconst 1, 1) := by decide +kernel
theorem dX3_share_23 : decode cX3_share 23 = .ok (.iconst 0, 1) := by decide +kernel
theorem dX3_share_24 : decode cX3_share 24 = .ok (.invokevirtual 36, 3) := by decide +kernel
theorem dX3_share_27 : decode cX3_share 27 = .ok (.ireturn, 1) := by decide +kernel
theorem dX3_share_28 : decode cX3_share 28 = .ok (.aload_n 0, 1) := by decide +kernel
theorem dX3_share_29 : decode cX3_share 29 = .ok (.getfield 10, 3) := by decide +kernel
theorem dX3_share_32 : decode cX3_share 32 = .ok (.iload_n 3, 1) := by decide +kernel
theorem dX3_share_33 : decode cX3_share 33 = .ok (.iload_n 2, 1) := by decide +kernel
theorem dX3_share_34 : decode cX3_share 34 = .ok (.invokevirtual 48, 3) := by decide +kernel
theorem dX3_share_37 : decode cX3_share 37 = .ok (.astore 4, 2) := by decide +kernel
theorem dX3_share_39 : decode cX3_share 39 = .ok (.aload_n 0, 1) := by decide +kernel
theorem dX3_share_40 : decode cX3_share 40 = .ok (.getfield 10, 3) := by decide +kernel
theorem dX3_share_43 : decode cX3_share 43 = .ok (.iload_n 1, 1) := by decide +kernel
theorem dX3_share_44 : decode cX3_share 44 = .ok (.iload_n 2, 1) := by decide +kernel
theorem dX3_share_45 : decode cX3_share 45 = .ok (.aload 4, 2) := by decide +kernel
theorem dX3_share_47 : decode cX3_share 47 = .ok (.invokevirtual 44, 3) := by decide +kernel
theorem dX3_share_50 : decode cX3_share 50 = .ok (.aload_n 0, 1) := by decide +kernel
theorem dX3_share_51 : decode cX3_share 51 = .ok (.iconst 0, 1) := by decide +kernel
theorem dX3_share_52 : decode cX3_share 52 = .ok (.aload 4, 2) := by decide +kernel
theorem dX3_share_54 : decode cX3_share 54 = .ok (.ifnull 7, 3) := by decide +kernel
theorem dX3_share_57 : decode cX3_share 57 = .ok (.iconst 1, 1) := by decide +kernel
theorem dX3_share_58 : decode cX3_share 58 = .ok (.goto 4, 3) := by decide +kernel
theorem dX3_share_61 : decode cX3_share 61 = .ok (.iconst 0, 1) := by decide +kernel
theorem dX3_share_62 : decode cX3_share 62 = .ok (.invokevirtual 36, 3) := by decide +kernel
theorem dX3_share_65 : decode cX3_share 65 = .ok (.ireturn, 1) := by decide +kernel
theorem dX3_size_0 : decode cX3_size 0 = .ok (.iload_n 1, 1) := by decide +kernel
theorem dX3_size_1 : decode cX3_size 1 = .ok (.invokestatic 29, 3) := by decide +kernel
theorem dX3_size_4 : decode cX3_size 4 = .ok (.ifCond .eq 10, 3) := by decide +kernel
theorem dX3_size_7 : decode cX3_size 7 = .ok (.iload_n 2, 1) := by decide +kernel
theorem dX3_size_8 : decode cX3_size 8 = .ok (.invokestatic 33, 3) := by decide +kernel
theorem dX3_size_11 : decode cX3_size 11 = .ok (.ifCond .ne 10, 3) := by decide +kernel
theorem dX3_size_14 : decode cX3_size 14 = .ok (.aload_n 0, 1) := by decide +kernel
theorem dX3_size_15 : decode cX3_size 15 = .ok (.iconst 1, 1) := by decide +kernel
theorem dX3_size_16 : decode cX3_size 16 = .ok (.iconst 0, 1) := by decide +kernel
theorem dX3_size_17 : decode cX3_size 17 = .ok (.invokevirtual 36, 3) := by decide +kernel
theorem dX3_size_20 : decode cX3_size 20 = .ok (.ireturn, 1) := by decide +kernel
theorem dX3_size_21 : decode cX3_size 21 = .ok (.aload_n 0, 1) := by decide +kernel
theorem dX3_size_22 : decode cX3_size 22 = .ok (.aload_n 0, 1) := by decide +kernel
theorem dX3_size_23 : decode cX3_size 23 = .ok (.iload_n 1, 1) := by decide +kernel
theorem dX3_size_24 : decode cX3_size 24 = .ok (.iload_n 2, 1) := by decide +kernel
theorem dX3_size_25 : decode cX3_size 25 = .ok (.invokevirtual 52, 3) := by decide +kernel
theorem dX3_size_28 : decode cX3_size 28 = .ok (.invokevirtual 55, 3) := by decide +kernel
theorem dX3_size_31 : decode cX3_size 31 = .ok (.ireturn, 1) := by decide +kernel
theorem dX3_get_0 : decode cX3_get 0 = .ok (.iload_n 1, 1) := by decide +kernel
theorem dX3_get_1 : decode cX3_get 1 = .ok (.invokestatic 29, 3) := by decide +kernel
theorem dX3_get_4 : decode cX3_get 4 = .ok (.ifCond .eq 10, 3) := by decide +kernel
theorem dX3_get_7 : decode cX3_get 7 = .ok (.iload_n 2, 1) := by decide +kernel
theorem dX3_get_8 : decode cX3_get 8 = .ok (.invokestatic 33, 3) := by decide +kernel
theorem dX3_get_11 : decode cX3_get 11 = .ok (.ifCond .ne 10, 3) := by decide +kernel
theorem dX3_get_14 : decode cX3_get 14 = .ok (.aload_n 0, 1) := by decide +kernel
theorem dX3_get_15 : decode cX3_get 15 = .ok (.iconst 1, 1) := by decide +kernel
theorem dX3_get_16 : decode cX3_get 16 = .ok (.iconst 0, 1) := by decide +kernel
theorem dX3_get_17 : decode cX3_get 17 = .ok (.invokevirtual 36, 3) := by decide +kernel
theorem dX3_get_20 : decode cX3_get 20 = .ok (.ireturn, 1) := by decide +kernel
theorem dX3_get_21 : decode cX3_get 21 = .ok (.aload_n 0, 1) := by decide +kernel
theorem dX3_get_22 : decode cX3_get 22 = .ok (.aload_n 0, 1) := by decide +kernel
theorem dX3_get_23 : decode cX3_get 23 = .ok (.iload_n 1, 1) := by decide +kernel
theorem dX3_get_24 : decode cX3_get 24 = .ok (.iload_n 2, 1) := by decide +kernel
theorem dX3_get_25 : decode cX3_get 25 = .ok (.iload_n 3, 1) := by decide +kernel
theorem dX3_get_26 : decode cX3_get 26 = .ok (.invokevirtual 58, 3) := by decide +kernel
theorem dX3_get_29 : decode cX3_get 29 = .ok (.invokevirtual 55, 3) := by decide +kernel
theorem dX3_get_32 : decode cX3_get 32 = .ok (.ireturn, 1) := by decide +kernel
theorem dX3_set_0 : decode cX3_set 0 = .ok (.iload_n 1, 1) := by decide +kernel
theorem dX3_set_1 : decode cX3_set 1 = .ok (.invokestatic 29, 3) := by decide +kernel
theorem dX3_set_4 : decode cX3_set 4 = .ok (.ifCond .eq 10, 3) := by decide +kernel
theorem dX3_set_7 : decode cX3_set 7 = .ok (.iload_n 2, 1) := by decide +kernel
theorem dX3_set_8 : decode cX3_set 8 = .ok (.invokestatic 33, 3) := by decide +kernel
theorem dX3_set_11 : decode cX3_set 11 = .ok (.ifCond .ne 10, 3) := by decide +kernel
theorem dX3_set_14 : decode cX3_set 14 = .ok (.aload_n 0, 1) := by decide +kernel
theorem dX3_set_15 : decode cX3_set 15 = .ok (.iconst 1, 1) := by decide +kernel
theorem dX3_set_16 : decode cX3_set 16 = .ok (.iconst 0, 1) := by decide +kernel
theorem dX3_set_17 : decode cX3_set 17 = .ok (.invokevirtual 36, 3) := by decide +kernel
theorem dX3_set_20 : decode cX3_set 20 = .ok (.ireturn, 1) := by decide +kernel
theorem dX3_set_21 : decode cX3_set 21 = .ok (.aload_n 0, 1) := by decide +kernel
theorem dX3_set_22 : decode cX3_set 22 = .ok (.iload_n 1, 1) := by decide +kernel
theorem dX3_set_23 : decode cX3_set 23 = .ok (.iload_n 2, 1) := by decide +kernel
theorem dX3_set_24 : decode cX3_set 24 = .ok (.iload_n 3, 1) := by decide +kernel
theorem dX3_set_25 : decode cX3_set 25 = .ok (.invokevirtual 58, 3) := by decide +kernel
theorem dX3_set_28 : decode cX3_set 28 = .ok (.istore 5, 2) := by decide +kernel
theorem dX3_set_30 : decode cX3_set 30 = .ok (.iload 5, 2) := by decide +kernel
theorem dX3_set_32 : decode cX3_set 32 = .ok (.ifCond .ne 14, 3) := by decide +kernel
theorem dX3_set_35 : decode cX3_set 35 = .ok (.aload_n 0, 1) := by decide +kernel
theorem dX3_set_36 : decode cX3_set 36 = .ok (.iload_n 1, 1) := by decide +kernel
theorem dX3_set_37 : decode cX3_set 37 = .ok (.iload_n 2, 1) := by decide +kernel
theorem dX3_set_38 : decode cX3_set 38 = .ok (.iload_n 3, 1) := by decide +kernel
theorem dX3_set_39 : decode cX3_set 39 = .ok (.iload 4, 2) := by decide +kernel
theorem dX3_set_41 : decode cX3_set 41 = .ok (.invokevirtual 62, 3) := by decide +kernel
theorem dX3_set_44 : decode cX3_set 44 = .ok (.istore 5, 2) := by decide +kernel
theorem dX3_set_46 : decode cX3_set 46 = .ok (.aload_n 0, 1) := by decide +kernel
theorem dX3_set_47 : decode cX3_set 47 = .ok (.iload 5, 2) := by decide +kernel
theorem dX3_set_49 : decode cX3_set 49 = .ok (.invokevirtual 55, 3) := by decide +kernel
theorem dX3_set_52 : decode cX3_set 52 = .ok (.ireturn, 1) := by decide +kernel
theorem dX3_patch_0 : decode cX3_patch 0 = .ok (.iload_n 1, 1) := by decide +kernel
theorem dX3_patch_1 : decode cX3_patch 1 = .ok (.invokestatic 29, 3) := by decide +kernel
theorem dX3_patch_4 : decode cX3_patch 4 = .ok (.ifCond .eq 22, 3) := by decide +kernel
theorem dX3_patch_7 : decode cX3_patch 7 = .ok (.iload_n 3, 1) := by decide +kernel
theorem dX3_patch_8 : decode cX3_patch 8 = .ok (.invokestatic 29, 3) := by decide +kernel
theorem dX3_patch_11 : decode cX3_patch 11 = .ok (.ifCond .eq 15, 3) := by decide +kernel
theorem dX3_patch_14 : decode cX3_patch 14 = .ok (.iload 5, 2) := by decide +kernel
theorem dX3_patch_16 : decode cX3_patch 16 = .ok (.ifCond .lt 10, 3) := by decide +kernel
theorem dX3_patch_19 : decode cX3_patch 19 = .ok (.iload 5, 2) := by decide +kernel
theorem dX3_patch_21 : decode cX3_patch 21 = .ok (.bipush 16, 2) := by decide +kernel
theorem dX3_patch_23 : decode cX3_patch 23 = .ok (.if_icmp .lt 10, 3) := by decide +kernel
theorem dX3_patch_26 : decode cX3_patch 26 = .ok (.aload_n 0, 1) := by decide +kernel
theorem dX3_patch_27 : decode cX3_patch 27 = .ok (.iconst 1, 1) := by decide +kernel
theorem dX3_patch_28 : decode cX3_patch 28 = .ok (.iconst 0, 1) := by decide +kernel
theorem dX3_patch_29 : decode cX3_patch 29 = .ok (.invokevirtual 36, 3) := by decide +kernel
theorem dX3_patch_32 : decode cX3_patch 32 = .ok (.ireturn, 1) := by decide +kernel
theorem dX3_patch_33 : decode cX3_patch 33 = .ok (.aload_n 0, 1) := by decide +kernel
theorem dX3_patch_34 : decode cX3_patch 34 = .ok (.iload_n 1, 1) := by decide +kernel
theorem dX3_patch_35 : decode cX3_patch 35 = .ok (.iload 5, 2) := by decide +kernel
theorem dX3_patch_37 : decode cX3_patch 37 = .ok (.iconst 4, 1) := by decide +kernel
theorem dX3_patch_38 : decode cX3_patch 38 = .ok (.idiv, 1) := by decide +kernel
theorem dX3_patch_39 : decode cX3_patch 39 = .ok (.iload_n 2, 1) := by decide +kernel
theorem dX3_patch_40 : decode cX3_patch 40 = .ok (.invokevirtual 58, 3) := by decide +kernel
theorem dX3_patch_43 : decode cX3_patch 43 = .ok (.istore 6, 2) := by decide +kernel
theorem dX3_patch_45 : decode cX3_patch 45 = .ok (.iload 6, 2) := by decide +kernel
theorem dX3_patch_47 : decode cX3_patch 47 = .ok (.ifCond .ne 20, 3) := by decide +kernel
theorem dX3_patch_50 : decode cX3_patch 50 = .ok (.aload_n 0, 1) := by decide +kernel
theorem dX3_patch_51 : decode cX3_patch 51 = .ok (.iload_n 3, 1) := by decide +kernel
theorem dX3_patch_52 : decode cX3_patch 52 = .ok (.iload 5, 2) := by decide +kernel
theorem dX3_patch_54 : decode cX3_patch 54 = .ok (.iconst 4, 1) := by decide +kernel
theorem dX3_patch_55 : decode cX3_patch 55 = .ok (.irem, 1) := by decide +kernel
theorem dX3_patch_56 : decode cX3_patch 56 = .ok (.iload 4, 2) := by decide +kernel
theorem dX3_patch_58 : decode cX3_patch 58 = .ok (.aload_n 0, 1) := by decide +kernel
theorem dX3_patch_59 : decode cX3_patch 59 = .ok (.getfield 66, 3) := by decide +kernel
theorem dX3_patch_62 : decode cX3_patch 62 = .ok (.invokevirtual 62, 3) := by decide +kernel
theorem dX3_patch_65 : decode cX3_patch 65 = .ok (.istore 6, 2) := by decide +kernel
theorem dX3_patch_67 : decode cX3_patch 67 = .ok (.aload_n 0, 1) := by decide +kernel
theorem dX3_patch_68 : decode cX3_patch 68 = .ok (.iload 6, 2) := by decide +kernel
theorem dX3_patch_70 : decode cX3_patch 70 = .ok (.invokevirtual 55, 3) := by decide +kernel
theorem dX3_patch_73 : decode cX3_patch 73 = .ok (.ireturn, 1) := by decide +kernel
theorem dX3_ripple_0 : decode cX3_ripple 0 = .ok (.iload_n 1, 1) := by decide +kernel
theorem dX3_ripple_1 : decode cX3_ripple 1 = .ok (.invokestatic 29, 3) := by decide +kernel
theorem dX3_ripple_4 : decode cX3_ripple 4 = .ok (.ifCond .eq 15, 3) := by decide +kernel
theorem dX3_ripple_7 : decode cX3_ripple 7 = .ok (.iload 4, 2) := by decide +kernel
theorem dX3_ripple_9 : decode cX3_ripple 9 = .ok (.ifCond .lt 10, 3) := by decide +kernel
theorem dX3_ripple_12 : decode cX3_ripple 12 = .ok (.iload 4, 2) := by decide +kernel
theorem dX3_ripple_14 : decode cX3_ripple 14 = .ok (.bipush 64, 2) := by decide +kernel
theorem dX3_ripple_16 : decode cX3_ripple 16 = .ok (.if_icmp .le 10, 3) := by decide +kernel
theorem dX3_ripple_19 : decode cX3_ripple 19 = .ok (.aload_n 0, 1) := by decide +kernel
theorem dX3_ripple_20 : decode cX3_ripple 20 = .ok (.iconst 1, 1) := by decide +kernel
theorem dX3_ripple_21 : decode cX3_ripple 21 = .ok (.iconst 0, 1) := by decide +kernel
theorem dX3_ripple_22 : decode cX3_ripple 22 = .ok (.invokevirtual 36, 3) := by decide +kernel
theorem dX3_ripple_25 : decode cX3_ripple 25 = .ok (.ireturn, 1) := by decide +kernel
theorem dX3_ripple_26 : decode cX3_ripple 26 = .ok (.iload 5, 2) := by decide +kernel
theorem dX3_ripple_28 : decode cX3_ripple 28 = .ok (.invokestatic 70, 3) := by decide +kernel
theorem dX3_ripple_31 : decode cX3_ripple 31 = .ok (.istore 6, 2) := by decide +kernel
theorem dX3_ripple_33 : decode cX3_ripple 33 = .ok (.iconst 0, 1) := by decide +kernel
theorem dX3_ripple_34 : decode cX3_ripple 34 = .ok (.istore 7, 2) := by decide +kernel
theorem dX3_ripple_36 : decode cX3_ripple 36 = .ok (.iload 7, 2) := by decide +kernel
theorem dX3_ripple_38 : decode cX3_ripple 38 = .ok (.iload 4, 2) := by decide +kernel
theorem dX3_ripple_40 : decode cX3_ripple 40 = .ok (.if_icmp .ge 57, 3) := by decide +kernel
theorem dX3_ripple_43 : decode cX3_ripple 43 = .ok (.iload_n 2, 1) := by decide +kernel
theorem dX3_ripple_44 : decode cX3_ripple 44 = .ok (.iload 7, 2) := by decide +kernel
theorem dX3_ripple_46 : decode cX3_ripple 46 = .ok (.iload_n 3, 1) := by decide +kernel
theorem dX3_ripple_47 : decode cX3_ripple 47 = .ok (.imul, 1) := by decide +kernel
theorem dX3_ripple_48 : decode cX3_ripple 48 = .ok (.iadd, 1) := by decide +kernel
theorem dX3_ripple_49 : decode cX3_ripple 49 = .ok (.istore 8, 2) := by decide +kernel
theorem dX3_ripple_51 : decode cX3_ripple 51 = .ok (.aload_n 0, 1) := by decide +kernel
theorem dX3_ripple_52 : decode cX3_ripple 52 = .ok (.iload_n 1, 1) := by decide +kernel
theorem dX3_ripple_53 : decode cX3_ripple 53 = .ok (.iconst 2, 1) := by decide +kernel
theorem dX3_ripple_54 : decode cX3_ripple 54 = .ok (.iload 8, 2) := by decide +kernel
theorem dX3_ripple_56 : decode cX3_ripple 56 = .ok (.invokevirtual 58, 3) := by decide +kernel
theorem dX3_ripple_59 : decode cX3_ripple 59 = .ok (.istore 9, 2) := by decide +kernel
theorem dX3_ripple_61 : decode cX3_ripple 61 = .ok (.iload 9, 2) := by decide +kernel
theorem dX3_ripple_63 : decode cX3_ripple 63 = .ok (.ifCond .eq 12, 3) := by decide +kernel
theorem dX3_ripple_66 : decode cX3_ripple 66 = .ok (.aload_n 0, 1) := by decide +kernel
theorem dX3_ripple_67 : decode cX3_ripple 67 = .ok (.iload 9, 2) := by decide +kernel
theorem dX3_ripple_69 : decode cX3_ripple 69 = .ok (.iload 7, 2) := by decide +kernel
theorem dX3_ripple_71 : decode cX3_ripple 71 = .ok (.invokevirtual 36, 3) := by decide +kernel
theorem dX3_ripple_74 : decode cX3_ripple 74 = .ok (.ireturn, 1) := by decide +kernel
theorem dX3_ripple_75 : decode cX3_ripple 75 = .ok (.aload_n 0, 1) := by decide +kernel
theorem dX3_ripple_76 : decode cX3_ripple 76 = .ok (.iload_n 1, 1) := by decide +kernel
theorem dX3_ripple_77 : decode cX3_ripple 77 = .ok (.iconst 2, 1) := by decide +kernel
theorem dX3_ripple_78 : decode cX3_ripple 78 = .ok (.iload 8, 2) := by decide +kernel
theorem dX3_ripple_80 : decode cX3_ripple 80 = .ok (.aload_n 0, 1) := by decide +kernel
theorem dX3_ripple_81 : decode cX3_ripple 81 = .ok (.getfield 66, 3) := by decide +kernel
theorem dX3_ripple_84 : decode cX3_ripple 84 = .ok (.iload 6, 2) := by decide +kernel
theorem dX3_ripple_86 : decode cX3_ripple 86 = .ok (.iadd, 1) := by decide +kernel
theorem dX3_ripple_87 : decode cX3_ripple 87 = .ok (.invokevirtual 62, 3) := by decide +kernel
theorem dX3_ripple_90 : decode cX3_ripple 90 = .ok (.pop, 1) := by decide +kernel
theorem dX3_ripple_91 : decode cX3_ripple 91 = .ok (.iinc 7 1, 3) := by decide +kernel
theorem dX3_ripple_94 : decode cX3_ripple 94 = .ok (.goto (-58), 3) := by decide +kernel
theorem dX3_ripple_97 : decode cX3_ripple 97 = .ok (.aload_n 0, 1) := by decide +kernel
theorem dX3_ripple_98 : decode cX3_ripple 98 = .ok (.iconst 0, 1) := by decide +kernel
theorem dX3_ripple_99 : decode cX3_ripple 99 = .ok (.iload 4, 2) := by decide +kernel
theorem dX3_ripple_101 : decode cX3_ripple 101 = .ok (.invokevirtual 36, 3) := by decide +kernel
theorem dX3_ripple_104 : decode cX3_ripple 104 = .ok (.ireturn, 1) := by decide +kernel
theorem dX3_probe_0 : decode cX3_probe 0 = .ok (.iload_n 1, 1) := by decide +kernel
theorem dX3_probe_1 : decode cX3_probe 1 = .ok (.invokestatic 29, 3) := by decide +kernel
theorem dX3_probe_4 : decode cX3_probe 4 = .ok (.ifCond .ne 10, 3) := by decide +kernel
theorem dX3_probe_7 : decode cX3_probe 7 = .ok (.aload_n 0, 1) := by decide +kernel
theorem dX3_probe_8 : decode cX3_probe 8 = .ok (.iconst 1, 1) := by decide +kernel
theorem dX3_probe_9 : decode cX3_probe 9 = .ok (.iconst 0, 1) := by decide +kernel
theorem dX3_probe_10 : decode cX3_probe 10 = .ok (.invokevirtual 36, 3) := by decide +kernel
theorem dX3_probe_13 : decode cX3_probe 13 = .ok (.ireturn, 1) := by decide +kernel
theorem dX3_probe_14 : decode cX3_probe 14 = .ok (.iconst 0, 1) := by decide +kernel
theorem dX3_probe_15 : decode cX3_probe 15 = .ok (.istore_n 3, 1) := by decide +kernel
theorem dX3_probe_16 : decode cX3_probe 16 = .ok (.iconst 1, 1) := by decide +kernel
theorem dX3_probe_17 : decode cX3_probe 17 = .ok (.istore 4, 2) := by decide +kernel
theorem dX3_probe_19 : decode cX3_probe 19 = .ok (.iconst 0, 1) := by decide +kernel
theorem dX3_probe_20 : decode cX3_probe 20 = .ok (.istore 5, 2) := by decide +kernel
theorem dX3_probe_22 : decode cX3_probe 22 = .ok (.iload 5, 2) := by decide +kernel
theorem dX3_probe_24 : decode cX3_probe 24 = .ok (.iconst 4, 1) := by decide +kernel
theorem dX3_probe_25 : decode cX3_probe 25 = .ok (.if_icmp .ge 33, 3) := by decide +kernel
theorem dX3_probe_28 : decode cX3_probe 28 = .ok (.iload_n 3, 1) := by decide +kernel
theorem dX3_probe_29 : decode cX3_probe 29 = .ok (.iload 4, 2) := by decide +kernel
theorem dX3_probe_31 : decode cX3_probe 31 = .ok (.aload_n 0, 1) := by decide +kernel
theorem dX3_probe_32 : decode cX3_probe 32 = .ok (.iload_n 1, 1) := by decide +kernel
theorem dX3_probe_33 : decode cX3_probe 33 = .ok (.iload 5, 2) := by decide +kernel
theorem dX3_probe_35 : decode cX3_probe 35 = .ok (.iload_n 2, 1) := by decide +kernel
theorem dX3_probe_36 : decode cX3_probe 36 = .ok (.invokevirtual 58, 3) := by decide +kernel
theorem dX3_probe_39 : decode cX3_probe 39 = .ok (.invokestatic 73, 3) := by decide +kernel
theorem dX3_probe_42 : decode cX3_probe 42 = .ok (.imul, 1) := by decide +kernel
theorem dX3_probe_43 : decode cX3_probe 43 = .ok (.iadd, 1) := by decide +kernel
theorem dX3_probe_44 : decode cX3_probe 44 = .ok (.istore_n 3, 1) := by decide +kernel
theorem dX3_probe_45 : decode cX3_probe 45 = .ok (.iload 4, 2) := by decide +kernel
theorem dX3_probe_47 : decode cX3_probe 47 = .ok (.bipush 10, 2) := by decide +kernel
theorem dX3_probe_49 : decode cX3_probe 49 = .ok (.imul, 1) := by decide +kernel
theorem dX3_probe_50 : decode cX3_probe 50 = .ok (.istore 4, 2) := by decide +kernel
theorem dX3_probe_52 : decode cX3_probe 52 = .ok (.iinc 5 1, 3) := by decide +kernel
theorem dX3_probe_55 : decode cX3_probe 55 = .ok (.goto (-33), 3) := by decide +kernel
theorem dX3_probe_58 : decode cX3_probe 58 = .ok (.aload_n 0, 1) := by decide +kernel
theorem dX3_probe_59 : decode cX3_probe 59 = .ok (.iconst 0, 1) := by decide +kernel
theorem dX3_probe_60 : decode cX3_probe 60 = .ok (.iload_n 3, 1) := by decide +kernel
theorem dX3_probe_61 : decode cX3_probe 61 = .ok (.invokevirtual 36, 3) := by decide +kernel
theorem dX3_probe_64 : decode cX3_probe 64 = .ok (.ireturn, 1) := by decide +kernel
theorem dX3_poke_0 : decode cX3_poke 0 = .ok (.iload_n 1, 1) := by decide +kernel
theorem dX3_poke_1 : decode cX3_poke 1 = .ok (.invokestatic 29, 3) := by decide +kernel
theorem dX3_poke_4 : decode cX3_poke 4 = .ok (.ifCond .ne 10, 3) := by decide +kernel
theorem dX3_poke_7 : decode cX3_poke 7 = .ok (.aload_n 0, 1) := by decide +kernel
theorem dX3_poke_8 : decode cX3_poke 8 = .ok (.iconst 1, 1) := by decide +kernel
theorem dX3_poke_9 : decode cX3_poke 9 = .ok (.iconst 0, 1) := by decide +kernel
theorem dX3_poke_10 : decode cX3_poke 10 = .ok (.invokevirtual 36, 3) := by decide +kernel
theorem dX3_poke_13 : decode cX3_poke 13 = .ok (.ireturn, 1) := by decide +kernel
theorem dX3_poke_14 : decode cX3_poke 14 = .ok (.iconst 0, 1) := by decide +kernel
theorem dX3_poke_15 : decode cX3_poke 15 = .ok (.istore 4, 2) := by decide +kernel
theorem dX3_poke_17 : decode cX3_poke 17 = .ok (.iconst 1, 1) := by decide +kernel
theorem dX3_poke_18 : decode cX3_poke 18 = .ok (.istore 5, 2) := by decide +kernel
theorem dX3_poke_20 : decode cX3_poke 20 = .ok (.iconst 0, 1) := by decide +kernel
theorem dX3_poke_21 : decode cX3_poke 21 = .ok (.istore 6, 2) := by decide +kernel
theorem dX3_poke_23 : decode cX3_poke 23 = .ok (.iload 6, 2) := by decide +kernel
theorem dX3_poke_25 : decode cX3_poke 25 = .ok (.iconst 4, 1) := by decide +kernel
theorem dX3_poke_26 : decode cX3_poke 26 = .ok (.if_icmp .ge 36, 3) := by decide +kernel
theorem dX3_poke_29 : decode cX3_poke 29 = .ok (.iload 4, 2) := by decide +kernel
theorem dX3_poke_31 : decode cX3_poke 31 = .ok (.iload 5, 2) := by decide +kernel
theorem dX3_poke_33 : decode cX3_poke 33 = .ok (.aload_n 0, 1) := by decide +kernel
theorem dX3_poke_34 : decode cX3_poke 34 = .ok (.iload_n 1, 1) := by decide +kernel
theorem dX3_poke_35 : decode cX3_poke 35 = .ok (.iload 6, 2) := by decide +kernel
theorem dX3_poke_37 : decode cX3_poke 37 = .ok (.iload_n 2, 1) := by decide +kernel
theorem dX3_poke_38 : decode cX3_poke 38 = .ok (.iload_n 3, 1) := by decide +kernel
theorem dX3_poke_39 : decode cX3_poke 39 = .ok (.invokevirtual 62, 3) := by decide +kernel
theorem dX3_poke_42 : decode cX3_poke 42 = .ok (.invokestatic 73, 3) := by decide +kernel
theorem dX3_poke_45 : decode cX3_poke 45 = .ok (.imul, 1) := by decide +kernel
theorem dX3_poke_46 : decode cX3_poke 46 = .ok (.iadd, 1) := by decide +kernel
theorem dX3_poke_47 : decode cX3_poke 47 = .ok (.istore 4, 2) := by decide +kernel
theorem dX3_poke_49 : decode cX3_poke 49 = .ok (.iload 5, 2) := by decide +kernel
theorem dX3_poke_51 : decode cX3_poke 51 = .ok (.bipush 10, 2) := by decide +kernel
theorem dX3_poke_53 : decode cX3_poke 53 = .ok (.imul, 1) := by decide +kernel
theorem dX3_poke_54 : decode cX3_poke 54 = .ok (.istore 5, 2) := by decide +kernel
theorem dX3_poke_56 : decode cX3_poke 56 = .ok (.iinc 6 1, 3) := by decide +kernel
theorem dX3_poke_59 : decode cX3_poke 59 = .ok (.goto (-36), 3) := by decide +kernel
theorem dX3_poke_62 : decode cX3_poke 62 = .ok (.aload_n 0, 1) := by decide +kernel
theorem dX3_poke_63 : decode cX3_poke 63 = .ok (.iconst 0, 1) := by decide +kernel
theorem dX3_poke_64 : decode cX3_poke 64 = .ok (.iload 4, 2) := by decide +kernel
theorem dX3_poke_66 : decode cX3_poke 66 = .ok (.invokevirtual 36, 3) := by decide +kernel
theorem dX3_poke_69 : decode cX3_poke 69 = .ok (.ireturn, 1) := by decide +kernel
theorem dX3_shown_0 : decode cX3_shown 0 = .ok (.iload_n 1, 1) := by decide +kernel
theorem dX3_shown_1 : decode cX3_shown 1 = .ok (.invokestatic 29, 3) := by decide +kernel
theorem dX3_shown_4 : decode cX3_shown 4 = .ok (.ifCond .ne 10, 3) := by decide +kernel
theorem dX3_shown_7 : decode cX3_shown 7 = .ok (.aload_n 0, 1) := by decide +kernel
theorem dX3_shown_8 : decode cX3_shown 8 = .ok (.iconst 1, 1) := by decide +kernel
theorem dX3_shown_9 : decode cX3_shown 9 = .ok (.iconst 0, 1) := by decide +kernel
theorem dX3_shown_10 : decode cX3_shown 10 = .ok (.invokevirtual 36, 3) := by decide +kernel
theorem dX3_shown_13 : decode cX3_shown 13 = .ok (.ireturn, 1) := by decide +kernel
theorem dX3_shown_14 : decode cX3_shown 14 = .ok (.aload_n 0, 1) := by decide +kernel
theorem dX3_shown_15 : decode cX3_shown 15 = .ok (.aload_n 0, 1) := by decide +kernel
theorem dX3_shown_16 : decode cX3_shown 16 = .ok (.iload_n 1, 1) := by decide +kernel
theorem dX3_shown_17 : decode cX3_shown 17 = .ok (.iload_n 2, 1) := by decide +kernel
theorem dX3_shown_18 : decode cX3_shown 18 = .ok (.invokevirtual 76, 3) := by decide +kernel
theorem dX3_shown_21 : decode cX3_shown 21 = .ok (.invokevirtual 55, 3) := by decide +kernel
theorem dX3_shown_24 : decode cX3_shown 24 = .ok (.ireturn, 1) := by decide +kernel
theorem dX3_lit_0 : decode cX3_lit 0 = .ok (.iload_n 1, 1) := by decide +kernel
theorem dX3_lit_1 : decode cX3_lit 1 = .ok (.invokestatic 29, 3) := by decide +kernel
theorem dX3_lit_4 : decode cX3_lit 4 = .ok (.ifCond .ne 10, 3) := by decide +kernel
theorem dX3_lit_7 : decode cX3_lit 7 = .ok (.aload_n 0, 1) := by decide +kernel
theorem dX3_lit_8 : decode cX3_lit 8 = .ok (.iconst 1, 1) := by decide +kernel
theorem dX3_lit_9 : decode cX3_lit 9 = .ok (.iconst 0, 1) := by decide +kernel
theorem dX3_lit_10 : decode cX3_lit 10 = .ok (.invokevirtual 36, 3) := by decide +kernel
theorem dX3_lit_13 : decode cX3_lit 13 = .ok (.ireturn, 1) := by decide +kernel
theorem dX3_lit_14 : decode cX3_lit 14 = .ok (.aload_n 0, 1) := by decide +kernel
theorem dX3_lit_15 : decode cX3_lit 15 = .ok (.iload_n 1, 1) := by decide +kernel
theorem dX3_lit_16 : decode cX3_lit 16 = .ok (.iconst 2, 1) := by decide +kernel
theorem dX3_lit_17 : decode cX3_lit 17 = .ok (.invokevirtual 52, 3) := by decide +kernel
theorem dX3_lit_20 : decode cX3_lit 20 = .ok (.istore_n 2, 1) := by decide +kernel
theorem dX3_lit_21 : decode cX3_lit 21 = .ok (.iload_n 2, 1) := by decide +kernel
theorem dX3_lit_22 : decode cX3_lit 22 = .ok (.ifCond .eq 10, 3) := by decide +kernel
theorem dX3_lit_25 : decode cX3_lit 25 = .ok (.aload_n 0, 1) := by decide +kernel
theorem dX3_lit_26 : decode cX3_lit 26 = .ok (.iload_n 2, 1) := by decide +kernel
theorem dX3_lit_27 : decode cX3_lit 27 = .ok (.iconst 0, 1) := by decide +kernel
theorem dX3_lit_28 : decode cX3_lit 28 = .ok (.invokevirtual 36, 3) := by decide +kernel
theorem dX3_lit_31 : decode cX3_lit 31 = .ok (.ireturn, 1) := by decide +kernel
theorem dX3_lit_32 : decode cX3_lit 32 = .ok (.aload_n 0, 1) := by decide +kernel
theorem dX3_lit_33 : decode cX3_lit 33 = .ok (.getfield 66, 3) := by decide +kernel
theorem dX3_lit_36 : decode cX3_lit 36 = .ok (.istore_n 3, 1) := by decide +kernel
theorem dX3_lit_37 : decode cX3_lit 37 = .ok (.iconst 0, 1) := by decide +kernel
theorem dX3_lit_38 : decode cX3_lit 38 = .ok (.istore 4, 2) := by decide +kernel
theorem dX3_lit_40 : decode cX3_lit 40 = .ok (.iconst 0, 1) := by decide +kernel
theorem dX3_lit_41 : decode cX3_lit 41 = .ok (.istore 5, 2) := by decide +kernel
theorem dX3_lit_43 : decode cX3_lit 43 = .ok (.iload 5, 2) := by decide +kernel
theorem dX3_lit_45 : decode cX3_lit 45 = .ok (.iload_n 3, 1) := by decide +kernel
theorem dX3_lit_46 : decode cX3_lit 46 = .ok (.if_icmp .ge 22, 3) := by decide +kernel
theorem dX3_lit_49 : decode cX3_lit 49 = .ok (.aload_n 0, 1) := by decide +kernel
theorem dX3_lit_50 : decode cX3_lit 50 = .ok (.iload_n 1, 1) := by decide +kernel
theorem dX3_lit_51 : decode cX3_lit 51 = .ok (.iload 5, 2) := by decide +kernel
theorem dX3_lit_53 : decode cX3_lit 53 = .ok (.invokevirtual 79, 3) := by decide +kernel
theorem dX3_lit_56 : decode cX3_lit 56 = .ok (.ifCond .eq 6, 3) := by decide +kernel
theorem dX3_lit_59 : decode cX3_lit 59 = .ok (.iinc 4 1, 3) := by decide +kernel
theorem dX3_lit_62 : decode cX3_lit 62 = .ok (.iinc 5 1, 3) := by decide +kernel
theorem dX3_lit_65 : decode cX3_lit 65 = .ok (.goto (-22), 3) := by decide +kernel
theorem dX3_lit_68 : decode cX3_lit 68 = .ok (.aload_n 0, 1) := by decide +kernel
theorem dX3_lit_69 : decode cX3_lit 69 = .ok (.iconst 0, 1) := by decide +kernel
theorem dX3_lit_70 : decode cX3_lit 70 = .ok (.iload 4, 2) := by decide +kernel
theorem dX3_lit_72 : decode cX3_lit 72 = .ok (.invokevirtual 36, 3) := by decide +kernel
theorem dX3_lit_75 : decode cX3_lit 75 = .ok (.ireturn, 1) := by decide +kernel
theorem dX3_fade_0 : decode cX3_fade 0 = .ok (.iload_n 1, 1) := by decide +kernel
theorem dX3_fade_1 : decode cX3_fade 1 = .ok (.invokestatic 29, 3) := by decide +kernel
theorem dX3_fade_4 : decode cX3_fade 4 = .ok (.ifCond .eq 17, 3) := by decide +kernel
theorem dX3_fade_7 : decode cX3_fade 7 = .ok (.iload 4, 2) := by decide +kernel
theorem dX3_fade_9 : decode cX3_fade 9 = .ok (.iconst 1, 1) := by decide +kernel
theorem dX3_fade_10 : decode cX3_fade 10 = .ok (.if_icmp .lt 11, 3) := by decide +kernel
theorem dX3_fade_13 : decode cX3_fade 13 = .ok (.iload 4, 2) := by decide +kernel
theorem dX3_fade_15 : decode cX3_fade 15 = .ok (.sipush 1000, 3) := by decide +kernel
theorem dX3_fade_18 : decode cX3_fade 18 = .ok (.if_icmp .le 10, 3) := by decide +kernel
theorem dX3_fade_21 : decode cX3_fade 21 = .ok (.aload_n 0, 1) := by decide +kernel
theorem dX3_fade_22 : decode cX3_fade 22 = .ok (.iconst 1, 1) := by decide +kernel
theorem dX3_fade_23 : decode cX3_fade 23 = .ok (.iconst 0, 1) := by decide +kernel
theorem dX3_fade_24 : decode cX3_fade 24 = .ok (.invokevirtual 36, 3) := by decide +kernel
theorem dX3_fade_27 : decode cX3_fade 27 = .ok (.ireturn, 1) := by decide +kernel
theorem dX3_fade_28 : decode cX3_fade 28 = .ok (.aload_n 0, 1) := by decide +kernel
theorem dX3_fade_29 : decode cX3_fade 29 = .ok (.getfield 83, 3) := by decide +kernel
theorem dX3_fade_32 : decode cX3_fade 32 = .ok (.bipush 16, 2) := by decide +kernel
theorem dX3_fade_34 : decode cX3_fade 34 = .ok (.if_icmp .lt 11, 3) := by decide +kernel
theorem dX3_fade_37 : decode cX3_fade 37 = .ok (.aload_n 0, 1) := by decide +kernel
theorem dX3_fade_38 : decode cX3_fade 38 = .ok (.bipush 6, 2) := by decide +kernel
theorem dX3_fade_40 : decode cX3_fade 40 = .ok (.iconst 0, 1) := by decide +kernel
theorem dX3_fade_41 : decode cX3_fade 41 = .ok (.invokevirtual 36, 3) := by decide +kernel
theorem dX3_fade_44 : decode cX3_fade 44 = .ok (.ireturn, 1) := by decide +kernel
theorem dX3_fade_45 : decode cX3_fade 45 = .ok (.aload_n 0, 1) := by decide +kernel
theorem dX3_fade_46 : decode cX3_fade 46 = .ok (.iload_n 1, 1) := by decide +kernel
theorem dX3_fade_47 : decode cX3_fade 47 = .ok (.iconst 2, 1) := by decide +kernel
theorem dX3_fade_48 : decode cX3_fade 48 = .ok (.iload_n 2, 1) := by decide +kernel
theorem dX3_fade_49 : decode cX3_fade 49 = .ok (.invokevirtual 58, 3) := by decide +kernel
theorem dX3_fade_52 : decode cX3_fade 52 = .ok (.istore 5, 2) := by decide +kernel
theorem dX3_fade_54 : decode cX3_fade 54 = .ok (.iload 5, 2) := by decide +kernel
theorem dX3_fade_56 : decode cX3_fade 56 = .ok (.ifCond .eq 11, 3) := by decide +kernel
theorem dX3_fade_59 : decode cX3_fade 59 = .ok (.aload_n 0, 1) := by decide +kernel
theorem dX3_fade_60 : decode cX3_fade 60 = .ok (.iload 5, 2) := by decide +kernel
theorem dX3_fade_62 : decode cX3_fade 62 = .ok (.iconst 0, 1) := by decide +kernel
theorem dX3_fade_63 : decode cX3_fade 63 = .ok (.invokevirtual 36, 3) := by decide +kernel
theorem dX3_fade_66 : decode cX3_fade 66 = .ok (.ireturn, 1) := by decide +kernel
theorem dX3_fade_67 : decode cX3_fade 67 = .ok (.aload_n 0, 1) := by decide +kernel
theorem dX3_fade_68 : decode cX3_fade 68 = .ok (.getfield 25, 3) := by decide +kernel
theorem dX3_fade_71 : decode cX3_fade 71 = .ok (.aload_n 0, 1) := by decide +kernel
theorem dX3_fade_72 : decode cX3_fade 72 = .ok (.getfield 83, 3) := by decide +kernel
theorem dX3_fade_75 : decode cX3_fade 75 = .ok (.new 23, 3) := by decide +kernel
theorem dX3_fade_78 : decode cX3_fade 78 = .ok (.dup, 1) := by decide +kernel
theorem dX3_fade_79 : decode cX3_fade 79 = .ok (.iload_n 1, 1) := by decide +kernel
theorem dX3_fade_80 : decode cX3_fade 80 = .ok (.iload_n 2, 1) := by decide +kernel
theorem dX3_fade_81 : decode cX3_fade 81 = .ok (.iload_n 3, 1) := by decide +kernel
theorem dX3_fade_82 : decode cX3_fade 82 = .ok (.invokestatic 70, 3) := by decide +kernel
theorem dX3_fade_85 : decode cX3_fade 85 = .ok (.iload 4, 2) := by decide +kernel
theorem dX3_fade_87 : decode cX3_fade 87 = .ok (.invokespecial 86, 3) := by decide +kernel
theorem dX3_fade_90 : decode cX3_fade 90 = .ok (.aastore, 1) := by decide +kernel
theorem dX3_fade_91 : decode cX3_fade 91 = .ok (.aload_n 0, 1) := by decide +kernel
theorem dX3_fade_92 : decode cX3_fade 92 = .ok (.dup, 1) := by decide +kernel
theorem dX3_fade_93 : decode cX3_fade 93 = .ok (.getfield 83, 3) := by decide +kernel
theorem dX3_fade_96 : decode cX3_fade 96 = .ok (.iconst 1, 1) := by decide +kernel
theorem dX3_fade_97 : decode cX3_fade 97 = .ok (.iadd, 1) := by decide +kernel
theorem dX3_fade_98 : decode cX3_fade 98 = .ok (.putfield 83, 3) := by decide +kernel
theorem dX3_fade_101 : decode cX3_fade 101 = .ok (.aload_n 0, 1) := by decide +kernel
theorem dX3_fade_102 : decode cX3_fade 102 = .ok (.iconst 0, 1) := by decide +kernel
theorem dX3_fade_103 : decode cX3_fade 103 = .ok (.aload_n 0, 1) := by decide +kernel
theorem dX3_fade_104 : decode cX3_fade 104 = .ok (.getfield 83, 3) := by decide +kernel
theorem dX3_fade_107 : decode cX3_fade 107 = .ok (.invokevirtual 36, 3) := by decide +kernel
theorem dX3_fade_110 : decode cX3_fade 110 = .ok (.ireturn, 1) := by decide +kernel
theorem dX3_tick_0 : decode cX3_tick 0 = .ok (.iconst 0, 1) := by decide +kernel
theorem dX3_tick_1 : decode cX3_tick 1 = .ok (.istore_n 1, 1) := by decide +kernel
theorem dX3_tick_2 : decode cX3_tick 2 = .ok (.iconst 0, 1) := by decide +kernel
theorem dX3_tick_3 : decode cX3_tick 3 = .ok (.istore_n 2, 1) := by decide +kernel
theorem dX3_tick_4 : decode cX3_tick 4 = .ok (.iload_n 2, 1) := by decide +kernel
theorem dX3_tick_5 : decode cX3_tick 5 = .ok (.aload_n 0, 1) := by decide +kernel
theorem dX3_tick_6 : decode cX3_tick 6 = .ok (.getfield 83, 3) := by decide +kernel
theorem dX3_tick_9 : decode cX3_tick 9 = .ok (.if_icmp .ge 38, 3) := by decide +kernel
theorem dX3_tick_12 : decode cX3_tick 12 = .ok (.aload_n 0, 1) := by decide +kernel
theorem dX3_tick_13 : decode cX3_tick 13 = .ok (.getfield 25, 3) := by decide +kernel
theorem dX3_tick_16 : decode cX3_tick 16 = .ok (.iload_n 2, 1) := by decide +kernel
theorem dX3_tick_17 : decode cX3_tick 17 = .ok (.aaload, 1) := by decide +kernel
theorem dX3_tick_18 : decode cX3_tick 18 = .ok (.astore_n 3, 1) := by decide +kernel
theorem dX3_tick_19 : decode cX3_tick 19 = .ok (.aload_n 3, 1) := by decide +kernel
theorem dX3_tick_20 : decode cX3_tick 20 = .ok (.ifnull 21, 3) := by decide +kernel
theorem dX3_tick_23 : decode cX3_tick 23 = .ok (.aload_n 0, 1) := by decide +kernel
theorem dX3_tick_24 : decode cX3_tick 24 = .ok (.aload_n 3, 1) := by decide +kernel
theorem dX3_tick_25 : decode cX3_tick 25 = .ok (.invokevirtual 89, 3) := by decide +kernel
theorem dX3_tick_28 : decode cX3_tick 28 = .ok (.ifCond .eq 13, 3) := by decide +kernel
theorem dX3_tick_31 : decode cX3_tick 31 = .ok (.aload_n 0, 1) := by decide +kernel
theorem dX3_tick_32 : decode cX3_tick 32 = .ok (.getfield 25, 3) := by decide +kernel
theorem dX3_tick_35 : decode cX3_tick 35 = .ok (.iload_n 1, 1) := by decide +kernel
theorem dX3_tick_36 : decode cX3_tick 36 = .ok (.aload_n 3, 1) := by decide +kernel
theorem dX3_tick_37 : decode cX3_tick 37 = .ok (.aastore, 1) := by decide +kernel
theorem dX3_tick_38 : decode cX3_tick 38 = .ok (.iinc 1 1, 3) := by decide +kernel
theorem dX3_tick_41 : decode cX3_tick 41 = .ok (.iinc 2 1, 3) := by decide +kernel
theorem dX3_tick_44 : decode cX3_tick 44 = .ok (.goto (-40), 3) := by decide +kernel
theorem dX3_tick_47 : decode cX3_tick 47 = .ok (.aload_n 0, 1) := by decide +kernel
theorem dX3_tick_48 : decode cX3_tick 48 = .ok (.iload_n 1, 1) := by decide +kernel
theorem dX3_tick_49 : decode cX3_tick 49 = .ok (.putfield 83, 3) := by decide +kernel
theorem dX3_tick_52 : decode cX3_tick 52 = .ok (.aload_n 0, 1) := by decide +kernel
theorem dX3_tick_53 : decode cX3_tick 53 = .ok (.iconst 0, 1) := by decide +kernel
theorem dX3_tick_54 : decode cX3_tick 54 = .ok (.aload_n 0, 1) := by decide +kernel
theorem dX3_tick_55 : decode cX3_tick 55 = .ok (.getfield 83, 3) := by decide +kernel
theorem dX3_tick_58 : decode cX3_tick 58 = .ok (.invokevirtual 36, 3) := by decide +kernel
theorem dX3_tick_61 : decode cX3_tick 61 = .ok (.ireturn, 1) := by decide +kernel
theorem dX3_sheet_0 : decode cX3_sheet 0 = .ok (.iload_n 1, 1) := by decide +kernel
theorem dX3_sheet_1 : decode cX3_sheet 1 = .ok (.bipush 12, 2) := by decide +kernel
theorem dX3_sheet_3 : decode cX3_sheet 3 = .ok (.if_icmp .gt 9, 3) := by decide +kernel
theorem dX3_sheet_6 : decode cX3_sheet 6 = .ok (.iload_n 2, 1) := by decide +kernel
theorem dX3_sheet_7 : decode cX3_sheet 7 = .ok (.bipush 12, 2) := by decide +kernel
theorem dX3_sheet_9 : decode cX3_sheet 9 = .ok (.if_icmp .le 10, 3) := by decide +kernel
theorem dX3_sheet_12 : decode cX3_sheet 12 = .ok (.aload_n 0, 1) := by decide +kernel
theorem dX3_sheet_13 : decode cX3_sheet 13 = .ok (.iconst 5, 1) := by decide +kernel
theorem dX3_sheet_14 : decode cX3_sheet 14 = .ok (.iconst 0, 1) := by decide +kernel
theorem dX3_sheet_15 : decode cX3_sheet 15 = .ok (.invokevirtual 36, 3) := by decide +kernel
theorem dX3_sheet_18 : decode cX3_sheet 18 = .ok (.ireturn, 1) := by decide +kernel
theorem dX3_sheet_19 : decode cX3_sheet 19 = .ok (.iload_n 1, 1) := by decide +kernel
theorem dX3_sheet_20 : decode cX3_sheet 20 = .ok (.ifCond .lt 7, 3) := by decide +kernel
theorem dX3_sheet_23 : decode cX3_sheet 23 = .ok (.iload_n 2, 1) := by decide +kernel
theorem dX3_sheet_24 : decode cX3_sheet 24 = .ok (.ifCond .ge 14, 3) := by decide +kernel
theorem dX3_sheet_27 : decode cX3_sheet 27 = .ok (.aload_n 0, 1) := by decide +kernel
theorem dX3_sheet_28 : decode cX3_sheet 28 = .ok (.aload_n 0, 1) := by decide +kernel
theorem dX3_sheet_29 : decode cX3_sheet 29 = .ok (.iconst 4, 1) := by decide +kernel
theorem dX3_sheet_30 : decode cX3_sheet 30 = .ok (.invokevirtual 40, 3) := by decide +kernel
theorem dX3_sheet_33 : decode cX3_sheet 33 = .ok (.iconst 0, 1) := by decide +kernel
theorem dX3_sheet_34 : decode cX3_sheet 34 = .ok (.invokevirtual 36, 3) := by decide +kernel
theorem dX3_sheet_37 : decode cX3_sheet 37 = .ok (.ireturn, 1) := by decide +kernel
theorem dX3_sheet_38 : decode cX3_sheet 38 = .ok (.iload_n 1, 1) := by decide +kernel
theorem dX3_sheet_39 : decode cX3_sheet 39 = .ok (.anewarray 93, 3) := by decide +kernel
theorem dX3_sheet_42 : decode cX3_sheet 42 = .ok (.astore_n 3, 1) := by decide +kernel
theorem dX3_sheet_43 : decode cX3_sheet 43 = .ok (.iconst 0, 1) := by decide +kernel
theorem dX3_sheet_44 : decode cX3_sheet 44 = .ok (.istore 4, 2) := by decide +kernel
theorem dX3_sheet_46 : decode cX3_sheet 46 = .ok (.iload 4, 2) := by decide +kernel
theorem dX3_sheet_48 : decode cX3_sheet 48 = .ok (.iload_n 1, 1) := by decide +kernel
theorem dX3_sheet_49 : decode cX3_sheet 49 = .ok (.if_icmp .ge 16, 3) := by decide +kernel
theorem dX3_sheet_52 : decode cX3_sheet 52 = .ok (.aload_n 3, 1) := by decide +kernel
theorem dX3_sheet_53 : decode cX3_sheet 53 = .ok (.iload 4, 2) := by decide +kernel
theorem dX3_sheet_55 : decode cX3_sheet 55 = .ok (.iload_n 2, 1) := by decide +kernel
theorem dX3_sheet_56 : decode cX3_sheet 56 = .ok (.newarray .int, 2) := by decide +kernel
theorem dX3_sheet_58 : decode cX3_sheet 58 = .ok (.aastore, 1) := by decide +kernel
theorem dX3_sheet_59 : decode cX3_sheet 59 = .ok (.iinc 4 1, 3) := by decide +kernel
theorem dX3_sheet_62 : decode cX3_sheet 62 = .ok (.goto (-16), 3) := by decide +kernel
theorem dX3_sheet_65 : decode cX3_sheet 65 = .ok (.aload_n 0, 1) := by decide +kernel
theorem dX3_sheet_66 : decode cX3_sheet 66 = .ok (.getfield 19, 3) := by decide +kernel
theorem dX3_sheet_69 : decode cX3_sheet 69 = .ok (.aload_n 3, 1) := by decide +kernel
theorem dX3_sheet_70 : decode cX3_sheet 70 = .ok (.invokevirtual 95, 3) := by decide +kernel
theorem dX3_sheet_73 : decode cX3_sheet 73 = .ok (.aload_n 0, 1) := by decide +kernel
theorem dX3_sheet_74 : decode cX3_sheet 74 = .ok (.iconst 0, 1) := by decide +kernel
theorem dX3_sheet_75 : decode cX3_sheet 75 = .ok (.iload_n 1, 1) := by decide +kernel
theorem dX3_sheet_76 : decode cX3_sheet 76 = .ok (.iload_n 2, 1) := by decide +kernel
theorem dX3_sheet_77 : decode cX3_sheet 77 = .ok (.imul, 1) := by decide +kernel
theorem dX3_sheet_78 : decode cX3_sheet 78 = .ok (.invokevirtual 36, 3) := by decide +kernel
theorem dX3_sheet_81 : decode cX3_sheet 81 = .ok (.ireturn, 1) := by decide +kernel
theorem dX3_cell_0 : decode cX3_cell 0 = .ok (.aload_n 0, 1) := by decide +kernel
theorem dX3_cell_1 : decode cX3_cell 1 = .ok (.aload_n 0, 1) := by decide +kernel
theorem dX3_cell_2 : decode cX3_cell 2 = .ok (.getfield 19, 3) := by decide +kernel
theorem dX3_cell_5 : decode cX3_cell 5 = .ok (.iload_n 1, 1) := by decide +kernel
theorem dX3_cell_6 : decode cX3_cell 6 = .ok (.iload_n 2, 1) := by decide +kernel
theorem dX3_cell_7 : decode cX3_cell 7 = .ok (.invokevirtual 98, 3) := by decide +kernel
theorem dX3_cell_10 : decode cX3_cell 10 = .ok (.invokevirtual 40, 3) := by decide +kernel
theorem dX3_cell_13 : decode cX3_cell 13 = .ok (.istore_n 3, 1) := by decide +kernel
theorem dX3_cell_14 : decode cX3_cell 14 = .ok (.aload_n 0, 1) := by decide +kernel
theorem dX3_cell_15 : decode cX3_cell 15 = .ok (.iload_n 3, 1) := by decide +kernel
theorem dX3_cell_16 : decode cX3_cell 16 = .ok (.iload_n 3, 1) := by decide +kernel
theorem dX3_cell_17 : decode cX3_cell 17 = .ok (.ifCond .ne 15, 3) := by decide +kernel
theorem dX3_cell_20 : decode cX3_cell 20 = .ok (.aload_n 0, 1) := by decide +kernel
theorem dX3_cell_21 : decode cX3_cell 21 = .ok (.getfield 19, 3) := by decide +kernel
theorem dX3_cell_24 : decode cX3_cell 24 = .ok (.iload_n 1, 1) := by decide +kernel
theorem dX3_cell_25 : decode cX3_cell 25 = .ok (.iload_n 2, 1) := by decide +kernel
theorem dX3_cell_26 : decode cX3_cell 26 = .ok (.invokevirtual 101, 3) := by decide +kernel
theorem dX3_cell_29 : decode cX3_cell 29 = .ok (.goto 4, 3) := by decide +kernel
theorem dX3_cell_32 : decode cX3_cell 32 = .ok (.iconst 0, 1) := by decide +kernel
theorem dX3_cell_33 : decode cX3_cell 33 = .ok (.invokevirtual 36, 3) := by decide +kernel
theorem dX3_cell_36 : decode cX3_cell 36 = .ok (.ireturn, 1) := by decide +kernel
theorem dX3_tear_0 : decode cX3_tear 0 = .ok (.iconst 0, 1) := by decide +kernel
theorem dX3_tear_1 : decode cX3_tear 1 = .ok (.istore_n 3, 1) := by decide +kernel
theorem dX3_tear_2 : decode cX3_tear 2 = .ok (.aload_n 0, 1) := by decide +kernel
theorem dX3_tear_3 : decode cX3_tear 3 = .ok (.getfield 19, 3) := by decide +kernel
theorem dX3_tear_6 : decode cX3_tear 6 = .ok (.invokevirtual 104, 3) := by decide +kernel
theorem dX3_tear_9 : decode cX3_tear 9 = .ok (.ifCond .ne 8, 3) := by decide +kernel
theorem dX3_tear_12 : decode cX3_tear 12 = .ok (.iconst 2, 1) := by decide +kernel
theorem dX3_tear_13 : decode cX3_tear 13 = .ok (.istore_n 3, 1) := by decide +kernel
theorem dX3_tear_14 : decode cX3_tear 14 = .ok (.goto 32, 3) := by decide +kernel
theorem dX3_tear_17 : decode cX3_tear 17 = .ok (.iload_n 2, 1) := by decide +kernel
theorem dX3_tear_18 : decode cX3_tear 18 = .ok (.iconst (-1), 1) := by decide +kernel
theorem dX3_tear_19 : decode cX3_tear 19 = .ok (.if_icmp .eq 14, 3) := by decide +kernel
theorem dX3_tear_22 : decode cX3_tear 22 = .ok (.aload_n 0, 1) := by decide +kernel
theorem dX3_tear_23 : decode cX3_tear 23 = .ok (.getfield 19, 3) := by decide +kernel
theorem dX3_tear_26 : decode cX3_tear 26 = .ok (.iload_n 2, 1) := by decide +kernel
theorem dX3_tear_27 : decode cX3_tear 27 = .ok (.invokevirtual 108, 3) := by decide +kernel
theorem dX3_tear_30 : decode cX3_tear 30 = .ok (.ifCond .eq 14, 3) := by decide +kernel
theorem dX3_tear_33 : decode cX3_tear 33 = .ok (.aload_n 0, 1) := by decide +kernel
theorem dX3_tear_34 : decode cX3_tear 34 = .ok (.getfield 19, 3) := by decide +kernel
theorem dX3_tear_37 : decode cX3_tear 37 = .ok (.iload_n 1, 1) := by decide +kernel
theorem dX3_tear_38 : decode cX3_tear 38 = .ok (.invokevirtual 108, 3) := by decide +kernel
theorem dX3_tear_41 : decode cX3_tear 41 = .ok (.ifCond .ne 5, 3) := by decide +kernel
theorem dX3_tear_44 : decode cX3_tear 44 = .ok (.iconst 3, 1) := by decide +kernel
theorem dX3_tear_45 : decode cX3_tear 45 = .ok (.istore_n 3, 1) := by decide +kernel
theorem dX3_tear_46 : decode cX3_tear 46 = .ok (.iload_n 3, 1) := by decide +kernel
theorem dX3_tear_47 : decode cX3_tear 47 = .ok (.ifCond .eq 14, 3) := by decide +kernel
theorem dX3_tear_50 : decode cX3_tear 50 = .ok (.aload_n 0, 1) := by decide +kernel
theorem dX3_tear_51 : decode cX3_tear 51 = .ok (.aload_n 0, 1) := by decide +kernel
theorem dX3_tear_52 : decode cX3_tear 52 = .ok (.iload_n 3, 1) := by decide +kernel
theorem dX3_tear_53 : decode cX3_tear 53 = .ok (.invokevirtual 40, 3) := by decide +kernel
theorem dX3_tear_56 : decode cX3_tear 56 = .ok (.iconst 0, 1) := by decide +kernel
theorem dX3_tear_57 : decode cX3_tear 57 = .ok (.invokevirtual 36, 3) := by decide +kernel
theorem dX3_tear_60 : decode cX3_tear 60 = .ok (.ireturn, 1) := by decide +kernel
theorem dX3_tear_61 : decode cX3_tear 61 = .ok (.iload_n 2, 1) := by decide +kernel
theorem dX3_tear_62 : decode cX3_tear 62 = .ok (.iconst (-1), 1) := by decide +kernel
theorem dX3_tear_63 : decode cX3_tear 63 = .ok (.if_icmp .ne 7, 3) := by decide +kernel
theorem dX3_tear_66 : decode cX3_tear 66 = .ok (.aconst_null, 1) := by decide +kernel
theorem dX3_tear_67 : decode cX3_tear 67 = .ok (.goto 11, 3) := by decide +kernel
theorem dX3_tear_70 : decode cX3_tear 70 = .ok (.aload_n 0, 1) := by decide +kernel
theorem dX3_tear_71 : decode cX3_tear 71 = .ok (.getfield 19, 3) := by decide +kernel
theorem dX3_tear_74 : decode cX3_tear 74 = .ok (.iload_n 2, 1) := by decide +kernel
theorem dX3_tear_75 : decode cX3_tear 75 = .ok (.invokevirtual 111, 3) := by decide +kernel
theorem dX3_tear_78 : decode cX3_tear 78 = .ok (.astore 4, 2) := by decide +kernel
theorem dX3_tear_80 : decode cX3_tear 80 = .ok (.aload_n 0, 1) := by decide +kernel
theorem dX3_tear_81 : decode cX3_tear 81 = .ok (.getfield 19, 3) := by decide +kernel
theorem dX3_tear_84 : decode cX3_tear 84 = .ok (.iload_n 1, 1) := by decide +kernel
theorem dX3_tear_85 : decode cX3_tear 85 = .ok (.aload 4, 2) := by decide +kernel
theorem dX3_tear_87 : decode cX3_tear 87 = .ok (.invokevirtual 115, 3) := by decide +kernel
theorem dX3_tear_90 : decode cX3_tear 90 = .ok (.aload_n 0, 1) := by decide +kernel
theorem dX3_tear_91 : decode cX3_tear 91 = .ok (.iconst 0, 1) := by decide +kernel
theorem dX3_tear_92 : decode cX3_tear 92 = .ok (.aload 4, 2) := by decide +kernel
theorem dX3_tear_94 : decode cX3_tear 94 = .ok (.ifnull 7, 3) := by decide +kernel
theorem dX3_tear_97 : decode cX3_tear 97 = .ok (.iconst 1, 1) := by decide +kernel
theorem dX3_tear_98 : decode cX3_tear 98 = .ok (.goto 4, 3) := by decide +kernel
theorem dX3_tear_101 : decode cX3_tear 101 = .ok (.iconst 0, 1) := by decide +kernel
theorem dX3_tear_102 : decode cX3_tear 102 = .ok (.invokevirtual 36, 3) := by decide +kernel
theorem dX3_tear_105 : decode cX3_tear 105 = .ok (.ireturn, 1) := by decide +kernel
theorem dX3_draw_0 : decode cX3_draw 0 = .ok (.iload_n 1, 1) := by decide +kernel
theorem dX3_draw_1 : decode cX3_draw 1 = .ok (.invokestatic 29, 3) := by decide +kernel
theorem dX3_draw_4 : decode cX3_draw 4 = .ok (.ifCond .ne 10, 3) := by decide +kernel
theorem dX3_draw_7 : decode cX3_draw 7 = .ok (.aload_n 0, 1) := by decide +kernel
theorem dX3_draw_8 : decode cX3_draw 8 = .ok (.iconst 1, 1) := by decide +kernel
theorem dX3_draw_9 : decode cX3_draw 9 = .ok (.iconst 0, 1) := by decide +kernel
theorem dX3_draw_10 : decode cX3_draw 10 = .ok (.invokevirtual 36, 3) := by decide +kernel
theorem dX3_draw_13 : decode cX3_draw 13 = .ok (.ireturn, 1) := by decide +kernel
theorem dX3_draw_14 : decode cX3_draw 14 = .ok (.iconst 0, 1) := by decide +kernel
theorem dX3_draw_15 : decode cX3_draw 15 = .ok (.istore_n 3, 1) := by decide +kernel
theorem dX3_draw_16 : decode cX3_draw 16 = .ok (.iload_n 3, 1) := by decide +kernel
theorem dX3_draw_17 : decode cX3_draw 17 = .ok (.bipush 24, 2) := by decide +kernel
theorem dX3_draw_19 : decode cX3_draw 19 = .ok (.if_icmp .gt 31, 3) := by decide +kernel
theorem dX3_draw_22 : decode cX3_draw 22 = .ok (.aload_n 0, 1) := by decide +kernel
theorem dX3_draw_23 : decode cX3_draw 23 = .ok (.iload_n 1, 1) := by decide +kernel
theorem dX3_draw_24 : decode cX3_draw 24 = .ok (.iload_n 2, 1) := by decide +kernel
theorem dX3_draw_25 : decode cX3_draw 25 = .ok (.iload_n 3, 1) := by decide +kernel
theorem dX3_draw_26 : decode cX3_draw 26 = .ok (.invokevirtual 119, 3) := by decide +kernel
theorem dX3_draw_29 : decode cX3_draw 29 = .ok (.istore 4, 2) := by decide +kernel
theorem dX3_draw_31 : decode cX3_draw 31 = .ok (.iload 4, 2) := by decide +kernel
theorem dX3_draw_33 : decode cX3_draw 33 = .ok (.ifCond .eq 11, 3) := by decide +kernel
theorem dX3_draw_36 : decode cX3_draw 36 = .ok (.aload_n 0, 1) := by decide +kernel
theorem dX3_draw_37 : decode cX3_draw 37 = .ok (.iload 4, 2) := by decide +kernel
theorem dX3_draw_39 : decode cX3_draw 39 = .ok (.iload_n 3, 1) := by decide +kernel
theorem dX3_draw_40 : decode cX3_draw 40 = .ok (.invokevirtual 36, 3) := by decide +kernel
theorem dX3_draw_43 : decode cX3_draw 43 = .ok (.ireturn, 1) := by decide +kernel
theorem dX3_draw_44 : decode cX3_draw 44 = .ok (.iinc 3 1, 3) := by decide +kernel
theorem dX3_draw_47 : decode cX3_draw 47 = .ok (.goto (-31), 3) := by decide +kernel
theorem dX3_draw_50 : decode cX3_draw 50 = .ok (.aload_n 0, 1) := by decide +kernel
theorem dX3_draw_51 : decode cX3_draw 51 = .ok (.iconst 0, 1) := by decide +kernel
theorem dX3_draw_52 : decode cX3_draw 52 = .ok (.bipush 24, 2) := by decide +kernel
theorem dX3_draw_54 : decode cX3_draw 54 = .ok (.invokevirtual 36, 3) := by decide +kernel
theorem dX3_draw_57 : decode cX3_draw 57 = .ok (.ireturn, 1) := by decide +kernel
theorem dX3_status_0 : decode cX3_status 0 = .ok (.aload_n 0, 1) := by decide +kernel
theorem dX3_status_1 : decode cX3_status 1 = .ok (.getfield 122, 3) := by decide +kernel
theorem dX3_status_4 : decode cX3_status 4 = .ok (.ireturn, 1) := by decide +kernel
theorem dX3_count_0 : decode cX3_count 0 = .ok (.iload_n 1, 1) := by decide +kernel
theorem dX3_count_1 : decode cX3_count 1 = .ok (.tableswitch 126 0 10 #[59, 64, 69, 74, 79, 84, 89, 94, 102, 110, 118], 59) := by decide +kernel
theorem dX3_count_60 : decode cX3_count 60 = .ok (.aload_n 0, 1) := by decide +kernel
theorem dX3_count_61 : decode cX3_count 61 = .ok (.getfield 125, 3) := by decide +kernel
theorem dX3_count_64 : decode cX3_count 64 = .ok (.ireturn, 1) := by decide +kernel
theorem dX3_count_65 : decode cX3_count 65 = .ok (.aload_n 0, 1) := by decide +kernel
theorem dX3_count_66 : decode cX3_count 66 = .ok (.getfield 128, 3) := by decide +kernel
theorem dX3_count_69 : decode cX3_count 69 = .ok (.ireturn, 1) := by decide +kernel
theorem dX3_count_70 : decode cX3_count 70 = .ok (.aload_n 0, 1) := by decide +kernel
theorem dX3_count_71 : decode cX3_count 71 = .ok (.getfield 131, 3) := by decide +kernel
theorem dX3_count_74 : decode cX3_count 74 = .ok (.ireturn, 1) := by decide +kernel
theorem dX3_count_75 : decode cX3_count 75 = .ok (.aload_n 0, 1) := by decide +kernel
theorem dX3_count_76 : decode cX3_count 76 = .ok (.getfield 83, 3) := by decide +kernel
theorem dX3_count_79 : decode cX3_count 79 = .ok (.ireturn, 1) := by decide +kernel
theorem dX3_count_80 : decode cX3_count 80 = .ok (.aload_n 0, 1) := by decide +kernel
theorem dX3_count_81 : decode cX3_count 81 = .ok (.getfield 134, 3) := by decide +kernel
theorem dX3_count_84 : decode cX3_count 84 = .ok (.ireturn, 1) := by decide +kernel
theorem dX3_count_85 : decode cX3_count 85 = .ok (.aload_n 0, 1) := by decide +kernel
theorem dX3_count_86 : decode cX3_count 86 = .ok (.getfield 137, 3) := by decide +kernel
theorem dX3_count_89 : decode cX3_count 89 = .ok (.ireturn, 1) := by decide +kernel
theorem dX3_count_90 : decode cX3_count 90 = .ok (.aload_n 0, 1) := by decide +kernel
theorem dX3_count_91 : decode cX3_count 91 = .ok (.getfield 140, 3) := by decide +kernel
theorem dX3_count_94 : decode cX3_count 94 = .ok (.ireturn, 1) := by decide +kernel
theorem dX3_count_95 : decode cX3_count 95 = .ok (.aload_n 0, 1) := by decide +kernel
theorem dX3_count_96 : decode cX3_count 96 = .ok (.getfield 10, 3) := by decide +kernel
theorem dX3_count_99 : decode cX3_count 99 = .ok (.invokevirtual 143, 3) := by decide +kernel
theorem dX3_count_102 : decode cX3_count 102 = .ok (.ireturn, 1) := by decide +kernel
theorem dX3_count_103 : decode cX3_count 103 = .ok (.aload_n 0, 1) := by decide +kernel
theorem dX3_count_104 : decode cX3_count 104 = .ok (.getfield 10, 3) := by decide +kernel
theorem dX3_count_107 : decode cX3_count 107 = .ok (.invokevirtual 147, 3) := by decide +kernel
theorem dX3_count_110 : decode cX3_count 110 = .ok (.ireturn, 1) := by decide +kernel
theorem dX3_count_111 : decode cX3_count 111 = .ok (.aload_n 0, 1) := by decide +kernel
theorem dX3_count_112 : decode cX3_count 112 = .ok (.getfield 19, 3) := by decide +kernel
theorem dX3_count_115 : decode cX3_count 115 = .ok (.invokevirtual 150, 3) := by decide +kernel
theorem dX3_count_118 : decode cX3_count 118 = .ok (.ireturn, 1) := by decide +kernel
theorem dX3_count_119 : decode cX3_count 119 = .ok (.aload_n 0, 1) := by decide +kernel
theorem dX3_count_120 : decode cX3_count 120 = .ok (.getfield 19, 3) := by decide +kernel
theorem dX3_count_123 : decode cX3_count 123 = .ok (.invokevirtual 153, 3) := by decide +kernel
theorem dX3_count_126 : decode cX3_count 126 = .ok (.ireturn, 1) := by decide +kernel
theorem dX3_count_127 : decode cX3_count 127 = .ok (.iconst 0, 1) := by decide +kernel
theorem dX3_count_128 : decode cX3_count 128 = .ok (.ireturn, 1) := by decide +kernel
theorem dX3_leave_0 : decode cX3_leave 0 = .ok (.aload_n 0, 1) := by decide +kernel
theorem dX3_leave_1 : decode cX3_leave 1 = .ok (.iload_n 1, 1) := by decide +kernel
theorem dX3_leave_2 : decode cX3_leave 2 = .ok (.putfield 122, 3) := by decide +kernel
theorem dX3_leave_5 : decode cX3_leave 5 = .ok (.iload_n 2, 1) := by decide +kernel
theorem dX3_leave_6 : decode cX3_leave 6 = .ok (.ireturn, 1) := by decide +kernel
theorem dX3_leaveFound_0 : decode cX3_leaveFound 0 = .ok (.aload_n 0, 1) := by decide +kernel
theorem dX3_leaveFound_1 : decode cX3_leaveFound 1 = .ok (.iload_n 1, 1) := by decide +kernel
theorem dX3_leaveFound_2 : decode cX3_leaveFound 2 = .ok (.iload_n 1, 1) := by decide +kernel
theorem dX3_leaveFound_3 : decode cX3_leaveFound 3 = .ok (.ifCond .ne 10, 3) := by decide +kernel
theorem dX3_leaveFound_6 : decode cX3_leaveFound 6 = .ok (.aload_n 0, 1) := by decide +kernel
theorem dX3_leaveFound_7 : decode cX3_leaveFound 7 = .ok (.getfield 66, 3) := by decide +kernel
theorem dX3_leaveFound_10 : decode cX3_leaveFound 10 = .ok (.goto 4, 3) := by decide +kernel
theorem dX3_leaveFound_13 : decode cX3_leaveFound 13 = .ok (.iconst 0, 1) := by decide +kernel
theorem dX3_leaveFound_14 : decode cX3_leaveFound 14 = .ok (.invokevirtual 36, 3) := by decide +kernel
theorem dX3_leaveFound_17 : decode cX3_leaveFound 17 = .ok (.ireturn, 1) := by decide +kernel
theorem dX3_counted_0 : decode cX3_counted 0 = .ok (.iload_n 1, 1) := by decide +kernel
theorem dX3_counted_1 : decode cX3_counted 1 = .ok (.iconst 2, 1) := by decide +kernel
theorem dX3_counted_2 : decode cX3_counted 2 = .ok (.if_icmp .ne 16, 3) := by decide +kernel
theorem dX3_counted_5 : decode cX3_counted 5 = .ok (.aload_n 0, 1) := by decide +kernel
theorem dX3_counted_6 : decode cX3_counted 6 = .ok (.dup, 1) := by decide +kernel
theorem dX3_counted_7 : decode cX3_counted 7 = .ok (.getfield 125, 3) := by decide +kernel
theorem dX3_counted_10 : decode cX3_counted 10 = .ok (.iconst 1, 1) := by decide +kernel
theorem dX3_counted_11 : decode cX3_counted 11 = .ok (.iadd, 1) := by decide +kernel
theorem dX3_counted_12 : decode cX3_counted 12 = .ok (.putfield 125, 3) := by decide +kernel
theorem dX3_counted_15 : decode cX3_counted 15 = .ok (.goto 36, 3) := by decide +kernel
theorem dX3_counted_18 : decode cX3_counted 18 = .ok (.iload_n 1, 1) := by decide +kernel
theorem dX3_counted_19 : decode cX3_counted 19 = .ok (.iconst 3, 1) := by decide +kernel
theorem dX3_counted_20 : decode cX3_counted 20 = .ok (.if_icmp .ne 16, 3) := by decide +kernel
theorem dX3_counted_23 : decode cX3_counted 23 = .ok (.aload_n 0, 1) := by decide +kernel
theorem dX3_counted_24 : decode cX3_counted 24 = .ok (.dup, 1) := by decide +kernel
theorem dX3_counted_25 : decode cX3_counted 25 = .ok (.getfield 128, 3) := by decide +kernel
theorem dX3_counted_28 : decode cX3_counted 28 = .ok (.iconst 1, 1) := by decide +kernel
theorem dX3_counted_29 : decode cX3_counted 29 = .ok (.iadd, 1) := by decide +kernel
theorem dX3_counted_30 : decode cX3_counted 30 = .ok (.putfield 128, 3) := by decide +kernel
theorem dX3_counted_33 : decode cX3_counted 33 = .ok (.goto 18, 3) := by decide +kernel
theorem dX3_counted_36 : decode cX3_counted 36 = .ok (.iload_n 1, 1) := by decide +kernel
theorem dX3_counted_37 : decode cX3_counted 37 = .ok (.iconst 4, 1) := by decide +kernel
theorem dX3_counted_38 : decode cX3_counted 38 = .ok (.if_icmp .ne 13, 3) := by decide +kernel
theorem dX3_counted_41 : decode cX3_counted 41 = .ok (.aload_n 0, 1) := by decide +kernel
theorem dX3_counted_42 : decode cX3_counted 42 = .ok (.dup, 1) := by decide +kernel
theorem dX3_counted_43 : decode cX3_counted 43 = .ok (.getfield 131, 3) := by decide +kernel
theorem dX3_counted_46 : decode cX3_counted 46 = .ok (.iconst 1, 1) := by decide +kernel
theorem dX3_counted_47 : decode cX3_counted 47 = .ok (.iadd, 1) := by decide +kernel
theorem dX3_counted_48 : decode cX3_counted 48 = .ok (.putfield 131, 3) := by decide +kernel
theorem dX3_counted_51 : decode cX3_counted 51 = .ok (.iload_n 1, 1) := by decide +kernel
theorem dX3_counted_52 : decode cX3_counted 52 = .ok (.ireturn, 1) := by decide +kernel
theorem dX3_look_0 : decode cX3_look 0 = .ok (.aload_n 0, 1) := by decide +kernel
theorem dX3_look_1 : decode cX3_look 1 = .ok (.getfield 10, 3) := by decide +kernel
theorem dX3_look_4 : decode cX3_look 4 = .ok (.iload_n 1, 1) := by decide +kernel
theorem dX3_look_5 : decode cX3_look 5 = .ok (.iload_n 2, 1) := by decide +kernel
theorem dX3_look_6 : decode cX3_look 6 = .ok (.iload_n 3, 1) := by decide +kernel
theorem dX3_look_7 : decode cX3_look 7 = .ok (.invokevirtual 156, 3) := by decide +kernel
theorem dX3_look_10 : decode cX3_look 10 = .ok (.istore 4, 2) := by decide +kernel
theorem dX3_look_12 : decode cX3_look 12 = .ok (.iload 4, 2) := by decide +kernel
theorem dX3_look_14 : decode cX3_look 14 = .ok (.ifCond .ne 17, 3) := by decide +kernel
theorem dX3_look_17 : decode cX3_look 17 = .ok (.aload_n 0, 1) := by decide +kernel
theorem dX3_look_18 : decode cX3_look 18 = .ok (.aload_n 0, 1) := by decide +kernel
theorem dX3_look_19 : decode cX3_look 19 = .ok (.getfield 10, 3) := by decide +kernel
theorem dX3_look_22 : decode cX3_look 22 = .ok (.iload_n 1, 1) := by decide +kernel
theorem dX3_look_23 : decode cX3_look 23 = .ok (.iload_n 2, 1) := by decide +kernel
theorem dX3_look_24 : decode cX3_look 24 = .ok (.iload_n 3, 1) := by decide +kernel
theorem dX3_look_25 : decode cX3_look 25 = .ok (.invokevirtual 158, 3) := by decide +kernel
theorem dX3_look_28 : decode cX3_look 28 = .ok (.putfield 66, 3) := by decide +kernel
theorem dX3_look_31 : decode cX3_look 31 = .ok (.aload_n 0, 1) := by decide +kernel
theorem dX3_look_32 : decode cX3_look 32 = .ok (.iload 4, 2) := by decide +kernel
theorem dX3_look_34 : decode cX3_look 34 = .ok (.invokevirtual 40, 3) := by decide +kernel
theorem dX3_look_37 : decode cX3_look 37 = .ok (.ireturn, 1) := by decide +kernel
theorem dX3_put_0 : decode cX3_put 0 = .ok (.aload_n 0, 1) := by decide +kernel
theorem dX3_put_1 : decode cX3_put 1 = .ok (.getfield 10, 3) := by decide +kernel
theorem dX3_put_4 : decode cX3_put 4 = .ok (.iload_n 1, 1) := by decide +kernel
theorem dX3_put_5 : decode cX3_put 5 = .ok (.iload_n 2, 1) := by decide +kernel
theorem dX3_put_6 : decode cX3_put 6 = .ok (.iload_n 3, 1) := by decide +kernel
theorem dX3_put_7 : decode cX3_put 7 = .ok (.invokevirtual 156, 3) := by decide +kernel
theorem dX3_put_10 : decode cX3_put 10 = .ok (.istore 5, 2) := by decide +kernel
theorem dX3_put_12 : decode cX3_put 12 = .ok (.iload 5, 2) := by decide +kernel
theorem dX3_put_14 : decode cX3_put 14 = .ok (.ifCond .ne 19, 3) := by decide +kernel
theorem dX3_put_17 : decode cX3_put 17 = .ok (.aload_n 0, 1) := by decide +kernel
theorem dX3_put_18 : decode cX3_put 18 = .ok (.getfield 10, 3) := by decide +kernel
theorem dX3_put_21 : decode cX3_put 21 = .ok (.iload_n 1, 1) := by decide +kernel
theorem dX3_put_22 : decode cX3_put 22 = .ok (.iload_n 2, 1) := by decide +kernel
theorem dX3_put_23 : decode cX3_put 23 = .ok (.iload_n 3, 1) := by decide +kernel
theorem dX3_put_24 : decode cX3_put 24 = .ok (.iload_n 2, 1) := by decide +kernel
theorem dX3_put_25 : decode cX3_put 25 = .ok (.iload 4, 2) := by decide +kernel
theorem dX3_put_27 : decode cX3_put 27 = .ok (.invokestatic 160, 3) := by decide +kernel
theorem dX3_put_30 : decode cX3_put 30 = .ok (.invokevirtual 163, 3) := by decide +kernel
theorem dX3_put_33 : decode cX3_put 33 = .ok (.aload_n 0, 1) := by decide +kernel
theorem dX3_put_34 : decode cX3_put 34 = .ok (.iload 5, 2) := by decide +kernel
theorem dX3_put_36 : decode cX3_put 36 = .ok (.invokevirtual 40, 3) := by decide +kernel
theorem dX3_put_39 : decode cX3_put 39 = .ok (.ireturn, 1) := by decide +kernel
theorem dX3_measure_0 : decode cX3_measure 0 = .ok (.aload_n 0, 1) := by decide +kernel
theorem dX3_measure_1 : decode cX3_measure 1 = .ok (.getfield 10, 3) := by decide +kernel
theorem dX3_measure_4 : decode cX3_measure 4 = .ok (.iload_n 1, 1) := by decide +kernel
theorem dX3_measure_5 : decode cX3_measure 5 = .ok (.iload_n 2, 1) := by decide +kernel
theorem dX3_measure_6 : decode cX3_measure 6 = .ok (.invokevirtual 48, 3) := by decide +kernel
theorem dX3_measure_9 : decode cX3_measure 9 = .ok (.astore_n 3, 1) := by decide +kernel
theorem dX3_measure_10 : decode cX3_measure 10 = .ok (.aload_n 3, 1) := by decide +kernel
theorem dX3_measure_11 : decode cX3_measure 11 = .ok (.ifnonnull 9, 3) := by decide +kernel
theorem dX3_measure_14 : decode cX3_measure 14 = .ok (.aload_n 0, 1) := by decide +kernel
theorem dX3_measure_15 : decode cX3_measure 15 = .ok (.iconst 2, 1) := by decide +kernel
theorem dX3_measure_16 : decode cX3_measure 16 = .ok (.invokevirtual 40, 3) := by decide +kernel
theorem dX3_measure_19 : decode cX3_measure 19 = .ok (.ireturn, 1) := by decide +kernel
theorem dX3_measure_20 : decode cX3_measure 20 = .ok (.aload_n 0, 1) := by decide +kernel
theorem dX3_measure_21 : decode cX3_measure 21 = .ok (.aload_n 3, 1) := by decide +kernel
theorem dX3_measure_22 : decode cX3_measure 22 = .ok (.arraylength, 1) := by decide +kernel
theorem dX3_measure_23 : decode cX3_measure 23 = .ok (.putfield 66, 3) := by decide +kernel
theorem dX3_measure_26 : decode cX3_measure 26 = .ok (.iconst 0, 1) := by decide +kernel
theorem dX3_measure_27 : decode cX3_measure 27 = .ok (.ireturn, 1) := by decide +kernel
theorem dX3_findShown_0 : decode cX3_findShown 0 = .ok (.aload_n 0, 1) := by decide +kernel
theorem dX3_findShown_1 : decode cX3_findShown 1 = .ok (.iload_n 1, 1) := by decide +kernel
theorem dX3_findShown_2 : decode cX3_findShown 2 = .ok (.iconst 3, 1) := by decide +kernel
theorem dX3_findShown_3 : decode cX3_findShown 3 = .ok (.iload_n 2, 1) := by decide +kernel
theorem dX3_findShown_4 : decode cX3_findShown 4 = .ok (.invokevirtual 58, 3) := by decide +kernel
theorem dX3_findShown_7 : decode cX3_findShown 7 = .ok (.istore_n 3, 1) := by decide +kernel
theorem dX3_findShown_8 : decode cX3_findShown 8 = .ok (.iload_n 3, 1) := by decide +kernel
theorem dX3_findShown_9 : decode cX3_findShown 9 = .ok (.ifCond .ne 10, 3) := by decide +kernel
theorem dX3_findShown_12 : decode cX3_findShown 12 = .ok (.aload_n 0, 1) := by decide +kernel
theorem dX3_findShown_13 : decode cX3_findShown 13 = .ok (.getfield 66, 3) := by decide +kernel
theorem dX3_findShown_16 : decode cX3_findShown 16 = .ok (.ifCond .ne 5, 3) := by decide +kernel
theorem dX3_findShown_19 : decode cX3_findShown 19 = .ok (.iload_n 3, 1) := by decide +kernel
theorem dX3_findShown_20 : decode cX3_findShown 20 = .ok (.ireturn, 1) := by decide +kernel
theorem dX3_findShown_21 : decode cX3_findShown 21 = .ok (.aload_n 0, 1) := by decide +kernel
theorem dX3_findShown_22 : decode cX3_findShown 22 = .ok (.iload_n 1, 1) := by decide +kernel
theorem dX3_findShown_23 : decode cX3_findShown 23 = .ok (.iconst 2, 1) := by decide +kernel
theorem dX3_findShown_24 : decode cX3_findShown 24 = .ok (.iload_n 2, 1) := by decide +kernel
theorem dX3_findShown_25 : decode cX3_findShown 25 = .ok (.invokevirtual 58, 3) := by decide +kernel
theorem dX3_findShown_28 : decode cX3_findShown 28 = .ok (.istore_n 3, 1) := by decide +kernel
theorem dX3_findShown_29 : decode cX3_findShown 29 = .ok (.iload_n 3, 1) := by decide +kernel
theorem dX3_findShown_30 : decode cX3_findShown 30 = .ok (.ifCond .eq 5, 3) := by decide +kernel
theorem dX3_findShown_33 : decode cX3_findShown 33 = .ok (.iload_n 3, 1) := by decide +kernel
theorem dX3_findShown_34 : decode cX3_findShown 34 = .ok (.ireturn, 1) := by decide +kernel
theorem dX3_findShown_35 : decode cX3_findShown 35 = .ok (.aload_n 0, 1) := by decide +kernel
theorem dX3_findShown_36 : decode cX3_findShown 36 = .ok (.getfield 66, 3) := by decide +kernel
theorem dX3_findShown_39 : decode cX3_findShown 39 = .ok (.istore 4, 2) := by decide +kernel
theorem dX3_findShown_41 : decode cX3_findShown 41 = .ok (.aload_n 0, 1) := by decide +kernel
theorem dX3_findShown_42 : decode cX3_findShown 42 = .ok (.iload_n 1, 1) := by decide +kernel
theorem dX3_findShown_43 : decode cX3_findShown 43 = .ok (.iconst 1, 1) := by decide +kernel
theorem dX3_findShown_44 : decode cX3_findShown 44 = .ok (.iload_n 2, 1) := by decide +kernel
theorem dX3_findShown_45 : decode cX3_findShown 45 = .ok (.invokevirtual 58, 3) := by decide +kernel
theorem dX3_findShown_48 : decode cX3_findShown 48 = .ok (.istore_n 3, 1) := by decide +kernel
theorem dX3_findShown_49 : decode cX3_findShown 49 = .ok (.iload_n 3, 1) := by decide +kernel
theorem dX3_findShown_50 : decode cX3_findShown 50 = .ok (.ifCond .eq 5, 3) := by decide +kernel
theorem dX3_findShown_53 : decode cX3_findShown 53 = .ok (.iload_n 3, 1) := by decide +kernel
theorem dX3_findShown_54 : decode cX3_findShown 54 = .ok (.ireturn, 1) := by decide +kernel
theorem dX3_findShown_55 : decode cX3_findShown 55 = .ok (.iload 4, 2) := by decide +kernel
theorem dX3_findShown_57 : decode cX3_findShown 57 = .ok (.aload_n 0, 1) := by decide +kernel
theorem dX3_findShown_58 : decode cX3_findShown 58 = .ok (.getfield 66, 3) := by decide +kernel
theorem dX3_findShown_61 : decode cX3_findShown 61 = .ok (.iadd, 1) := by decide +kernel
theorem dX3_findShown_62 : decode cX3_findShown 62 = .ok (.istore 5, 2) := by decide +kernel
theorem dX3_findShown_64 : decode cX3_findShown 64 = .ok (.aload_n 0, 1) := by decide +kernel
theorem dX3_findShown_65 : decode cX3_findShown 65 = .ok (.iload_n 1, 1) := by decide +kernel
theorem dX3_findShown_66 : decode cX3_findShown 66 = .ok (.iconst 0, 1) := by decide +kernel
theorem dX3_findShown_67 : decode cX3_findShown 67 = .ok (.iload_n 2, 1) := by decide +kernel
theorem dX3_findShown_68 : decode cX3_findShown 68 = .ok (.invokevirtual 58, 3) := by decide +kernel
theorem dX3_findShown_71 : decode cX3_findShown 71 = .ok (.istore_n 3, 1) := by decide +kernel
theorem dX3_findShown_72 : decode cX3_findShown 72 = .ok (.iload_n 3, 1) := by decide +kernel
theorem dX3_findShown_73 : decode cX3_findShown 73 = .ok (.ifCond .eq 5, 3) := by decide +kernel
theorem dX3_findShown_76 : decode cX3_findShown 76 = .ok (.iload_n 3, 1) := by decide +kernel
theorem dX3_findShown_77 : decode cX3_findShown 77 = .ok (.ireturn, 1) := by decide +kernel
theorem dX3_findShown_78 : decode cX3_findShown 78 = .ok (.aload_n 0, 1) := by decide +kernel
theorem dX3_findShown_79 : decode cX3_findShown 79 = .ok (.aload_n 0, 1) := by decide +kernel
theorem dX3_findShown_80 : decode cX3_findShown 80 = .ok (.getfield 66, 3) := by decide +kernel
theorem dX3_findShown_83 : decode cX3_findShown 83 = .ok (.iconst 2, 1) := by decide +kernel
theorem dX3_findShown_84 : decode cX3_findShown 84 = .ok (.irem, 1) := by decide +kernel
theorem dX3_findShown_85 : decode cX3_findShown 85 = .ok (.ifCond .ne 8, 3) := by decide +kernel
theorem dX3_findShown_88 : decode cX3_findShown 88 = .ok (.iload 5, 2) := by decide +kernel
theorem dX3_findShown_90 : decode cX3_findShown 90 = .ok (.goto 6, 3) := by decide +kernel
theorem dX3_findShown_93 : decode cX3_findShown 93 = .ok (.iload 5, 2) := by decide +kernel
theorem dX3_findShown_95 : decode cX3_findShown 95 = .ok (.ineg, 1) := by decide +kernel
theorem dX3_findShown_96 : decode cX3_findShown 96 = .ok (.putfield 66, 3) := by decide +kernel
theorem dX3_findShown_99 : decode cX3_findShown 99 = .ok (.iconst 0, 1) := by decide +kernel
theorem dX3_findShown_100 : decode cX3_findShown 100 = .ok (.ireturn, 1) := by decide +kernel
theorem dX3_drawLamp_0 : decode cX3_drawLamp 0 = .ok (.aload_n 0, 1) := by decide +kernel
theorem dX3_drawLamp_1 : decode cX3_drawLamp 1 = .ok (.iload_n 1, 1) := by decide +kernel
theorem dX3_drawLamp_2 : decode cX3_drawLamp 2 = .ok (.iload_n 3, 1) := by decide +kernel
theorem dX3_drawLamp_3 : decode cX3_drawLamp 3 = .ok (.invokevirtual 76, 3) := by decide +kernel
theorem dX3_drawLamp_6 : decode cX3_drawLamp 6 = .ok (.istore 4, 2) := by decide +kernel
theorem dX3_drawLamp_8 : decode cX3_drawLamp 8 = .ok (.iload 4, 2) := by decide +kernel
theorem dX3_drawLamp_10 : decode cX3_drawLamp 10 = .ok (.ifCond .eq 6, 3) := by decide +kernel
theorem dX3_drawLamp_13 : decode cX3_drawLamp 13 = .ok (.iload 4, 2) := by decide +kernel
theorem dX3_drawLamp_15 : decode cX3_drawLamp 15 = .ok (.ireturn, 1) := by decide +kernel
theorem dX3_drawLamp_16 : decode cX3_drawLamp 16 = .ok (.aload_n 0, 1) := by decide +kernel
theorem dX3_drawLamp_17 : decode cX3_drawLamp 17 = .ok (.getfield 19, 3) := by decide +kernel
theorem dX3_drawLamp_20 : decode cX3_drawLamp 20 = .ok (.iload_n 2, 1) := by decide +kernel
theorem dX3_drawLamp_21 : decode cX3_drawLamp 21 = .ok (.iload_n 3, 1) := by decide +kernel
theorem dX3_drawLamp_22 : decode cX3_drawLamp 22 = .ok (.invokevirtual 98, 3) := by decide +kernel
theorem dX3_drawLamp_25 : decode cX3_drawLamp 25 = .ok (.istore 4, 2) := by decide +kernel
theorem dX3_drawLamp_27 : decode cX3_drawLamp 27 = .ok (.iload 4, 2) := by decide +kernel
theorem dX3_drawLamp_29 : decode cX3_drawLamp 29 = .ok (.ifCond .ne 16, 3) := by decide +kernel
theorem dX3_drawLamp_32 : decode cX3_drawLamp 32 = .ok (.aload_n 0, 1) := by decide +kernel
theorem dX3_drawLamp_33 : decode cX3_drawLamp 33 = .ok (.getfield 19, 3) := by decide +kernel
theorem dX3_drawLamp_36 : decode cX3_drawLamp 36 = .ok (.iload_n 2, 1) := by decide +kernel
theorem dX3_drawLamp_37 : decode cX3_drawLamp 37 = .ok (.iload_n 3, 1) := by decide +kernel
theorem dX3_drawLamp_38 : decode cX3_drawLamp 38 = .ok (.aload_n 0, 1) := by decide +kernel
theorem dX3_drawLamp_39 : decode cX3_drawLamp 39 = .ok (.getfield 66, 3) := by decide +kernel
theorem dX3_drawLamp_42 : decode cX3_drawLamp 42 = .ok (.invokevirtual 166, 3) := by decide +kernel
theorem dX3_drawLamp_45 : decode cX3_drawLamp 45 = .ok (.aload_n 0, 1) := by decide +kernel
theorem dX3_drawLamp_46 : decode cX3_drawLamp 46 = .ok (.iload 4, 2) := by decide +kernel
theorem dX3_drawLamp_48 : decode cX3_drawLamp 48 = .ok (.invokevirtual 40, 3) := by decide +kernel
theorem dX3_drawLamp_51 : decode cX3_drawLamp 51 = .ok (.ireturn, 1) := by decide +kernel
theorem dX3_isLit_0 : decode cX3_isLit 0 = .ok (.aload_n 0, 1) := by decide +kernel
theorem dX3_isLit_1 : decode cX3_isLit 1 = .ok (.iload_n 1, 1) := by decide +kernel
theorem dX3_isLit_2 : decode cX3_isLit 2 = .ok (.iconst 3, 1) := by decide +kernel
theorem dX3_isLit_3 : decode cX3_isLit 3 = .ok (.iload_n 2, 1) := by decide +kernel
theorem dX3_isLit_4 : decode cX3_isLit 4 = .ok (.invokevirtual 58, 3) := by decide +kernel
theorem dX3_isLit_7 : decode cX3_isLit 7 = .ok (.ifCond .ne 10, 3) := by decide +kernel
theorem dX3_isLit_10 : decode cX3_isLit 10 = .ok (.aload_n 0, 1) := by decide +kernel
theorem dX3_isLit_11 : decode cX3_isLit 11 = .ok (.getfield 66, 3) := by decide +kernel
theorem dX3_isLit_14 : decode cX3_isLit 14 = .ok (.ifCond .ne 5, 3) := by decide +kernel
theorem dX3_isLit_17 : decode cX3_isLit 17 = .ok (.iconst 0, 1) := by decide +kernel
theorem dX3_isLit_18 : decode cX3_isLit 18 = .ok (.ireturn, 1) := by decide +kernel
theorem dX3_isLit_19 : decode cX3_isLit 19 = .ok (.aload_n 0, 1) := by decide +kernel
theorem dX3_isLit_20 : decode cX3_isLit 20 = .ok (.iload_n 1, 1) := by decide +kernel
theorem dX3_isLit_21 : decode cX3_isLit 21 = .ok (.iconst 2, 1) := by decide +kernel
theorem dX3_isLit_22 : decode cX3_isLit 22 = .ok (.iload_n 2, 1) := by decide +kernel
theorem dX3_isLit_23 : decode cX3_isLit 23 = .ok (.invokevirtual 58, 3) := by decide +kernel
theorem dX3_isLit_26 : decode cX3_isLit 26 = .ok (.ifCond .ne 14, 3) := by decide +kernel
theorem dX3_isLit_29 : decode cX3_isLit 29 = .ok (.aload_n 0, 1) := by decide +kernel
theorem dX3_isLit_30 : decode cX3_isLit 30 = .ok (.getfield 66, 3) := by decide +kernel
theorem dX3_isLit_33 : decode cX3_isLit 33 = .ok (.ifCond .le 7, 3) := by decide +kernel
theorem dX3_isLit_36 : decode cX3_isLit 36 = .ok (.iconst 1, 1) := by decide +kernel
theorem dX3_isLit_37 : decode cX3_isLit 37 = .ok (.goto 4, 3) := by decide +kernel
theorem dX3_isLit_40 : decode cX3_isLit 40 = .ok (.iconst 0, 1) := by decide +kernel
theorem dX3_isLit_41 : decode cX3_isLit 41 = .ok (.ireturn, 1) := by decide +kernel
theorem dX3_runsOn_0 : decode cX3_runsOn 0 = .ok (.aload_n 0, 1) := by decide +kernel
theorem dX3_runsOn_1 : decode cX3_runsOn 1 = .ok (.aload_n 1, 1) := by decide +kernel
theorem dX3_runsOn_2 : decode cX3_runsOn 2 = .ok (.getfield 170, 3) := by decide +kernel
theorem dX3_runsOn_5 : decode cX3_runsOn 5 = .ok (.iconst 2, 1) := by decide +kernel
theorem dX3_runsOn_6 : decode cX3_runsOn 6 = .ok (.aload_n 1, 1) := by decide +kernel
theorem dX3_runsOn_7 : decode cX3_runsOn 7 = .ok (.getfield 173, 3) := by decide +kernel
theorem dX3_runsOn_10 : decode cX3_runsOn 10 = .ok (.invokevirtual 58, 3) := by decide +kernel
theorem dX3_runsOn_13 : decode cX3_runsOn 13 = .ok (.istore_n 2, 1) := by decide +kernel
theorem dX3_runsOn_14 : decode cX3_runsOn 14 = .ok (.iload_n 2, 1) := by decide +kernel
theorem dX3_runsOn_15 : decode cX3_runsOn 15 = .ok (.ifCond .eq 10, 3) := by decide +kernel
theorem dX3_runsOn_18 : decode cX3_runsOn 18 = .ok (.aload_n 0, 1) := by decide +kernel
theorem dX3_runsOn_19 : decode cX3_runsOn 19 = .ok (.iload_n 2, 1) := by decide +kernel
theorem dX3_runsOn_20 : decode cX3_runsOn 20 = .ok (.invokevirtual 176, 3) := by decide +kernel
theorem dX3_runsOn_23 : decode cX3_runsOn 23 = .ok (.iconst 0, 1) := by decide +kernel
theorem dX3_runsOn_24 : decode cX3_runsOn 24 = .ok (.ireturn, 1) := by decide +kernel
theorem dX3_runsOn_25 : decode cX3_runsOn 25 = .ok (.aload_n 1, 1) := by decide +kernel
theorem dX3_runsOn_26 : decode cX3_runsOn 26 = .ok (.aload_n 0, 1) := by decide +kernel
theorem dX3_runsOn_27 : decode cX3_runsOn 27 = .ok (.getfield 66, 3) := by decide +kernel
theorem dX3_runsOn_30 : decode cX3_runsOn 30 = .ok (.invokevirtual 180, 3) := by decide +kernel
theorem dX3_runsOn_33 : decode cX3_runsOn 33 = .ok (.istore_n 3, 1) := by decide +kernel
theorem dX3_runsOn_34 : decode cX3_runsOn 34 = .ok (.aload_n 0, 1) := by decide +kernel
theorem dX3_runsOn_35 : decode cX3_runsOn 35 = .ok (.aload_n 1, 1) := by decide +kernel
theorem dX3_runsOn_36 : decode cX3_runsOn 36 = .ok (.getfield 170, 3) := by decide +kernel
theorem dX3_runsOn_39 : decode cX3_runsOn 39 = .ok (.iconst 2, 1) := by decide +kernel
theorem dX3_runsOn_40 : decode cX3_runsOn 40 = .ok (.aload_n 1, 1) := by decide +kernel
theorem dX3_runsOn_41 : decode cX3_runsOn 41 = .ok (.getfield 173, 3) := by decide +kernel
theorem dX3_runsOn_44 : decode cX3_runsOn 44 = .ok (.iload_n 3, 1) := by decide +kernel
theorem dX3_runsOn_45 : decode cX3_runsOn 45 = .ok (.invokevirtual 62, 3) := by decide +kernel
theorem dX3_runsOn_48 : decode cX3_runsOn 48 = .ok (.pop, 1) := by decide +kernel
theorem dX3_runsOn_49 : decode cX3_runsOn 49 = .ok (.iload_n 3, 1) := by decide +kernel
theorem dX3_runsOn_50 : decode cX3_runsOn 50 = .ok (.aload_n 1, 1) := by decide +kernel
theorem dX3_runsOn_51 : decode cX3_runsOn 51 = .ok (.getfield 183, 3) := by decide +kernel
theorem dX3_runsOn_54 : decode cX3_runsOn 54 = .ok (.if_icmp .ne 15, 3) := by decide +kernel
theorem dX3_runsOn_57 : decode cX3_runsOn 57 = .ok (.aload_n 0, 1) := by decide +kernel
theorem dX3_runsOn_58 : decode cX3_runsOn 58 = .ok (.dup, 1) := by decide +kernel
theorem dX3_runsOn_59 : decode cX3_runsOn 59 = .ok (.getfield 134, 3) := by decide +kernel
theorem dX3_runsOn_62 : decode cX3_runsOn 62 = .ok (.iconst 1, 1) := by decide +kernel
theorem dX3_runsOn_63 : decode cX3_runsOn 63 = .ok (.iadd, 1) := by decide +kernel
theorem dX3_runsOn_64 : decode cX3_runsOn 64 = .ok (.putfield 134, 3) := by decide +kernel
theorem dX3_runsOn_67 : decode cX3_runsOn 67 = .ok (.iconst 0, 1) := by decide +kernel
theorem dX3_runsOn_68 : decode cX3_runsOn 68 = .ok (.ireturn, 1) := by decide +kernel
theorem dX3_runsOn_69 : decode cX3_runsOn 69 = .ok (.iconst 1, 1) := by decide +kernel
theorem dX3_runsOn_70 : decode cX3_runsOn 70 = .ok (.ireturn, 1) := by decide +kernel
theorem dX3_countDropped_0 : decode cX3_countDropped 0 = .ok (.iload_n 1, 1) := by decide +kernel
theorem dX3_countDropped_1 : decode cX3_countDropped 1 = .ok (.iconst 2, 1) := by decide +kernel
theorem dX3_countDropped_2 : decode cX3_countDropped 2 = .ok (.if_icmp .ne 16, 3) := by decide +kernel
theorem dX3_countDropped_5 : decode cX3_countDropped 5 = .ok (.aload_n 0, 1) := by decide +kernel
theorem dX3_countDropped_6 : decode cX3_countDropped 6 = .ok (.dup, 1) := by decide +kernel
theorem dX3_countDropped_7 : decode cX3_countDropped 7 = .ok (.getfield 137, 3) := by decide +kernel
theorem dX3_countDropped_10 : decode cX3_countDropped 10 = .ok (.iconst 1, 1) := by decide +kernel
theorem dX3_countDropped_11 : decode cX3_countDropped 11 = .ok (.iadd, 1) := by decide +kernel
theorem dX3_countDropped_12 : decode cX3_countDropped 12 = .ok (.putfield 137, 3) := by decide +kernel
theorem dX3_countDropped_15 : decode cX3_countDropped 15 = .ok (.goto 13, 3) := by decide +kernel
theorem dX3_countDropped_18 : decode cX3_countDropped 18 = .ok (.aload_n 0, 1) := by decide +kernel
theorem dX3_countDropped_19 : decode cX3_countDropped 19 = .ok (.dup, 1) := by decide +kernel
theorem dX3_countDropped_20 : decode cX3_countDropped 20 = .ok (.getfield 140, 3) := by decide +kernel
theorem dX3_countDropped_23 : decode cX3_countDropped 23 = .ok (.iconst 1, 1) := by decide +kernel
theorem dX3_countDropped_24 : decode cX3_countDropped 24 = .ok (.iadd, 1) := by decide +kernel
theorem dX3_countDropped_25 : decode cX3_countDropped 25 = .ok (.putfield 140, 3) := by decide +kernel
theorem dX3_countDropped_28 : decode cX3_countDropped 28 = .ok (.return_, 1) := by decide +kernel
theorem dX3_isBank_0 : decode cX3_isBank 0 = .ok (.iload_n 0, 1) := by decide +kernel
theorem dX3_isBank_1 : decode cX3_isBank 1 = .ok (.ifCond .lt 13, 3) := by decide +kernel
theorem dX3_isBank_4 : decode cX3_isBank 4 = .ok (.iload_n 0, 1) := by decide +kernel
theorem dX3_isBank_5 : decode cX3_isBank 5 = .ok (.bipush 6, 2) := by decide +kernel
theorem dX3_isBank_7 : decode cX3_isBank 7 = .ok (.if_icmp .ge 7, 3) := by decide +kernel
theorem dX3_isBank_10 : decode cX3_isBank 10 = .ok (.iconst 1, 1) := by decide +kernel
theorem dX3_isBank_11 : decode cX3_isBank 11 = .ok (.goto 4, 3) := by decide +kernel
theorem dX3_isBank_14 : decode cX3_isBank 14 = .ok (.iconst 0, 1) := by decide +kernel
theorem dX3_isBank_15 : decode cX3_isBank 15 = .ok (.ireturn, 1) := by decide +kernel
theorem dX3_isStrip_0 : decode cX3_isStrip 0 = .ok (.iload_n 0, 1) := by decide +kernel
theorem dX3_isStrip_1 : decode cX3_isStrip 1 = .ok (.ifCond .lt 12, 3) := by decide +kernel
theorem dX3_isStrip_4 : decode cX3_isStrip 4 = .ok (.iload_n 0, 1) := by decide +kernel
theorem dX3_isStrip_5 : decode cX3_isStrip 5 = .ok (.iconst 4, 1) := by decide +kernel
theorem dX3_isStrip_6 : decode cX3_isStrip 6 = .ok (.if_icmp .ge 7, 3) := by decide +kernel
theorem dX3_isStrip_9 : decode cX3_isStrip 9 = .ok (.iconst 1, 1) := by decide +kernel
theorem dX3_isStrip_10 : decode cX3_isStrip 10 = .ok (.goto 4, 3) := by decide +kernel
theorem dX3_isStrip_13 : decode cX3_isStrip 13 = .ok (.iconst 0, 1) := by decide +kernel
theorem dX3_isStrip_14 : decode cX3_isStrip 14 = .ok (.ireturn, 1) := by decide +kernel
theorem dX3_digitOf_0 : decode cX3_digitOf 0 = .ok (.iload_n 0, 1) := by decide +kernel
theorem dX3_digitOf_1 : decode cX3_digitOf 1 = .ok (.iconst 2, 1) := by decide +kernel
theorem dX3_digitOf_2 : decode cX3_digitOf 2 = .ok (.if_icmp .ne 5, 3) := by decide +kernel
theorem dX3_digitOf_5 : decode cX3_digitOf 5 = .ok (.iconst 1, 1) := by decide +kernel
theorem dX3_digitOf_6 : decode cX3_digitOf 6 = .ok (.ireturn, 1) := by decide +kernel
theorem dX3_digitOf_7 : decode cX3_digitOf 7 = .ok (.iload_n 0, 1) := by decide +kernel
theorem dX3_digitOf_8 : decode cX3_digitOf 8 = .ok (.iconst 3, 1) := by decide +kernel
theorem dX3_digitOf_9 : decode cX3_digitOf 9 = .ok (.if_icmp .ne 7, 3) := by decide +kernel
theorem dX3_digitOf_12 : decode cX3_digitOf 12 = .ok (.iconst 2, 1) := by decide +kernel
theorem dX3_digitOf_13 : decode cX3_digitOf 13 = .ok (.goto 4, 3) := by decide +kernel
theorem dX3_digitOf_16 : decode cX3_digitOf 16 = .ok (.iconst 0, 1) := by decide +kernel
theorem dX3_digitOf_17 : decode cX3_digitOf 17 = .ok (.ireturn, 1) := by decide +kernel
theorem dX3_asNumber_0 : decode cX3_asNumber 0 = .ok (.iload_n 0, 1) := by decide +kernel
theorem dX3_asNumber_1 : decode cX3_asNumber 1 = .ok (.tableswitch 40 0 2 #[27, 32, 35], 27) := by decide +kernel
theorem dX3_asNumber_28 : decode cX3_asNumber 28 = .ok (.iload_n 1, 1) := by decide +kernel
theorem dX3_asNumber_29 : decode cX3_asNumber 29 = .ok (.ldc 186, 2) := by decide +kernel
theorem dX3_asNumber_31 : decode cX3_asNumber 31 = .ok (.iand, 1) := by decide +kernel
theorem dX3_asNumber_32 : decode cX3_asNumber 32 = .ok (.ireturn, 1) := by decide +kernel
theorem dX3_asNumber_33 : decode cX3_asNumber 33 = .ok (.iload_n 1, 1) := by decide +kernel
theorem dX3_asNumber_34 : decode cX3_asNumber 34 = .ok (.i2s, 1) := by decide +kernel
theorem dX3_asNumber_35 : decode cX3_asNumber 35 = .ok (.ireturn, 1) := by decide +kernel
theorem dX3_asNumber_36 : decode cX3_asNumber 36 = .ok (.iload_n 1, 1) := by decide +kernel
theorem dX3_asNumber_37 : decode cX3_asNumber 37 = .ok (.invokestatic 70, 3) := by decide +kernel
theorem dX3_asNumber_40 : decode cX3_asNumber 40 = .ok (.ireturn, 1) := by decide +kernel
theorem dX3_asNumber_41 : decode cX3_asNumber 41 = .ok (.iload_n 1, 1) := by decide +kernel
theorem dX3_asNumber_42 : decode cX3_asNumber 42 = .ok (.iconst 1, 1) := by decide +kernel
theorem dX3_asNumber_43 : decode cX3_asNumber 43 = .ok (.iand, 1) := by decide +kernel
theorem dX3_asNumber_44 : decode cX3_asNumber 44 = .ok (.ireturn, 1) := by decide +kernel
theorem dX3_asLevel_0 : decode cX3_asLevel 0 = .ok (.ldc 187, 2) := by decide +kernel
theorem dX3_asLevel_2 : decode cX3_asLevel 2 = .ok (.ldc 188, 2) := by decide +kernel
theorem dX3_asLevel_4 : decode cX3_asLevel 4 = .ok (.iload_n 0, 1) := by decide +kernel
theorem dX3_asLevel_5 : decode cX3_asLevel 5 = .ok (.invokestatic 189, 3) := by decide +kernel
theorem dX3_asLevel_8 : decode cX3_asLevel 8 = .ok (.invokestatic 194, 3) := by decide +kernel
theorem dX3_asLevel_11 : decode cX3_asLevel 11 = .ok (.ireturn, 1) := by decide +kernel
end
section
theorem dX4_init_0 : decode cX4_init 0 = .ok (.aload_n 0, 1) := by decide +kernel
theorem dX4_init_1 : decode cX4_init 1 = .ok (.invokespecial 1, 3) := by decide +kernel
theorem dX4_init_4 : decode cX4_init 4 = .ok (.aload_n 0, 1) := by decide +kernel
theorem dX4_init_5 : decode cX4_init 5 = .ok (.bipush 24, 2) := by decide +kernel
theorem dX4_init_7 : decode cX4_init 7 = .ok (.newarray .int, 2) := by decide +kernel
theorem dX4_init_9 : decode cX4_init 9 = .ok (.putfield 7, 3) := by decide +kernel
theorem dX4_init_12 : decode cX4_init 12 = .ok (.aload_n 0, 1) := by decide +kernel
theorem dX4_init_13 : decode cX4_init 13 = .ok (.bipush 24, 2) := by decide +kernel
theorem dX4_init_15 : decode cX4_init 15 = .ok (.newarray .int, 2) := by decide +kernel
theorem dX4_init_17 : decode cX4_init 17 = .ok (.putfield 13, 3) := by decide +kernel
theorem dX4_init_20 : decode cX4_init 20 = .ok (.aload_n 0, 1) := by decide +kernel
theorem dX4_init_21 : decode cX4_init 21 = .ok (.sipush 600, 3) := by decide +kernel
theorem dX4_init_24 : decode cX4_init 24 = .ok (.newarray .int, 2) := by decide +kernel
theorem dX4_init_26 : decode cX4_init 26 = .ok (.putfield 16, 3) := by decide +kernel
theorem dX4_init_29 : decode cX4_init 29 = .ok (.aload_n 0, 1) := by decide +kernel
theorem dX4_init_30 : decode cX4_init 30 = .ok (.bipush 12, 2) := by decide +kernel
theorem dX4_init_32 : decode cX4_init 32 = .ok (.newarray .int, 2) := by decide +kernel
theorem dX4_init_34 : decode cX4_init 34 = .ok (.putfield 19, 3) := by decide +kernel
theorem dX4_init_37 : decode cX4_init 37 = .ok (.aload_n 0, 1) := by decide +kernel
theorem dX4_init_38 : decode cX4_init 38 = .ok (.sipush 144, 3) := by decide +kernel
theorem dX4_init_41 : decode cX4_init 41 = .ok (.newarray .int, 2) := by decide +kernel
theorem dX4_init_43 : decode cX4_init 43 = .ok (.putfield 22, 3) := by decide +kernel
theorem dX4_init_46 : decode cX4_init 46 = .ok (.aload_n 0, 1) := by decide +kernel
theorem dX4_init_47 : decode cX4_init 47 = .ok (.bipush 16, 2) := by decide +kernel
theorem dX4_init_49 : decode cX4_init 49 = .ok (.newarray .int, 2) := by decide +kernel
theorem dX4_init_51 : decode cX4_init 51 = .ok (.putfield 25, 3) := by decide +kernel
theorem dX4_init_54 : decode cX4_init 54 = .ok (.aload_n 0, 1) := by decide +kernel
theorem dX4_init_55 : decode cX4_init 55 = .ok (.bipush 16, 2) := by decide +kernel
theorem dX4_init_57 : decode cX4_init 57 = .ok (.newarray .int, 2) := by decide +kernel
theorem dX4_init_59 : decode cX4_init 59 = .ok (.putfield 28, 3) := by decide +kernel
theorem dX4_init_62 : decode cX4_init 62 = .ok (.aload_n 0, 1) := by decide +kernel
theorem dX4_init_63 : decode cX4_init 63 = .ok (.bipush 16, 2) := by decide +kernel
theorem dX4_init_65 : decode cX4_init 65 = .ok (.newarray .int, 2) := by decide +kernel
theorem dX4_init_67 : decode cX4_init 67 = .ok (.putfield 31, 3) := by decide +kernel
theorem dX4_init_70 : decode cX4_init 70 = .ok (.aload_n 0, 1) := by decide +kernel
theorem dX4_init_71 : decode cX4_init 71 = .ok (.bipush 16, 2) := by decide +kernel
theorem dX4_init_73 : decode cX4_init 73 = .ok (.newarray .int, 2) := by decide +kernel
theorem dX4_init_75 : decode cX4_init 75 = .ok (.putfield 34, 3) := by decide +kernel
theorem dX4_init_78 : decode cX4_init 78 = .ok (.iconst 0, 1) := by decide +kernel
theorem dX4_init_79 : decode cX4_init 79 = .ok (.istore_n 1, 1) := by decide +kernel
theorem dX4_init_80 : decode cX4_init 80 = .ok (.iload_n 1, 1) := by decide +kernel
theorem dX4_init_81 : decode cX4_init 81 = .ok (.bipush 24, 2) := by decide +kernel
theorem dX4_init_83 : decode cX4_init 83 = .ok (.if_icmp .ge 16, 3) := by decide +kernel
theorem dX4_init_86 : decode cX4_init 86 = .ok (.aload_n 0, 1) := by decide +kernel
theorem dX4_init_87 : decode cX4_init 87 = .ok (.getfield 7, 3) := by decide +kernel
theorem dX4_init_90 : decode cX4_init 90 = .ok (.iload_n 1, 1) := by decide +kernel
theorem dX4_init_91 : decode cX4_init 91 = .ok (.iconst (-1), 1) := by decide +kernel
theorem dX4_init_92 : decode cX4_init 92 = .ok (.iastore, 1) := by decide +kernel
theorem dX4_init_93 : decode cX4_init 93 = .ok (.iinc 1 1, 3) := by decide +kernel
theorem dX4_init_96 : decode cX4_init 96 = .ok (.goto (-16), 3) := by decide +kernel
theorem dX4_init_99 : decode cX4_init 99 = .ok (.return_, 1) := by decide +kernel
theorem dX4_in_0 : decode cX4_in 0 = .ok (.iload_n 0, 1) := by decide +kernel
theorem dX4_in_1 : decode cX4_in 1 = .ok (.iload_n 1, 1) := by decide +kernel
theorem dX4_in_2 : decode cX4_in 2 = .ok (.if_icmp .lt 12, 3) := by decide +kernel
theorem dX4_in_5 : decode cX4_in 5 = .ok (.iload_n 0, 1) := by decide +kernel
theorem dX4_in_6 : decode cX4_in 6 = .ok (.iload_n 2, 1) := by decide +kernel
theorem dX4_in_7 : decode cX4_in 7 = .ok (.if_icmp .gt 7, 3) := by decide +kernel
theorem dX4_in_10 : decode cX4_in 10 = .ok (.iconst 1, 1) := by decide +kernel
theorem dX4_in_11 : decode cX4_in 11 = .ok (.goto 4, 3) := by decide +kernel
theorem dX4_in_14 : decode cX4_in 14 = .ok (.iconst 0, 1) := by decide +kernel
theorem dX4_in_15 : decode cX4_in 15 = .ok (.ireturn, 1) := by decide +kernel
theorem dX4_isBank_0 : decode cX4_isBank 0 = .ok (.iload_n 0, 1) := by decide +kernel
theorem dX4_isBank_1 : decode cX4_isBank 1 = .ok (.iconst 0, 1) := by decide +kernel
theorem dX4_isBank_2 : decode cX4_isBank 2 = .ok (.iconst 5, 1) := by decide +kernel
theorem dX4_isBank_3 : decode cX4_isBank 3 = .ok (.invokestatic 37, 3) := by decide +kernel
theorem dX4_isBank_6 : decode cX4_isBank 6 = .ok (.ireturn, 1) := by decide +kernel
theorem dX4_isStrip_0 : decode cX4_isStrip 0 = .ok (.iload_n 0, 1) := by decide +kernel
theorem dX4_isStrip_1 : decode cX4_isStrip 1 = .ok (.iconst 0, 1) := by decide +kernel
theorem dX4_isStrip_2 : decode cX4_isStrip 2 = .ok (.iconst 3, 1) := by decide +kernel
theorem dX4_isStrip_3 : decode cX4_isStrip 3 = .ok (.invokestatic 37, 3) := by decide +kernel
theorem dX4_isStrip_6 : decode cX4_isStrip 6 = .ok (.ireturn, 1) := by decide +kernel
theorem dX4_begins_0 : decode cX4_begins 0 = .ok (.aload_n 0, 1) := by decide +kernel
theorem dX4_begins_1 : decode cX4_begins 1 = .ok (.iload_n 1, 1) := by decide +kernel
theorem dX4_begins_2 : decode cX4_begins 2 = .ok (.ifCond .eq 7, 3) := by decide +kernel
theorem dX4_begins_5 : decode cX4_begins 5 = .ok (.iconst 0, 1) := by decide +kernel
theorem dX4_begins_6 : decode cX4_begins 6 = .ok (.goto 4, 3) := by decide +kernel
theorem dX4_begins_9 : decode cX4_begins 9 = .ok (.iconst 1, 1) := by decide +kernel
theorem dX4_begins_10 : decode cX4_begins 10 = .ok (.putfield 41, 3) := by decide +kernel
theorem dX4_begins_13 : decode cX4_begins 13 = .ok (.iload_n 1, 1) := by decide +kernel
theorem dX4_begins_14 : decode cX4_begins 14 = .ok (.ireturn, 1) := by decide +kernel
theorem dX4_nearest_0 : decode cX4_nearest 0 = .ok (.iload_n 0, 1) := by decide +kernel
theorem dX4_nearest_1 : decode cX4_nearest 1 = .ok (.ldc 45, 2) := by decide +kernel
theorem dX4_nearest_3 : decode cX4_nearest 3 = .ok (.if_icmp .ge 8, 3) := by decide +kernel
theorem dX4_nearest_6 : decode cX4_nearest 6 = .ok (.ldc 45, 2) := by decide +kernel
theorem dX4_nearest_8 : decode cX4_nearest 8 = .ok (.goto 15, 3) := by decide +kernel
theorem dX4_nearest_11 : decode cX4_nearest 11 = .ok (.iload_n 0, 1) := by decide +kernel
theorem dX4_nearest_12 : decode cX4_nearest 12 = .ok (.ldc 46, 2) := by decide +kernel
theorem dX4_nearest_14 : decode cX4_nearest 14 = .ok (.if_icmp .le 8, 3) := by decide +kernel
theorem dX4_nearest_17 : decode cX4_nearest 17 = .ok (.ldc 46, 2) := by decide +kernel
theorem dX4_nearest_19 : decode cX4_nearest 19 = .ok (.goto 4, 3) := by decide +kernel
theorem dX4_nearest_22 : decode cX4_nearest 22 = .ok (.iload_n 0, 1) := by decide +kernel
theorem dX4_nearest_23 : decode cX4_nearest 23 = .ok (.ireturn, 1) := by decide +kernel
theorem dX4_kept_0 : decode cX4_kept 0 = .ok (.iload_n 0, 1) := by decide +kernel
theorem dX4_kept_1 : decode cX4_kept 1 = .ok (.ifCond .ne 8, 3) := by decide +kernel
theorem dX4_kept_4 : decode cX4_kept 4 = .ok (.iload_n 1, 1) := by decide +kernel
theorem dX4_kept_5 : decode cX4_kept 5 = .ok (.ldc 47, 2) := by decide +kernel
theorem dX4_kept_7 : decode cX4_kept 7 = .ok (.iand, 1) := by decide +kernel
theorem dX4_kept_8 : decode cX4_kept 8 = .ok (.ireturn, 1) := by decide +kernel
theorem dX4_kept_9 : decode cX4_kept 9 = .ok (.iload_n 0, 1) := by decide +kernel
theorem dX4_kept_10 : decode cX4_kept 10 = .ok (.iconst 1, 1) := by decide +kernel
theorem dX4_kept_11 : decode cX4_kept 11 = .ok (.if_icmp .ne 24, 3) := by decide +kernel
theorem dX4_kept_14 : decode cX4_kept 14 = .ok (.iload_n 1, 1) := by decide +kernel
theorem dX4_kept_15 : decode cX4_kept 15 = .ok (.ldc 47, 2) := by decide +kernel
theorem dX4_kept_17 : decode cX4_kept 17 = .ok (.iand, 1) := by decide +kernel
theorem dX4_kept_18 : decode cX4_kept 18 = .ok (.istore_n 2, 1) := by decide +kernel
theorem dX4_kept_19 : decode cX4_kept 19 = .ok (.iload_n 2, 1) := by decide +kernel
theorem dX4_kept_20 : decode cX4_kept 20 = .ok (.sipush 32767, 3) := by decide +kernel
theorem dX4_kept_23 : decode cX4_kept 23 = .ok (.if_icmp .le 10, 3) := by decide +kernel
theorem dX4_kept_26 : decode cX4_kept 26 = .ok (.iload_n 2, 1) := by decide +kernel
theorem dX4_kept_27 : decode cX4_kept 27 = .ok (.ldc 48, 2) := by decide +kernel
theorem dX4_kept_29 : decode cX4_kept 29 = .ok (.isub, 1) := by decide +kernel
theorem dX4_kept_30 : decode cX4_kept 30 = .ok (.goto 4, 3) := by decide +kernel
theorem dX4_kept_33 : decode cX4_kept 33 = .ok (.iload_n 2, 1) := by decide +kernel
theorem dX4_kept_34 : decode cX4_kept 34 = .ok (.ireturn, 1) := by decide +kernel
theorem dX4_kept_35 : decode cX4_kept 35 = .ok (.iload_n 0, 1) := by decide +kernel
theorem dX4_kept_36 : decode cX4_kept 36 = .ok (.iconst 2, 1) := by decide +kernel
theorem dX4_kept_37 : decode cX4_kept 37 = .ok (.if_icmp .ne 10, 3) := by decide +kernel
theorem dX4_kept_40 : decode cX4_kept 40 = .ok (.iload_n 1, 1) := by decide +kernel
theorem dX4_kept_41 : decode cX4_kept 41 = .ok (.invokestatic 49, 3) := by decide +kernel
theorem dX4_kept_44 : decode cX4_kept 44 = .ok (.goto 6, 3) := by decide +kernel
theorem dX4_kept_47 : decode cX4_kept 47 = .ok (.iload_n 1, 1) := by decide +kernel
theorem dX4_kept_48 : decode cX4_kept 48 = .ok (.iconst 1, 1) := by decide +kernel
theorem dX4_kept_49 : decode cX4_kept 49 = .ok (.iand, 1) := by decide +kernel
theorem dX4_kept_50 : decode cX4_kept 50 = .ok (.ireturn, 1) := by decide +kernel
theorem dX4_why_0 : decode cX4_why 0 = .ok (.aload_n 0, 1) := by decide +kernel
theorem dX4_why_1 : decode cX4_why 1 = .ok (.getfield 7, 3) := by decide +kernel
theorem dX4_why_4 : decode cX4_why 4 = .ok (.iconst 4, 1) := by decide +kernel
theorem dX4_why_5 : decode cX4_why 5 = .ok (.iload_n 1, 1) := by decide +kernel
theorem dX4_why_6 : decode cX4_why 6 = .ok (.imul, 1) := by decide +kernel
theorem dX4_why_7 : decode cX4_why 7 = .ok (.iload_n 2, 1) := by decide +kernel
theorem dX4_why_8 : decode cX4_why 8 = .ok (.iadd, 1) := by decide +kernel
theorem dX4_why_9 : decode cX4_why 9 = .ok (.iaload, 1) := by decide +kernel
theorem dX4_why_10 : decode cX4_why 10 = .ok (.istore 4, 2) := by decide +kernel
theorem dX4_why_12 : decode cX4_why 12 = .ok (.iload 4, 2) := by decide +kernel
theorem dX4_why_14 : decode cX4_why 14 = .ok (.iconst (-1), 1) := by decide +kernel
theorem dX4_why_15 : decode cX4_why 15 = .ok (.if_icmp .ne 5, 3) := by decide +kernel
theorem dX4_why_18 : decode cX4_why 18 = .ok (.iconst 2, 1) := by decide +kernel
theorem dX4_why_19 : decode cX4_why 19 = .ok (.ireturn, 1) := by decide +kernel
theorem dX4_why_20 : decode cX4_why 20 = .ok (.iload_n 3, 1) := by decide +kernel
theorem dX4_why_21 : decode cX4_why 21 = .ok (.iconst 0, 1) := by decide +kernel
theorem dX4_why_22 : decode cX4_why 22 = .ok (.aload_n 0, 1) := by decide +kernel
theorem dX4_why_23 : decode cX4_why 23 = .ok (.getfield 13, 3) := by decide +kernel
theorem dX4_why_26 : decode cX4_why 26 = .ok (.iload 4, 2) := by decide +kernel
theorem dX4_why_28 : decode cX4_why 28 = .ok (.iaload, 1) := by decide +kernel
theorem dX4_why_29 : decode cX4_why 29 = .ok (.iconst 1, 1) := by decide +kernel
theorem dX4_why_30 : decode cX4_why 30 = .ok (.isub, 1) := by decide +kernel
theorem dX4_why_31 : decode cX4_why 31 = .ok (.invokestatic 37, 3) := by decide +kernel
theorem dX4_why_34 : decode cX4_why 34 = .ok (.ifCond .eq 7, 3) := by decide +kernel
theorem dX4_why_37 : decode cX4_why 37 = .ok (.iconst 0, 1) := by decide +kernel
theorem dX4_why_38 : decode cX4_why 38 = .ok (.goto 4, 3) := by decide +kernel
theorem dX4_why_41 : decode cX4_why 41 = .ok (.iconst 3, 1) := by decide +kernel
theorem dX4_why_42 : decode cX4_why 42 = .ok (.ireturn, 1) := by decide +kernel
theorem dX4_refused_0 : decode cX4_refused 0 = .ok (.aload_n 0, 1) := by decide +kernel
theorem dX4_refused_1 : decode cX4_refused 1 = .ok (.aload_n 0, 1) := by decide +kernel
theorem dX4_refused_2 : decode cX4_refused 2 = .ok (.iload_n 1, 1) := by decide +kernel
theorem dX4_refused_3 : decode cX4_refused 3 = .ok (.iload_n 2, 1) := by decide +kernel
theorem dX4_refused_4 : decode cX4_refused 4 = .ok (.iload_n 3, 1) := by decide +kernel
theorem dX4_refused_5 : decode cX4_refused 5 = .ok (.invokevirtual 53, 3) := by decide +kernel
theorem dX4_refused_8 : decode cX4_refused 8 = .ok (.invokevirtual 57, 3) := by decide +kernel
theorem dX4_refused_11 : decode cX4_refused 11 = .ok (.ireturn, 1) := by decide +kernel
theorem dX4_counted_0 : decode cX4_counted 0 = .ok (.aload_n 0, 1) := by decide +kernel
theorem dX4_counted_1 : decode cX4_counted 1 = .ok (.dup, 1) := by decide +kernel
theorem dX4_counted_2 : decode cX4_counted 2 = .ok (.getfield 60, 3) := by decide +kernel
theorem dX4_counted_5 : decode cX4_counted 5 = .ok (.iload_n 1, 1) := by decide +kernel
theorem dX4_counted_6 : decode cX4_counted 6 = .ok (.iconst 2, 1) := by decide +kernel
theorem dX4_counted_7 : decode cX4_counted 7 = .ok (.if_icmp .ne 7, 3) := by decide +kernel
theorem dX4_counted_10 : decode cX4_counted 10 = .ok (.iconst 1, 1) := by decide +kernel
theorem dX4_counted_11 : decode cX4_counted 11 = .ok (.goto 4, 3) := by decide +kernel
theorem dX4_counted_14 : decode cX4_counted 14 = .ok (.iconst 0, 1) := by decide +kernel
theorem dX4_counted_15 : decode cX4_counted 15 = .ok (.iadd, 1) := by decide +kernel
theorem dX4_counted_16 : decode cX4_counted 16 = .ok (.putfield 60, 3) := by decide +kernel
theorem dX4_counted_19 : decode cX4_counted 19 = .ok (.aload_n 0, 1) := by decide +kernel
theorem dX4_counted_20 : decode cX4_counted 20 = .ok (.dup, 1) := by decide +kernel
theorem dX4_counted_21 : decode cX4_counted 21 = .ok (.getfield 63, 3) := by decide +kernel
theorem dX4_counted_24 : decode cX4_counted 24 = .ok (.iload_n 1, 1) := by decide +kernel
theorem dX4_counted_25 : decode cX4_counted 25 = .ok (.iconst 3, 1) := by decide +kernel
theorem dX4_counted_26 : decode cX4_counted 26 = .ok (.if_icmp .ne 7, 3) := by decide +kernel
theorem dX4_counted_29 : decode cX4_counted 29 = .ok (.iconst 1, 1) := by decide +kernel
theorem dX4_counted_30 : decode cX4_counted 30 = .ok (.goto 4, 3) := by decide +kernel
theorem dX4_counted_33 : decode cX4_counted 33 = .ok (.iconst 0, 1) := by decide +kernel
theorem dX4_counted_34 : decode cX4_counted 34 = .ok (.iadd, 1) := by decide +kernel
theorem dX4_counted_35 : decode cX4_counted 35 = .ok (.putfield 63, 3) := by decide +kernel
theorem dX4_counted_38 : decode cX4_counted 38 = .ok (.iload_n 1, 1) := by decide +kernel
theorem dX4_counted_39 : decode cX4_counted 39 = .ok (.ireturn, 1) := by decide +kernel
theorem dX4_at_0 : decode cX4_at 0 = .ok (.aload_n 0, 1) := by decide +kernel
theorem dX4_at_1 : decode cX4_at 1 = .ok (.getfield 16, 3) := by decide +kernel
theorem dX4_at_4 : decode cX4_at 4 = .ok (.bipush 25, 2) := by decide +kernel
theorem dX4_at_6 : decode cX4_at 6 = .ok (.aload_n 0, 1) := by decide +kernel
theorem dX4_at_7 : decode cX4_at 7 = .ok (.getfield 7, 3) := by decide +kernel
theorem dX4_at_10 : decode cX4_at 10 = .ok (.iconst 4, 1) := by decide +kernel
theorem dX4_at_11 : decode cX4_at 11 = .ok (.iload_n 1, 1) := by decide +kernel
theorem dX4_at_12 : decode cX4_at 12 = .ok (.imul, 1) := by decide +kernel
theorem dX4_at_13 : decode cX4_at 13 = .ok (.iload_n 2, 1) := by decide +kernel
theorem dX4_at_14 : decode cX4_at 14 = .ok (.iadd, 1) := by decide +kernel
theorem dX4_at_15 : decode cX4_at 15 = .ok (.iaload, 1) := by decide +kernel
theorem dX4_at_16 : decode cX4_at 16 = .ok (.imul, 1) := by decide +kernel
theorem dX4_at_17 : decode cX4_at 17 = .ok (.iload_n 3, 1) := by decide +kernel
theorem dX4_at_18 : decode cX4_at 18 = .ok (.iadd, 1) := by decide +kernel
theorem dX4_at_19 : decode cX4_at 19 = .ok (.iaload, 1) := by decide +kernel
theorem dX4_at_20 : decode cX4_at 20 = .ok (.ireturn, 1) := by decide +kernel
theorem dX4_put_0 : decode cX4_put 0 = .ok (.aload_n 0, 1) := by decide +kernel
theorem dX4_put_1 : decode cX4_put 1 = .ok (.getfield 16, 3) := by decide +kernel
theorem dX4_put_4 : decode cX4_put 4 = .ok (.bipush 25, 2) := by decide +kernel
theorem dX4_put_6 : decode cX4_put 6 = .ok (.aload_n 0, 1) := by decide +kernel
theorem dX4_put_7 : decode cX4_put 7 = .ok (.getfield 7, 3) := by decide +kernel
theorem dX4_put_10 : decode cX4_put 10 = .ok (.iconst 4, 1) := by decide +kernel
theorem dX4_put_11 : decode cX4_put 11 = .ok (.iload_n 1, 1) := by decide +kernel
theorem dX4_put_12 : decode cX4_put 12 = .ok (.imul, 1) := by decide +kernel
theorem dX4_put_13 : decode cX4_put 13 = .ok (.iload_n 2, 1) := by decide +kernel
theorem dX4_put_14 : decode cX4_put 14 = .ok (.iadd, 1) := by decide +kernel
theorem dX4_put_15 : decode cX4_put 15 = .ok (.iaload, 1) := by decide +kernel
theorem dX4_put_16 : decode cX4_put 16 = .ok (.imul, 1) := by decide +kernel
theorem dX4_put_17 : decode cX4_put 17 = .ok (.iload_n 3, 1) := by decide +kernel
theorem dX4_put_18 : decode cX4_put 18 = .ok (.iadd, 1) := by decide +kernel
theorem dX4_put_19 : decode cX4_put 19 = .ok (.iload_n 2, 1) := by decide +kernel
theorem dX4_put_20 : decode cX4_put 20 = .ok (.iload 4, 2) := by decide +kernel
theorem dX4_put_22 : decode cX4_put 22 = .ok (.invokestatic 66, 3) := by decide +kernel
theorem dX4_put_25 : decode cX4_put 25 = .ok (.iastore, 1) := by decide +kernel
theorem dX4_put_26 : decode cX4_put 26 = .ok (.aload_n 0, 1) := by decide +kernel
theorem dX4_put_27 : decode cX4_put 27 = .ok (.dup, 1) := by decide +kernel
theorem dX4_put_28 : decode cX4_put 28 = .ok (.getfield 70, 3) := by decide +kernel
theorem dX4_put_31 : decode cX4_put 31 = .ok (.iconst 1, 1) := by decide +kernel
theorem dX4_put_32 : decode cX4_put 32 = .ok (.iadd, 1) := by decide +kernel
theorem dX4_put_33 : decode cX4_put 33 = .ok (.putfield 70, 3) := by decide +kernel
theorem dX4_put_36 : decode cX4_put 36 = .ok (.return_, 1) := by decide +kernel
theorem dX4_hang_0 : decode cX4_hang 0 = .ok (.aload_n 0, 1) := by decide +kernel
theorem dX4_hang_1 : decode cX4_hang 1 = .ok (.iload_n 1, 1) := by decide +kernel
theorem dX4_hang_2 : decode cX4_hang 2 = .ok (.invokestatic 73, 3) := by decide +kernel
theorem dX4_hang_5 : decode cX4_hang 5 = .ok (.ifCond .eq 14, 3) := by decide +kernel
theorem dX4_hang_8 : decode cX4_hang 8 = .ok (.iload_n 2, 1) := by decide +kernel
theorem dX4_hang_9 : decode cX4_hang 9 = .ok (.invokestatic 77, 3) := by decide +kernel
theorem dX4_hang_12 : decode cX4_hang 12 = .ok (.ifCond .eq 7, 3) := by decide +kernel
theorem dX4_hang_15 : decode cX4_hang 15 = .ok (.iconst 1, 1) := by decide +kernel
theorem dX4_hang_16 : decode cX4_hang 16 = .ok (.goto 4, 3) := by decide +kernel
theorem dX4_hang_19 : decode cX4_hang 19 = .ok (.iconst 0, 1) := by decide +kernel
theorem dX4_hang_20 : decode cX4_hang 20 = .ok (.invokevirtual 80, 3) := by decide +kernel
theorem dX4_hang_23 : decode cX4_hang 23 = .ok (.ifCond .ne 5, 3) := by decide +kernel
theorem dX4_hang_26 : decode cX4_hang 26 = .ok (.iconst 0, 1) := by decide +kernel
theorem dX4_hang_27 : decode cX4_hang 27 = .ok (.ireturn, 1) := by decide +kernel
theorem dX4_hang_28 : decode cX4_hang 28 = .ok (.iload_n 3, 1) := by decide +kernel
theorem dX4_hang_29 : decode cX4_hang 29 = .ok (.bipush 24, 2) := by decide +kernel
theorem dX4_hang_31 : decode cX4_hang 31 = .ok (.if_icmp .le 10, 3) := by decide +kernel
theorem dX4_hang_34 : decode cX4_hang 34 = .ok (.aload_n 0, 1) := by decide +kernel
theorem dX4_hang_35 : decode cX4_hang 35 = .ok (.iconst 5, 1) := by decide +kernel
theorem dX4_hang_36 : decode cX4_hang 36 = .ok (.putfield 41, 3) := by decide +kernel
theorem dX4_hang_39 : decode cX4_hang 39 = .ok (.iconst 0, 1) := by decide +kernel
theorem dX4_hang_40 : decode cX4_hang 40 = .ok (.ireturn, 1) := by decide +kernel
theorem dX4_hang_41 : decode cX4_hang 41 = .ok (.iload_n 3, 1) := by decide +kernel
theorem dX4_hang_42 : decode cX4_hang 42 = .ok (.ifCond .ge 20, 3) := by decide +kernel
theorem dX4_hang_45 : decode cX4_hang 45 = .ok (.aload_n 0, 1) := by decide +kernel
theorem dX4_hang_46 : decode cX4_hang 46 = .ok (.iconst 4, 1) := by decide +kernel
theorem dX4_hang_47 : decode cX4_hang 47 = .ok (.putfield 41, 3) := by decide +kernel
theorem dX4_hang_50 : decode cX4_hang 50 = .ok (.aload_n 0, 1) := by decide +kernel
theorem dX4_hang_51 : decode cX4_hang 51 = .ok (.dup, 1) := by decide +kernel
theorem dX4_hang_52 : decode cX4_hang 52 = .ok (.getfield 84, 3) := by decide +kernel
theorem dX4_hang_55 : decode cX4_hang 55 = .ok (.iconst 1, 1) := by decide +kernel
theorem dX4_hang_56 : decode cX4_hang 56 = .ok (.iadd, 1) := by decide +kernel
theorem dX4_hang_57 : decode cX4_hang 57 = .ok (.putfield 84, 3) := by decide +kernel
theorem dX4_hang_60 : decode cX4_hang 60 = .ok (.iconst 0, 1) := by decide +kernel
theorem dX4_hang_61 : decode cX4_hang 61 = .ok (.ireturn, 1) := by decide +kernel
theorem dX4_hang_62 : decode cX4_hang 62 = .ok (.iconst 4, 1) := by decide +kernel
theorem dX4_hang_63 : decode cX4_hang 63 = .ok (.iload_n 1, 1) := by decide +kernel
theorem dX4_hang_64 : decode cX4_hang 64 = .ok (.imul, 1) := by decide +kernel
theorem dX4_hang_65 : decode cX4_hang 65 = .ok (.iload_n 2, 1) := by decide +kernel
theorem dX4_hang_66 : decode cX4_hang 66 = .ok (.iadd, 1) := by decide +kernel
theorem dX4_hang_67 : decode cX4_hang 67 = .ok (.istore 4, 2) := by decide +kernel
theorem dX4_hang_69 : decode cX4_hang 69 = .ok (.aload_n 0, 1) := by decide +kernel
theorem dX4_hang_70 : decode cX4_hang 70 = .ok (.getfield 7, 3) := by decide +kernel
theorem dX4_hang_73 : decode cX4_hang 73 = .ok (.iload 4, 2) := by decide +kernel
theorem dX4_hang_75 : decode cX4_hang 75 = .ok (.iconst (-1), 1) := by decide +kernel
theorem dX4_hang_76 : decode cX4_hang 76 = .ok (.iastore, 1) := by decide +kernel
theorem dX4_hang_77 : decode cX4_hang 77 = .ok (.iconst 0, 1) := by decide +kernel
theorem dX4_hang_78 : decode cX4_hang 78 = .ok (.istore 5, 2) := by decide +kernel
theorem dX4_hang_80 : decode cX4_hang 80 = .ok (.iconst 0, 1) := by decide +kernel
theorem dX4_hang_81 : decode cX4_hang 81 = .ok (.istore 6, 2) := by decide +kernel
theorem dX4_hang_83 : decode cX4_hang 83 = .ok (.iload 6, 2) := by decide +kernel
theorem dX4_hang_85 : decode cX4_hang 85 = .ok (.ifCond .ne 64, 3) := by decide +kernel
theorem dX4_hang_88 : decode cX4_hang 88 = .ok (.iconst 1, 1) := by decide +kernel
theorem dX4_hang_89 : decode cX4_hang 89 = .ok (.istore 6, 2) := by decide +kernel
theorem dX4_hang_91 : decode cX4_hang 91 = .ok (.iconst 0, 1) := by decide +kernel
theorem dX4_hang_92 : decode cX4_hang 92 = .ok (.istore 7, 2) := by decide +kernel
theorem dX4_hang_94 : decode cX4_hang 94 = .ok (.iload 7, 2) := by decide +kernel
theorem dX4_hang_96 : decode cX4_hang 96 = .ok (.bipush 24, 2) := by decide +kernel
theorem dX4_hang_98 : decode cX4_hang 98 = .ok (.if_icmp .ge 33, 3) := by decide +kernel
theorem dX4_hang_101 : decode cX4_hang 101 = .ok (.iload 6, 2) := by decide +kernel
theorem dX4_hang_103 : decode cX4_hang 103 = .ok (.ifCond .eq 19, 3) := by decide +kernel
theorem dX4_hang_106 : decode cX4_hang 106 = .ok (.aload_n 0, 1) := by decide +kernel
theorem dX4_hang_107 : decode cX4_hang 107 = .ok (.getfield 7, 3) := by decide +kernel
theorem dX4_hang_110 : decode cX4_hang 110 = .ok (.iload 7, 2) := by decide +kernel
theorem dX4_hang_112 : decode cX4_hang 112 = .ok (.iaload, 1) := by decide +kernel
theorem dX4_hang_113 : decode cX4_hang 113 = .ok (.iload 5, 2) := by decide +kernel
theorem dX4_hang_115 : decode cX4_hang 115 = .ok (.if_icmp .eq 7, 3) := by decide +kernel
theorem dX4_hang_118 : decode cX4_hang 118 = .ok (.iconst 1, 1) := by decide +kernel
theorem dX4_hang_119 : decode cX4_hang 119 = .ok (.goto 4, 3) := by decide +kernel
theorem dX4_hang_122 : decode cX4_hang 122 = .ok (.iconst 0, 1) := by decide +kernel
theorem dX4_hang_123 : decode cX4_hang 123 = .ok (.istore 6, 2) := by decide +kernel
theorem dX4_hang_125 : decode cX4_hang 125 = .ok (.iinc 7 1, 3) := by decide +kernel
theorem dX4_hang_128 : decode cX4_hang 128 = .ok (.goto (-34), 3) := by decide +kernel
theorem dX4_hang_131 : decode cX4_hang 131 = .ok (.iload 5, 2) := by decide +kernel
theorem dX4_hang_133 : decode cX4_hang 133 = .ok (.iload 6, 2) := by decide +kernel
theorem dX4_hang_135 : decode cX4_hang 135 = .ok (.ifCond .eq 7, 3) := by decide +kernel
theorem dX4_hang_138 : decode cX4_hang 138 = .ok (.iconst 0, 1) := by decide +kernel
theorem dX4_hang_139 : decode cX4_hang 139 = .ok (.goto 4, 3) := by decide +kernel
theorem dX4_hang_142 : decode cX4_hang 142 = .ok (.iconst 1, 1) := by decide +kernel
theorem dX4_hang_143 : decode cX4_hang 143 = .ok (.iadd, 1) := by decide +kernel
theorem dX4_hang_144 : decode cX4_hang 144 = .ok (.istore 5, 2) := by decide +kernel
theorem dX4_hang_146 : decode cX4_hang 146 = .ok (.goto (-63), 3) := by decide +kernel
theorem dX4_hang_149 : decode cX4_hang 149 = .ok (.aload_n 0, 1) := by decide +kernel
theorem dX4_hang_150 : decode cX4_hang 150 = .ok (.getfield 7, 3) := by decide +kernel
theorem dX4_hang_153 : decode cX4_hang 153 = .ok (.iload 4, 2) := by decide +kernel
theorem dX4_hang_155 : decode cX4_hang 155 = .ok (.iload 5, 2) := by decide +kernel
theorem dX4_hang_157 : decode cX4_hang 157 = .ok (.iastore, 1) := by decide +kernel
theorem dX4_hang_158 : decode cX4_hang 158 = .ok (.aload_n 0, 1) := by decide +kernel
theorem dX4_hang_159 : decode cX4_hang 159 = .ok (.getfield 13, 3) := by decide +kernel
theorem dX4_hang_162 : decode cX4_hang 162 = .ok (.iload 5, 2) := by decide +kernel
theorem dX4_hang_164 : decode cX4_hang 164 = .ok (.iload_n 3, 1) := by decide +kernel
theorem dX4_hang_165 : decode cX4_hang 165 = .ok (.iastore, 1) := by decide +kernel
theorem dX4_hang_166 : decode cX4_hang 166 = .ok (.iconst 0, 1) := by decide +kernel
theorem dX4_hang_167 : decode cX4_hang 167 = .ok (.istore 7, 2) := by decide +kernel
theorem dX4_hang_169 : decode cX4_hang 169 = .ok (.iload 7, 2) := by decide +kernel
theorem dX4_hang_171 : decode cX4_hang 171 = .ok (.iload_n 3, 1) := by decide +kernel
theorem dX4_hang_172 : decode cX4_hang 172 = .ok (.if_icmp .ge 23, 3) := by decide +kernel
theorem dX4_hang_175 : decode cX4_hang 175 = .ok (.aload_n 0, 1) := by decide +kernel
theorem dX4_hang_176 : decode cX4_hang 176 = .ok (.getfield 16, 3) := by decide +kernel
theorem dX4_hang_179 : decode cX4_hang 179 = .ok (.bipush 25, 2) := by decide +kernel
theorem dX4_hang_181 : decode cX4_hang 181 = .ok (.iload 5, 2) := by decide +kernel
theorem dX4_hang_183 : decode cX4_hang 183 = .ok (.imul, 1) := by decide +kernel
theorem dX4_hang_184 : decode cX4_hang 184 = .ok (.iload 7, 2) := by decide +kernel
theorem dX4_hang_186 : decode cX4_hang 186 = .ok (.iadd, 1) := by decide +kernel
theorem dX4_hang_187 : decode cX4_hang 187 = .ok (.iconst 0, 1) := by decide +kernel
theorem dX4_hang_188 : decode cX4_hang 188 = .ok (.iastore, 1) := by decide +kernel
theorem dX4_hang_189 : decode cX4_hang 189 = .ok (.iinc 7 1, 3) := by decide +kernel
theorem dX4_hang_192 : decode cX4_hang 192 = .ok (.goto (-23), 3) := by decide +kernel
theorem dX4_hang_195 : decode cX4_hang 195 = .ok (.iload_n 3, 1) := by decide +kernel
theorem dX4_hang_196 : decode cX4_hang 196 = .ok (.ireturn, 1) := by decide +kernel
theorem dX4_strike_0 : decode cX4_strike 0 = .ok (.aload_n 0, 1) := by decide +kernel
theorem dX4_strike_1 : decode cX4_strike 1 = .ok (.iload_n 1, 1) := by decide +kernel
theorem dX4_strike_2 : decode cX4_strike 2 = .ok (.invokestatic 73, 3) := by decide +kernel
theorem dX4_strike_5 : decode cX4_strike 5 = .ok (.ifCond .eq 14, 3) := by decide +kernel
theorem dX4_strike_8 : decode cX4_strike 8 = .ok (.iload_n 2, 1) := by decide +kernel
theorem dX4_strike_9 : decode cX4_strike 9 = .ok (.invokestatic 77, 3) := by decide +kernel
theorem dX4_strike_12 : decode cX4_strike 12 = .ok (.ifCond .eq 7, 3) := by decide +kernel
theorem dX4_strike_15 : decode cX4_strike 15 = .ok (.iconst 1, 1) := by decide +kernel
theorem dX4_strike_16 : decode cX4_strike 16 = .ok (.goto 4, 3) := by decide +kernel
theorem dX4_strike_19 : decode cX4_strike 19 = .ok (.iconst 0, 1) := by decide +kernel
theorem dX4_strike_20 : decode cX4_strike 20 = .ok (.invokevirtual 80, 3) := by decide +kernel
theorem dX4_strike_23 : decode cX4_strike 23 = .ok (.ifCond .ne 5, 3) := by decide +kernel
theorem dX4_strike_26 : decode cX4_strike 26 = .ok (.iconst 0, 1) := by decide +kernel
theorem dX4_strike_27 : decode cX4_strike 27 = .ok (.ireturn, 1) := by decide +kernel
theorem dX4_strike_28 : decode cX4_strike 28 = .ok (.aload_n 0, 1) := by decide +kernel
theorem dX4_strike_29 : decode cX4_strike 29 = .ok (.getfield 7, 3) := by decide +kernel
theorem dX4_strike_32 : decode cX4_strike 32 = .ok (.iconst 4, 1) := by decide +kernel
theorem dX4_strike_33 : decode cX4_strike 33 = .ok (.iload_n 1, 1) := by decide +kernel
theorem dX4_strike_34 : decode cX4_strike 34 = .ok (.imul, 1) := by decide +kernel
theorem dX4_strike_35 : decode cX4_strike 35 = .ok (.iload_n 2, 1) := by decide +kernel
theorem dX4_strike_36 : decode cX4_strike 36 = .ok (.iadd, 1) := by decide +kernel
theorem dX4_strike_37 : decode cX4_strike 37 = .ok (.iaload, 1) := by decide +kernel
theorem dX4_strike_38 : decode cX4_strike 38 = .ok (.istore_n 3, 1) := by decide +kernel
theorem dX4_strike_39 : decode cX4_strike 39 = .ok (.aload_n 0, 1) := by decide +kernel
theorem dX4_strike_40 : decode cX4_strike 40 = .ok (.getfield 7, 3) := by decide +kernel
theorem dX4_strike_43 : decode cX4_strike 43 = .ok (.iconst 4, 1) := by decide +kernel
theorem dX4_strike_44 : decode cX4_strike 44 = .ok (.iload_n 1, 1) := by decide +kernel
theorem dX4_strike_45 : decode cX4_strike 45 = .ok (.imul, 1) := by decide +kernel
theorem dX4_strike_46 : decode cX4_strike 46 = .ok (.iload_n 2, 1) := by decide +kernel
theorem dX4_strike_47 : decode cX4_strike 47 = .ok (.iadd, 1) := by decide +kernel
theorem dX4_strike_48 : decode cX4_strike 48 = .ok (.iconst (-1), 1) := by decide +kernel
theorem dX4_strike_49 : decode cX4_strike 49 = .ok (.iastore, 1) := by decide +kernel
theorem dX4_strike_50 : decode cX4_strike 50 = .ok (.iload_n 3, 1) := by decide +kernel
theorem dX4_strike_51 : decode cX4_strike 51 = .ok (.iconst (-1), 1) := by decide +kernel
theorem dX4_strike_52 : decode cX4_strike 52 = .ok (.if_icmp .ne 7, 3) := by decide +kernel
theorem dX4_strike_55 : decode cX4_strike 55 = .ok (.iconst 0, 1) := by decide +kernel
theorem dX4_strike_56 : decode cX4_strike 56 = .ok (.goto 4, 3) := by decide +kernel
theorem dX4_strike_59 : decode cX4_strike 59 = .ok (.iconst 1, 1) := by decide +kernel
theorem dX4_strike_60 : decode cX4_strike 60 = .ok (.ireturn, 1) := by decide +kernel
theorem dX4_share_0 : decode cX4_share 0 = .ok (.aload_n 0, 1) := by decide +kernel
theorem dX4_share_1 : decode cX4_share 1 = .ok (.iload_n 1, 1) := by decide +kernel
theorem dX4_share_2 : decode cX4_share 2 = .ok (.invokestatic 73, 3) := by decide +kernel
theorem dX4_share_5 : decode cX4_share 5 = .ok (.ifCond .eq 21, 3) := by decide +kernel
theorem dX4_share_8 : decode cX4_share 8 = .ok (.iload_n 2, 1) := by decide +kernel
theorem dX4_share_9 : decode cX4_share 9 = .ok (.invokestatic 77, 3) := by decide +kernel
theorem dX4_share_12 : decode cX4_share 12 = .ok (.ifCond .eq 14, 3) := by decide +kernel
theorem dX4_share_15 : decode cX4_share 15 = .ok (.iload_n 3, 1) := by decide +kernel
theorem dX4_share_16 : decode cX4_share 16 = .ok (.invokestatic 73, 3) := by decide +kernel
theorem dX4_share_19 : decode cX4_share 19 = .ok (.ifCond .eq 7, 3) := by decide +kernel
theorem dX4_share_22 : decode cX4_share 22 = .ok (.iconst 1, 1) := by decide +kernel
theorem dX4_share_23 : decode cX4_share 23 = .ok (.goto 4, 3) := by decide +kernel
theorem dX4_share_26 : decode cX4_share 26 = .ok (.iconst 0, 1) := by decide +kernel
theorem dX4_share_27 : decode cX4_share 27 = .ok (.invokevirtual 80, 3) := by decide +kernel
theorem dX4_share_30 : decode cX4_share 30 = .ok (.ifCond .ne 5, 3) := by decide +kernel
theorem dX4_share_33 : decode cX4_share 33 = .ok (.iconst 0, 1) := by decide +kernel
theorem dX4_share_34 : decode cX4_share 34 = .ok (.ireturn, 1) := by decide +kernel
theorem dX4_share_35 : decode cX4_share 35 = .ok (.aload_n 0, 1) := by decide +kernel
theorem dX4_share_36 : decode cX4_share 36 = .ok (.getfield 7, 3) := by decide +kernel
theorem dX4_share_39 : decode cX4_share 39 = .ok (.iconst 4, 1) := by decide +kernel
theorem dX4_share_40 : decode cX4_share 40 = .ok (.iload_n 1, 1) := by decide +kernel
theorem dX4_share_41 : decode cX4_share 41 = .ok (.imul, 1) := by decide +kernel
theorem dX4_share_42 : decode cX4_share 42 = .ok (.iload_n 2, 1) := by decide +kernel
theorem dX4_share_43 : decode cX4_share 43 = .ok (.iadd, 1) := by decide +kernel
theorem dX4_share_44 : decode cX4_share 44 = .ok (.aload_n 0, 1) := by decide +kernel
theorem dX4_share_45 : decode cX4_share 45 = .ok (.getfield 7, 3) := by decide +kernel
theorem dX4_share_48 : decode cX4_share 48 = .ok (.iconst 4, 1) := by decide +kernel
theorem dX4_share_49 : decode cX4_share 49 = .ok (.iload_n 3, 1) := by decide +kernel
theorem dX4_share_50 : decode cX4_share 50 = .ok (.imul, 1) := by decide +kernel
theorem dX4_share_51 : decode cX4_share 51 = .ok (.iload_n 2, 1) := by decide +kernel
theorem dX4_share_52 : decode cX4_share 52 = .ok (.iadd, 1) := by decide +kernel
theorem dX4_share_53 : decode cX4_share 53 = .ok (.iaload, 1) := by decide +kernel
theorem dX4_share_54 : decode cX4_share 54 = .ok (.iastore, 1) := by decide +kernel
theorem dX4_share_55 : decode cX4_share 55 = .ok (.aload_n 0, 1) := by decide +kernel
theorem dX4_share_56 : decode cX4_share 56 = .ok (.getfield 7, 3) := by decide +kernel
theorem dX4_share_59 : decode cX4_share 59 = .ok (.iconst 4, 1) := by decide +kernel
theorem dX4_share_60 : decode cX4_share 60 = .ok (.iload_n 1, 1) := by decide +kernel
theorem dX4_share_61 : decode cX4_share 61 = .ok (.imul, 1) := by decide +kernel
theorem dX4_share_62 : decode cX4_share 62 = .ok (.iload_n 2, 1) := by decide +kernel
theorem dX4_share_63 : decode cX4_share 63 = .ok (.iadd, 1) := by decide +kernel
theorem dX4_share_64 : decode cX4_share 64 = .ok (.iaload, 1) := by decide +kernel
theorem dX4_share_65 : decode cX4_share 65 = .ok (.iconst (-1), 1) := by decide +kernel
theorem dX4_share_66 : decode cX4_share 66 = .ok (.if_icmp .ne 7, 3) := by decide +kernel
theorem dX4_share_69 : decode cX4_share 69 = .ok (.iconst 0, 1) := by decide +kernel
theorem dX4_share_70 : decode cX4_share 70 = .ok (.goto 4, 3) := by decide +kernel
theorem dX4_share_73 : decode cX4_share 73 = .ok (.iconst 1, 1) := by decide +kernel
theorem dX4_share_74 : decode cX4_share 74 = .ok (.ireturn, 1) := by decide +kernel
theorem dX4_size_0 : decode cX4_size 0 = .ok (.aload_n 0, 1) := by decide +kernel
theorem dX4_size_1 : decode cX4_size 1 = .ok (.iload_n 1, 1) := by decide +kernel
theorem dX4_size_2 : decode cX4_size 2 = .ok (.invokestatic 73, 3) := by decide +kernel
theorem dX4_size_5 : decode cX4_size 5 = .ok (.ifCond .eq 14, 3) := by decide +kernel
theorem dX4_size_8 : decode cX4_size 8 = .ok (.iload_n 2, 1) := by decide +kernel
theorem dX4_size_9 : decode cX4_size 9 = .ok (.invokestatic 77, 3) := by decide +kernel
theorem dX4_size_12 : decode cX4_size 12 = .ok (.ifCond .eq 7, 3) := by decide +kernel
theorem dX4_size_15 : decode cX4_size 15 = .ok (.iconst 1, 1) := by decide +kernel
theorem dX4_size_16 : decode cX4_size 16 = .ok (.goto 4, 3) := by decide +kernel
theorem dX4_size_19 : decode cX4_size 19 = .ok (.iconst 0, 1) := by decide +kernel
theorem dX4_size_20 : decode cX4_size 20 = .ok (.invokevirtual 80, 3) := by decide +kernel
theorem dX4_size_23 : decode cX4_size 23 = .ok (.ifCond .ne 5, 3) := by decide +kernel
theorem dX4_size_26 : decode cX4_size 26 = .ok (.iconst 0, 1) := by decide +kernel
theorem dX4_size_27 : decode cX4_size 27 = .ok (.ireturn, 1) := by decide +kernel
theorem dX4_size_28 : decode cX4_size 28 = .ok (.aload_n 0, 1) := by decide +kernel
theorem dX4_size_29 : decode cX4_size 29 = .ok (.getfield 7, 3) := by decide +kernel
theorem dX4_size_32 : decode cX4_size 32 = .ok (.iconst 4, 1) := by decide +kernel
theorem dX4_size_33 : decode cX4_size 33 = .ok (.iload_n 1, 1) := by decide +kernel
theorem dX4_size_34 : decode cX4_size 34 = .ok (.imul, 1) := by decide +kernel
theorem dX4_size_35 : decode cX4_size 35 = .ok (.iload_n 2, 1) := by decide +kernel
theorem dX4_size_36 : decode cX4_size 36 = .ok (.iadd, 1) := by decide +kernel
theorem dX4_size_37 : decode cX4_size 37 = .ok (.iaload, 1) := by decide +kernel
theorem dX4_size_38 : decode cX4_size 38 = .ok (.istore_n 3, 1) := by decide +kernel
theorem dX4_size_39 : decode cX4_size 39 = .ok (.iload_n 3, 1) := by decide +kernel
theorem dX4_size_40 : decode cX4_size 40 = .ok (.iconst (-1), 1) := by decide +kernel
theorem dX4_size_41 : decode cX4_size 41 = .ok (.if_icmp .ne 14, 3) := by decide +kernel
theorem dX4_size_44 : decode cX4_size 44 = .ok (.aload_n 0, 1) := by decide +kernel
theorem dX4_size_45 : decode cX4_size 45 = .ok (.aload_n 0, 1) := by decide +kernel
theorem dX4_size_46 : decode cX4_size 46 = .ok (.iconst 2, 1) := by decide +kernel
theorem dX4_size_47 : decode cX4_size 47 = .ok (.invokevirtual 57, 3) := by decide +kernel
theorem dX4_size_50 : decode cX4_size 50 = .ok (.putfield 41, 3) := by decide +kernel
theorem dX4_size_53 : decode cX4_size 53 = .ok (.iconst 0, 1) := by decide +kernel
theorem dX4_size_54 : decode cX4_size 54 = .ok (.ireturn, 1) := by decide +kernel
theorem dX4_size_55 : decode cX4_size 55 = .ok (.aload_n 0, 1) := by decide +kernel
theorem dX4_size_56 : decode cX4_size 56 = .ok (.getfield 13, 3) := by decide +kernel
theorem dX4_size_59 : decode cX4_size 59 = .ok (.iload_n 3, 1) := by decide +kernel
theorem dX4_size_60 : decode cX4_size 60 = .ok (.iaload, 1) := by decide +kernel
theorem dX4_size_61 : decode cX4_size 61 = .ok (.ireturn, 1) := by decide +kernel
theorem dX4_get_0 : decode cX4_get 0 = .ok (.aload_n 0, 1) := by decide +kernel
theorem dX4_get_1 : decode cX4_get 1 = .ok (.iload_n 1, 1) := by decide +kernel
theorem dX4_get_2 : decode cX4_get 2 = .ok (.invokestatic 73, 3) := by decide +kernel
theorem dX4_get_5 : decode cX4_get 5 = .ok (.ifCond .eq 14, 3) := by decide +kernel
theorem dX4_get_8 : decode cX4_get 8 = .ok (.iload_n 2, 1) := by decide +kernel
theorem dX4_get_9 : decode cX4_get 9 = .ok (.invokestatic 77, 3) := by decide +kernel
theorem dX4_get_12 : decode cX4_get 12 = .ok (.ifCond .eq 7, 3) := by decide +kernel
theorem dX4_get_15 : decode cX4_get 15 = .ok (.iconst 1, 1) := by decide +kernel
theorem dX4_get_16 : decode cX4_get 16 = .ok (.goto 4, 3) := by decide +kernel
theorem dX4_get_19 : decode cX4_get 19 = .ok (.iconst 0, 1) := by decide +kernel
theorem dX4_get_20 : decode cX4_get 20 = .ok (.invokevirtual 80, 3) := by decide +kernel
theorem dX4_get_23 : decode cX4_get 23 = .ok (.ifCond .ne 5, 3) := by decide +kernel
theorem dX4_get_26 : decode cX4_get 26 = .ok (.iconst 0, 1) := by decide +kernel
theorem dX4_get_27 : decode cX4_get 27 = .ok (.ireturn, 1) := by decide +kernel
theorem dX4_get_28 : decode cX4_get 28 = .ok (.aload_n 0, 1) := by decide +kernel
theorem dX4_get_29 : decode cX4_get 29 = .ok (.aload_n 0, 1) := by decide +kernel
theorem dX4_get_30 : decode cX4_get 30 = .ok (.iload_n 1, 1) := by decide +kernel
theorem dX4_get_31 : decode cX4_get 31 = .ok (.iload_n 2, 1) := by decide +kernel
theorem dX4_get_32 : decode cX4_get 32 = .ok (.iload_n 3, 1) := by decide +kernel
theorem dX4_get_33 : decode cX4_get 33 = .ok (.invokevirtual 87, 3) := by decide +kernel
theorem dX4_get_36 : decode cX4_get 36 = .ok (.putfield 41, 3) := by decide +kernel
theorem dX4_get_39 : decode cX4_get 39 = .ok (.aload_n 0, 1) := by decide +kernel
theorem dX4_get_40 : decode cX4_get 40 = .ok (.getfield 41, 3) := by decide +kernel
theorem dX4_get_43 : decode cX4_get 43 = .ok (.ifCond .ne 13, 3) := by decide +kernel
theorem dX4_get_46 : decode cX4_get 46 = .ok (.aload_n 0, 1) := by decide +kernel
theorem dX4_get_47 : decode cX4_get 47 = .ok (.iload_n 1, 1) := by decide +kernel
theorem dX4_get_48 : decode cX4_get 48 = .ok (.iload_n 2, 1) := by decide +kernel
theorem dX4_get_49 : decode cX4_get 49 = .ok (.iload_n 3, 1) := by decide +kernel
theorem dX4_get_50 : decode cX4_get 50 = .ok (.invokevirtual 90, 3) := by decide +kernel
theorem dX4_get_53 : decode cX4_get 53 = .ok (.goto 4, 3) := by decide +kernel
theorem dX4_get_56 : decode cX4_get 56 = .ok (.iconst 0, 1) := by decide +kernel
theorem dX4_get_57 : decode cX4_get 57 = .ok (.ireturn, 1) := by decide +kernel
theorem dX4_set_0 : decode cX4_set 0 = .ok (.aload_n 0, 1) := by decide +kernel
theorem dX4_set_1 : decode cX4_set 1 = .ok (.iload_n 1, 1) := by decide +kernel
theorem dX4_set_2 : decode cX4_set 2 = .ok (.invokestatic 73, 3) := by decide +kernel
theorem dX4_set_5 : decode cX4_set 5 = .ok (.ifCond .eq 14, 3) := by decide +kernel
theorem dX4_set_8 : decode cX4_set 8 = .ok (.iload_n 2, 1) := by decide +kernel
theorem dX4_set_9 : decode cX4_set 9 = .ok (.invokestatic 77, 3) := by decide +kernel
theorem dX4_set_12 : decode cX4_set 12 = .ok (.ifCond .eq 7, 3) := by decide +kernel
theorem dX4_set_15 : decode cX4_set 15 = .ok (.iconst 1, 1) := by decide +kernel
theorem dX4_set_16 : decode cX4_set 16 = .ok (.goto 4, 3) := by decide +kernel
theorem dX4_set_19 : decode cX4_set 19 = .ok (.iconst 0, 1) := by decide +kernel
theorem dX4_set_20 : decode cX4_set 20 = .ok (.invokevirtual 80, 3) := by decide +kernel
theorem dX4_set_23 : decode cX4_set 23 = .ok (.ifCond .ne 5, 3) := by decide +kernel
theorem dX4_set_26 : decode cX4_set 26 = .ok (.iconst 0, 1) := by decide +kernel
theorem dX4_set_27 : decode cX4_set 27 = .ok (.ireturn, 1) := by decide +kernel
theorem dX4_set_28 : decode cX4_set 28 = .ok (.aload_n 0, 1) := by decide +kernel
theorem dX4_set_29 : decode cX4_set 29 = .ok (.aload_n 0, 1) := by decide +kernel
theorem dX4_set_30 : decode cX4_set 30 = .ok (.iload_n 1, 1) := by decide +kernel
theorem dX4_set_31 : decode cX4_set 31 = .ok (.iload_n 2, 1) := by decide +kernel
theorem dX4_set_32 : decode cX4_set 32 = .ok (.iload_n 3, 1) := by decide +kernel
theorem dX4_set_33 : decode cX4_set 33 = .ok (.invokevirtual 87, 3) := by decide +kernel
theorem dX4_set_36 : decode cX4_set 36 = .ok (.putfield 41, 3) := by decide +kernel
theorem dX4_set_39 : decode cX4_set 39 = .ok (.aload_n 0, 1) := by decide +kernel
theorem dX4_set_40 : decode cX4_set 40 = .ok (.getfield 41, 3) := by decide +kernel
theorem dX4_set_43 : decode cX4_set 43 = .ok (.ifCond .eq 5, 3) := by decide +kernel
theorem dX4_set_46 : decode cX4_set 46 = .ok (.iconst 0, 1) := by decide +kernel
theorem dX4_set_47 : decode cX4_set 47 = .ok (.ireturn, 1) := by decide +kernel
theorem dX4_set_48 : decode cX4_set 48 = .ok (.aload_n 0, 1) := by decide +kernel
theorem dX4_set_49 : decode cX4_set 49 = .ok (.iload_n 1, 1) := by decide +kernel
theorem dX4_set_50 : decode cX4_set 50 = .ok (.iload_n 2, 1) := by decide +kernel
theorem dX4_set_51 : decode cX4_set 51 = .ok (.iload_n 3, 1) := by decide +kernel
theorem dX4_set_52 : decode cX4_set 52 = .ok (.invokevirtual 90, 3) := by decide +kernel
theorem dX4_set_55 : decode cX4_set 55 = .ok (.istore 5, 2) := by decide +kernel
theorem dX4_set_57 : decode cX4_set 57 = .ok (.aload_n 0, 1) := by decide +kernel
theorem dX4_set_58 : decode cX4_set 58 = .ok (.iload_n 1, 1) := by decide +kernel
theorem dX4_set_59 : decode cX4_set 59 = .ok (.iload_n 2, 1) := by decide +kernel
theorem dX4_set_60 : decode cX4_set 60 = .ok (.iload_n 3, 1) := by decide +kernel
theorem dX4_set_61 : decode cX4_set 61 = .ok (.iload 4, 2) := by decide +kernel
theorem dX4_set_63 : decode cX4_set 63 = .ok (.invokevirtual 93, 3) := by decide +kernel
theorem dX4_set_66 : decode cX4_set 66 = .ok (.iload 5, 2) := by decide +kernel
theorem dX4_set_68 : decode cX4_set 68 = .ok (.ireturn, 1) := by decide +kernel
theorem dX4_patch_0 : decode cX4_patch 0 = .ok (.aload_n 0, 1) := by decide +kernel
theorem dX4_patch_1 : decode cX4_patch 1 = .ok (.iload_n 1, 1) := by decide +kernel
theorem dX4_patch_2 : decode cX4_patch 2 = .ok (.invokestatic 73, 3) := by decide +kernel
theorem dX4_patch_5 : decode cX4_patch 5 = .ok (.ifCond .eq 25, 3) := by decide +kernel
theorem dX4_patch_8 : decode cX4_patch 8 = .ok (.iload_n 3, 1) := by decide +kernel
theorem dX4_patch_9 : decode cX4_patch 9 = .ok (.invokestatic 73, 3) := by decide +kernel
theorem dX4_patch_12 : decode cX4_patch 12 = .ok (.ifCond .eq 18, 3) := by decide +kernel
theorem dX4_patch_15 : decode cX4_patch 15 = .ok (.iload 5, 2) := by decide +kernel
theorem dX4_patch_17 : decode cX4_patch 17 = .ok (.iconst 0, 1) := by decide +kernel
theorem dX4_patch_18 : decode cX4_patch 18 = .ok (.bipush 15, 2) := by decide +kernel
theorem dX4_patch_20 : decode cX4_patch 20 = .ok (.invokestatic 37, 3) := by decide +kernel
theorem dX4_patch_23 : decode cX4_patch 23 = .ok (.ifCond .eq 7, 3) := by decide +kernel
theorem dX4_patch_26 : decode cX4_patch 26 = .ok (.iconst 1, 1) := by decide +kernel
theorem dX4_patch_27 : decode cX4_patch 27 = .ok (.goto 4, 3) := by decide +kernel
theorem dX4_patch_30 : decode cX4_patch 30 = .ok (.iconst 0, 1) := by decide +kernel
theorem dX4_patch_31 : decode cX4_patch 31 = .ok (.invokevirtual 80, 3) := by decide +kernel
theorem dX4_patch_34 : decode cX4_patch 34 = .ok (.ifCond .ne 5, 3) := by decide +kernel
theorem dX4_patch_37 : decode cX4_patch 37 = .ok (.iconst 0, 1) := by decide +kernel
theorem dX4_patch_38 : decode cX4_patch 38 = .ok (.ireturn, 1) := by decide +kernel
theorem dX4_patch_39 : decode cX4_patch 39 = .ok (.aload_n 0, 1) := by decide +kernel
theorem dX4_patch_40 : decode cX4_patch 40 = .ok (.aload_n 0, 1) := by decide +kernel
theorem dX4_patch_41 : decode cX4_patch 41 = .ok (.iload_n 1, 1) := by decide +kernel
theorem dX4_patch_42 : decode cX4_patch 42 = .ok (.iload 5, 2) := by decide +kernel
theorem dX4_patch_44 : decode cX4_patch 44 = .ok (.iconst 4, 1) := by decide +kernel
theorem dX4_patch_45 : decode cX4_patch 45 = .ok (.idiv, 1) := by decide +kernel
theorem dX4_patch_46 : decode cX4_patch 46 = .ok (.iload_n 2, 1) := by decide +kernel
theorem dX4_patch_47 : decode cX4_patch 47 = .ok (.invokevirtual 87, 3) := by decide +kernel
theorem dX4_patch_50 : decode cX4_patch 50 = .ok (.putfield 41, 3) := by decide +kernel
theorem dX4_patch_53 : decode cX4_patch 53 = .ok (.aload_n 0, 1) := by decide +kernel
theorem dX4_patch_54 : decode cX4_patch 54 = .ok (.getfield 41, 3) := by decide +kernel
theorem dX4_patch_57 : decode cX4_patch 57 = .ok (.ifCond .eq 5, 3) := by decide +kernel
theorem dX4_patch_60 : decode cX4_patch 60 = .ok (.iconst 0, 1) := by decide +kernel
theorem dX4_patch_61 : decode cX4_patch 61 = .ok (.ireturn, 1) := by decide +kernel
theorem dX4_patch_62 : decode cX4_patch 62 = .ok (.aload_n 0, 1) := by decide +kernel
theorem dX4_patch_63 : decode cX4_patch 63 = .ok (.iload_n 1, 1) := by decide +kernel
theorem dX4_patch_64 : decode cX4_patch 64 = .ok (.iload 5, 2) := by decide +kernel
theorem dX4_patch_66 : decode cX4_patch 66 = .ok (.iconst 4, 1) := by decide +kernel
theorem dX4_patch_67 : decode cX4_patch 67 = .ok (.idiv, 1) := by decide +kernel
theorem dX4_patch_68 : decode cX4_patch 68 = .ok (.iload_n 2, 1) := by decide +kernel
theorem dX4_patch_69 : decode cX4_patch 69 = .ok (.invokevirtual 90, 3) := by decide +kernel
theorem dX4_patch_72 : decode cX4_patch 72 = .ok (.istore 6, 2) := by decide +kernel
theorem dX4_patch_74 : decode cX4_patch 74 = .ok (.aload_n 0, 1) := by decide +kernel
theorem dX4_patch_75 : decode cX4_patch 75 = .ok (.aload_n 0, 1) := by decide +kernel
theorem dX4_patch_76 : decode cX4_patch 76 = .ok (.iload_n 3, 1) := by decide +kernel
theorem dX4_patch_77 : decode cX4_patch 77 = .ok (.iload 5, 2) := by decide +kernel
theorem dX4_patch_79 : decode cX4_patch 79 = .ok (.iconst 4, 1) := by decide +kernel
theorem dX4_patch_80 : decode cX4_patch 80 = .ok (.irem, 1) := by decide +kernel
theorem dX4_patch_81 : decode cX4_patch 81 = .ok (.iload 4, 2) := by decide +kernel
theorem dX4_patch_83 : decode cX4_patch 83 = .ok (.invokevirtual 87, 3) := by decide +kernel
theorem dX4_patch_86 : decode cX4_patch 86 = .ok (.putfield 41, 3) := by decide +kernel
theorem dX4_patch_89 : decode cX4_patch 89 = .ok (.aload_n 0, 1) := by decide +kernel
theorem dX4_patch_90 : decode cX4_patch 90 = .ok (.getfield 41, 3) := by decide +kernel
theorem dX4_patch_93 : decode cX4_patch 93 = .ok (.ifCond .eq 5, 3) := by decide +kernel
theorem dX4_patch_96 : decode cX4_patch 96 = .ok (.iconst 0, 1) := by decide +kernel
theorem dX4_patch_97 : decode cX4_patch 97 = .ok (.ireturn, 1) := by decide +kernel
theorem dX4_patch_98 : decode cX4_patch 98 = .ok (.aload_n 0, 1) := by decide +kernel
theorem dX4_patch_99 : decode cX4_patch 99 = .ok (.iload_n 3, 1) := by decide +kernel
theorem dX4_patch_100 : decode cX4_patch 100 = .ok (.iload 5, 2) := by decide +kernel
theorem dX4_patch_102 : decode cX4_patch 102 = .ok (.iconst 4, 1) := by decide +kernel
theorem dX4_patch_103 : decode cX4_patch 103 = .ok (.irem, 1) := by decide +kernel
theorem dX4_patch_104 : decode cX4_patch 104 = .ok (.iload 4, 2) := by decide +kernel
theorem dX4_patch_106 : decode cX4_patch 106 = .ok (.iload 6, 2) := by decide +kernel
theorem dX4_patch_108 : decode cX4_patch 108 = .ok (.invokevirtual 93, 3) := by decide +kernel
theorem dX4_patch_111 : decode cX4_patch 111 = .ok (.iload 6, 2) := by decide +kernel
theorem dX4_patch_113 : decode cX4_patch 113 = .ok (.ireturn, 1) := by decide +kernel
theorem dX4_ripple_0 : decode cX4_ripple 0 = .ok (.aload_n 0, 1) := by decide +kernel
theorem dX4_ripple_1 : decode cX4_ripple 1 = .ok (.iload_n 1, 1) := by decide +kernel
theorem dX4_ripple_2 : decode cX4_ripple 2 = .ok (.invokestatic 73, 3) := by decide +kernel
theorem dX4_ripple_5 : decode cX4_ripple 5 = .ok (.ifCond .eq 18, 3) := by decide +kernel
theorem dX4_ripple_8 : decode cX4_ripple 8 = .ok (.iload 4, 2) := by decide +kernel
theorem dX4_ripple_10 : decode cX4_ripple 10 = .ok (.iconst 0, 1) := by decide +kernel
theorem dX4_ripple_11 : decode cX4_ripple 11 = .ok (.bipush 64, 2) := by decide +kernel
theorem dX4_ripple_13 : decode cX4_ripple 13 = .ok (.invokestatic 37, 3) := by decide +kernel
theorem dX4_ripple_16 : decode cX4_ripple 16 = .ok (.ifCond .eq 7, 3) := by decide +kernel
theorem dX4_ripple_19 : decode cX4_ripple 19 = .ok (.iconst 1, 1) := by decide +kernel
theorem dX4_ripple_20 : decode cX4_ripple 20 = .ok (.goto 4, 3) := by decide +kernel
theorem dX4_ripple_23 : decode cX4_ripple 23 = .ok (.iconst 0, 1) := by decide +kernel
theorem dX4_ripple_24 : decode cX4_ripple 24 = .ok (.invokevirtual 80, 3) := by decide +kernel
theorem dX4_ripple_27 : decode cX4_ripple 27 = .ok (.ifCond .ne 5, 3) := by decide +kernel
theorem dX4_ripple_30 : decode cX4_ripple 30 = .ok (.iconst 0, 1) := by decide +kernel
theorem dX4_ripple_31 : decode cX4_ripple 31 = .ok (.ireturn, 1) := by decide +kernel
theorem dX4_ripple_32 : decode cX4_ripple 32 = .ok (.iload_n 2, 1) := by decide +kernel
theorem dX4_ripple_33 : decode cX4_ripple 33 = .ok (.istore 6, 2) := by decide +kernel
theorem dX4_ripple_35 : decode cX4_ripple 35 = .ok (.iconst 0, 1) := by decide +kernel
theorem dX4_ripple_36 : decode cX4_ripple 36 = .ok (.istore 7, 2) := by decide +kernel
theorem dX4_ripple_38 : decode cX4_ripple 38 = .ok (.iload 7, 2) := by decide +kernel
theorem dX4_ripple_40 : decode cX4_ripple 40 = .ok (.iload 4, 2) := by decide +kernel
theorem dX4_ripple_42 : decode cX4_ripple 42 = .ok (.if_icmp .ge 63, 3) := by decide +kernel
theorem dX4_ripple_45 : decode cX4_ripple 45 = .ok (.aload_n 0, 1) := by decide +kernel
theorem dX4_ripple_46 : decode cX4_ripple 46 = .ok (.getfield 41, 3) := by decide +kernel
theorem dX4_ripple_49 : decode cX4_ripple 49 = .ok (.ifCond .ne 56, 3) := by decide +kernel
theorem dX4_ripple_52 : decode cX4_ripple 52 = .ok (.aload_n 0, 1) := by decide +kernel
theorem dX4_ripple_53 : decode cX4_ripple 53 = .ok (.aload_n 0, 1) := by decide +kernel
theorem dX4_ripple_54 : decode cX4_ripple 54 = .ok (.iload_n 1, 1) := by decide +kernel
theorem dX4_ripple_55 : decode cX4_ripple 55 = .ok (.iconst 2, 1) := by decide +kernel
theorem dX4_ripple_56 : decode cX4_ripple 56 = .ok (.iload 6, 2) := by decide +kernel
theorem dX4_ripple_58 : decode cX4_ripple 58 = .ok (.invokevirtual 87, 3) := by decide +kernel
theorem dX4_ripple_61 : decode cX4_ripple 61 = .ok (.putfield 41, 3) := by decide +kernel
theorem dX4_ripple_64 : decode cX4_ripple 64 = .ok (.aload_n 0, 1) := by decide +kernel
theorem dX4_ripple_65 : decode cX4_ripple 65 = .ok (.getfield 41, 3) := by decide +kernel
theorem dX4_ripple_68 : decode cX4_ripple 68 = .ok (.ifCond .ne (-30), 3) := by decide +kernel
theorem dX4_ripple_71 : decode cX4_ripple 71 = .ok (.aload_n 0, 1) := by decide +kernel
theorem dX4_ripple_72 : decode cX4_ripple 72 = .ok (.iload_n 1, 1) := by decide +kernel
theorem dX4_ripple_73 : decode cX4_ripple 73 = .ok (.iconst 2, 1) := by decide +kernel
theorem dX4_ripple_74 : decode cX4_ripple 74 = .ok (.iload 6, 2) := by decide +kernel
theorem dX4_ripple_76 : decode cX4_ripple 76 = .ok (.aload_n 0, 1) := by decide +kernel
theorem dX4_ripple_77 : decode cX4_ripple 77 = .ok (.iload_n 1, 1) := by decide +kernel
theorem dX4_ripple_78 : decode cX4_ripple 78 = .ok (.iconst 2, 1) := by decide +kernel
theorem dX4_ripple_79 : decode cX4_ripple 79 = .ok (.iload 6, 2) := by decide +kernel
theorem dX4_ripple_81 : decode cX4_ripple 81 = .ok (.invokevirtual 90, 3) := by decide +kernel
theorem dX4_ripple_84 : decode cX4_ripple 84 = .ok (.iload 5, 2) := by decide +kernel
theorem dX4_ripple_86 : decode cX4_ripple 86 = .ok (.invokestatic 49, 3) := by decide +kernel
theorem dX4_ripple_89 : decode cX4_ripple 89 = .ok (.iadd, 1) := by decide +kernel
theorem dX4_ripple_90 : decode cX4_ripple 90 = .ok (.invokevirtual 93, 3) := by decide +kernel
theorem dX4_ripple_93 : decode cX4_ripple 93 = .ok (.iinc 7 1, 3) := by decide +kernel
theorem dX4_ripple_96 : decode cX4_ripple 96 = .ok (.iload 6, 2) := by decide +kernel
theorem dX4_ripple_98 : decode cX4_ripple 98 = .ok (.iload_n 3, 1) := by decide +kernel
theorem dX4_ripple_99 : decode cX4_ripple 99 = .ok (.iadd, 1) := by decide +kernel
theorem dX4_ripple_100 : decode cX4_ripple 100 = .ok (.istore 6, 2) := by decide +kernel
theorem dX4_ripple_102 : decode cX4_ripple 102 = .ok (.goto (-64), 3) := by decide +kernel
theorem dX4_ripple_105 : decode cX4_ripple 105 = .ok (.iload 7, 2) := by decide +kernel
theorem dX4_ripple_107 : decode cX4_ripple 107 = .ok (.ireturn, 1) := by decide +kernel
theorem dX4_digit_0 : decode cX4_digit 0 = .ok (.iload_n 0, 1) := by decide +kernel
theorem dX4_digit_1 : decode cX4_digit 1 = .ok (.iconst 2, 1) := by decide +kernel
theorem dX4_digit_2 : decode cX4_digit 2 = .ok (.if_icmp .ne 7, 3) := by decide +kernel
theorem dX4_digit_5 : decode cX4_digit 5 = .ok (.iconst 1, 1) := by decide +kernel
theorem dX4_digit_6 : decode cX4_digit 6 = .ok (.goto 13, 3) := by decide +kernel
theorem dX4_digit_9 : decode cX4_digit 9 = .ok (.iload_n 0, 1) := by decide +kernel
theorem dX4_digit_10 : decode cX4_digit 10 = .ok (.iconst 3, 1) := by decide +kernel
theorem dX4_digit_11 : decode cX4_digit 11 = .ok (.if_icmp .ne 7, 3) := by decide +kernel
theorem dX4_digit_14 : decode cX4_digit 14 = .ok (.iconst 2, 1) := by decide +kernel
theorem dX4_digit_15 : decode cX4_digit 15 = .ok (.goto 4, 3) := by decide +kernel
theorem dX4_digit_18 : decode cX4_digit 18 = .ok (.iconst 0, 1) := by decide +kernel
theorem dX4_digit_19 : decode cX4_digit 19 = .ok (.ireturn, 1) := by decide +kernel
theorem dX4_probe_0 : decode cX4_probe 0 = .ok (.aload_n 0, 1) := by decide +kernel
theorem dX4_probe_1 : decode cX4_probe 1 = .ok (.iload_n 1, 1) := by decide +kernel
theorem dX4_probe_2 : decode cX4_probe 2 = .ok (.invokestatic 73, 3) := by decide +kernel
theorem dX4_probe_5 : decode cX4_probe 5 = .ok (.invokevirtual 80, 3) := by decide +kernel
theorem dX4_probe_8 : decode cX4_probe 8 = .ok (.ifCond .ne 5, 3) := by decide +kernel
theorem dX4_probe_11 : decode cX4_probe 11 = .ok (.iconst 0, 1) := by decide +kernel
theorem dX4_probe_12 : decode cX4_probe 12 = .ok (.ireturn, 1) := by decide +kernel
theorem dX4_probe_13 : decode cX4_probe 13 = .ok (.iconst 0, 1) := by decide +kernel
theorem dX4_probe_14 : decode cX4_probe 14 = .ok (.istore_n 3, 1) := by decide +kernel
theorem dX4_probe_15 : decode cX4_probe 15 = .ok (.iconst 1, 1) := by decide +kernel
theorem dX4_probe_16 : decode cX4_probe 16 = .ok (.istore 4, 2) := by decide +kernel
theorem dX4_probe_18 : decode cX4_probe 18 = .ok (.iconst 0, 1) := by decide +kernel
theorem dX4_probe_19 : decode cX4_probe 19 = .ok (.istore 5, 2) := by decide +kernel
theorem dX4_probe_21 : decode cX4_probe 21 = .ok (.iload 5, 2) := by decide +kernel
theorem dX4_probe_23 : decode cX4_probe 23 = .ok (.iconst 3, 1) := by decide +kernel
theorem dX4_probe_24 : decode cX4_probe 24 = .ok (.if_icmp .gt 33, 3) := by decide +kernel
theorem dX4_probe_27 : decode cX4_probe 27 = .ok (.iload_n 3, 1) := by decide +kernel
theorem dX4_probe_28 : decode cX4_probe 28 = .ok (.iload 4, 2) := by decide +kernel
theorem dX4_probe_30 : decode cX4_probe 30 = .ok (.aload_n 0, 1) := by decide +kernel
theorem dX4_probe_31 : decode cX4_probe 31 = .ok (.iload_n 1, 1) := by decide +kernel
theorem dX4_probe_32 : decode cX4_probe 32 = .ok (.iload 5, 2) := by decide +kernel
theorem dX4_probe_34 : decode cX4_probe 34 = .ok (.iload_n 2, 1) := by decide +kernel
theorem dX4_probe_35 : decode cX4_probe 35 = .ok (.invokevirtual 87, 3) := by decide +kernel
theorem dX4_probe_38 : decode cX4_probe 38 = .ok (.invokestatic 97, 3) := by decide +kernel
theorem dX4_probe_41 : decode cX4_probe 41 = .ok (.imul, 1) := by decide +kernel
theorem dX4_probe_42 : decode cX4_probe 42 = .ok (.iadd, 1) := by decide +kernel
theorem dX4_probe_43 : decode cX4_probe 43 = .ok (.istore_n 3, 1) := by decide +kernel
theorem dX4_probe_44 : decode cX4_probe 44 = .ok (.iload 4, 2) := by decide +kernel
theorem dX4_probe_46 : decode cX4_probe 46 = .ok (.bipush 10, 2) := by decide +kernel
theorem dX4_probe_48 : decode cX4_probe 48 = .ok (.imul, 1) := by decide +kernel
theorem dX4_probe_49 : decode cX4_probe 49 = .ok (.istore 4, 2) := by decide +kernel
theorem dX4_probe_51 : decode cX4_probe 51 = .ok (.iinc 5 1, 3) := by decide +kernel
theorem dX4_probe_54 : decode cX4_probe 54 = .ok (.goto (-33), 3) := by decide +kernel
theorem dX4_probe_57 : decode cX4_probe 57 = .ok (.iload_n 3, 1) := by decide +kernel
theorem dX4_probe_58 : decode cX4_probe 58 = .ok (.ireturn, 1) := by decide +kernel
theorem dX4_poke_0 : decode cX4_poke 0 = .ok (.aload_n 0, 1) := by decide +kernel
theorem dX4_poke_1 : decode cX4_poke 1 = .ok (.iload_n 1, 1) := by decide +kernel
theorem dX4_poke_2 : decode cX4_poke 2 = .ok (.invokestatic 73, 3) := by decide +kernel
theorem dX4_poke_5 : decode cX4_poke 5 = .ok (.invokevirtual 80, 3) := by decide +kernel
theorem dX4_poke_8 : decode cX4_poke 8 = .ok (.ifCond .ne 5, 3) := by decide +kernel
theorem dX4_poke_11 : decode cX4_poke 11 = .ok (.iconst 0, 1) := by decide +kernel
theorem dX4_poke_12 : decode cX4_poke 12 = .ok (.ireturn, 1) := by decide +kernel
theorem dX4_poke_13 : decode cX4_poke 13 = .ok (.iconst 0, 1) := by decide +kernel
theorem dX4_poke_14 : decode cX4_poke 14 = .ok (.istore 4, 2) := by decide +kernel
theorem dX4_poke_16 : decode cX4_poke 16 = .ok (.iconst 1, 1) := by decide +kernel
theorem dX4_poke_17 : decode cX4_poke 17 = .ok (.istore 5, 2) := by decide +kernel
theorem dX4_poke_19 : decode cX4_poke 19 = .ok (.iconst 0, 1) := by decide +kernel
theorem dX4_poke_20 : decode cX4_poke 20 = .ok (.istore 6, 2) := by decide +kernel
theorem dX4_poke_22 : decode cX4_poke 22 = .ok (.iload 6, 2) := by decide +kernel
theorem dX4_poke_24 : decode cX4_poke 24 = .ok (.iconst 3, 1) := by decide +kernel
theorem dX4_poke_25 : decode cX4_poke 25 = .ok (.if_icmp .gt 53, 3) := by decide +kernel
theorem dX4_poke_28 : decode cX4_poke 28 = .ok (.aload_n 0, 1) := by decide +kernel
theorem dX4_poke_29 : decode cX4_poke 29 = .ok (.iload_n 1, 1) := by decide +kernel
theorem dX4_poke_30 : decode cX4_poke 30 = .ok (.iload 6, 2) := by decide +kernel
theorem dX4_poke_32 : decode cX4_poke 32 = .ok (.iload_n 2, 1) := by decide +kernel
theorem dX4_poke_33 : decode cX4_poke 33 = .ok (.invokevirtual 87, 3) := by decide +kernel
theorem dX4_poke_36 : decode cX4_poke 36 = .ok (.istore 7, 2) := by decide +kernel
theorem dX4_poke_38 : decode cX4_poke 38 = .ok (.iload 7, 2) := by decide +kernel
theorem dX4_poke_40 : decode cX4_poke 40 = .ok (.ifCond .ne 12, 3) := by decide +kernel
theorem dX4_poke_43 : decode cX4_poke 43 = .ok (.aload_n 0, 1) := by decide +kernel
theorem dX4_poke_44 : decode cX4_poke 44 = .ok (.iload_n 1, 1) := by decide +kernel
theorem dX4_poke_45 : decode cX4_poke 45 = .ok (.iload 6, 2) := by decide +kernel
theorem dX4_poke_47 : decode cX4_poke 47 = .ok (.iload_n 2, 1) := by decide +kernel
theorem dX4_poke_48 : decode cX4_poke 48 = .ok (.iload_n 3, 1) := by decide +kernel
theorem dX4_poke_49 : decode cX4_poke 49 = .ok (.invokevirtual 93, 3) := by decide +kernel
theorem dX4_poke_52 : decode cX4_poke 52 = .ok (.iload 4, 2) := by decide +kernel
theorem dX4_poke_54 : decode cX4_poke 54 = .ok (.iload 5, 2) := by decide +kernel
theorem dX4_poke_56 : decode cX4_poke 56 = .ok (.iload 7, 2) := by decide +kernel
theorem dX4_poke_58 : decode cX4_poke 58 = .ok (.invokestatic 97, 3) := by decide +kernel
theorem dX4_poke_61 : decode cX4_poke 61 = .ok (.imul, 1) := by decide +kernel
theorem dX4_poke_62 : decode cX4_poke 62 = .ok (.iadd, 1) := by decide +kernel
theorem dX4_poke_63 : decode cX4_poke 63 = .ok (.istore 4, 2) := by decide +kernel
theorem dX4_poke_65 : decode cX4_poke 65 = .ok (.iload 5, 2) := by decide +kernel
theorem dX4_poke_67 : decode cX4_poke 67 = .ok (.bipush 10, 2) := by decide +kernel
theorem dX4_poke_69 : decode cX4_poke 69 = .ok (.imul, 1) := by decide +kernel
theorem dX4_poke_70 : decode cX4_poke 70 = .ok (.istore 5, 2) := by decide +kernel
theorem dX4_poke_72 : decode cX4_poke 72 = .ok (.iinc 6 1, 3) := by decide +kernel
theorem dX4_poke_75 : decode cX4_poke 75 = .ok (.goto (-53), 3) := by decide +kernel
theorem dX4_poke_78 : decode cX4_poke 78 = .ok (.iload 4, 2) := by decide +kernel
theorem dX4_poke_80 : decode cX4_poke 80 = .ok (.ireturn, 1) := by decide +kernel
theorem dX4_light_0 : decode cX4_light 0 = .ok (.aload_n 0, 1) := by decide +kernel
theorem dX4_light_1 : decode cX4_light 1 = .ok (.aload_n 0, 1) := by decide +kernel
theorem dX4_light_2 : decode cX4_light 2 = .ok (.iload_n 1, 1) := by decide +kernel
theorem dX4_light_3 : decode cX4_light 3 = .ok (.iconst 3, 1) := by decide +kernel
theorem dX4_light_4 : decode cX4_light 4 = .ok (.iload_n 2, 1) := by decide +kernel
theorem dX4_light_5 : decode cX4_light 5 = .ok (.invokevirtual 87, 3) := by decide +kernel
theorem dX4_light_8 : decode cX4_light 8 = .ok (.putfield 100, 3) := by decide +kernel
theorem dX4_light_11 : decode cX4_light 11 = .ok (.aload_n 0, 1) := by decide +kernel
theorem dX4_light_12 : decode cX4_light 12 = .ok (.getfield 100, 3) := by decide +kernel
theorem dX4_light_15 : decode cX4_light 15 = .ok (.ifCond .ne 13, 3) := by decide +kernel
theorem dX4_light_18 : decode cX4_light 18 = .ok (.aload_n 0, 1) := by decide +kernel
theorem dX4_light_19 : decode cX4_light 19 = .ok (.iload_n 1, 1) := by decide +kernel
theorem dX4_light_20 : decode cX4_light 20 = .ok (.iconst 3, 1) := by decide +kernel
theorem dX4_light_21 : decode cX4_light 21 = .ok (.iload_n 2, 1) := by decide +kernel
theorem dX4_light_22 : decode cX4_light 22 = .ok (.invokevirtual 90, 3) := by decide +kernel
theorem dX4_light_25 : decode cX4_light 25 = .ok (.ifCond .ne 5, 3) := by decide +kernel
theorem dX4_light_28 : decode cX4_light 28 = .ok (.iconst 0, 1) := by decide +kernel
theorem dX4_light_29 : decode cX4_light 29 = .ok (.ireturn, 1) := by decide +kernel
theorem dX4_light_30 : decode cX4_light 30 = .ok (.aload_n 0, 1) := by decide +kernel
theorem dX4_light_31 : decode cX4_light 31 = .ok (.aload_n 0, 1) := by decide +kernel
theorem dX4_light_32 : decode cX4_light 32 = .ok (.iload_n 1, 1) := by decide +kernel
theorem dX4_light_33 : decode cX4_light 33 = .ok (.iconst 2, 1) := by decide +kernel
theorem dX4_light_34 : decode cX4_light 34 = .ok (.iload_n 2, 1) := by decide +kernel
theorem dX4_light_35 : decode cX4_light 35 = .ok (.invokevirtual 87, 3) := by decide +kernel
theorem dX4_light_38 : decode cX4_light 38 = .ok (.putfield 100, 3) := by decide +kernel
theorem dX4_light_41 : decode cX4_light 41 = .ok (.aload_n 0, 1) := by decide +kernel
theorem dX4_light_42 : decode cX4_light 42 = .ok (.getfield 100, 3) := by decide +kernel
theorem dX4_light_45 : decode cX4_light 45 = .ok (.ifCond .eq 5, 3) := by decide +kernel
theorem dX4_light_48 : decode cX4_light 48 = .ok (.iconst 0, 1) := by decide +kernel
theorem dX4_light_49 : decode cX4_light 49 = .ok (.ireturn, 1) := by decide +kernel
theorem dX4_light_50 : decode cX4_light 50 = .ok (.aload_n 0, 1) := by decide +kernel
theorem dX4_light_51 : decode cX4_light 51 = .ok (.aload_n 0, 1) := by decide +kernel
theorem dX4_light_52 : decode cX4_light 52 = .ok (.iload_n 1, 1) := by decide +kernel
theorem dX4_light_53 : decode cX4_light 53 = .ok (.iconst 1, 1) := by decide +kernel
theorem dX4_light_54 : decode cX4_light 54 = .ok (.iload_n 2, 1) := by decide +kernel
theorem dX4_light_55 : decode cX4_light 55 = .ok (.invokevirtual 87, 3) := by decide +kernel
theorem dX4_light_58 : decode cX4_light 58 = .ok (.putfield 100, 3) := by decide +kernel
theorem dX4_light_61 : decode cX4_light 61 = .ok (.aload_n 0, 1) := by decide +kernel
theorem dX4_light_62 : decode cX4_light 62 = .ok (.getfield 100, 3) := by decide +kernel
theorem dX4_light_65 : decode cX4_light 65 = .ok (.ifCond .eq 5, 3) := by decide +kernel
theorem dX4_light_68 : decode cX4_light 68 = .ok (.iconst 0, 1) := by decide +kernel
theorem dX4_light_69 : decode cX4_light 69 = .ok (.ireturn, 1) := by decide +kernel
theorem dX4_light_70 : decode cX4_light 70 = .ok (.aload_n 0, 1) := by decide +kernel
theorem dX4_light_71 : decode cX4_light 71 = .ok (.aload_n 0, 1) := by decide +kernel
theorem dX4_light_72 : decode cX4_light 72 = .ok (.iload_n 1, 1) := by decide +kernel
theorem dX4_light_73 : decode cX4_light 73 = .ok (.iconst 0, 1) := by decide +kernel
theorem dX4_light_74 : decode cX4_light 74 = .ok (.iload_n 2, 1) := by decide +kernel
theorem dX4_light_75 : decode cX4_light 75 = .ok (.invokevirtual 87, 3) := by decide +kernel
theorem dX4_light_78 : decode cX4_light 78 = .ok (.putfield 100, 3) := by decide +kernel
theorem dX4_light_81 : decode cX4_light 81 = .ok (.aload_n 0, 1) := by decide +kernel
theorem dX4_light_82 : decode cX4_light 82 = .ok (.getfield 100, 3) := by decide +kernel
theorem dX4_light_85 : decode cX4_light 85 = .ok (.ifCond .eq 5, 3) := by decide +kernel
theorem dX4_light_88 : decode cX4_light 88 = .ok (.iconst 0, 1) := by decide +kernel
theorem dX4_light_89 : decode cX4_light 89 = .ok (.ireturn, 1) := by decide +kernel
theorem dX4_light_90 : decode cX4_light 90 = .ok (.aload_n 0, 1) := by decide +kernel
theorem dX4_light_91 : decode cX4_light 91 = .ok (.iload_n 1, 1) := by decide +kernel
theorem dX4_light_92 : decode cX4_light 92 = .ok (.iconst 2, 1) := by decide +kernel
theorem dX4_light_93 : decode cX4_light 93 = .ok (.iload_n 2, 1) := by decide +kernel
theorem dX4_light_94 : decode cX4_light 94 = .ok (.invokevirtual 90, 3) := by decide +kernel
theorem dX4_light_97 : decode cX4_light 97 = .ok (.aload_n 0, 1) := by decide +kernel
theorem dX4_light_98 : decode cX4_light 98 = .ok (.iload_n 1, 1) := by decide +kernel
theorem dX4_light_99 : decode cX4_light 99 = .ok (.iconst 1, 1) := by decide +kernel
theorem dX4_light_100 : decode cX4_light 100 = .ok (.iload_n 2, 1) := by decide +kernel
theorem dX4_light_101 : decode cX4_light 101 = .ok (.invokevirtual 90, 3) := by decide +kernel
theorem dX4_light_104 : decode cX4_light 104 = .ok (.iadd, 1) := by decide +kernel
theorem dX4_light_105 : decode cX4_light 105 = .ok (.istore_n 3, 1) := by decide +kernel
theorem dX4_light_106 : decode cX4_light 106 = .ok (.aload_n 0, 1) := by decide +kernel
theorem dX4_light_107 : decode cX4_light 107 = .ok (.iload_n 1, 1) := by decide +kernel
theorem dX4_light_108 : decode cX4_light 108 = .ok (.iconst 0, 1) := by decide +kernel
theorem dX4_light_109 : decode cX4_light 109 = .ok (.iload_n 2, 1) := by decide +kernel
theorem dX4_light_110 : decode cX4_light 110 = .ok (.invokevirtual 90, 3) := by decide +kernel
theorem dX4_light_113 : decode cX4_light 113 = .ok (.iconst 2, 1) := by decide +kernel
theorem dX4_light_114 : decode cX4_light 114 = .ok (.irem, 1) := by decide +kernel
theorem dX4_light_115 : decode cX4_light 115 = .ok (.iconst 1, 1) := by decide +kernel
theorem dX4_light_116 : decode cX4_light 116 = .ok (.if_icmp .ne 8, 3) := by decide +kernel
theorem dX4_light_119 : decode cX4_light 119 = .ok (.iload_n 3, 1) := by decide +kernel
theorem dX4_light_120 : decode cX4_light 120 = .ok (.ineg, 1) := by decide +kernel
theorem dX4_light_121 : decode cX4_light 121 = .ok (.goto 4, 3) := by decide +kernel
theorem dX4_light_124 : decode cX4_light 124 = .ok (.iload_n 3, 1) := by decide +kernel
theorem dX4_light_125 : decode cX4_light 125 = .ok (.ireturn, 1) := by decide +kernel
theorem dX4_shown_0 : decode cX4_shown 0 = .ok (.aload_n 0, 1) := by decide +kernel
theorem dX4_shown_1 : decode cX4_shown 1 = .ok (.iload_n 1, 1) := by decide +kernel
theorem dX4_shown_2 : decode cX4_shown 2 = .ok (.invokestatic 73, 3) := by decide +kernel
theorem dX4_shown_5 : decode cX4_shown 5 = .ok (.invokevirtual 80, 3) := by decide +kernel
theorem dX4_shown_8 : decode cX4_shown 8 = .ok (.ifCond .ne 5, 3) := by decide +kernel
theorem dX4_shown_11 : decode cX4_shown 11 = .ok (.iconst 0, 1) := by decide +kernel
theorem dX4_shown_12 : decode cX4_shown 12 = .ok (.ireturn, 1) := by decide +kernel
theorem dX4_shown_13 : decode cX4_shown 13 = .ok (.aload_n 0, 1) := by decide +kernel
theorem dX4_shown_14 : decode cX4_shown 14 = .ok (.iload_n 1, 1) := by decide +kernel
theorem dX4_shown_15 : decode cX4_shown 15 = .ok (.iload_n 2, 1) := by decide +kernel
theorem dX4_shown_16 : decode cX4_shown 16 = .ok (.invokevirtual 103, 3) := by decide +kernel
theorem dX4_shown_19 : decode cX4_shown 19 = .ok (.istore_n 3, 1) := by decide +kernel
theorem dX4_shown_20 : decode cX4_shown 20 = .ok (.aload_n 0, 1) := by decide +kernel
theorem dX4_shown_21 : decode cX4_shown 21 = .ok (.aload_n 0, 1) := by decide +kernel
theorem dX4_shown_22 : decode cX4_shown 22 = .ok (.getfield 100, 3) := by decide +kernel
theorem dX4_shown_25 : decode cX4_shown 25 = .ok (.putfield 41, 3) := by decide +kernel
theorem dX4_shown_28 : decode cX4_shown 28 = .ok (.iload_n 3, 1) := by decide +kernel
theorem dX4_shown_29 : decode cX4_shown 29 = .ok (.ireturn, 1) := by decide +kernel
theorem dX4_lit_0 : decode cX4_lit 0 = .ok (.aload_n 0, 1) := by decide +kernel
theorem dX4_lit_1 : decode cX4_lit 1 = .ok (.iload_n 1, 1) := by decide +kernel
theorem dX4_lit_2 : decode cX4_lit 2 = .ok (.invokestatic 73, 3) := by decide +kernel
theorem dX4_lit_5 : decode cX4_lit 5 = .ok (.invokevirtual 80, 3) := by decide +kernel
theorem dX4_lit_8 : decode cX4_lit 8 = .ok (.ifCond .ne 5, 3) := by decide +kernel
theorem dX4_lit_11 : decode cX4_lit 11 = .ok (.iconst 0, 1) := by decide +kernel
theorem dX4_lit_12 : decode cX4_lit 12 = .ok (.ireturn, 1) := by decide +kernel
theorem dX4_lit_13 : decode cX4_lit 13 = .ok (.aload_n 0, 1) := by decide +kernel
theorem dX4_lit_14 : decode cX4_lit 14 = .ok (.getfield 7, 3) := by decide +kernel
theorem dX4_lit_17 : decode cX4_lit 17 = .ok (.iconst 4, 1) := by decide +kernel
theorem dX4_lit_18 : decode cX4_lit 18 = .ok (.iload_n 1, 1) := by decide +kernel
theorem dX4_lit_19 : decode cX4_lit 19 = .ok (.imul, 1) := by decide +kernel
theorem dX4_lit_20 : decode cX4_lit 20 = .ok (.iconst 2, 1) := by decide +kernel
theorem dX4_lit_21 : decode cX4_lit 21 = .ok (.iadd, 1) := by decide +kernel
theorem dX4_lit_22 : decode cX4_lit 22 = .ok (.iaload, 1) := by decide +kernel
theorem dX4_lit_23 : decode cX4_lit 23 = .ok (.istore_n 2, 1) := by decide +kernel
theorem dX4_lit_24 : decode cX4_lit 24 = .ok (.iload_n 2, 1) := by decide +kernel
theorem dX4_lit_25 : decode cX4_lit 25 = .ok (.iconst (-1), 1) := by decide +kernel
theorem dX4_lit_26 : decode cX4_lit 26 = .ok (.if_icmp .ne 14, 3) := by decide +kernel
theorem dX4_lit_29 : decode cX4_lit 29 = .ok (.aload_n 0, 1) := by decide +kernel
theorem dX4_lit_30 : decode cX4_lit 30 = .ok (.aload_n 0, 1) := by decide +kernel
theorem dX4_lit_31 : decode cX4_lit 31 = .ok (.iconst 2, 1) := by decide +kernel
theorem dX4_lit_32 : decode cX4_lit 32 = .ok (.invokevirtual 57, 3) := by decide +kernel
theorem dX4_lit_35 : decode cX4_lit 35 = .ok (.putfield 41, 3) := by decide +kernel
theorem dX4_lit_38 : decode cX4_lit 38 = .ok (.iconst 0, 1) := by decide +kernel
theorem dX4_lit_39 : decode cX4_lit 39 = .ok (.ireturn, 1) := by decide +kernel
theorem dX4_lit_40 : decode cX4_lit 40 = .ok (.iconst 0, 1) := by decide +kernel
theorem dX4_lit_41 : decode cX4_lit 41 = .ok (.istore_n 3, 1) := by decide +kernel
theorem dX4_lit_42 : decode cX4_lit 42 = .ok (.iconst 0, 1) := by decide +kernel
theorem dX4_lit_43 : decode cX4_lit 43 = .ok (.istore 4, 2) := by decide +kernel
theorem dX4_lit_45 : decode cX4_lit 45 = .ok (.iload 4, 2) := by decide +kernel
theorem dX4_lit_47 : decode cX4_lit 47 = .ok (.aload_n 0, 1) := by decide +kernel
theorem dX4_lit_48 : decode cX4_lit 48 = .ok (.getfield 13, 3) := by decide +kernel
theorem dX4_lit_51 : decode cX4_lit 51 = .ok (.iload_n 2, 1) := by decide +kernel
theorem dX4_lit_52 : decode cX4_lit 52 = .ok (.iaload, 1) := by decide +kernel
theorem dX4_lit_53 : decode cX4_lit 53 = .ok (.if_icmp .ge 67, 3) := by decide +kernel
theorem dX4_lit_56 : decode cX4_lit 56 = .ok (.aload_n 0, 1) := by decide +kernel
theorem dX4_lit_57 : decode cX4_lit 57 = .ok (.iload_n 1, 1) := by decide +kernel
theorem dX4_lit_58 : decode cX4_lit 58 = .ok (.iconst 3, 1) := by decide +kernel
theorem dX4_lit_59 : decode cX4_lit 59 = .ok (.iload 4, 2) := by decide +kernel
theorem dX4_lit_61 : decode cX4_lit 61 = .ok (.invokevirtual 87, 3) := by decide +kernel
theorem dX4_lit_64 : decode cX4_lit 64 = .ok (.ifCond .ne 19, 3) := by decide +kernel
theorem dX4_lit_67 : decode cX4_lit 67 = .ok (.aload_n 0, 1) := by decide +kernel
theorem dX4_lit_68 : decode cX4_lit 68 = .ok (.iload_n 1, 1) := by decide +kernel
theorem dX4_lit_69 : decode cX4_lit 69 = .ok (.iconst 3, 1) := by decide +kernel
theorem dX4_lit_70 : decode cX4_lit 70 = .ok (.iload 4, 2) := by decide +kernel
theorem dX4_lit_72 : decode cX4_lit 72 = .ok (.invokevirtual 90, 3) := by decide +kernel
theorem dX4_lit_75 : decode cX4_lit 75 = .ok (.iconst 1, 1) := by decide +kernel
theorem dX4_lit_76 : decode cX4_lit 76 = .ok (.if_icmp .ne 7, 3) := by decide +kernel
theorem dX4_lit_79 : decode cX4_lit 79 = .ok (.iconst 1, 1) := by decide +kernel
theorem dX4_lit_80 : decode cX4_lit 80 = .ok (.goto 4, 3) := by decide +kernel
theorem dX4_lit_83 : decode cX4_lit 83 = .ok (.iconst 0, 1) := by decide +kernel
theorem dX4_lit_84 : decode cX4_lit 84 = .ok (.istore 5, 2) := by decide +kernel
theorem dX4_lit_86 : decode cX4_lit 86 = .ok (.iload_n 3, 1) := by decide +kernel
theorem dX4_lit_87 : decode cX4_lit 87 = .ok (.iload 5, 2) := by decide +kernel
theorem dX4_lit_89 : decode cX4_lit 89 = .ok (.ifCond .eq 22, 3) := by decide +kernel
theorem dX4_lit_92 : decode cX4_lit 92 = .ok (.aload_n 0, 1) := by decide +kernel
theorem dX4_lit_93 : decode cX4_lit 93 = .ok (.getfield 16, 3) := by decide +kernel
theorem dX4_lit_96 : decode cX4_lit 96 = .ok (.bipush 25, 2) := by decide +kernel
theorem dX4_lit_98 : decode cX4_lit 98 = .ok (.iload_n 2, 1) := by decide +kernel
theorem dX4_lit_99 : decode cX4_lit 99 = .ok (.imul, 1) := by decide +kernel
theorem dX4_lit_100 : decode cX4_lit 100 = .ok (.iload 4, 2) := by decide +kernel
theorem dX4_lit_102 : decode cX4_lit 102 = .ok (.iadd, 1) := by decide +kernel
theorem dX4_lit_103 : decode cX4_lit 103 = .ok (.iaload, 1) := by decide +kernel
theorem dX4_lit_104 : decode cX4_lit 104 = .ok (.ifCond .le 7, 3) := by decide +kernel
theorem dX4_lit_107 : decode cX4_lit 107 = .ok (.iconst 1, 1) := by decide +kernel
theorem dX4_lit_108 : decode cX4_lit 108 = .ok (.goto 4, 3) := by decide +kernel
theorem dX4_lit_111 : decode cX4_lit 111 = .ok (.iconst 0, 1) := by decide +kernel
theorem dX4_lit_112 : decode cX4_lit 112 = .ok (.iadd, 1) := by decide +kernel
theorem dX4_lit_113 : decode cX4_lit 113 = .ok (.istore_n 3, 1) := by decide +kernel
theorem dX4_lit_114 : decode cX4_lit 114 = .ok (.iinc 4 1, 3) := by decide +kernel
theorem dX4_lit_117 : decode cX4_lit 117 = .ok (.goto (-72), 3) := by decide +kernel
theorem dX4_lit_120 : decode cX4_lit 120 = .ok (.iload_n 3, 1) := by decide +kernel
theorem dX4_lit_121 : decode cX4_lit 121 = .ok (.ireturn, 1) := by decide +kernel
theorem dX4_fade_0 : decode cX4_fade 0 = .ok (.aload_n 0, 1) := by decide +kernel
theorem dX4_fade_1 : decode cX4_fade 1 = .ok (.iload_n 1, 1) := by decide +kernel
theorem dX4_fade_2 : decode cX4_fade 2 = .ok (.invokestatic 73, 3) := by decide +kernel
theorem dX4_fade_5 : decode cX4_fade 5 = .ok (.ifCond .eq 19, 3) := by decide +kernel
theorem dX4_fade_8 : decode cX4_fade 8 = .ok (.iload 4, 2) := by decide +kernel
theorem dX4_fade_10 : decode cX4_fade 10 = .ok (.iconst 1, 1) := by decide +kernel
theorem dX4_fade_11 : decode cX4_fade 11 = .ok (.sipush 1000, 3) := by decide +kernel
theorem dX4_fade_14 : decode cX4_fade 14 = .ok (.invokestatic 37, 3) := by decide +kernel
theorem dX4_fade_17 : decode cX4_fade 17 = .ok (.ifCond .eq 7, 3) := by decide +kernel
theorem dX4_fade_20 : decode cX4_fade 20 = .ok (.iconst 1, 1) := by decide +kernel
theorem dX4_fade_21 : decode cX4_fade 21 = .ok (.goto 4, 3) := by decide +kernel
theorem dX4_fade_24 : decode cX4_fade 24 = .ok (.iconst 0, 1) := by decide +kernel
theorem dX4_fade_25 : decode cX4_fade 25 = .ok (.invokevirtual 80, 3) := by decide +kernel
theorem dX4_fade_28 : decode cX4_fade 28 = .ok (.ifCond .ne 5, 3) := by decide +kernel
theorem dX4_fade_31 : decode cX4_fade 31 = .ok (.iconst 0, 1) := by decide +kernel
theorem dX4_fade_32 : decode cX4_fade 32 = .ok (.ireturn, 1) := by decide +kernel
theorem dX4_fade_33 : decode cX4_fade 33 = .ok (.aload_n 0, 1) := by decide +kernel
theorem dX4_fade_34 : decode cX4_fade 34 = .ok (.getfield 106, 3) := by decide +kernel
theorem dX4_fade_37 : decode cX4_fade 37 = .ok (.bipush 16, 2) := by decide +kernel
theorem dX4_fade_39 : decode cX4_fade 39 = .ok (.if_icmp .ne 11, 3) := by decide +kernel
theorem dX4_fade_42 : decode cX4_fade 42 = .ok (.aload_n 0, 1) := by decide +kernel
theorem dX4_fade_43 : decode cX4_fade 43 = .ok (.bipush 6, 2) := by decide +kernel
theorem dX4_fade_45 : decode cX4_fade 45 = .ok (.putfield 41, 3) := by decide +kernel
theorem dX4_fade_48 : decode cX4_fade 48 = .ok (.iconst 0, 1) := by decide +kernel
theorem dX4_fade_49 : decode cX4_fade 49 = .ok (.ireturn, 1) := by decide +kernel
theorem dX4_fade_50 : decode cX4_fade 50 = .ok (.aload_n 0, 1) := by decide +kernel
theorem dX4_fade_51 : decode cX4_fade 51 = .ok (.aload_n 0, 1) := by decide +kernel
theorem dX4_fade_52 : decode cX4_fade 52 = .ok (.iload_n 1, 1) := by decide +kernel
theorem dX4_fade_53 : decode cX4_fade 53 = .ok (.iconst 2, 1) := by decide +kernel
theorem dX4_fade_54 : decode cX4_fade 54 = .ok (.iload_n 2, 1) := by decide +kernel
theorem dX4_fade_55 : decode cX4_fade 55 = .ok (.invokevirtual 87, 3) := by decide +kernel
theorem dX4_fade_58 : decode cX4_fade 58 = .ok (.putfield 41, 3) := by decide +kernel
theorem dX4_fade_61 : decode cX4_fade 61 = .ok (.aload_n 0, 1) := by decide +kernel
theorem dX4_fade_62 : decode cX4_fade 62 = .ok (.getfield 41, 3) := by decide +kernel
theorem dX4_fade_65 : decode cX4_fade 65 = .ok (.ifCond .eq 5, 3) := by decide +kernel
theorem dX4_fade_68 : decode cX4_fade 68 = .ok (.iconst 0, 1) := by decide +kernel
theorem dX4_fade_69 : decode cX4_fade 69 = .ok (.ireturn, 1) := by decide +kernel
theorem dX4_fade_70 : decode cX4_fade 70 = .ok (.aload_n 0, 1) := by decide +kernel
theorem dX4_fade_71 : decode cX4_fade 71 = .ok (.getfield 25, 3) := by decide +kernel
theorem dX4_fade_74 : decode cX4_fade 74 = .ok (.aload_n 0, 1) := by decide +kernel
theorem dX4_fade_75 : decode cX4_fade 75 = .ok (.getfield 106, 3) := by decide +kernel
theorem dX4_fade_78 : decode cX4_fade 78 = .ok (.iload_n 1, 1) := by decide +kernel
theorem dX4_fade_79 : decode cX4_fade 79 = .ok (.iastore, 1) := by decide +kernel
theorem dX4_fade_80 : decode cX4_fade 80 = .ok (.aload_n 0, 1) := by decide +kernel
theorem dX4_fade_81 : decode cX4_fade 81 = .ok (.getfield 28, 3) := by decide +kernel
theorem dX4_fade_84 : decode cX4_fade 84 = .ok (.aload_n 0, 1) := by decide +kernel
theorem dX4_fade_85 : decode cX4_fade 85 = .ok (.getfield 106, 3) := by decide +kernel
theorem dX4_fade_88 : decode cX4_fade 88 = .ok (.iload_n 2, 1) := by decide +kernel
theorem dX4_fade_89 : decode cX4_fade 89 = .ok (.iastore, 1) := by decide +kernel
theorem dX4_fade_90 : decode cX4_fade 90 = .ok (.aload_n 0, 1) := by decide +kernel
theorem dX4_fade_91 : decode cX4_fade 91 = .ok (.getfield 31, 3) := by decide +kernel
theorem dX4_fade_94 : decode cX4_fade 94 = .ok (.aload_n 0, 1) := by decide +kernel
theorem dX4_fade_95 : decode cX4_fade 95 = .ok (.getfield 106, 3) := by decide +kernel
theorem dX4_fade_98 : decode cX4_fade 98 = .ok (.iload_n 3, 1) := by decide +kernel
theorem dX4_fade_99 : decode cX4_fade 99 = .ok (.invokestatic 49, 3) := by decide +kernel
theorem dX4_fade_102 : decode cX4_fade 102 = .ok (.iastore, 1) := by decide +kernel
theorem dX4_fade_103 : decode cX4_fade 103 = .ok (.aload_n 0, 1) := by decide +kernel
theorem dX4_fade_104 : decode cX4_fade 104 = .ok (.getfield 34, 3) := by decide +kernel
theorem dX4_fade_107 : decode cX4_fade 107 = .ok (.aload_n 0, 1) := by decide +kernel
theorem dX4_fade_108 : decode cX4_fade 108 = .ok (.getfield 106, 3) := by decide +kernel
theorem dX4_fade_111 : decode cX4_fade 111 = .ok (.iload 4, 2) := by decide +kernel
theorem dX4_fade_113 : decode cX4_fade 113 = .ok (.iastore, 1) := by decide +kernel
theorem dX4_fade_114 : decode cX4_fade 114 = .ok (.aload_n 0, 1) := by decide +kernel
theorem dX4_fade_115 : decode cX4_fade 115 = .ok (.dup, 1) := by decide +kernel
theorem dX4_fade_116 : decode cX4_fade 116 = .ok (.getfield 106, 3) := by decide +kernel
theorem dX4_fade_119 : decode cX4_fade 119 = .ok (.iconst 1, 1) := by decide +kernel
theorem dX4_fade_120 : decode cX4_fade 120 = .ok (.iadd, 1) := by decide +kernel
theorem dX4_fade_121 : decode cX4_fade 121 = .ok (.putfield 106, 3) := by decide +kernel
theorem dX4_fade_124 : decode cX4_fade 124 = .ok (.aload_n 0, 1) := by decide +kernel
theorem dX4_fade_125 : decode cX4_fade 125 = .ok (.getfield 106, 3) := by decide +kernel
theorem dX4_fade_128 : decode cX4_fade 128 = .ok (.ireturn, 1) := by decide +kernel
theorem dX4_tick_0 : decode cX4_tick 0 = .ok (.aload_n 0, 1) := by decide +kernel
theorem dX4_tick_1 : decode cX4_tick 1 = .ok (.iconst 0, 1) := by decide +kernel
theorem dX4_tick_2 : decode cX4_tick 2 = .ok (.putfield 41, 3) := by decide +kernel
theorem dX4_tick_5 : decode cX4_tick 5 = .ok (.iconst 0, 1) := by decide +kernel
theorem dX4_tick_6 : decode cX4_tick 6 = .ok (.istore_n 1, 1) := by decide +kernel
theorem dX4_tick_7 : decode cX4_tick 7 = .ok (.iconst 0, 1) := by decide +kernel
theorem dX4_tick_8 : decode cX4_tick 8 = .ok (.istore_n 2, 1) := by decide +kernel
theorem dX4_tick_9 : decode cX4_tick 9 = .ok (.iload_n 2, 1) := by decide +kernel
theorem dX4_tick_10 : decode cX4_tick 10 = .ok (.aload_n 0, 1) := by decide +kernel
theorem dX4_tick_11 : decode cX4_tick 11 = .ok (.getfield 106, 3) := by decide +kernel
theorem dX4_tick_14 : decode cX4_tick 14 = .ok (.if_icmp .ge 224, 3) := by decide +kernel
theorem dX4_tick_17 : decode cX4_tick 17 = .ok (.aload_n 0, 1) := by decide +kernel
theorem dX4_tick_18 : decode cX4_tick 18 = .ok (.getfield 25, 3) := by decide +kernel
theorem dX4_tick_21 : decode cX4_tick 21 = .ok (.iload_n 2, 1) := by decide +kernel
theorem dX4_tick_22 : decode cX4_tick 22 = .ok (.iaload, 1) := by decide +kernel
theorem dX4_tick_23 : decode cX4_tick 23 = .ok (.istore_n 3, 1) := by decide +kernel
theorem dX4_tick_24 : decode cX4_tick 24 = .ok (.aload_n 0, 1) := by decide +kernel
theorem dX4_tick_25 : decode cX4_tick 25 = .ok (.getfield 28, 3) := by decide +kernel
theorem dX4_tick_28 : decode cX4_tick 28 = .ok (.iload_n 2, 1) := by decide +kernel
theorem dX4_tick_29 : decode cX4_tick 29 = .ok (.iaload, 1) := by decide +kernel
theorem dX4_tick_30 : decode cX4_tick 30 = .ok (.istore 4, 2) := by decide +kernel
theorem dX4_tick_32 : decode cX4_tick 32 = .ok (.aload_n 0, 1) := by decide +kernel
theorem dX4_tick_33 : decode cX4_tick 33 = .ok (.iload_n 3, 1) := by decide +kernel
theorem dX4_tick_34 : decode cX4_tick 34 = .ok (.iconst 2, 1) := by decide +kernel
theorem dX4_tick_35 : decode cX4_tick 35 = .ok (.iload 4, 2) := by decide +kernel
theorem dX4_tick_37 : decode cX4_tick 37 = .ok (.invokevirtual 87, 3) := by decide +kernel
theorem dX4_tick_40 : decode cX4_tick 40 = .ok (.istore 5, 2) := by decide +kernel
theorem dX4_tick_42 : decode cX4_tick 42 = .ok (.aload_n 0, 1) := by decide +kernel
theorem dX4_tick_43 : decode cX4_tick 43 = .ok (.dup, 1) := by decide +kernel
theorem dX4_tick_44 : decode cX4_tick 44 = .ok (.getfield 109, 3) := by decide +kernel
theorem dX4_tick_47 : decode cX4_tick 47 = .ok (.iload 5, 2) := by decide +kernel
theorem dX4_tick_49 : decode cX4_tick 49 = .ok (.iconst 2, 1) := by decide +kernel
theorem dX4_tick_50 : decode cX4_tick 50 = .ok (.if_icmp .ne 7, 3) := by decide +kernel
theorem dX4_tick_53 : decode cX4_tick 53 = .ok (.iconst 1, 1) := by decide +kernel
theorem dX4_tick_54 : decode cX4_tick 54 = .ok (.goto 4, 3) := by decide +kernel
theorem dX4_tick_57 : decode cX4_tick 57 = .ok (.iconst 0, 1) := by decide +kernel
theorem dX4_tick_58 : decode cX4_tick 58 = .ok (.iadd, 1) := by decide +kernel
theorem dX4_tick_59 : decode cX4_tick 59 = .ok (.putfield 109, 3) := by decide +kernel
theorem dX4_tick_62 : decode cX4_tick 62 = .ok (.aload_n 0, 1) := by decide +kernel
theorem dX4_tick_63 : decode cX4_tick 63 = .ok (.dup, 1) := by decide +kernel
theorem dX4_tick_64 : decode cX4_tick 64 = .ok (.getfield 112, 3) := by decide +kernel
theorem dX4_tick_67 : decode cX4_tick 67 = .ok (.iload 5, 2) := by decide +kernel
theorem dX4_tick_69 : decode cX4_tick 69 = .ok (.iconst 3, 1) := by decide +kernel
theorem dX4_tick_70 : decode cX4_tick 70 = .ok (.if_icmp .ne 7, 3) := by decide +kernel
theorem dX4_tick_73 : decode cX4_tick 73 = .ok (.iconst 1, 1) := by decide +kernel
theorem dX4_tick_74 : decode cX4_tick 74 = .ok (.goto 4, 3) := by decide +kernel
theorem dX4_tick_77 : decode cX4_tick 77 = .ok (.iconst 0, 1) := by decide +kernel
theorem dX4_tick_78 : decode cX4_tick 78 = .ok (.iadd, 1) := by decide +kernel
theorem dX4_tick_79 : decode cX4_tick 79 = .ok (.putfield 112, 3) := by decide +kernel
theorem dX4_tick_82 : decode cX4_tick 82 = .ok (.iload 5, 2) := by decide +kernel
theorem dX4_tick_84 : decode cX4_tick 84 = .ok (.ifCond .eq 6, 3) := by decide +kernel
theorem dX4_tick_87 : decode cX4_tick 87 = .ok (.goto 145, 3) := by decide +kernel
theorem dX4_tick_90 : decode cX4_tick 90 = .ok (.aload_n 0, 1) := by decide +kernel
theorem dX4_tick_91 : decode cX4_tick 91 = .ok (.iload_n 3, 1) := by decide +kernel
theorem dX4_tick_92 : decode cX4_tick 92 = .ok (.iconst 2, 1) := by decide +kernel
theorem dX4_tick_93 : decode cX4_tick 93 = .ok (.iload 4, 2) := by decide +kernel
theorem dX4_tick_95 : decode cX4_tick 95 = .ok (.invokevirtual 90, 3) := by decide +kernel
theorem dX4_tick_98 : decode cX4_tick 98 = .ok (.istore 6, 2) := by decide +kernel
theorem dX4_tick_100 : decode cX4_tick 100 = .ok (.aload_n 0, 1) := by decide +kernel
theorem dX4_tick_101 : decode cX4_tick 101 = .ok (.getfield 31, 3) := by decide +kernel
theorem dX4_tick_104 : decode cX4_tick 104 = .ok (.iload_n 2, 1) := by decide +kernel
theorem dX4_tick_105 : decode cX4_tick 105 = .ok (.iaload, 1) := by decide +kernel
theorem dX4_tick_106 : decode cX4_tick 106 = .ok (.iload 6, 2) := by decide +kernel
theorem dX4_tick_108 : decode cX4_tick 108 = .ok (.isub, 1) := by decide +kernel
theorem dX4_tick_109 : decode cX4_tick 109 = .ok (.istore 7, 2) := by decide +kernel
theorem dX4_tick_111 : decode cX4_tick 111 = .ok (.iload 7, 2) := by decide +kernel
theorem dX4_tick_113 : decode cX4_tick 113 = .ok (.aload_n 0, 1) := by decide +kernel
theorem dX4_tick_114 : decode cX4_tick 114 = .ok (.getfield 34, 3) := by decide +kernel
theorem dX4_tick_117 : decode cX4_tick 117 = .ok (.iload_n 2, 1) := by decide +kernel
theorem dX4_tick_118 : decode cX4_tick 118 = .ok (.iaload, 1) := by decide +kernel
theorem dX4_tick_119 : decode cX4_tick 119 = .ok (.if_icmp .le 12, 3) := by decide +kernel
theorem dX4_tick_122 : decode cX4_tick 122 = .ok (.aload_n 0, 1) := by decide +kernel
theorem dX4_tick_123 : decode cX4_tick 123 = .ok (.getfield 34, 3) := by decide +kernel
theorem dX4_tick_126 : decode cX4_tick 126 = .ok (.iload_n 2, 1) := by decide +kernel
theorem dX4_tick_127 : decode cX4_tick 127 = .ok (.iaload, 1) := by decide +kernel
theorem dX4_tick_128 : decode cX4_tick 128 = .ok (.goto 27, 3) := by decide +kernel
theorem dX4_tick_131 : decode cX4_tick 131 = .ok (.iload 7, 2) := by decide +kernel
theorem dX4_tick_133 : decode cX4_tick 133 = .ok (.aload_n 0, 1) := by decide +kernel
theorem dX4_tick_134 : decode cX4_tick 134 = .ok (.getfield 34, 3) := by decide +kernel
theorem dX4_tick_137 : decode cX4_tick 137 = .ok (.iload_n 2, 1) := by decide +kernel
theorem dX4_tick_138 : decode cX4_tick 138 = .ok (.iaload, 1) := by decide +kernel
theorem dX4_tick_139 : decode cX4_tick 139 = .ok (.ineg, 1) := by decide +kernel
theorem dX4_tick_140 : decode cX4_tick 140 = .ok (.if_icmp .ge 13, 3) := by decide +kernel
theorem dX4_tick_143 : decode cX4_tick 143 = .ok (.aload_n 0, 1) := by decide +kernel
theorem dX4_tick_144 : decode cX4_tick 144 = .ok (.getfield 34, 3) := by decide +kernel
theorem dX4_tick_147 : decode cX4_tick 147 = .ok (.iload_n 2, 1) := by decide +kernel
theorem dX4_tick_148 : decode cX4_tick 148 = .ok (.iaload, 1) := by decide +kernel
theorem dX4_tick_149 : decode cX4_tick 149 = .ok (.ineg, 1) := by decide +kernel
theorem dX4_tick_150 : decode cX4_tick 150 = .ok (.goto 5, 3) := by decide +kernel
theorem dX4_tick_153 : decode cX4_tick 153 = .ok (.iload 7, 2) := by decide +kernel
theorem dX4_tick_155 : decode cX4_tick 155 = .ok (.istore 8, 2) := by decide +kernel
theorem dX4_tick_157 : decode cX4_tick 157 = .ok (.aload_n 0, 1) := by decide +kernel
theorem dX4_tick_158 : decode cX4_tick 158 = .ok (.iload_n 3, 1) := by decide +kernel
theorem dX4_tick_159 : decode cX4_tick 159 = .ok (.iconst 2, 1) := by decide +kernel
theorem dX4_tick_160 : decode cX4_tick 160 = .ok (.iload 4, 2) := by decide +kernel
theorem dX4_tick_162 : decode cX4_tick 162 = .ok (.iload 6, 2) := by decide +kernel
theorem dX4_tick_164 : decode cX4_tick 164 = .ok (.iload 8, 2) := by decide +kernel
theorem dX4_tick_166 : decode cX4_tick 166 = .ok (.iadd, 1) := by decide +kernel
theorem dX4_tick_167 : decode cX4_tick 167 = .ok (.invokevirtual 93, 3) := by decide +kernel
theorem dX4_tick_170 : decode cX4_tick 170 = .ok (.iload 8, 2) := by decide +kernel
theorem dX4_tick_172 : decode cX4_tick 172 = .ok (.iload 7, 2) := by decide +kernel
theorem dX4_tick_174 : decode cX4_tick 174 = .ok (.if_icmp .ne 16, 3) := by decide +kernel
theorem dX4_tick_177 : decode cX4_tick 177 = .ok (.aload_n 0, 1) := by decide +kernel
theorem dX4_tick_178 : decode cX4_tick 178 = .ok (.dup, 1) := by decide +kernel
theorem dX4_tick_179 : decode cX4_tick 179 = .ok (.getfield 115, 3) := by decide +kernel
theorem dX4_tick_182 : decode cX4_tick 182 = .ok (.iconst 1, 1) := by decide +kernel
theorem dX4_tick_183 : decode cX4_tick 183 = .ok (.iadd, 1) := by decide +kernel
theorem dX4_tick_184 : decode cX4_tick 184 = .ok (.putfield 115, 3) := by decide +kernel
theorem dX4_tick_187 : decode cX4_tick 187 = .ok (.goto 45, 3) := by decide +kernel
theorem dX4_tick_190 : decode cX4_tick 190 = .ok (.aload_n 0, 1) := by decide +kernel
theorem dX4_tick_191 : decode cX4_tick 191 = .ok (.getfield 25, 3) := by decide +kernel
theorem dX4_tick_194 : decode cX4_tick 194 = .ok (.iload_n 1, 1) := by decide +kernel
theorem dX4_tick_195 : decode cX4_tick 195 = .ok (.iload_n 3, 1) := by decide +kernel
theorem dX4_tick_196 : decode cX4_tick 196 = .ok (.iastore, 1) := by decide +kernel
theorem dX4_tick_197 : decode cX4_tick 197 = .ok (.aload_n 0, 1) := by decide +kernel
theorem dX4_tick_198 : decode cX4_tick 198 = .ok (.getfield 28, 3) := by decide +kernel
theorem dX4_tick_201 : decode cX4_tick 201 = .ok (.iload_n 1, 1) := by decide +kernel
theorem dX4_tick_202 : decode cX4_tick 202 = .ok (.iload 4, 2) := by decide +kernel
theorem dX4_tick_204 : decode cX4_tick 204 = .ok (.iastore, 1) := by decide +kernel
theorem dX4_tick_205 : decode cX4_tick 205 = .ok (.aload_n 0, 1) := by decide +kernel
theorem dX4_tick_206 : decode cX4_tick 206 = .ok (.getfield 31, 3) := by decide +kernel
theorem dX4_tick_209 : decode cX4_tick 209 = .ok (.iload_n 1, 1) := by decide +kernel
theorem dX4_tick_210 : decode cX4_tick 210 = .ok (.aload_n 0, 1) := by decide +kernel
theorem dX4_tick_211 : decode cX4_tick 211 = .ok (.getfield 31, 3) := by decide +kernel
theorem dX4_tick_214 : decode cX4_tick 214 = .ok (.iload_n 2, 1) := by decide +kernel
theorem dX4_tick_215 : decode cX4_tick 215 = .ok (.iaload, 1) := by decide +kernel
theorem dX4_tick_216 : decode cX4_tick 216 = .ok (.iastore, 1) := by decide +kernel
theorem dX4_tick_217 : decode cX4_tick 217 = .ok (.aload_n 0, 1) := by decide +kernel
theorem dX4_tick_218 : decode cX4_tick 218 = .ok (.getfield 34, 3) := by decide +kernel
theorem dX4_tick_221 : decode cX4_tick 221 = .ok (.iload_n 1, 1) := by decide +kernel
theorem dX4_tick_222 : decode cX4_tick 222 = .ok (.aload_n 0, 1) := by decide +kernel
theorem dX4_tick_223 : decode cX4_tick 223 = .ok (.getfield 34, 3) := by decide +kernel
theorem dX4_tick_226 : decode cX4_tick 226 = .ok (.iload_n 2, 1) := by decide +kernel
theorem dX4_tick_227 : decode cX4_tick 227 = .ok (.iaload, 1) := by decide +kernel
theorem dX4_tick_228 : decode cX4_tick 228 = .ok (.iastore, 1) := by decide +kernel
theorem dX4_tick_229 : decode cX4_tick 229 = .ok (.iinc 1 1, 3) := by decide +kernel
theorem dX4_tick_232 : decode cX4_tick 232 = .ok (.iinc 2 1, 3) := by decide +kernel
theorem dX4_tick_235 : decode cX4_tick 235 = .ok (.goto (-226), 3) := by decide +kernel
theorem dX4_tick_238 : decode cX4_tick 238 = .ok (.aload_n 0, 1) := by decide +kernel
theorem dX4_tick_239 : decode cX4_tick 239 = .ok (.iload_n 1, 1) := by decide +kernel
theorem dX4_tick_240 : decode cX4_tick 240 = .ok (.putfield 106, 3) := by decide +kernel
theorem dX4_tick_243 : decode cX4_tick 243 = .ok (.aload_n 0, 1) := by decide +kernel
theorem dX4_tick_244 : decode cX4_tick 244 = .ok (.getfield 106, 3) := by decide +kernel
theorem dX4_tick_247 : decode cX4_tick 247 = .ok (.ireturn, 1) := by decide +kernel
theorem dX4_sheet_0 : decode cX4_sheet 0 = .ok (.aload_n 0, 1) := by decide +kernel
theorem dX4_sheet_1 : decode cX4_sheet 1 = .ok (.iconst 0, 1) := by decide +kernel
theorem dX4_sheet_2 : decode cX4_sheet 2 = .ok (.putfield 41, 3) := by decide +kernel
theorem dX4_sheet_5 : decode cX4_sheet 5 = .ok (.iload_n 1, 1) := by decide +kernel
theorem dX4_sheet_6 : decode cX4_sheet 6 = .ok (.bipush 12, 2) := by decide +kernel
theorem dX4_sheet_8 : decode cX4_sheet 8 = .ok (.if_icmp .gt 9, 3) := by decide +kernel
theorem dX4_sheet_11 : decode cX4_sheet 11 = .ok (.iload_n 2, 1) := by decide +kernel
theorem dX4_sheet_12 : decode cX4_sheet 12 = .ok (.bipush 12, 2) := by decide +kernel
theorem dX4_sheet_14 : decode cX4_sheet 14 = .ok (.if_icmp .le 10, 3) := by decide +kernel
theorem dX4_sheet_17 : decode cX4_sheet 17 = .ok (.aload_n 0, 1) := by decide +kernel
theorem dX4_sheet_18 : decode cX4_sheet 18 = .ok (.iconst 5, 1) := by decide +kernel
theorem dX4_sheet_19 : decode cX4_sheet 19 = .ok (.putfield 41, 3) := by decide +kernel
theorem dX4_sheet_22 : decode cX4_sheet 22 = .ok (.iconst 0, 1) := by decide +kernel
theorem dX4_sheet_23 : decode cX4_sheet 23 = .ok (.ireturn, 1) := by decide +kernel
theorem dX4_sheet_24 : decode cX4_sheet 24 = .ok (.iload_n 1, 1) := by decide +kernel
theorem dX4_sheet_25 : decode cX4_sheet 25 = .ok (.ifCond .lt 7, 3) := by decide +kernel
theorem dX4_sheet_28 : decode cX4_sheet 28 = .ok (.iload_n 2, 1) := by decide +kernel
theorem dX4_sheet_29 : decode cX4_sheet 29 = .ok (.ifCond .ge 20, 3) := by decide +kernel
theorem dX4_sheet_32 : decode cX4_sheet 32 = .ok (.aload_n 0, 1) := by decide +kernel
theorem dX4_sheet_33 : decode cX4_sheet 33 = .ok (.iconst 4, 1) := by decide +kernel
theorem dX4_sheet_34 : decode cX4_sheet 34 = .ok (.putfield 41, 3) := by decide +kernel
theorem dX4_sheet_37 : decode cX4_sheet 37 = .ok (.aload_n 0, 1) := by decide +kernel
theorem dX4_sheet_38 : decode cX4_sheet 38 = .ok (.dup, 1) := by decide +kernel
theorem dX4_sheet_39 : decode cX4_sheet 39 = .ok (.getfield 84, 3) := by decide +kernel
theorem dX4_sheet_42 : decode cX4_sheet 42 = .ok (.iconst 1, 1) := by decide +kernel
theorem dX4_sheet_43 : decode cX4_sheet 43 = .ok (.iadd, 1) := by decide +kernel
theorem dX4_sheet_44 : decode cX4_sheet 44 = .ok (.putfield 84, 3) := by decide +kernel
theorem dX4_sheet_47 : decode cX4_sheet 47 = .ok (.iconst 0, 1) := by decide +kernel
theorem dX4_sheet_48 : decode cX4_sheet 48 = .ok (.ireturn, 1) := by decide +kernel
theorem dX4_sheet_49 : decode cX4_sheet 49 = .ok (.aload_n 0, 1) := by decide +kernel
theorem dX4_sheet_50 : decode cX4_sheet 50 = .ok (.iconst 1, 1) := by decide +kernel
theorem dX4_sheet_51 : decode cX4_sheet 51 = .ok (.putfield 118, 3) := by decide +kernel
theorem dX4_sheet_54 : decode cX4_sheet 54 = .ok (.aload_n 0, 1) := by decide +kernel
theorem dX4_sheet_55 : decode cX4_sheet 55 = .ok (.iload_n 1, 1) := by decide +kernel
theorem dX4_sheet_56 : decode cX4_sheet 56 = .ok (.putfield 122, 3) := by decide +kernel
theorem dX4_sheet_59 : decode cX4_sheet 59 = .ok (.aload_n 0, 1) := by decide +kernel
theorem dX4_sheet_60 : decode cX4_sheet 60 = .ok (.iload_n 2, 1) := by decide +kernel
theorem dX4_sheet_61 : decode cX4_sheet 61 = .ok (.putfield 125, 3) := by decide +kernel
theorem dX4_sheet_64 : decode cX4_sheet 64 = .ok (.iconst 0, 1) := by decide +kernel
theorem dX4_sheet_65 : decode cX4_sheet 65 = .ok (.istore_n 3, 1) := by decide +kernel
theorem dX4_sheet_66 : decode cX4_sheet 66 = .ok (.iload_n 3, 1) := by decide +kernel
theorem dX4_sheet_67 : decode cX4_sheet 67 = .ok (.bipush 12, 2) := by decide +kernel
theorem dX4_sheet_69 : decode cX4_sheet 69 = .ok (.if_icmp .ge 16, 3) := by decide +kernel
theorem dX4_sheet_72 : decode cX4_sheet 72 = .ok (.aload_n 0, 1) := by decide +kernel
theorem dX4_sheet_73 : decode cX4_sheet 73 = .ok (.getfield 19, 3) := by decide +kernel
theorem dX4_sheet_76 : decode cX4_sheet 76 = .ok (.iload_n 3, 1) := by decide +kernel
theorem dX4_sheet_77 : decode cX4_sheet 77 = .ok (.iload_n 3, 1) := by decide +kernel
theorem dX4_sheet_78 : decode cX4_sheet 78 = .ok (.iastore, 1) := by decide +kernel
theorem dX4_sheet_79 : decode cX4_sheet 79 = .ok (.iinc 3 1, 3) := by decide +kernel
theorem dX4_sheet_82 : decode cX4_sheet 82 = .ok (.goto (-16), 3) := by decide +kernel
theorem dX4_sheet_85 : decode cX4_sheet 85 = .ok (.iconst 0, 1) := by decide +kernel
theorem dX4_sheet_86 : decode cX4_sheet 86 = .ok (.istore_n 3, 1) := by decide +kernel
theorem dX4_sheet_87 : decode cX4_sheet 87 = .ok (.iload_n 3, 1) := by decide +kernel
theorem dX4_sheet_88 : decode cX4_sheet 88 = .ok (.sipush 144, 3) := by decide +kernel
theorem dX4_sheet_91 : decode cX4_sheet 91 = .ok (.if_icmp .ge 16, 3) := by decide +kernel
theorem dX4_sheet_94 : decode cX4_sheet 94 = .ok (.aload_n 0, 1) := by decide +kernel
theorem dX4_sheet_95 : decode cX4_sheet 95 = .ok (.getfield 22, 3) := by decide +kernel
theorem dX4_sheet_98 : decode cX4_sheet 98 = .ok (.iload_n 3, 1) := by decide +kernel
theorem dX4_sheet_99 : decode cX4_sheet 99 = .ok (.iconst 0, 1) := by decide +kernel
theorem dX4_sheet_100 : decode cX4_sheet 100 = .ok (.iastore, 1) := by decide +kernel
theorem dX4_sheet_101 : decode cX4_sheet 101 = .ok (.iinc 3 1, 3) := by decide +kernel
theorem dX4_sheet_104 : decode cX4_sheet 104 = .ok (.goto (-17), 3) := by decide +kernel
theorem dX4_sheet_107 : decode cX4_sheet 107 = .ok (.iload_n 1, 1) := by decide +kernel
theorem dX4_sheet_108 : decode cX4_sheet 108 = .ok (.iload_n 2, 1) := by decide +kernel
theorem dX4_sheet_109 : decode cX4_sheet 109 = .ok (.imul, 1) := by decide +kernel
theorem dX4_sheet_110 : decode cX4_sheet 110 = .ok (.ireturn, 1) := by decide +kernel
theorem dX4_whyCell_0 : decode cX4_whyCell 0 = .ok (.aload_n 0, 1) := by decide +kernel
theorem dX4_whyCell_1 : decode cX4_whyCell 1 = .ok (.getfield 118, 3) := by decide +kernel
theorem dX4_whyCell_4 : decode cX4_whyCell 4 = .ok (.ifCond .ne 5, 3) := by decide +kernel
theorem dX4_whyCell_7 : decode cX4_whyCell 7 = .ok (.iconst 2, 1) := by decide +kernel
theorem dX4_whyCell_8 : decode cX4_whyCell 8 = .ok (.ireturn, 1) := by decide +kernel
theorem dX4_whyCell_9 : decode cX4_whyCell 9 = .ok (.iload_n 1, 1) := by decide +kernel
theorem dX4_whyCell_10 : decode cX4_whyCell 10 = .ok (.iconst 0, 1) := by decide +kernel
theorem dX4_whyCell_11 : decode cX4_whyCell 11 = .ok (.aload_n 0, 1) := by decide +kernel
theorem dX4_whyCell_12 : decode cX4_whyCell 12 = .ok (.getfield 122, 3) := by decide +kernel
theorem dX4_whyCell_15 : decode cX4_whyCell 15 = .ok (.iconst 1, 1) := by decide +kernel
theorem dX4_whyCell_16 : decode cX4_whyCell 16 = .ok (.isub, 1) := by decide +kernel
theorem dX4_whyCell_17 : decode cX4_whyCell 17 = .ok (.invokestatic 37, 3) := by decide +kernel
theorem dX4_whyCell_20 : decode cX4_whyCell 20 = .ok (.ifCond .ne 5, 3) := by decide +kernel
theorem dX4_whyCell_23 : decode cX4_whyCell 23 = .ok (.iconst 3, 1) := by decide +kernel
theorem dX4_whyCell_24 : decode cX4_whyCell 24 = .ok (.ireturn, 1) := by decide +kernel
theorem dX4_whyCell_25 : decode cX4_whyCell 25 = .ok (.aload_n 0, 1) := by decide +kernel
theorem dX4_whyCell_26 : decode cX4_whyCell 26 = .ok (.getfield 19, 3) := by decide +kernel
theorem dX4_whyCell_29 : decode cX4_whyCell 29 = .ok (.iload_n 1, 1) := by decide +kernel
theorem dX4_whyCell_30 : decode cX4_whyCell 30 = .ok (.iaload, 1) := by decide +kernel
theorem dX4_whyCell_31 : decode cX4_whyCell 31 = .ok (.iconst (-1), 1) := by decide +kernel
theorem dX4_whyCell_32 : decode cX4_whyCell 32 = .ok (.if_icmp .ne 5, 3) := by decide +kernel
theorem dX4_whyCell_35 : decode cX4_whyCell 35 = .ok (.iconst 2, 1) := by decide +kernel
theorem dX4_whyCell_36 : decode cX4_whyCell 36 = .ok (.ireturn, 1) := by decide +kernel
theorem dX4_whyCell_37 : decode cX4_whyCell 37 = .ok (.iload_n 2, 1) := by decide +kernel
theorem dX4_whyCell_38 : decode cX4_whyCell 38 = .ok (.iconst 0, 1) := by decide +kernel
theorem dX4_whyCell_39 : decode cX4_whyCell 39 = .ok (.aload_n 0, 1) := by decide +kernel
theorem dX4_whyCell_40 : decode cX4_whyCell 40 = .ok (.getfield 125, 3) := by decide +kernel
theorem dX4_whyCell_43 : decode cX4_whyCell 43 = .ok (.iconst 1, 1) := by decide +kernel
theorem dX4_whyCell_44 : decode cX4_whyCell 44 = .ok (.isub, 1) := by decide +kernel
theorem dX4_whyCell_45 : decode cX4_whyCell 45 = .ok (.invokestatic 37, 3) := by decide +kernel
theorem dX4_whyCell_48 : decode cX4_whyCell 48 = .ok (.ifCond .eq 7, 3) := by decide +kernel
theorem dX4_whyCell_51 : decode cX4_whyCell 51 = .ok (.iconst 0, 1) := by decide +kernel
theorem dX4_whyCell_52 : decode cX4_whyCell 52 = .ok (.goto 4, 3) := by decide +kernel
theorem dX4_whyCell_55 : decode cX4_whyCell 55 = .ok (.iconst 3, 1) := by decide +kernel
theorem dX4_whyCell_56 : decode cX4_whyCell 56 = .ok (.ireturn, 1) := by decide +kernel
theorem dX4_cell_0 : decode cX4_cell 0 = .ok (.aload_n 0, 1) := by decide +kernel
theorem dX4_cell_1 : decode cX4_cell 1 = .ok (.aload_n 0, 1) := by decide +kernel
theorem dX4_cell_2 : decode cX4_cell 2 = .ok (.aload_n 0, 1) := by decide +kernel
theorem dX4_cell_3 : decode cX4_cell 3 = .ok (.iload_n 1, 1) := by decide +kernel
theorem dX4_cell_4 : decode cX4_cell 4 = .ok (.iload_n 2, 1) := by decide +kernel
theorem dX4_cell_5 : decode cX4_cell 5 = .ok (.invokevirtual 128, 3) := by decide +kernel
theorem dX4_cell_8 : decode cX4_cell 8 = .ok (.invokevirtual 57, 3) := by decide +kernel
theorem dX4_cell_11 : decode cX4_cell 11 = .ok (.putfield 41, 3) := by decide +kernel
theorem dX4_cell_14 : decode cX4_cell 14 = .ok (.aload_n 0, 1) := by decide +kernel
theorem dX4_cell_15 : decode cX4_cell 15 = .ok (.getfield 41, 3) := by decide +kernel
theorem dX4_cell_18 : decode cX4_cell 18 = .ok (.ifCond .ne 22, 3) := by decide +kernel
theorem dX4_cell_21 : decode cX4_cell 21 = .ok (.aload_n 0, 1) := by decide +kernel
theorem dX4_cell_22 : decode cX4_cell 22 = .ok (.getfield 22, 3) := by decide +kernel
theorem dX4_cell_25 : decode cX4_cell 25 = .ok (.bipush 12, 2) := by decide +kernel
theorem dX4_cell_27 : decode cX4_cell 27 = .ok (.aload_n 0, 1) := by decide +kernel
theorem dX4_cell_28 : decode cX4_cell 28 = .ok (.getfield 19, 3) := by decide +kernel
theorem dX4_cell_31 : decode cX4_cell 31 = .ok (.iload_n 1, 1) := by decide +kernel
theorem dX4_cell_32 : decode cX4_cell 32 = .ok (.iaload, 1) := by decide +kernel
theorem dX4_cell_33 : decode cX4_cell 33 = .ok (.imul, 1) := by decide +kernel
theorem dX4_cell_34 : decode cX4_cell 34 = .ok (.iload_n 2, 1) := by decide +kernel
theorem dX4_cell_35 : decode cX4_cell 35 = .ok (.iadd, 1) := by decide +kernel
theorem dX4_cell_36 : decode cX4_cell 36 = .ok (.iaload, 1) := by decide +kernel
theorem dX4_cell_37 : decode cX4_cell 37 = .ok (.goto 4, 3) := by decide +kernel
theorem dX4_cell_40 : decode cX4_cell 40 = .ok (.iconst 0, 1) := by decide +kernel
theorem dX4_cell_41 : decode cX4_cell 41 = .ok (.ireturn, 1) := by decide +kernel
theorem dX4_tear_0 : decode cX4_tear 0 = .ok (.aload_n 0, 1) := by decide +kernel
theorem dX4_tear_1 : decode cX4_tear 1 = .ok (.aload_n 0, 1) := by decide +kernel
theorem dX4_tear_2 : decode cX4_tear 2 = .ok (.aload_n 0, 1) := by decide +kernel
theorem dX4_tear_3 : decode cX4_tear 3 = .ok (.getfield 118, 3) := by decide +kernel
theorem dX4_tear_6 : decode cX4_tear 6 = .ok (.ifCond .ne 7, 3) := by decide +kernel
theorem dX4_tear_9 : decode cX4_tear 9 = .ok (.iconst 2, 1) := by decide +kernel
theorem dX4_tear_10 : decode cX4_tear 10 = .ok (.goto 41, 3) := by decide +kernel
theorem dX4_tear_13 : decode cX4_tear 13 = .ok (.iload_n 2, 1) := by decide +kernel
theorem dX4_tear_14 : decode cX4_tear 14 = .ok (.iconst (-1), 1) := by decide +kernel
theorem dX4_tear_15 : decode cX4_tear 15 = .ok (.if_icmp .eq 17, 3) := by decide +kernel
theorem dX4_tear_18 : decode cX4_tear 18 = .ok (.iload_n 2, 1) := by decide +kernel
theorem dX4_tear_19 : decode cX4_tear 19 = .ok (.iconst 0, 1) := by decide +kernel
theorem dX4_tear_20 : decode cX4_tear 20 = .ok (.aload_n 0, 1) := by decide +kernel
theorem dX4_tear_21 : decode cX4_tear 21 = .ok (.getfield 122, 3) := by decide +kernel
theorem dX4_tear_24 : decode cX4_tear 24 = .ok (.iconst 1, 1) := by decide +kernel
theorem dX4_tear_25 : decode cX4_tear 25 = .ok (.isub, 1) := by decide +kernel
theorem dX4_tear_26 : decode cX4_tear 26 = .ok (.invokestatic 37, 3) := by decide +kernel
theorem dX4_tear_29 : decode cX4_tear 29 = .ok (.ifCond .eq 17, 3) := by decide +kernel
theorem dX4_tear_32 : decode cX4_tear 32 = .ok (.iload_n 1, 1) := by decide +kernel
theorem dX4_tear_33 : decode cX4_tear 33 = .ok (.iconst 0, 1) := by decide +kernel
theorem dX4_tear_34 : decode cX4_tear 34 = .ok (.aload_n 0, 1) := by decide +kernel
theorem dX4_tear_35 : decode cX4_tear 35 = .ok (.getfield 122, 3) := by decide +kernel
theorem dX4_tear_38 : decode cX4_tear 38 = .ok (.iconst 1, 1) := by decide +kernel
theorem dX4_tear_39 : decode cX4_tear 39 = .ok (.isub, 1) := by decide +kernel
theorem dX4_tear_40 : decode cX4_tear 40 = .ok (.invokestatic 37, 3) := by decide +kernel
theorem dX4_tear_43 : decode cX4_tear 43 = .ok (.ifCond .ne 7, 3) := by decide +kernel
theorem dX4_tear_46 : decode cX4_tear 46 = .ok (.iconst 3, 1) := by decide +kernel
theorem dX4_tear_47 : decode cX4_tear 47 = .ok (.goto 4, 3) := by decide +kernel
theorem dX4_tear_50 : decode cX4_tear 50 = .ok (.iconst 0, 1) := by decide +kernel
theorem dX4_tear_51 : decode cX4_tear 51 = .ok (.invokevirtual 57, 3) := by decide +kernel
theorem dX4_tear_54 : decode cX4_tear 54 = .ok (.putfield 41, 3) := by decide +kernel
theorem dX4_tear_57 : decode cX4_tear 57 = .ok (.aload_n 0, 1) := by decide +kernel
theorem dX4_tear_58 : decode cX4_tear 58 = .ok (.getfield 41, 3) := by decide +kernel
theorem dX4_tear_61 : decode cX4_tear 61 = .ok (.ifCond .eq 5, 3) := by decide +kernel
theorem dX4_tear_64 : decode cX4_tear 64 = .ok (.iconst 0, 1) := by decide +kernel
theorem dX4_tear_65 : decode cX4_tear 65 = .ok (.ireturn, 1) := by decide +kernel
theorem dX4_tear_66 : decode cX4_tear 66 = .ok (.aload_n 0, 1) := by decide +kernel
theorem dX4_tear_67 : decode cX4_tear 67 = .ok (.getfield 19, 3) := by decide +kernel
theorem dX4_tear_70 : decode cX4_tear 70 = .ok (.iload_n 1, 1) := by decide +kernel
theorem dX4_tear_71 : decode cX4_tear 71 = .ok (.iload_n 2, 1) := by decide +kernel
theorem dX4_tear_72 : decode cX4_tear 72 = .ok (.iconst (-1), 1) := by decide +kernel
theorem dX4_tear_73 : decode cX4_tear 73 = .ok (.if_icmp .ne 7, 3) := by decide +kernel
theorem dX4_tear_76 : decode cX4_tear 76 = .ok (.iconst (-1), 1) := by decide +kernel
theorem dX4_tear_77 : decode cX4_tear 77 = .ok (.goto 9, 3) := by decide +kernel
theorem dX4_tear_80 : decode cX4_tear 80 = .ok (.aload_n 0, 1) := by decide +kernel
theorem dX4_tear_81 : decode cX4_tear 81 = .ok (.getfield 19, 3) := by decide +kernel
theorem dX4_tear_84 : decode cX4_tear 84 = .ok (.iload_n 2, 1) := by decide +kernel
theorem dX4_tear_85 : decode cX4_tear 85 = .ok (.iaload, 1) := by decide +kernel
theorem dX4_tear_86 : decode cX4_tear 86 = .ok (.iastore, 1) := by decide +kernel
theorem dX4_tear_87 : decode cX4_tear 87 = .ok (.aload_n 0, 1) := by decide +kernel
theorem dX4_tear_88 : decode cX4_tear 88 = .ok (.getfield 19, 3) := by decide +kernel
theorem dX4_tear_91 : decode cX4_tear 91 = .ok (.iload_n 1, 1) := by decide +kernel
theorem dX4_tear_92 : decode cX4_tear 92 = .ok (.iaload, 1) := by decide +kernel
theorem dX4_tear_93 : decode cX4_tear 93 = .ok (.iconst (-1), 1) := by decide +kernel
theorem dX4_tear_94 : decode cX4_tear 94 = .ok (.if_icmp .ne 7, 3) := by decide +kernel
theorem dX4_tear_97 : decode cX4_tear 97 = .ok (.iconst 0, 1) := by decide +kernel
theorem dX4_tear_98 : decode cX4_tear 98 = .ok (.goto 4, 3) := by decide +kernel
theorem dX4_tear_101 : decode cX4_tear 101 = .ok (.iconst 1, 1) := by decide +kernel
theorem dX4_tear_102 : decode cX4_tear 102 = .ok (.ireturn, 1) := by decide +kernel
theorem dX4_draw_0 : decode cX4_draw 0 = .ok (.aload_n 0, 1) := by decide +kernel
theorem dX4_draw_1 : decode cX4_draw 1 = .ok (.iload_n 1, 1) := by decide +kernel
theorem dX4_draw_2 : decode cX4_draw 2 = .ok (.invokestatic 73, 3) := by decide +kernel
theorem dX4_draw_5 : decode cX4_draw 5 = .ok (.invokevirtual 80, 3) := by decide +kernel
theorem dX4_draw_8 : decode cX4_draw 8 = .ok (.ifCond .ne 5, 3) := by decide +kernel
theorem dX4_draw_11 : decode cX4_draw 11 = .ok (.iconst 0, 1) := by decide +kernel
theorem dX4_draw_12 : decode cX4_draw 12 = .ok (.ireturn, 1) := by decide +kernel
theorem dX4_draw_13 : decode cX4_draw 13 = .ok (.iconst 0, 1) := by decide +kernel
theorem dX4_draw_14 : decode cX4_draw 14 = .ok (.istore_n 3, 1) := by decide +kernel
theorem dX4_draw_15 : decode cX4_draw 15 = .ok (.aload_n 0, 1) := by decide +kernel
theorem dX4_draw_16 : decode cX4_draw 16 = .ok (.getfield 41, 3) := by decide +kernel
theorem dX4_draw_19 : decode cX4_draw 19 = .ok (.ifCond .ne 81, 3) := by decide +kernel
theorem dX4_draw_22 : decode cX4_draw 22 = .ok (.aload_n 0, 1) := by decide +kernel
theorem dX4_draw_23 : decode cX4_draw 23 = .ok (.iload_n 1, 1) := by decide +kernel
theorem dX4_draw_24 : decode cX4_draw 24 = .ok (.iload_n 3, 1) := by decide +kernel
theorem dX4_draw_25 : decode cX4_draw 25 = .ok (.invokevirtual 103, 3) := by decide +kernel
theorem dX4_draw_28 : decode cX4_draw 28 = .ok (.istore 4, 2) := by decide +kernel
theorem dX4_draw_30 : decode cX4_draw 30 = .ok (.aload_n 0, 1) := by decide +kernel
theorem dX4_draw_31 : decode cX4_draw 31 = .ok (.aload_n 0, 1) := by decide +kernel
theorem dX4_draw_32 : decode cX4_draw 32 = .ok (.getfield 100, 3) := by decide +kernel
theorem dX4_draw_35 : decode cX4_draw 35 = .ok (.putfield 41, 3) := by decide +kernel
theorem dX4_draw_38 : decode cX4_draw 38 = .ok (.aload_n 0, 1) := by decide +kernel
theorem dX4_draw_39 : decode cX4_draw 39 = .ok (.getfield 41, 3) := by decide +kernel
theorem dX4_draw_42 : decode cX4_draw 42 = .ok (.ifCond .ne 17, 3) := by decide +kernel
theorem dX4_draw_45 : decode cX4_draw 45 = .ok (.aload_n 0, 1) := by decide +kernel
theorem dX4_draw_46 : decode cX4_draw 46 = .ok (.aload_n 0, 1) := by decide +kernel
theorem dX4_draw_47 : decode cX4_draw 47 = .ok (.aload_n 0, 1) := by decide +kernel
theorem dX4_draw_48 : decode cX4_draw 48 = .ok (.iload_n 2, 1) := by decide +kernel
theorem dX4_draw_49 : decode cX4_draw 49 = .ok (.iload_n 3, 1) := by decide +kernel
theorem dX4_draw_50 : decode cX4_draw 50 = .ok (.invokevirtual 128, 3) := by decide +kernel
theorem dX4_draw_53 : decode cX4_draw 53 = .ok (.invokevirtual 57, 3) := by decide +kernel
theorem dX4_draw_56 : decode cX4_draw 56 = .ok (.putfield 41, 3) := by decide +kernel
theorem dX4_draw_59 : decode cX4_draw 59 = .ok (.aload_n 0, 1) := by decide +kernel
theorem dX4_draw_60 : decode cX4_draw 60 = .ok (.getfield 41, 3) := by decide +kernel
theorem dX4_draw_63 : decode cX4_draw 63 = .ok (.ifCond .ne 34, 3) := by decide +kernel
theorem dX4_draw_66 : decode cX4_draw 66 = .ok (.aload_n 0, 1) := by decide +kernel
theorem dX4_draw_67 : decode cX4_draw 67 = .ok (.getfield 22, 3) := by decide +kernel
theorem dX4_draw_70 : decode cX4_draw 70 = .ok (.bipush 12, 2) := by decide +kernel
theorem dX4_draw_72 : decode cX4_draw 72 = .ok (.aload_n 0, 1) := by decide +kernel
theorem dX4_draw_73 : decode cX4_draw 73 = .ok (.getfield 19, 3) := by decide +kernel
theorem dX4_draw_76 : decode cX4_draw 76 = .ok (.iload_n 2, 1) := by decide +kernel
theorem dX4_draw_77 : decode cX4_draw 77 = .ok (.iaload, 1) := by decide +kernel
theorem dX4_draw_78 : decode cX4_draw 78 = .ok (.imul, 1) := by decide +kernel
theorem dX4_draw_79 : decode cX4_draw 79 = .ok (.iload_n 3, 1) := by decide +kernel
theorem dX4_draw_80 : decode cX4_draw 80 = .ok (.iadd, 1) := by decide +kernel
theorem dX4_draw_81 : decode cX4_draw 81 = .ok (.iload 4, 2) := by decide +kernel
theorem dX4_draw_83 : decode cX4_draw 83 = .ok (.iastore, 1) := by decide +kernel
theorem dX4_draw_84 : decode cX4_draw 84 = .ok (.aload_n 0, 1) := by decide +kernel
theorem dX4_draw_85 : decode cX4_draw 85 = .ok (.dup, 1) := by decide +kernel
theorem dX4_draw_86 : decode cX4_draw 86 = .ok (.getfield 131, 3) := by decide +kernel
theorem dX4_draw_89 : decode cX4_draw 89 = .ok (.iconst 1, 1) := by decide +kernel
theorem dX4_draw_90 : decode cX4_draw 90 = .ok (.iadd, 1) := by decide +kernel
theorem dX4_draw_91 : decode cX4_draw 91 = .ok (.putfield 131, 3) := by decide +kernel
theorem dX4_draw_94 : decode cX4_draw 94 = .ok (.iinc 3 1, 3) := by decide +kernel
theorem dX4_draw_97 : decode cX4_draw 97 = .ok (.goto (-82), 3) := by decide +kernel
theorem dX4_draw_100 : decode cX4_draw 100 = .ok (.iload_n 3, 1) := by decide +kernel
theorem dX4_draw_101 : decode cX4_draw 101 = .ok (.ireturn, 1) := by decide +kernel
theorem dX4_status_0 : decode cX4_status 0 = .ok (.aload_n 0, 1) := by decide +kernel
theorem dX4_status_1 : decode cX4_status 1 = .ok (.getfield 41, 3) := by decide +kernel
theorem dX4_status_4 : decode cX4_status 4 = .ok (.ireturn, 1) := by decide +kernel
theorem dX4_count_0 : decode cX4_count 0 = .ok (.iconst 0, 1) := by decide +kernel
theorem dX4_count_1 : decode cX4_count 1 = .ok (.istore_n 2, 1) := by decide +kernel
theorem dX4_count_2 : decode cX4_count 2 = .ok (.iconst 0, 1) := by decide +kernel
theorem dX4_count_3 : decode cX4_count 3 = .ok (.istore_n 3, 1) := by decide +kernel
theorem dX4_count_4 : decode cX4_count 4 = .ok (.iload_n 3, 1) := by decide +kernel
theorem dX4_count_5 : decode cX4_count 5 = .ok (.bipush 24, 2) := by decide +kernel
theorem dX4_count_7 : decode cX4_count 7 = .ok (.if_icmp .ge 27, 3) := by decide +kernel
theorem dX4_count_10 : decode cX4_count 10 = .ok (.iload_n 2, 1) := by decide +kernel
theorem dX4_count_11 : decode cX4_count 11 = .ok (.aload_n 0, 1) := by decide +kernel
theorem dX4_count_12 : decode cX4_count 12 = .ok (.getfield 7, 3) := by decide +kernel
theorem dX4_count_15 : decode cX4_count 15 = .ok (.iload_n 3, 1) := by decide +kernel
theorem dX4_count_16 : decode cX4_count 16 = .ok (.iaload, 1) := by decide +kernel
theorem dX4_count_17 : decode cX4_count 17 = .ok (.iconst (-1), 1) := by decide +kernel
theorem dX4_count_18 : decode cX4_count 18 = .ok (.if_icmp .ne 7, 3) := by decide +kernel
theorem dX4_count_21 : decode cX4_count 21 = .ok (.iconst 0, 1) := by decide +kernel
theorem dX4_count_22 : decode cX4_count 22 = .ok (.goto 4, 3) := by decide +kernel
theorem dX4_count_25 : decode cX4_count 25 = .ok (.iconst 1, 1) := by decide +kernel
theorem dX4_count_26 : decode cX4_count 26 = .ok (.iadd, 1) := by decide +kernel
theorem dX4_count_27 : decode cX4_count 27 = .ok (.istore_n 2, 1) := by decide +kernel
theorem dX4_count_28 : decode cX4_count 28 = .ok (.iinc 3 1, 3) := by decide +kernel
theorem dX4_count_31 : decode cX4_count 31 = .ok (.goto (-27), 3) := by decide +kernel
theorem dX4_count_34 : decode cX4_count 34 = .ok (.iload_n 1, 1) := by decide +kernel
theorem dX4_count_35 : decode cX4_count 35 = .ok (.tableswitch 120 0 10 #[57, 62, 67, 72, 77, 82, 87, 92, 94, 99, 115], 57) := by decide +kernel
theorem dX4_count_92 : decode cX4_count 92 = .ok (.aload_n 0, 1) := by decide +kernel
theorem dX4_count_93 : decode cX4_count 93 = .ok (.getfield 60, 3) := by decide +kernel
theorem dX4_count_96 : decode cX4_count 96 = .ok (.ireturn, 1) := by decide +kernel
theorem dX4_count_97 : decode cX4_count 97 = .ok (.aload_n 0, 1) := by decide +kernel
theorem dX4_count_98 : decode cX4_count 98 = .ok (.getfield 63, 3) := by decide +kernel
theorem dX4_count_101 : decode cX4_count 101 = .ok (.ireturn, 1) := by decide +kernel
theorem dX4_count_102 : decode cX4_count 102 = .ok (.aload_n 0, 1) := by decide +kernel
theorem dX4_count_103 : decode cX4_count 103 = .ok (.getfield 84, 3) := by decide +kernel
theorem dX4_count_106 : decode cX4_count 106 = .ok (.ireturn, 1) := by decide +kernel
theorem dX4_count_107 : decode cX4_count 107 = .ok (.aload_n 0, 1) := by decide +kernel
theorem dX4_count_108 : decode cX4_count 108 = .ok (.getfield 106, 3) := by decide +kernel
theorem dX4_count_111 : decode cX4_count 111 = .ok (.ireturn, 1) := by decide +kernel
theorem dX4_count_112 : decode cX4_count 112 = .ok (.aload_n 0, 1) := by decide +kernel
theorem dX4_count_113 : decode cX4_count 113 = .ok (.getfield 115, 3) := by decide +kernel
theorem dX4_count_116 : decode cX4_count 116 = .ok (.ireturn, 1) := by decide +kernel
theorem dX4_count_117 : decode cX4_count 117 = .ok (.aload_n 0, 1) := by decide +kernel
theorem dX4_count_118 : decode cX4_count 118 = .ok (.getfield 109, 3) := by decide +kernel
theorem dX4_count_121 : decode cX4_count 121 = .ok (.ireturn, 1) := by decide +kernel
theorem dX4_count_122 : decode cX4_count 122 = .ok (.aload_n 0, 1) := by decide +kernel
theorem dX4_count_123 : decode cX4_count 123 = .ok (.getfield 112, 3) := by decide +kernel
theorem dX4_count_126 : decode cX4_count 126 = .ok (.ireturn, 1) := by decide +kernel
theorem dX4_count_127 : decode cX4_count 127 = .ok (.iload_n 2, 1) := by decide +kernel
theorem dX4_count_128 : decode cX4_count 128 = .ok (.ireturn, 1) := by decide +kernel
theorem dX4_count_129 : decode cX4_count 129 = .ok (.aload_n 0, 1) := by decide +kernel
theorem dX4_count_130 : decode cX4_count 130 = .ok (.getfield 70, 3) := by decide +kernel
theorem dX4_count_133 : decode cX4_count 133 = .ok (.ireturn, 1) := by decide +kernel
theorem dX4_count_134 : decode cX4_count 134 = .ok (.aload_n 0, 1) := by decide +kernel
theorem dX4_count_135 : decode cX4_count 135 = .ok (.getfield 118, 3) := by decide +kernel
theorem dX4_count_138 : decode cX4_count 138 = .ok (.ifCond .eq 10, 3) := by decide +kernel
theorem dX4_count_141 : decode cX4_count 141 = .ok (.aload_n 0, 1) := by decide +kernel
theorem dX4_count_142 : decode cX4_count 142 = .ok (.getfield 122, 3) := by decide +kernel
theorem dX4_count_145 : decode cX4_count 145 = .ok (.goto 4, 3) := by decide +kernel
theorem dX4_count_148 : decode cX4_count 148 = .ok (.iconst 0, 1) := by decide +kernel
theorem dX4_count_149 : decode cX4_count 149 = .ok (.ireturn, 1) := by decide +kernel
theorem dX4_count_150 : decode cX4_count 150 = .ok (.aload_n 0, 1) := by decide +kernel
theorem dX4_count_151 : decode cX4_count 151 = .ok (.getfield 131, 3) := by decide +kernel
theorem dX4_count_154 : decode cX4_count 154 = .ok (.ireturn, 1) := by decide +kernel
theorem dX4_count_155 : decode cX4_count 155 = .ok (.iconst 0, 1) := by decide +kernel
theorem dX4_count_156 : decode cX4_count 156 = .ok (.ireturn, 1) := by decide +kernel
end
section
theorem dL_law_0 : decode cL_law 0 = .ok (.new 7, 3) := by decide +kernel
theorem dL_law_3 : decode cL_law 3 = .ok (.dup, 1) := by decide +kernel
theorem dL_law_4 : decode cL_law 4 = .ok (.invokespecial 9, 3) := by decide +kernel
theorem dL_law_7 : decode cL_law 7 = .ok (.astore_n 1, 1) := by decide +kernel
theorem dL_law_8 : decode cL_law 8 = .ok (.new 10, 3) := by decide +kernel
theorem dL_law_11 : decode cL_law 11 = .ok (.dup, 1) := by decide +kernel
theorem dL_law_12 : decode cL_law 12 = .ok (.invokespecial 12, 3) := by decide +kernel
theorem dL_law_15 : decode cL_law 15 = .ok (.astore_n 2, 1) := by decide +kernel
theorem dL_law_16 : decode cL_law 16 = .ok (.iconst 0, 1) := by decide +kernel
theorem dL_law_17 : decode cL_law 17 = .ok (.istore_n 3, 1) := by decide +kernel
theorem dL_law_18 : decode cL_law 18 = .ok (.iload_n 3, 1) := by decide +kernel
theorem dL_law_19 : decode cL_law 19 = .ok (.aload_n 0, 1) := by decide +kernel
theorem dL_law_20 : decode cL_law 20 = .ok (.arraylength, 1) := by decide +kernel
theorem dL_law_21 : decode cL_law 21 = .ok (.bipush 6, 2) := by decide +kernel
theorem dL_law_23 : decode cL_law 23 = .ok (.isub, 1) := by decide +kernel
theorem dL_law_24 : decode cL_law 24 = .ok (.if_icmp .gt 850, 3) := by decide +kernel
theorem dL_law_27 : decode cL_law 27 = .ok (.aload_n 0, 1) := by decide +kernel
theorem dL_law_28 : decode cL_law 28 = .ok (.iload_n 3, 1) := by decide +kernel
theorem dL_law_29 : decode cL_law 29 = .ok (.iaload, 1) := by decide +kernel
theorem dL_law_30 : decode cL_law 30 = .ok (.bipush 31, 2) := by decide +kernel
theorem dL_law_32 : decode cL_law 32 = .ok (.iand, 1) := by decide +kernel
theorem dL_law_33 : decode cL_law 33 = .ok (.tableswitch 835 0 19 #[95, 138, 171, 214, 247, 290, 343, 406, 469, 502, 545, 578, 601, 654, 667, 700, 733, 766, 799, 812], 95) := by decide +kernel
theorem dL_law_128 : decode cL_law 128 = .ok (.aload_n 1, 1) := by decide +kernel
theorem dL_law_129 : decode cL_law 129 = .ok (.aload_n 0, 1) := by decide +kernel
theorem dL_law_130 : decode cL_law 130 = .ok (.iload_n 3, 1) := by decide +kernel
theorem dL_law_131 : decode cL_law 131 = .ok (.iconst 1, 1) := by decide +kernel
theorem dL_law_132 : decode cL_law 132 = .ok (.iadd, 1) := by decide +kernel
theorem dL_law_133 : decode cL_law 133 = .ok (.iaload, 1) := by decide +kernel
theorem dL_law_134 : decode cL_law 134 = .ok (.aload_n 0, 1) := by decide +kernel
theorem dL_law_135 : decode cL_law 135 = .ok (.iload_n 3, 1) := by decide +kernel
theorem dL_law_136 : decode cL_law 136 = .ok (.iconst 2, 1) := by decide +kernel
theorem dL_law_137 : decode cL_law 137 = .ok (.iadd, 1) := by decide +kernel
theorem dL_law_138 : decode cL_law 138 = .ok (.iaload, 1) := by decide +kernel
theorem dL_law_139 : decode cL_law 139 = .ok (.aload_n 0, 1) := by decide +kernel
theorem dL_law_140 : decode cL_law 140 = .ok (.iload_n 3, 1) := by decide +kernel
theorem dL_law_141 : decode cL_law 141 = .ok (.iconst 3, 1) := by decide +kernel
theorem dL_law_142 : decode cL_law 142 = .ok (.iadd, 1) := by decide +kernel
theorem dL_law_143 : decode cL_law 143 = .ok (.iaload, 1) := by decide +kernel
theorem dL_law_144 : decode cL_law 144 = .ok (.invokevirtual 13, 3) := by decide +kernel
theorem dL_law_147 : decode cL_law 147 = .ok (.aload_n 2, 1) := by decide +kernel
theorem dL_law_148 : decode cL_law 148 = .ok (.aload_n 0, 1) := by decide +kernel
theorem dL_law_149 : decode cL_law 149 = .ok (.iload_n 3, 1) := by decide +kernel
theorem dL_law_150 : decode cL_law 150 = .ok (.iconst 1, 1) := by decide +kernel
theorem dL_law_151 : decode cL_law 151 = .ok (.iadd, 1) := by decide +kernel
theorem dL_law_152 : decode cL_law 152 = .ok (.iaload, 1) := by decide +kernel
theorem dL_law_153 : decode cL_law 153 = .ok (.aload_n 0, 1) := by decide +kernel
theorem dL_law_154 : decode cL_law 154 = .ok (.iload_n 3, 1) := by decide +kernel
theorem dL_law_155 : decode cL_law 155 = .ok (.iconst 2, 1) := by decide +kernel
theorem dL_law_156 : decode cL_law 156 = .ok (.iadd, 1) := by decide +kernel
theorem dL_law_157 : decode cL_law 157 = .ok (.iaload, 1) := by decide +kernel
theorem dL_law_158 : decode cL_law 158 = .ok (.aload_n 0, 1) := by decide +kernel
theorem dL_law_159 : decode cL_law 159 = .ok (.iload_n 3, 1) := by decide +kernel
theorem dL_law_160 : decode cL_law 160 = .ok (.iconst 3, 1) := by decide +kernel
theorem dL_law_161 : decode cL_law 161 = .ok (.iadd, 1) := by decide +kernel
theorem dL_law_162 : decode cL_law 162 = .ok (.iaload, 1) := by decide +kernel
theorem dL_law_163 : decode cL_law 163 = .ok (.invokevirtual 17, 3) := by decide +kernel
theorem dL_law_166 : decode cL_law 166 = .ok (.if_icmp .eq 702, 3) := by decide +kernel
theorem dL_law_169 : decode cL_law 169 = .ok (.iconst 0, 1) := by decide +kernel
theorem dL_law_170 : decode cL_law 170 = .ok (.ireturn, 1) := by decide +kernel
theorem dL_law_171 : decode cL_law 171 = .ok (.aload_n 1, 1) := by decide +kernel
theorem dL_law_172 : decode cL_law 172 = .ok (.aload_n 0, 1) := by decide +kernel
theorem dL_law_173 : decode cL_law 173 = .ok (.iload_n 3, 1) := by decide +kernel
theorem dL_law_174 : decode cL_law 174 = .ok (.iconst 1, 1) := by decide +kernel
theorem dL_law_175 : decode cL_law 175 = .ok (.iadd, 1) := by decide +kernel
theorem dL_law_176 : decode cL_law 176 = .ok (.iaload, 1) := by decide +kernel
theorem dL_law_177 : decode cL_law 177 = .ok (.aload_n 0, 1) := by decide +kernel
theorem dL_law_178 : decode cL_law 178 = .ok (.iload_n 3, 1) := by decide +kernel
theorem dL_law_179 : decode cL_law 179 = .ok (.iconst 2, 1) := by decide +kernel
theorem dL_law_180 : decode cL_law 180 = .ok (.iadd, 1) := by decide +kernel
theorem dL_law_181 : decode cL_law 181 = .ok (.iaload, 1) := by decide +kernel
theorem dL_law_182 : decode cL_law 182 = .ok (.invokevirtual 18, 3) := by decide +kernel
theorem dL_law_185 : decode cL_law 185 = .ok (.aload_n 2, 1) := by decide +kernel
theorem dL_law_186 : decode cL_law 186 = .ok (.aload_n 0, 1) := by decide +kernel
theorem dL_law_187 : decode cL_law 187 = .ok (.iload_n 3, 1) := by decide +kernel
theorem dL_law_188 : decode cL_law 188 = .ok (.iconst 1, 1) := by decide +kernel
theorem dL_law_189 : decode cL_law 189 = .ok (.iadd, 1) := by decide +kernel
theorem dL_law_190 : decode cL_law 190 = .ok (.iaload, 1) := by decide +kernel
theorem dL_law_191 : decode cL_law 191 = .ok (.aload_n 0, 1) := by decide +kernel
theorem dL_law_192 : decode cL_law 192 = .ok (.iload_n 3, 1) := by decide +kernel
theorem dL_law_193 : decode cL_law 193 = .ok (.iconst 2, 1) := by decide +kernel
theorem dL_law_194 : decode cL_law 194 = .ok (.iadd, 1) := by decide +kernel
theorem dL_law_195 : decode cL_law 195 = .ok (.iaload, 1) := by decide +kernel
theorem dL_law_196 : decode cL_law 196 = .ok (.invokevirtual 22, 3) := by decide +kernel
theorem dL_law_199 : decode cL_law 199 = .ok (.if_icmp .eq 669, 3) := by decide +kernel
theorem dL_law_202 : decode cL_law 202 = .ok (.iconst 0, 1) := by decide +kernel
theorem dL_law_203 : decode cL_law 203 = .ok (.ireturn, 1) := by decide +kernel
theorem dL_law_204 : decode cL_law 204 = .ok (.aload_n 1, 1) := by decide +kernel
theorem dL_law_205 : decode cL_law 205 = .ok (.aload_n 0, 1) := by decide +kernel
theorem dL_law_206 : decode cL_law 206 = .ok (.iload_n 3, 1) := by decide +kernel
theorem dL_law_207 : decode cL_law 207 = .ok (.iconst 1, 1) := by decide +kernel
theorem dL_law_208 : decode cL_law 208 = .ok (.iadd, 1) := by decide +kernel
theorem dL_law_209 : decode cL_law 209 = .ok (.iaload, 1) := by decide +kernel
theorem dL_law_210 : decode cL_law 210 = .ok (.aload_n 0, 1) := by decide +kernel
theorem dL_law_211 : decode cL_law 211 = .ok (.iload_n 3, 1) := by decide +kernel
theorem dL_law_212 : decode cL_law 212 = .ok (.iconst 2, 1) := by decide +kernel
theorem dL_law_213 : decode cL_law 213 = .ok (.iadd, 1) := by decide +kernel
theorem dL_law_214 : decode cL_law 214 = .ok (.iaload, 1) := by decide +kernel
theorem dL_law_215 : decode cL_law 215 = .ok (.aload_n 0, 1) := by decide +kernel
theorem dL_law_216 : decode cL_law 216 = .ok (.iload_n 3, 1) := by decide +kernel
theorem dL_law_217 : decode cL_law 217 = .ok (.iconst 3, 1) := by decide +kernel
theorem dL_law_218 : decode cL_law 218 = .ok (.iadd, 1) := by decide +kernel
theorem dL_law_219 : decode cL_law 219 = .ok (.iaload, 1) := by decide +kernel
theorem dL_law_220 : decode cL_law 220 = .ok (.invokevirtual 23, 3) := by decide +kernel
theorem dL_law_223 : decode cL_law 223 = .ok (.aload_n 2, 1) := by decide +kernel
theorem dL_law_224 : decode cL_law 224 = .ok (.aload_n 0, 1) := by decide +kernel
theorem dL_law_225 : decode cL_law 225 = .ok (.iload_n 3, 1) := by decide +kernel
theorem dL_law_226 : decode cL_law 226 = .ok (.iconst 1, 1) := by decide +kernel
theorem dL_law_227 : decode cL_law 227 = .ok (.iadd, 1) := by decide +kernel
theorem dL_law_228 : decode cL_law 228 = .ok (.iaload, 1) := by decide +kernel
theorem dL_law_229 : decode cL_law 229 = .ok (.aload_n 0, 1) := by decide +kernel
theorem dL_law_230 : decode cL_law 230 = .ok (.iload_n 3, 1) := by decide +kernel
theorem dL_law_231 : decode cL_law 231 = .ok (.iconst 2, 1) := by decide +kernel
theorem dL_law_232 : decode cL_law 232 = .ok (.iadd, 1) := by decide +kernel
theorem dL_law_233 : decode cL_law 233 = .ok (.iaload, 1) := by decide +kernel
theorem dL_law_234 : decode cL_law 234 = .ok (.aload_n 0, 1) := by decide +kernel
theorem dL_law_235 : decode cL_law 235 = .ok (.iload_n 3, 1) := by decide +kernel
theorem dL_law_236 : decode cL_law 236 = .ok (.iconst 3, 1) := by decide +kernel
theorem dL_law_237 : decode cL_law 237 = .ok (.iadd, 1) := by decide +kernel
theorem dL_law_238 : decode cL_law 238 = .ok (.iaload, 1) := by decide +kernel
theorem dL_law_239 : decode cL_law 239 = .ok (.invokevirtual 26, 3) := by decide +kernel
theorem dL_law_242 : decode cL_law 242 = .ok (.if_icmp .eq 626, 3) := by decide +kernel
theorem dL_law_245 : decode cL_law 245 = .ok (.iconst 0, 1) := by decide +kernel
theorem dL_law_246 : decode cL_law 246 = .ok (.ireturn, 1) := by decide +kernel
theorem dL_law_247 : decode cL_law 247 = .ok (.aload_n 1, 1) := by decide +kernel
theorem dL_law_248 : decode cL_law 248 = .ok (.aload_n 0, 1) := by decide +kernel
theorem dL_law_249 : decode cL_law 249 = .ok (.iload_n 3, 1) := by decide +kernel
theorem dL_law_250 : decode cL_law 250 = .ok (.iconst 1, 1) := by decide +kernel
theorem dL_law_251 : decode cL_law 251 = .ok (.iadd, 1) := by decide +kernel
theorem dL_law_252 : decode cL_law 252 = .ok (.iaload, 1) := by decide +kernel
theorem dL_law_253 : decode cL_law 253 = .ok (.aload_n 0, 1) := by decide +kernel
theorem dL_law_254 : decode cL_law 254 = .ok (.iload_n 3, 1) := by decide +kernel
theorem dL_law_255 : decode cL_law 255 = .ok (.iconst 2, 1) := by decide +kernel
theorem dL_law_256 : decode cL_law 256 = .ok (.iadd, 1) := by decide +kernel
theorem dL_law_257 : decode cL_law 257 = .ok (.iaload, 1) := by decide +kernel
theorem dL_law_258 : decode cL_law 258 = .ok (.invokevirtual 27, 3) := by decide +kernel
theorem dL_law_261 : decode cL_law 261 = .ok (.aload_n 2, 1) := by decide +kernel
theorem dL_law_262 : decode cL_law 262 = .ok (.aload_n 0, 1) := by decide +kernel
theorem dL_law_263 : decode cL_law 263 = .ok (.iload_n 3, 1) := by decide +kernel
theorem dL_law_264 : decode cL_law 264 = .ok (.iconst 1, 1) := by decide +kernel
theorem dL_law_265 : decode cL_law 265 = .ok (.iadd, 1) := by decide +kernel
theorem dL_law_266 : decode cL_law 266 = .ok (.iaload, 1) := by decide +kernel
theorem dL_law_267 : decode cL_law 267 = .ok (.aload_n 0, 1) := by decide +kernel
theorem dL_law_268 : decode cL_law 268 = .ok (.iload_n 3, 1) := by decide +kernel
theorem dL_law_269 : decode cL_law 269 = .ok (.iconst 2, 1) := by decide +kernel
theorem dL_law_270 : decode cL_law 270 = .ok (.iadd, 1) := by decide +kernel
theorem dL_law_271 : decode cL_law 271 = .ok (.iaload, 1) := by decide +kernel
theorem dL_law_272 : decode cL_law 272 = .ok (.invokevirtual 30, 3) := by decide +kernel
theorem dL_law_275 : decode cL_law 275 = .ok (.if_icmp .eq 593, 3) := by decide +kernel
theorem dL_law_278 : decode cL_law 278 = .ok (.iconst 0, 1) := by decide +kernel
theorem dL_law_279 : decode cL_law 279 = .ok (.ireturn, 1) := by decide +kernel
theorem dL_law_280 : decode cL_law 280 = .ok (.aload_n 1, 1) := by decide +kernel
theorem dL_law_281 : decode cL_law 281 = .ok (.aload_n 0, 1) := by decide +kernel
theorem dL_law_282 : decode cL_law 282 = .ok (.iload_n 3, 1) := by decide +kernel
theorem dL_law_283 : decode cL_law 283 = .ok (.iconst 1, 1) := by decide +kernel
theorem dL_law_284 : decode cL_law 284 = .ok (.iadd, 1) := by decide +kernel
theorem dL_law_285 : decode cL_law 285 = .ok (.iaload, 1) := by decide +kernel
theorem dL_law_286 : decode cL_law 286 = .ok (.aload_n 0, 1) := by decide +kernel
theorem dL_law_287 : decode cL_law 287 = .ok (.iload_n 3, 1) := by decide +kernel
theorem dL_law_288 : decode cL_law 288 = .ok (.iconst 2, 1) := by decide +kernel
theorem dL_law_289 : decode cL_law 289 = .ok (.iadd, 1) := by decide +kernel
theorem dL_law_290 : decode cL_law 290 = .ok (.iaload, 1) := by decide +kernel
theorem dL_law_291 : decode cL_law 291 = .ok (.aload_n 0, 1) := by decide +kernel
theorem dL_law_292 : decode cL_law 292 = .ok (.iload_n 3, 1) := by decide +kernel
theorem dL_law_293 : decode cL_law 293 = .ok (.iconst 3, 1) := by decide +kernel
theorem dL_law_294 : decode cL_law 294 = .ok (.iadd, 1) := by decide +kernel
theorem dL_law_295 : decode cL_law 295 = .ok (.iaload, 1) := by decide +kernel
theorem dL_law_296 : decode cL_law 296 = .ok (.invokevirtual 31, 3) := by decide +kernel
theorem dL_law_299 : decode cL_law 299 = .ok (.aload_n 2, 1) := by decide +kernel
theorem dL_law_300 : decode cL_law 300 = .ok (.aload_n 0, 1) := by decide +kernel
theorem dL_law_301 : decode cL_law 301 = .ok (.iload_n 3, 1) := by decide +kernel
theorem dL_law_302 : decode cL_law 302 = .ok (.iconst 1, 1) := by decide +kernel
theorem dL_law_303 : decode cL_law 303 = .ok (.iadd, 1) := by decide +kernel
theorem dL_law_304 : decode cL_law 304 = .ok (.iaload, 1) := by decide +kernel
theorem dL_law_305 : decode cL_law 305 = .ok (.aload_n 0, 1) := by decide +kernel
theorem dL_law_306 : decode cL_law 306 = .ok (.iload_n 3, 1) := by decide +kernel
theorem dL_law_307 : decode cL_law 307 = .ok (.iconst 2, 1) := by decide +kernel
theorem dL_law_308 : decode cL_law 308 = .ok (.iadd, 1) := by decide +kernel
theorem dL_law_309 : decode cL_law 309 = .ok (.iaload, 1) := by decide +kernel
theorem dL_law_310 : decode cL_law 310 = .ok (.aload_n 0, 1) := by decide +kernel
theorem dL_law_311 : decode cL_law 311 = .ok (.iload_n 3, 1) := by decide +kernel
theorem dL_law_312 : decode cL_law 312 = .ok (.iconst 3, 1) := by decide +kernel
theorem dL_law_313 : decode cL_law 313 = .ok (.iadd, 1) := by decide +kernel
theorem dL_law_314 : decode cL_law 314 = .ok (.iaload, 1) := by decide +kernel
theorem dL_law_315 : decode cL_law 315 = .ok (.invokevirtual 34, 3) := by decide +kernel
theorem dL_law_318 : decode cL_law 318 = .ok (.if_icmp .eq 550, 3) := by decide +kernel
theorem dL_law_321 : decode cL_law 321 = .ok (.iconst 0, 1) := by decide +kernel
theorem dL_law_322 : decode cL_law 322 = .ok (.ireturn, 1) := by decide +kernel
theorem dL_law_323 : decode cL_law 323 = .ok (.aload_n 1, 1) := by decide +kernel
theorem dL_law_324 : decode cL_law 324 = .ok (.aload_n 0, 1) := by decide +kernel
theorem dL_law_325 : decode cL_law 325 = .ok (.iload_n 3, 1) := by decide +kernel
theorem dL_law_326 : decode cL_law 326 = .ok (.iconst 1, 1) := by decide +kernel
theorem dL_law_327 : decode cL_law 327 = .ok (.iadd, 1) := by decide +kernel
theorem dL_law_328 : decode cL_law 328 = .ok (.iaload, 1) := by decide +kernel
theorem dL_law_329 : decode cL_law 329 = .ok (.aload_n 0, 1) := by decide +kernel
theorem dL_law_330 : decode cL_law 330 = .ok (.iload_n 3, 1) := by decide +kernel
theorem dL_law_331 : decode cL_law 331 = .ok (.iconst 2, 1) := by decide +kernel
theorem dL_law_332 : decode cL_law 332 = .ok (.iadd, 1) := by decide +kernel
theorem dL_law_333 : decode cL_law 333 = .ok (.iaload, 1) := by decide +kernel
theorem dL_law_334 : decode cL_law 334 = .ok (.aload_n 0, 1) := by decide +kernel
theorem dL_law_335 : decode cL_law 335 = .ok (.iload_n 3, 1) := by decide +kernel
theorem dL_law_336 : decode cL_law 336 = .ok (.iconst 3, 1) := by decide +kernel
theorem dL_law_337 : decode cL_law 337 = .ok (.iadd, 1) := by decide +kernel
theorem dL_law_338 : decode cL_law 338 = .ok (.iaload, 1) := by decide +kernel
theorem dL_law_339 : decode cL_law 339 = .ok (.aload_n 0, 1) := by decide +kernel
theorem dL_law_340 : decode cL_law 340 = .ok (.iload_n 3, 1) := by decide +kernel
theorem dL_law_341 : decode cL_law 341 = .ok (.iconst 4, 1) := by decide +kernel
theorem dL_law_342 : decode cL_law 342 = .ok (.iadd, 1) := by decide +kernel
theorem dL_law_343 : decode cL_law 343 = .ok (.iaload, 1) := by decide +kernel
theorem dL_law_344 : decode cL_law 344 = .ok (.invokevirtual 35, 3) := by decide +kernel
theorem dL_law_347 : decode cL_law 347 = .ok (.aload_n 2, 1) := by decide +kernel
theorem dL_law_348 : decode cL_law 348 = .ok (.aload_n 0, 1) := by decide +kernel
theorem dL_law_349 : decode cL_law 349 = .ok (.iload_n 3, 1) := by decide +kernel
theorem dL_law_350 : decode cL_law 350 = .ok (.iconst 1, 1) := by decide +kernel
theorem dL_law_351 : decode cL_law 351 = .ok (.iadd, 1) := by decide +kernel
theorem dL_law_352 : decode cL_law 352 = .ok (.iaload, 1) := by decide +kernel
theorem dL_law_353 : decode cL_law 353 = .ok (.aload_n 0, 1) := by decide +kernel
theorem dL_law_354 : decode cL_law 354 = .ok (.iload_n 3, 1) := by decide +kernel
theorem dL_law_355 : decode cL_law 355 = .ok (.iconst 2, 1) := by decide +kernel
theorem dL_law_356 : decode cL_law 356 = .ok (.iadd, 1) := by decide +kernel
theorem dL_law_357 : decode cL_law 357 = .ok (.iaload, 1) := by decide +kernel
theorem dL_law_358 : decode cL_law 358 = .ok (.aload_n 0, 1) := by decide +kernel
theorem dL_law_359 : decode cL_law 359 = .ok (.iload_n 3, 1) := by decide +kernel
theorem dL_law_360 : decode cL_law 360 = .ok (.iconst 3, 1) := by decide +kernel
theorem dL_law_361 : decode cL_law 361 = .ok (.iadd, 1) := by decide +kernel
theorem dL_law_362 : decode cL_law 362 = .ok (.iaload, 1) := by decide +kernel
theorem dL_law_363 : decode cL_law 363 = .ok (.aload_n 0, 1) := by decide +kernel
theorem dL_law_364 : decode cL_law 364 = .ok (.iload_n 3, 1) := by decide +kernel
theorem dL_law_365 : decode cL_law 365 = .ok (.iconst 4, 1) := by decide +kernel
theorem dL_law_366 : decode cL_law 366 = .ok (.iadd, 1) := by decide +kernel
theorem dL_law_367 : decode cL_law 367 = .ok (.iaload, 1) := by decide +kernel
theorem dL_law_368 : decode cL_law 368 = .ok (.invokevirtual 39, 3) := by decide +kernel
theorem dL_law_371 : decode cL_law 371 = .ok (.if_icmp .eq 497, 3) := by decide +kernel
theorem dL_law_374 : decode cL_law 374 = .ok (.iconst 0, 1) := by decide +kernel
theorem dL_law_375 : decode cL_law 375 = .ok (.ireturn, 1) := by decide +kernel
theorem dL_law_376 : decode cL_law 376 = .ok (.aload_n 1, 1) := by decide +kernel
theorem dL_law_377 : decode cL_law 377 = .ok (.aload_n 0, 1) := by decide +kernel
theorem dL_law_378 : decode cL_law 378 = .ok (.iload_n 3, 1) := by decide +kernel
theorem dL_law_379 : decode cL_law 379 = .ok (.iconst 1, 1) := by decide +kernel
theorem dL_law_380 : decode cL_law 380 = .ok (.iadd, 1) := by decide +kernel
theorem dL_law_381 : decode cL_law 381 = .ok (.iaload, 1) := by decide +kernel
theorem dL_law_382 : decode cL_law 382 = .ok (.aload_n 0, 1) := by decide +kernel
theorem dL_law_383 : decode cL_law 383 = .ok (.iload_n 3, 1) := by decide +kernel
theorem dL_law_384 : decode cL_law 384 = .ok (.iconst 2, 1) := by decide +kernel
theorem dL_law_385 : decode cL_law 385 = .ok (.iadd, 1) := by decide +kernel
theorem dL_law_386 : decode cL_law 386 = .ok (.iaload, 1) := by decide +kernel
theorem dL_law_387 : decode cL_law 387 = .ok (.aload_n 0, 1) := by decide +kernel
theorem dL_law_388 : decode cL_law 388 = .ok (.iload_n 3, 1) := by decide +kernel
theorem dL_law_389 : decode cL_law 389 = .ok (.iconst 3, 1) := by decide +kernel
theorem dL_law_390 : decode cL_law 390 = .ok (.iadd, 1) := by decide +kernel
theorem dL_law_391 : decode cL_law 391 = .ok (.iaload, 1) := by decide +kernel
theorem dL_law_392 : decode cL_law 392 = .ok (.aload_n 0, 1) := by decide +kernel
theorem dL_law_393 : decode cL_law 393 = .ok (.iload_n 3, 1) := by decide +kernel
theorem dL_law_394 : decode cL_law 394 = .ok (.iconst 4, 1) := by decide +kernel
theorem dL_law_395 : decode cL_law 395 = .ok (.iadd, 1) := by decide +kernel
theorem dL_law_396 : decode cL_law 396 = .ok (.iaload, 1) := by decide +kernel
theorem dL_law_397 : decode cL_law 397 = .ok (.aload_n 0, 1) := by decide +kernel
theorem dL_law_398 : decode cL_law 398 = .ok (.iload_n 3, 1) := by decide +kernel
theorem dL_law_399 : decode cL_law 399 = .ok (.iconst 5, 1) := by decide +kernel
theorem dL_law_400 : decode cL_law 400 = .ok (.iadd, 1) := by decide +kernel
theorem dL_law_401 : decode cL_law 401 = .ok (.iaload, 1) := by decide +kernel
theorem dL_law_402 : decode cL_law 402 = .ok (.invokevirtual 40, 3) := by decide +kernel
theorem dL_law_405 : decode cL_law 405 = .ok (.aload_n 2, 1) := by decide +kernel
theorem dL_law_406 : decode cL_law 406 = .ok (.aload_n 0, 1) := by decide +kernel
theorem dL_law_407 : decode cL_law 407 = .ok (.iload_n 3, 1) := by decide +kernel
theorem dL_law_408 : decode cL_law 408 = .ok (.iconst 1, 1) := by decide +kernel
theorem dL_law_409 : decode cL_law 409 = .ok (.iadd, 1) := by decide +kernel
theorem dL_law_410 : decode cL_law 410 = .ok (.iaload, 1) := by decide +kernel
theorem dL_law_411 : decode cL_law 411 = .ok (.aload_n 0, 1) := by decide +kernel
theorem dL_law_412 : decode cL_law 412 = .ok (.iload_n 3, 1) := by decide +kernel
theorem dL_law_413 : decode cL_law 413 = .ok (.iconst 2, 1) := by decide +kernel
theorem dL_law_414 : decode cL_law 414 = .ok (.iadd, 1) := by decide +kernel
theorem dL_law_415 : decode cL_law 415 = .ok (.iaload, 1) := by decide +kernel
theorem dL_law_416 : decode cL_law 416 = .ok (.aload_n 0, 1) := by decide +kernel
theorem dL_law_417 : decode cL_law 417 = .ok (.iload_n 3, 1) := by decide +kernel
theorem dL_law_418 : decode cL_law 418 = .ok (.iconst 3, 1) := by decide +kernel
theorem dL_law_419 : decode cL_law 419 = .ok (.iadd, 1) := by decide +kernel
theorem dL_law_420 : decode cL_law 420 = .ok (.iaload, 1) := by decide +kernel
theorem dL_law_421 : decode cL_law 421 = .ok (.aload_n 0, 1) := by decide +kernel
theorem dL_law_422 : decode cL_law 422 = .ok (.iload_n 3, 1) := by decide +kernel
theorem dL_law_423 : decode cL_law 423 = .ok (.iconst 4, 1) := by decide +kernel
theorem dL_law_424 : decode cL_law 424 = .ok (.iadd, 1) := by decide +kernel
theorem dL_law_425 : decode cL_law 425 = .ok (.iaload, 1) := by decide +kernel
theorem dL_law_426 : decode cL_law 426 = .ok (.aload_n 0, 1) := by decide +kernel
theorem dL_law_427 : decode cL_law 427 = .ok (.iload_n 3, 1) := by decide +kernel
theorem dL_law_428 : decode cL_law 428 = .ok (.iconst 5, 1) := by decide +kernel
theorem dL_law_429 : decode cL_law 429 = .ok (.iadd, 1) := by decide +kernel
theorem dL_law_430 : decode cL_law 430 = .ok (.iaload, 1) := by decide +kernel
theorem dL_law_431 : decode cL_law 431 = .ok (.invokevirtual 44, 3) := by decide +kernel
theorem dL_law_434 : decode cL_law 434 = .ok (.if_icmp .eq 434, 3) := by decide +kernel
theorem dL_law_437 : decode cL_law 437 = .ok (.iconst 0, 1) := by decide +kernel
theorem dL_law_438 : decode cL_law 438 = .ok (.ireturn, 1) := by decide +kernel
theorem dL_law_439 : decode cL_law 439 = .ok (.aload_n 1, 1) := by decide +kernel
theorem dL_law_440 : decode cL_law 440 = .ok (.aload_n 0, 1) := by decide +kernel
theorem dL_law_441 : decode cL_law 441 = .ok (.iload_n 3, 1) := by decide +kernel
theorem dL_law_442 : decode cL_law 442 = .ok (.iconst 1, 1) := by decide +kernel
theorem dL_law_443 : decode cL_law 443 = .ok (.iadd, 1) := by decide +kernel
theorem dL_law_444 : decode cL_law 444 = .ok (.iaload, 1) := by decide +kernel
theorem dL_law_445 : decode cL_law 445 = .ok (.aload_n 0, 1) := by decide +kernel
theorem dL_law_446 : decode cL_law 446 = .ok (.iload_n 3, 1) := by decide +kernel
theorem dL_law_447 : decode cL_law 447 = .ok (.iconst 2, 1) := by decide +kernel
theorem dL_law_448 : decode cL_law 448 = .ok (.iadd, 1) := by decide +kernel
theorem dL_law_449 : decode cL_law 449 = .ok (.iaload, 1) := by decide +kernel
theorem dL_law_450 : decode cL_law 450 = .ok (.aload_n 0, 1) := by decide +kernel
theorem dL_law_451 : decode cL_law 451 = .ok (.iload_n 3, 1) := by decide +kernel
theorem dL_law_452 : decode cL_law 452 = .ok (.iconst 3, 1) := by decide +kernel
theorem dL_law_453 : decode cL_law 453 = .ok (.iadd, 1) := by decide +kernel
theorem dL_law_454 : decode cL_law 454 = .ok (.iaload, 1) := by decide +kernel
theorem dL_law_455 : decode cL_law 455 = .ok (.aload_n 0, 1) := by decide +kernel
theorem dL_law_456 : decode cL_law 456 = .ok (.iload_n 3, 1) := by decide +kernel
theorem dL_law_457 : decode cL_law 457 = .ok (.iconst 4, 1) := by decide +kernel
theorem dL_law_458 : decode cL_law 458 = .ok (.iadd, 1) := by decide +kernel
theorem dL_law_459 : decode cL_law 459 = .ok (.iaload, 1) := by decide +kernel
theorem dL_law_460 : decode cL_law 460 = .ok (.aload_n 0, 1) := by decide +kernel
theorem dL_law_461 : decode cL_law 461 = .ok (.iload_n 3, 1) := by decide +kernel
theorem dL_law_462 : decode cL_law 462 = .ok (.iconst 5, 1) := by decide +kernel
theorem dL_law_463 : decode cL_law 463 = .ok (.iadd, 1) := by decide +kernel
theorem dL_law_464 : decode cL_law 464 = .ok (.iaload, 1) := by decide +kernel
theorem dL_law_465 : decode cL_law 465 = .ok (.invokevirtual 45, 3) := by decide +kernel
theorem dL_law_468 : decode cL_law 468 = .ok (.aload_n 2, 1) := by decide +kernel
theorem dL_law_469 : decode cL_law 469 = .ok (.aload_n 0, 1) := by decide +kernel
theorem dL_law_470 : decode cL_law 470 = .ok (.iload_n 3, 1) := by decide +kernel
theorem dL_law_471 : decode cL_law 471 = .ok (.iconst 1, 1) := by decide +kernel
theorem dL_law_472 : decode cL_law 472 = .ok (.iadd, 1) := by decide +kernel
theorem dL_law_473 : decode cL_law 473 = .ok (.iaload, 1) := by decide +kernel
theorem dL_law_474 : decode cL_law 474 = .ok (.aload_n 0, 1) := by decide +kernel
theorem dL_law_475 : decode cL_law 475 = .ok (.iload_n 3, 1) := by decide +kernel
theorem dL_law_476 : decode cL_law 476 = .ok (.iconst 2, 1) := by decide +kernel
theorem dL_law_477 : decode cL_law 477 = .ok (.iadd, 1) := by decide +kernel
theorem dL_law_478 : decode cL_law 478 = .ok (.iaload, 1) := by decide +kernel
theorem dL_law_479 : decode cL_law 479 = .ok (.aload_n 0, 1) := by decide +kernel
theorem dL_law_480 : decode cL_law 480 = .ok (.iload_n 3, 1) := by decide +kernel
theorem dL_law_481 : decode cL_law 481 = .ok (.iconst 3, 1) := by decide +kernel
theorem dL_law_482 : decode cL_law 482 = .ok (.iadd, 1) := by decide +kernel
theorem dL_law_483 : decode cL_law 483 = .ok (.iaload, 1) := by decide +kernel
theorem dL_law_484 : decode cL_law 484 = .ok (.aload_n 0, 1) := by decide +kernel
theorem dL_law_485 : decode cL_law 485 = .ok (.iload_n 3, 1) := by decide +kernel
theorem dL_law_486 : decode cL_law 486 = .ok (.iconst 4, 1) := by decide +kernel
theorem dL_law_487 : decode cL_law 487 = .ok (.iadd, 1) := by decide +kernel
theorem dL_law_488 : decode cL_law 488 = .ok (.iaload, 1) := by decide +kernel
theorem dL_law_489 : decode cL_law 489 = .ok (.aload_n 0, 1) := by decide +kernel
theorem dL_law_490 : decode cL_law 490 = .ok (.iload_n 3, 1) := by decide +kernel
theorem dL_law_491 : decode cL_law 491 = .ok (.iconst 5, 1) := by decide +kernel
theorem dL_law_492 : decode cL_law 492 = .ok (.iadd, 1) := by decide +kernel
theorem dL_law_493 : decode cL_law 493 = .ok (.iaload, 1) := by decide +kernel
theorem dL_law_494 : decode cL_law 494 = .ok (.invokevirtual 48, 3) := by decide +kernel
theorem dL_law_497 : decode cL_law 497 = .ok (.if_icmp .eq 371, 3) := by decide +kernel
theorem dL_law_500 : decode cL_law 500 = .ok (.iconst 0, 1) := by decide +kernel
theorem dL_law_501 : decode cL_law 501 = .ok (.ireturn, 1) := by decide +kernel
theorem dL_law_502 : decode cL_law 502 = .ok (.aload_n 1, 1) := by decide +kernel
theorem dL_law_503 : decode cL_law 503 = .ok (.aload_n 0, 1) := by decide +kernel
theorem dL_law_504 : decode cL_law 504 = .ok (.iload_n 3, 1) := by decide +kernel
theorem dL_law_505 : decode cL_law 505 = .ok (.iconst 1, 1) := by decide +kernel
theorem dL_law_506 : decode cL_law 506 = .ok (.iadd, 1) := by decide +kernel
theorem dL_law_507 : decode cL_law 507 = .ok (.iaload, 1) := by decide +kernel
theorem dL_law_508 : decode cL_law 508 = .ok (.aload_n 0, 1) := by decide +kernel
theorem dL_law_509 : decode cL_law 509 = .ok (.iload_n 3, 1) := by decide +kernel
theorem dL_law_510 : decode cL_law 510 = .ok (.iconst 2, 1) := by decide +kernel
theorem dL_law_511 : decode cL_law 511 = .ok (.iadd, 1) := by decide +kernel
theorem dL_law_512 : decode cL_law 512 = .ok (.iaload, 1) := by decide +kernel
theorem dL_law_513 : decode cL_law 513 = .ok (.invokevirtual 49, 3) := by decide +kernel
theorem dL_law_516 : decode cL_law 516 = .ok (.aload_n 2, 1) := by decide +kernel
theorem dL_law_517 : decode cL_law 517 = .ok (.aload_n 0, 1) := by decide +kernel
theorem dL_law_518 : decode cL_law 518 = .ok (.iload_n 3, 1) := by decide +kernel
theorem dL_law_519 : decode cL_law 519 = .ok (.iconst 1, 1) := by decide +kernel
theorem dL_law_520 : decode cL_law 520 = .ok (.iadd, 1) := by decide +kernel
theorem dL_law_521 : decode cL_law 521 = .ok (.iaload, 1) := by decide +kernel
theorem dL_law_522 : decode cL_law 522 = .ok (.aload_n 0, 1) := by decide +kernel
theorem dL_law_523 : decode cL_law 523 = .ok (.iload_n 3, 1) := by decide +kernel
theorem dL_law_524 : decode cL_law 524 = .ok (.iconst 2, 1) := by decide +kernel
theorem dL_law_525 : decode cL_law 525 = .ok (.iadd, 1) := by decide +kernel
theorem dL_law_526 : decode cL_law 526 = .ok (.iaload, 1) := by decide +kernel
theorem dL_law_527 : decode cL_law 527 = .ok (.invokevirtual 52, 3) := by decide +kernel
theorem dL_law_530 : decode cL_law 530 = .ok (.if_icmp .eq 338, 3) := by decide +kernel
theorem dL_law_533 : decode cL_law 533 = .ok (.iconst 0, 1) := by decide +kernel
theorem dL_law_534 : decode cL_law 534 = .ok (.ireturn, 1) := by decide +kernel
theorem dL_law_535 : decode cL_law 535 = .ok (.aload_n 1, 1) := by decide +kernel
theorem dL_law_536 : decode cL_law 536 = .ok (.aload_n 0, 1) := by decide +kernel
theorem dL_law_537 : decode cL_law 537 = .ok (.iload_n 3, 1) := by decide +kernel
theorem dL_law_538 : decode cL_law 538 = .ok (.iconst 1, 1) := by decide +kernel
theorem dL_law_539 : decode cL_law 539 = .ok (.iadd, 1) := by decide +kernel
theorem dL_law_540 : decode cL_law 540 = .ok (.iaload, 1) := by decide +kernel
theorem dL_law_541 : decode cL_law 541 = .ok (.aload_n 0, 1) := by decide +kernel
theorem dL_law_542 : decode cL_law 542 = .ok (.iload_n 3, 1) := by decide +kernel
theorem dL_law_543 : decode cL_law 543 = .ok (.iconst 2, 1) := by decide +kernel
theorem dL_law_544 : decode cL_law 544 = .ok (.iadd, 1) := by decide +kernel
theorem dL_law_545 : decode cL_law 545 = .ok (.iaload, 1) := by decide +kernel
theorem dL_law_546 : decode cL_law 546 = .ok (.aload_n 0, 1) := by decide +kernel
theorem dL_law_547 : decode cL_law 547 = .ok (.iload_n 3, 1) := by decide +kernel
theorem dL_law_548 : decode cL_law 548 = .ok (.iconst 3, 1) := by decide +kernel
theorem dL_law_549 : decode cL_law 549 = .ok (.iadd, 1) := by decide +kernel
theorem dL_law_550 : decode cL_law 550 = .ok (.iaload, 1) := by decide +kernel
theorem dL_law_551 : decode cL_law 551 = .ok (.invokevirtual 53, 3) := by decide +kernel
theorem dL_law_554 : decode cL_law 554 = .ok (.aload_n 2, 1) := by decide +kernel
theorem dL_law_555 : decode cL_law 555 = .ok (.aload_n 0, 1) := by decide +kernel
theorem dL_law_556 : decode cL_law 556 = .ok (.iload_n 3, 1) := by decide +kernel
theorem dL_law_557 : decode cL_law 557 = .ok (.iconst 1, 1) := by decide +kernel
theorem dL_law_558 : decode cL_law 558 = .ok (.iadd, 1) := by decide +kernel
theorem dL_law_559 : decode cL_law 559 = .ok (.iaload, 1) := by decide +kernel
theorem dL_law_560 : decode cL_law 560 = .ok (.aload_n 0, 1) := by decide +kernel
theorem dL_law_561 : decode cL_law 561 = .ok (.iload_n 3, 1) := by decide +kernel
theorem dL_law_562 : decode cL_law 562 = .ok (.iconst 2, 1) := by decide +kernel
theorem dL_law_563 : decode cL_law 563 = .ok (.iadd, 1) := by decide +kernel
theorem dL_law_564 : decode cL_law 564 = .ok (.iaload, 1) := by decide +kernel
theorem dL_law_565 : decode cL_law 565 = .ok (.aload_n 0, 1) := by decide +kernel
theorem dL_law_566 : decode cL_law 566 = .ok (.iload_n 3, 1) := by decide +kernel
theorem dL_law_567 : decode cL_law 567 = .ok (.iconst 3, 1) := by decide +kernel
theorem dL_law_568 : decode cL_law 568 = .ok (.iadd, 1) := by decide +kernel
theorem dL_law_569 : decode cL_law 569 = .ok (.iaload, 1) := by decide +kernel
theorem dL_law_570 : decode cL_law 570 = .ok (.invokevirtual 56, 3) := by decide +kernel
theorem dL_law_573 : decode cL_law 573 = .ok (.if_icmp .eq 295, 3) := by decide +kernel
theorem dL_law_576 : decode cL_law 576 = .ok (.iconst 0, 1) := by decide +kernel
theorem dL_law_577 : decode cL_law 577 = .ok (.ireturn, 1) := by decide +kernel
theorem dL_law_578 : decode cL_law 578 = .ok (.aload_n 1, 1) := by decide +kernel
theorem dL_law_579 : decode cL_law 579 = .ok (.aload_n 0, 1) := by decide +kernel
theorem dL_law_580 : decode cL_law 580 = .ok (.iload_n 3, 1) := by decide +kernel
theorem dL_law_581 : decode cL_law 581 = .ok (.iconst 1, 1) := by decide +kernel
theorem dL_law_582 : decode cL_law 582 = .ok (.iadd, 1) := by decide +kernel
theorem dL_law_583 : decode cL_law 583 = .ok (.iaload, 1) := by decide +kernel
theorem dL_law_584 : decode cL_law 584 = .ok (.aload_n 0, 1) := by decide +kernel
theorem dL_law_585 : decode cL_law 585 = .ok (.iload_n 3, 1) := by decide +kernel
theorem dL_law_586 : decode cL_law 586 = .ok (.iconst 2, 1) := by decide +kernel
theorem dL_law_587 : decode cL_law 587 = .ok (.iadd, 1) := by decide +kernel
theorem dL_law_588 : decode cL_law 588 = .ok (.iaload, 1) := by decide +kernel
theorem dL_law_589 : decode cL_law 589 = .ok (.invokevirtual 57, 3) := by decide +kernel
theorem dL_law_592 : decode cL_law 592 = .ok (.aload_n 2, 1) := by decide +kernel
theorem dL_law_593 : decode cL_law 593 = .ok (.aload_n 0, 1) := by decide +kernel
theorem dL_law_594 : decode cL_law 594 = .ok (.iload_n 3, 1) := by decide +kernel
theorem dL_law_595 : decode cL_law 595 = .ok (.iconst 1, 1) := by decide +kernel
theorem dL_law_596 : decode cL_law 596 = .ok (.iadd, 1) := by decide +kernel
theorem dL_law_597 : decode cL_law 597 = .ok (.iaload, 1) := by decide +kernel
theorem dL_law_598 : decode cL_law 598 = .ok (.aload_n 0, 1) := by decide +kernel
theorem dL_law_599 : decode cL_law 599 = .ok (.iload_n 3, 1) := by decide +kernel
theorem dL_law_600 : decode cL_law 600 = .ok (.iconst 2, 1) := by decide +kernel
theorem dL_law_601 : decode cL_law 601 = .ok (.iadd, 1) := by decide +kernel
theorem dL_law_602 : decode cL_law 602 = .ok (.iaload, 1) := by decide +kernel
theorem dL_law_603 : decode cL_law 603 = .ok (.invokevirtual 60, 3) := by decide +kernel
theorem dL_law_606 : decode cL_law 606 = .ok (.if_icmp .eq 262, 3) := by decide +kernel
theorem dL_law_609 : decode cL_law 609 = .ok (.iconst 0, 1) := by decide +kernel
theorem dL_law_610 : decode cL_law 610 = .ok (.ireturn, 1) := by decide +kernel
theorem dL_law_611 : decode cL_law 611 = .ok (.aload_n 1, 1) := by decide +kernel
theorem dL_law_612 : decode cL_law 612 = .ok (.aload_n 0, 1) := by decide +kernel
theorem dL_law_613 : decode cL_law 613 = .ok (.iload_n 3, 1) := by decide +kernel
theorem dL_law_614 : decode cL_law 614 = .ok (.iconst 1, 1) := by decide +kernel
theorem dL_law_615 : decode cL_law 615 = .ok (.iadd, 1) := by decide +kernel
theorem dL_law_616 : decode cL_law 616 = .ok (.iaload, 1) := by decide +kernel
theorem dL_law_617 : decode cL_law 617 = .ok (.invokevirtual 61, 3) := by decide +kernel
theorem dL_law_620 : decode cL_law 620 = .ok (.aload_n 2, 1) := by decide +kernel
theorem dL_law_621 : decode cL_law 621 = .ok (.aload_n 0, 1) := by decide +kernel
theorem dL_law_622 : decode cL_law 622 = .ok (.iload_n 3, 1) := by decide +kernel
theorem dL_law_623 : decode cL_law 623 = .ok (.iconst 1, 1) := by decide +kernel
theorem dL_law_624 : decode cL_law 624 = .ok (.iadd, 1) := by decide +kernel
theorem dL_law_625 : decode cL_law 625 = .ok (.iaload, 1) := by decide +kernel
theorem dL_law_626 : decode cL_law 626 = .ok (.invokevirtual 65, 3) := by decide +kernel
theorem dL_law_629 : decode cL_law 629 = .ok (.if_icmp .eq 239, 3) := by decide +kernel
theorem dL_law_632 : decode cL_law 632 = .ok (.iconst 0, 1) := by decide +kernel
theorem dL_law_633 : decode cL_law 633 = .ok (.ireturn, 1) := by decide +kernel
theorem dL_law_634 : decode cL_law 634 = .ok (.aload_n 1, 1) := by decide +kernel
theorem dL_law_635 : decode cL_law 635 = .ok (.aload_n 0, 1) := by decide +kernel
theorem dL_law_636 : decode cL_law 636 = .ok (.iload_n 3, 1) := by decide +kernel
theorem dL_law_637 : decode cL_law 637 = .ok (.iconst 1, 1) := by decide +kernel
theorem dL_law_638 : decode cL_law 638 = .ok (.iadd, 1) := by decide +kernel
theorem dL_law_639 : decode cL_law 639 = .ok (.iaload, 1) := by decide +kernel
theorem dL_law_640 : decode cL_law 640 = .ok (.aload_n 0, 1) := by decide +kernel
theorem dL_law_641 : decode cL_law 641 = .ok (.iload_n 3, 1) := by decide +kernel
theorem dL_law_642 : decode cL_law 642 = .ok (.iconst 2, 1) := by decide +kernel
theorem dL_law_643 : decode cL_law 643 = .ok (.iadd, 1) := by decide +kernel
theorem dL_law_644 : decode cL_law 644 = .ok (.iaload, 1) := by decide +kernel
theorem dL_law_645 : decode cL_law 645 = .ok (.aload_n 0, 1) := by decide +kernel
theorem dL_law_646 : decode cL_law 646 = .ok (.iload_n 3, 1) := by decide +kernel
theorem dL_law_647 : decode cL_law 647 = .ok (.iconst 3, 1) := by decide +kernel
theorem dL_law_648 : decode cL_law 648 = .ok (.iadd, 1) := by decide +kernel
theorem dL_law_649 : decode cL_law 649 = .ok (.iaload, 1) := by decide +kernel
theorem dL_law_650 : decode cL_law 650 = .ok (.aload_n 0, 1) := by decide +kernel
theorem dL_law_651 : decode cL_law 651 = .ok (.iload_n 3, 1) := by decide +kernel
theorem dL_law_652 : decode cL_law 652 = .ok (.iconst 4, 1) := by decide +kernel
theorem dL_law_653 : decode cL_law 653 = .ok (.iadd, 1) := by decide +kernel
theorem dL_law_654 : decode cL_law 654 = .ok (.iaload, 1) := by decide +kernel
theorem dL_law_655 : decode cL_law 655 = .ok (.invokevirtual 66, 3) := by decide +kernel
theorem dL_law_658 : decode cL_law 658 = .ok (.aload_n 2, 1) := by decide +kernel
theorem dL_law_659 : decode cL_law 659 = .ok (.aload_n 0, 1) := by decide +kernel
theorem dL_law_660 : decode cL_law 660 = .ok (.iload_n 3, 1) := by decide +kernel
theorem dL_law_661 : decode cL_law 661 = .ok (.iconst 1, 1) := by decide +kernel
theorem dL_law_662 : decode cL_law 662 = .ok (.iadd, 1) := by decide +kernel
theorem dL_law_663 : decode cL_law 663 = .ok (.iaload, 1) := by decide +kernel
theorem dL_law_664 : decode cL_law 664 = .ok (.aload_n 0, 1) := by decide +kernel
theorem dL_law_665 : decode cL_law 665 = .ok (.iload_n 3, 1) := by decide +kernel
theorem dL_law_666 : decode cL_law 666 = .ok (.iconst 2, 1) := by decide +kernel
theorem dL_law_667 : decode cL_law 667 = .ok (.iadd, 1) := by decide +kernel
theorem dL_law_668 : decode cL_law 668 = .ok (.iaload, 1) := by decide +kernel
theorem dL_law_669 : decode cL_law 669 = .ok (.aload_n 0, 1) := by decide +kernel
theorem dL_law_670 : decode cL_law 670 = .ok (.iload_n 3, 1) := by decide +kernel
theorem dL_law_671 : decode cL_law 671 = .ok (.iconst 3, 1) := by decide +kernel
theorem dL_law_672 : decode cL_law 672 = .ok (.iadd, 1) := by decide +kernel
theorem dL_law_673 : decode cL_law 673 = .ok (.iaload, 1) := by decide +kernel
theorem dL_law_674 : decode cL_law 674 = .ok (.aload_n 0, 1) := by decide +kernel
theorem dL_law_675 : decode cL_law 675 = .ok (.iload_n 3, 1) := by decide +kernel
theorem dL_law_676 : decode cL_law 676 = .ok (.iconst 4, 1) := by decide +kernel
theorem dL_law_677 : decode cL_law 677 = .ok (.iadd, 1) := by decide +kernel
theorem dL_law_678 : decode cL_law 678 = .ok (.iaload, 1) := by decide +kernel
theorem dL_law_679 : decode cL_law 679 = .ok (.invokevirtual 69, 3) := by decide +kernel
theorem dL_law_682 : decode cL_law 682 = .ok (.if_icmp .eq 186, 3) := by decide +kernel
theorem dL_law_685 : decode cL_law 685 = .ok (.iconst 0, 1) := by decide +kernel
theorem dL_law_686 : decode cL_law 686 = .ok (.ireturn, 1) := by decide +kernel
theorem dL_law_687 : decode cL_law 687 = .ok (.aload_n 1, 1) := by decide +kernel
theorem dL_law_688 : decode cL_law 688 = .ok (.invokevirtual 70, 3) := by decide +kernel
theorem dL_law_691 : decode cL_law 691 = .ok (.aload_n 2, 1) := by decide +kernel
theorem dL_law_692 : decode cL_law 692 = .ok (.invokevirtual 74, 3) := by decide +kernel
theorem dL_law_695 : decode cL_law 695 = .ok (.if_icmp .eq 173, 3) := by decide +kernel
theorem dL_law_698 : decode cL_law 698 = .ok (.iconst 0, 1) := by decide +kernel
theorem dL_law_699 : decode cL_law 699 = .ok (.ireturn, 1) := by decide +kernel
theorem dL_law_700 : decode cL_law 700 = .ok (.aload_n 1, 1) := by decide +kernel
theorem dL_law_701 : decode cL_law 701 = .ok (.aload_n 0, 1) := by decide +kernel
theorem dL_law_702 : decode cL_law 702 = .ok (.iload_n 3, 1) := by decide +kernel
theorem dL_law_703 : decode cL_law 703 = .ok (.iconst 1, 1) := by decide +kernel
theorem dL_law_704 : decode cL_law 704 = .ok (.iadd, 1) := by decide +kernel
theorem dL_law_705 : decode cL_law 705 = .ok (.iaload, 1) := by decide +kernel
theorem dL_law_706 : decode cL_law 706 = .ok (.aload_n 0, 1) := by decide +kernel
theorem dL_law_707 : decode cL_law 707 = .ok (.iload_n 3, 1) := by decide +kernel
theorem dL_law_708 : decode cL_law 708 = .ok (.iconst 2, 1) := by decide +kernel
theorem dL_law_709 : decode cL_law 709 = .ok (.iadd, 1) := by decide +kernel
theorem dL_law_710 : decode cL_law 710 = .ok (.iaload, 1) := by decide +kernel
theorem dL_law_711 : decode cL_law 711 = .ok (.invokevirtual 75, 3) := by decide +kernel
theorem dL_law_714 : decode cL_law 714 = .ok (.aload_n 2, 1) := by decide +kernel
theorem dL_law_715 : decode cL_law 715 = .ok (.aload_n 0, 1) := by decide +kernel
theorem dL_law_716 : decode cL_law 716 = .ok (.iload_n 3, 1) := by decide +kernel
theorem dL_law_717 : decode cL_law 717 = .ok (.iconst 1, 1) := by decide +kernel
theorem dL_law_718 : decode cL_law 718 = .ok (.iadd, 1) := by decide +kernel
theorem dL_law_719 : decode cL_law 719 = .ok (.iaload, 1) := by decide +kernel
theorem dL_law_720 : decode cL_law 720 = .ok (.aload_n 0, 1) := by decide +kernel
theorem dL_law_721 : decode cL_law 721 = .ok (.iload_n 3, 1) := by decide +kernel
theorem dL_law_722 : decode cL_law 722 = .ok (.iconst 2, 1) := by decide +kernel
theorem dL_law_723 : decode cL_law 723 = .ok (.iadd, 1) := by decide +kernel
theorem dL_law_724 : decode cL_law 724 = .ok (.iaload, 1) := by decide +kernel
theorem dL_law_725 : decode cL_law 725 = .ok (.invokevirtual 78, 3) := by decide +kernel
theorem dL_law_728 : decode cL_law 728 = .ok (.if_icmp .eq 140, 3) := by decide +kernel
theorem dL_law_731 : decode cL_law 731 = .ok (.iconst 0, 1) := by decide +kernel
theorem dL_law_732 : decode cL_law 732 = .ok (.ireturn, 1) := by decide +kernel
theorem dL_law_733 : decode cL_law 733 = .ok (.aload_n 1, 1) := by decide +kernel
theorem dL_law_734 : decode cL_law 734 = .ok (.aload_n 0, 1) := by decide +kernel
theorem dL_law_735 : decode cL_law 735 = .ok (.iload_n 3, 1) := by decide +kernel
theorem dL_law_736 : decode cL_law 736 = .ok (.iconst 1, 1) := by decide +kernel
theorem dL_law_737 : decode cL_law 737 = .ok (.iadd, 1) := by decide +kernel
theorem dL_law_738 : decode cL_law 738 = .ok (.iaload, 1) := by decide +kernel
theorem dL_law_739 : decode cL_law 739 = .ok (.aload_n 0, 1) := by decide +kernel
theorem dL_law_740 : decode cL_law 740 = .ok (.iload_n 3, 1) := by decide +kernel
theorem dL_law_741 : decode cL_law 741 = .ok (.iconst 2, 1) := by decide +kernel
theorem dL_law_742 : decode cL_law 742 = .ok (.iadd, 1) := by decide +kernel
theorem dL_law_743 : decode cL_law 743 = .ok (.iaload, 1) := by decide +kernel
theorem dL_law_744 : decode cL_law 744 = .ok (.invokevirtual 79, 3) := by decide +kernel
theorem dL_law_747 : decode cL_law 747 = .ok (.aload_n 2, 1) := by decide +kernel
theorem dL_law_748 : decode cL_law 748 = .ok (.aload_n 0, 1) := by decide +kernel
theorem dL_law_749 : decode cL_law 749 = .ok (.iload_n 3, 1) := by decide +kernel
theorem dL_law_750 : decode cL_law 750 = .ok (.iconst 1, 1) := by decide +kernel
theorem dL_law_751 : decode cL_law 751 = .ok (.iadd, 1) := by decide +kernel
theorem dL_law_752 : decode cL_law 752 = .ok (.iaload, 1) := by decide +kernel
theorem dL_law_753 : decode cL_law 753 = .ok (.aload_n 0, 1) := by decide +kernel
theorem dL_law_754 : decode cL_law 754 = .ok (.iload_n 3, 1) := by decide +kernel
theorem dL_law_755 : decode cL_law 755 = .ok (.iconst 2, 1) := by decide +kernel
theorem dL_law_756 : decode cL_law 756 = .ok (.iadd, 1) := by decide +kernel
theorem dL_law_757 : decode cL_law 757 = .ok (.iaload, 1) := by decide +kernel
theorem dL_law_758 : decode cL_law 758 = .ok (.invokevirtual 82, 3) := by decide +kernel
theorem dL_law_761 : decode cL_law 761 = .ok (.if_icmp .eq 107, 3) := by decide +kernel
theorem dL_law_764 : decode cL_law 764 = .ok (.iconst 0, 1) := by decide +kernel
theorem dL_law_765 : decode cL_law 765 = .ok (.ireturn, 1) := by decide +kernel
theorem dL_law_766 : decode cL_law 766 = .ok (.aload_n 1, 1) := by decide +kernel
theorem dL_law_767 : decode cL_law 767 = .ok (.aload_n 0, 1) := by decide +kernel
theorem dL_law_768 : decode cL_law 768 = .ok (.iload_n 3, 1) := by decide +kernel
theorem dL_law_769 : decode cL_law 769 = .ok (.iconst 1, 1) := by decide +kernel
theorem dL_law_770 : decode cL_law 770 = .ok (.iadd, 1) := by decide +kernel
theorem dL_law_771 : decode cL_law 771 = .ok (.iaload, 1) := by decide +kernel
theorem dL_law_772 : decode cL_law 772 = .ok (.aload_n 0, 1) := by decide +kernel
theorem dL_law_773 : decode cL_law 773 = .ok (.iload_n 3, 1) := by decide +kernel
theorem dL_law_774 : decode cL_law 774 = .ok (.iconst 2, 1) := by decide +kernel
theorem dL_law_775 : decode cL_law 775 = .ok (.iadd, 1) := by decide +kernel
theorem dL_law_776 : decode cL_law 776 = .ok (.iaload, 1) := by decide +kernel
theorem dL_law_777 : decode cL_law 777 = .ok (.invokevirtual 83, 3) := by decide +kernel
theorem dL_law_780 : decode cL_law 780 = .ok (.aload_n 2, 1) := by decide +kernel
theorem dL_law_781 : decode cL_law 781 = .ok (.aload_n 0, 1) := by decide +kernel
theorem dL_law_782 : decode cL_law 782 = .ok (.iload_n 3, 1) := by decide +kernel
theorem dL_law_783 : decode cL_law 783 = .ok (.iconst 1, 1) := by decide +kernel
theorem dL_law_784 : decode cL_law 784 = .ok (.iadd, 1) := by decide +kernel
theorem dL_law_785 : decode cL_law 785 = .ok (.iaload, 1) := by decide +kernel
theorem dL_law_786 : decode cL_law 786 = .ok (.aload_n 0, 1) := by decide +kernel
theorem dL_law_787 : decode cL_law 787 = .ok (.iload_n 3, 1) := by decide +kernel
theorem dL_law_788 : decode cL_law 788 = .ok (.iconst 2, 1) := by decide +kernel
theorem dL_law_789 : decode cL_law 789 = .ok (.iadd, 1) := by decide +kernel
theorem dL_law_790 : decode cL_law 790 = .ok (.iaload, 1) := by decide +kernel
theorem dL_law_791 : decode cL_law 791 = .ok (.invokevirtual 86, 3) := by decide +kernel
theorem dL_law_794 : decode cL_law 794 = .ok (.if_icmp .eq 74, 3) := by decide +kernel
theorem dL_law_797 : decode cL_law 797 = .ok (.iconst 0, 1) := by decide +kernel
theorem dL_law_798 : decode cL_law 798 = .ok (.ireturn, 1) := by decide +kernel
theorem dL_law_799 : decode cL_law 799 = .ok (.aload_n 1, 1) := by decide +kernel
theorem dL_law_800 : decode cL_law 800 = .ok (.aload_n 0, 1) := by decide +kernel
theorem dL_law_801 : decode cL_law 801 = .ok (.iload_n 3, 1) := by decide +kernel
theorem dL_law_802 : decode cL_law 802 = .ok (.iconst 1, 1) := by decide +kernel
theorem dL_law_803 : decode cL_law 803 = .ok (.iadd, 1) := by decide +kernel
theorem dL_law_804 : decode cL_law 804 = .ok (.iaload, 1) := by decide +kernel
theorem dL_law_805 : decode cL_law 805 = .ok (.aload_n 0, 1) := by decide +kernel
theorem dL_law_806 : decode cL_law 806 = .ok (.iload_n 3, 1) := by decide +kernel
theorem dL_law_807 : decode cL_law 807 = .ok (.iconst 2, 1) := by decide +kernel
theorem dL_law_808 : decode cL_law 808 = .ok (.iadd, 1) := by decide +kernel
theorem dL_law_809 : decode cL_law 809 = .ok (.iaload, 1) := by decide +kernel
theorem dL_law_810 : decode cL_law 810 = .ok (.invokevirtual 87, 3) := by decide +kernel
theorem dL_law_813 : decode cL_law 813 = .ok (.aload_n 2, 1) := by decide +kernel
theorem dL_law_814 : decode cL_law 814 = .ok (.aload_n 0, 1) := by decide +kernel
theorem dL_law_815 : decode cL_law 815 = .ok (.iload_n 3, 1) := by decide +kernel
theorem dL_law_816 : decode cL_law 816 = .ok (.iconst 1, 1) := by decide +kernel
theorem dL_law_817 : decode cL_law 817 = .ok (.iadd, 1) := by decide +kernel
theorem dL_law_818 : decode cL_law 818 = .ok (.iaload, 1) := by decide +kernel
theorem dL_law_819 : decode cL_law 819 = .ok (.aload_n 0, 1) := by decide +kernel
theorem dL_law_820 : decode cL_law 820 = .ok (.iload_n 3, 1) := by decide +kernel
theorem dL_law_821 : decode cL_law 821 = .ok (.iconst 2, 1) := by decide +kernel
theorem dL_law_822 : decode cL_law 822 = .ok (.iadd, 1) := by decide +kernel
theorem dL_law_823 : decode cL_law 823 = .ok (.iaload, 1) := by decide +kernel
theorem dL_law_824 : decode cL_law 824 = .ok (.invokevirtual 90, 3) := by decide +kernel
theorem dL_law_827 : decode cL_law 827 = .ok (.if_icmp .eq 41, 3) := by decide +kernel
theorem dL_law_830 : decode cL_law 830 = .ok (.iconst 0, 1) := by decide +kernel
theorem dL_law_831 : decode cL_law 831 = .ok (.ireturn, 1) := by decide +kernel
theorem dL_law_832 : decode cL_law 832 = .ok (.aload_n 1, 1) := by decide +kernel
theorem dL_law_833 : decode cL_law 833 = .ok (.invokevirtual 91, 3) := by decide +kernel
theorem dL_law_836 : decode cL_law 836 = .ok (.aload_n 2, 1) := by decide +kernel
theorem dL_law_837 : decode cL_law 837 = .ok (.invokevirtual 94, 3) := by decide +kernel
theorem dL_law_840 : decode cL_law 840 = .ok (.if_icmp .eq 28, 3) := by decide +kernel
theorem dL_law_843 : decode cL_law 843 = .ok (.iconst 0, 1) := by decide +kernel
theorem dL_law_844 : decode cL_law 844 = .ok (.ireturn, 1) := by decide +kernel
theorem dL_law_845 : decode cL_law 845 = .ok (.aload_n 1, 1) := by decide +kernel
theorem dL_law_846 : decode cL_law 846 = .ok (.aload_n 0, 1) := by decide +kernel
theorem dL_law_847 : decode cL_law 847 = .ok (.iload_n 3, 1) := by decide +kernel
theorem dL_law_848 : decode cL_law 848 = .ok (.iconst 1, 1) := by decide +kernel
theorem dL_law_849 : decode cL_law 849 = .ok (.iadd, 1) := by decide +kernel
theorem dL_law_850 : decode cL_law 850 = .ok (.iaload, 1) := by decide +kernel
theorem dL_law_851 : decode cL_law 851 = .ok (.invokevirtual 95, 3) := by decide +kernel
theorem dL_law_854 : decode cL_law 854 = .ok (.aload_n 2, 1) := by decide +kernel
theorem dL_law_855 : decode cL_law 855 = .ok (.aload_n 0, 1) := by decide +kernel
theorem dL_law_856 : decode cL_law 856 = .ok (.iload_n 3, 1) := by decide +kernel
theorem dL_law_857 : decode cL_law 857 = .ok (.iconst 1, 1) := by decide +kernel
theorem dL_law_858 : decode cL_law 858 = .ok (.iadd, 1) := by decide +kernel
theorem dL_law_859 : decode cL_law 859 = .ok (.iaload, 1) := by decide +kernel
theorem dL_law_860 : decode cL_law 860 = .ok (.invokevirtual 98, 3) := by decide +kernel
theorem dL_law_863 : decode cL_law 863 = .ok (.if_icmp .eq 5, 3) := by decide +kernel
theorem dL_law_866 : decode cL_law 866 = .ok (.iconst 0, 1) := by decide +kernel
theorem dL_law_867 : decode cL_law 867 = .ok (.ireturn, 1) := by decide +kernel
theorem dL_law_868 : decode cL_law 868 = .ok (.iinc 3 6, 3) := by decide +kernel
theorem dL_law_871 : decode cL_law 871 = .ok (.goto (-853), 3) := by decide +kernel
theorem dL_law_874 : decode cL_law 874 = .ok (.iconst 1, 1) := by decide +kernel
theorem dL_law_875 : decode cL_law 875 = .ok (.ireturn, 1) := by decide +kernel
end
section
/-! ===== words that a call hands on, and those that it doesn't ===== -/
def zu_tbl : List Cond := lw_tbl.filter goodWord
def zz_bad (U : State) : Prop := va_Nw (.fieldLinkNest RX3 170 "LampLoft$Fade" "bank" "I" RX3) U ∧ va_Nw (.fieldLinkNest RX3 173 "LampLoft$Fade" "place" "I" RX3) U ∧ va_Nw (.fieldLinkNest RX3 183 "LampLoft$Fade" "target" "I" RX3) U ∧ va_Nw (.methodLinkNest RX3 18 yX1_init RX3) U ∧ (Cond.arrayOver (.array .int)).before #[] U = true ∧ va_AO RX0 U
theorem zz_over {u U : State} (hvm : u.vm.Alike U.vm) (h : (Cond.arrayOver (.array .int)).before #[] u = true) : (Cond.arrayOver (.array .int)).before #[] U = true := by
  obtain ⟨comp, c, k, h1, h2, h3, h4, h5⟩ := arrayOverA_spec h
  obtain ⟨k', hk', he⟩ := hvm.2.2 _ _ h3
  have hi : (U.vm.classes.findIdx? fun (x : Class) => match x.kind with | .array component _ => component == comp | _ => false) = some c := by
    have e1 := va_idx_bare U.vm comp
    have e2 := va_idx_bare u.vm comp
    have e3 : u.vm.bare = U.vm.bare := by first | exact hvm.bare_eq | exact hvm.bare_eq.symm
    rw [e3] at e2
    exact e1.symm.trans (e2.trans h2)
  have hkind : k'.kind = .array comp (.array .int) := by rw [he]; exact h4
  have f1 : U.vm.findClass (FieldType.array .int).toString = some comp := by rw [hvm.findClass]; exact h1
  have f2 : U.vm.findClass ("[" ++ (FieldType.array .int).toString) = some c := by rw [hvm.findClass]; exact h5
  unfold Cond.before Cond.holds
  simp only [Cond.value]
  rw [f1, Option.bind_some]
  refine (congrArg (fun o : Option Nat => (o.bind (fun c => (U.vm.classes[c]?).map fun (k : Class) => match k.kind with | .array _ ty => decide (ty = FieldType.array .int) && decide (U.vm.findClass ("[" ++ (FieldType.array .int).toString) = some c) | _ => false) == some true)) hi).trans ?_
  simp [hk', hkind, f2]
theorem zz_bad.warm {u U : State} (hW : u.WarmedH U.vm) (h : zz_bad u) : zz_bad U :=
  ⟨va_Nw.warmF hW h.1, va_Nw.warmF hW h.2.1, va_Nw.warmF hW h.2.2.1, va_Nw.warmM hW h.2.2.2.1, zz_over hW.alike h.2.2.2.2.1, va_AO.moved hW.alike h.2.2.2.2.2⟩
theorem zz_bad.same {u U : State} (hv : u.vm = U.vm) (h : zz_bad u) : zz_bad U :=
  ⟨va_Nw.same rfl hv h.1, va_Nw.same rfl hv h.2.1, va_Nw.same rfl hv h.2.2.1, va_Nw.same rfl hv h.2.2.2.1, zz_over (by rw [hv]; exact Vm.Alike.refl _) h.2.2.2.2.1, va_AO.moved (by rw [hv]; exact Vm.Alike.refl _) h.2.2.2.2.2⟩
def zz_K (D : va_G) (tys : List (ClassId × FieldType)) (U : State) : Prop := va_K D vwCl tys U ∧ zz_bad U
/-! ===== the judgement: a frame by its pc, its locals' list, its stack, the world's cells ===== -/
def zz_C (p : Program) (s : State) (m : MethodId) (args : Array Value) (c : Code) (A : Nat → Prop) (D : va_G) (tys : List (ClassId × FieldType)) (nL : Nat) (cc : ByteArray) (own : String) : Prop :=
  p.tables.exec = Jvm.exec ∧ c.code = cc ∧ c.maxLocals = nL ∧ s.vm.findClass own = some m.cls ∧ (∀ w ∈ zu_tbl, w.before args s = true) ∧ (∀ q : Nat, s.heap.size ≤ q → A q) ∧ zz_K D tys s
def zz_Z (p : Program) (l : Launch) (e : Env) (R : Room) (s : State) (m : MethodId) (args : Array Value) (below : List Frame) (meth : Method) (c : Code) (A : Nat → Prop) (D : va_G) (nL : Nat) (Q : State → Prop) (pc : Nat) (lv : List (Nat × Value)) (st : List Value) (w : va_W) (cells slots : Nat) : Prop :=
  ∀ (ls : Array Slot) (H : Heap) (locs : List Loc), lv_has ls nL lv → va_P D vwCl w H → va_D A w → va_S A s.heap H locs → W p l e R s m args below meth c H locs cells slots Q (F0 m pc ls st)
section ZF
variable {p : Program} {l : Launch} {e : Env} {R : Room} {s : State} {m : MethodId} {args : Array Value} {below : List Frame} {meth : Method} {c : Code} {A : Nat → Prop} {D : va_G} {tys : List (ClassId × FieldType)} {nL : Nat} {Q : State → Prop} {cc : ByteArray} {own : String} {pc : Nat} {lv : List (Nat × Value)} {st : List Value} {w : va_W} {cells slots : Nat}
theorem zr_wide {k n : Nat} (h1 : cells ≤ k) (h2 : slots ≤ n) (kk : zz_Z p l e R s m args below meth c A D nL Q pc lv st w k n) : zz_Z p l e R s m args below meth c A D nL Q pc lv st w cells slots :=
  fun ls H locs hl hP hD hS => W.widen h1 h2 (kk ls H locs hl hP hD hS)
theorem zr_eq {st' : List Value} {w' : va_W} (h1 : st = st') (h2 : w = w') (kk : zz_Z p l e R s m args below meth c A D nL Q pc lv st' w' cells slots) : zz_Z p l e R s m args below meth c A D nL Q pc lv st w cells slots := by
  subst h1; subst h2; exact kk
theorem zr_sub {lv' : List (Nat × Value)} (ks : List Nat) (hl : lv_pick lv ks = lv') (kk : zz_Z p l e R s m args below meth c A D nL Q pc lv' st w cells slots) : zz_Z p l e R s m args below meth c A D nL Q pc lv st w cells slots :=
  fun ls H locs h hP hD hS => kk ls H locs (lv_sub h ks hl) hP hD hS
theorem zr_iconst {n : Int} {v : Int32} (hC : zz_C p s m args c A D tys nL cc own) (hd : decode cc pc = .ok (.iconst n, 1)) (hv : Int32.ofInt n = v) (kk : zz_Z p l e R s m args below meth c A D nL Q (pc + 1) lv (.int v :: st) w cells slots) : zz_Z p l e R s m args below meth c A D nL Q pc lv st w cells slots :=
  fun ls H locs hl hP hD hS => lv_iconst hC.1 hC.2.1 hd hv (kk ls H locs hl hP hD hS)
theorem zr_bipush {n : Int} {v : Int32} (hC : zz_C p s m args c A D tys nL cc own) (hd : decode cc pc = .ok (.bipush n, 2)) (hv : (Int8.ofInt n).toInt32 = v) (kk : zz_Z p l e R s m args below meth c A D nL Q (pc + 2) lv (.int v :: st) w cells slots) : zz_Z p l e R s m args below meth c A D nL Q pc lv st w cells slots :=
  fun ls H locs hl hP hD hS => lv_bipush hC.1 hC.2.1 hd hv (kk ls H locs hl hP hD hS)
theorem zr_sipush {n : Int} {v : Int32} (hC : zz_C p s m args c A D tys nL cc own) (hd : decode cc pc = .ok (.sipush n, 3)) (hv : (Int16.ofInt n).toInt32 = v) (kk : zz_Z p l e R s m args below meth c A D nL Q (pc + 3) lv (.int v :: st) w cells slots) : zz_Z p l e R s m args below meth c A D nL Q pc lv st w cells slots :=
  fun ls H locs hl hP hD hS => lv_sipush hC.1 hC.2.1 hd hv (kk ls H locs hl hP hD hS)
theorem zr_ldc {index : Nat} {v : Int32} (hC : zz_C p s m args c A D tys nL cc own) (hd : decode cc pc = .ok (.ldc index, 2)) (hw : Cond.constant own index v ∈ zu_tbl) (kk : zz_Z p l e R s m args below meth c A D nL Q (pc + 2) lv (.int v :: st) w cells slots) : zz_Z p l e R s m args below meth c A D nL Q pc lv st w cells slots :=
  fun ls H locs hl hP hD hS => lv_ldc hC.1 hC.2.1 hC.2.2.2.1 (hC.2.2.2.2.1 _ hw) hd (kk ls H locs hl hP hD hS)
theorem zr_iload_n {k : Fin 4} {i : Nat} {x : Int32} (j : Nat) (hC : zz_C p s m args c A D tys nL cc own) (hd : decode cc pc = .ok (.iload_n k, 1)) (hi : (k : Nat) = i) (hj : lv[j]? = some (i, .int x)) (kk : zz_Z p l e R s m args below meth c A D nL Q (pc + 1) lv (.int x :: st) w cells slots) : zz_Z p l e R s m args below meth c A D nL Q pc lv st w cells slots :=
  fun ls H locs hl hP hD hS => lv_iload_n hC.1 hC.2.1 hd hi (lv_at hl j hj) (kk ls H locs hl hP hD hS)
theorem zr_iload {i : Nat} {x : Int32} (j : Nat) (hC : zz_C p s m args c A D tys nL cc own) (hd : decode cc pc = .ok (.iload i, 2)) (hj : lv[j]? = some (i, .int x)) (kk : zz_Z p l e R s m args below meth c A D nL Q (pc + 2) lv (.int x :: st) w cells slots) : zz_Z p l e R s m args below meth c A D nL Q pc lv st w cells slots :=
  fun ls H locs hl hP hD hS => lv_iload hC.1 hC.2.1 hd (lv_at hl j hj) (kk ls H locs hl hP hD hS)
theorem zr_istore_n {k : Fin 4} {i : Nat} {x : Int32} {lv' : List (Nat × Value)} (hC : zz_C p s m args c A D tys nL cc own) (hd : decode cc pc = .ok (.istore_n k, 1)) (hi : (k : Nat) = i) (hn : i < nL) (hl' : (i, Value.int x) :: lv.filter (fun q => !(q.1 == i) && !(q.1 + 1 == i && q.2.category == 2)) = lv') (kk : zz_Z p l e R s m args below meth c A D nL Q (pc + 1) lv' st w cells slots) : zz_Z p l e R s m args below meth c A D nL Q pc lv (.int x :: st) w cells slots :=
  fun ls H locs hl hP hD hS => lv_istore_n hC.1 hC.2.1 hd hi hl hn hl' (fun ls hl => kk ls H locs hl hP hD hS)
theorem zr_istore {i : Nat} {x : Int32} {lv' : List (Nat × Value)} (hC : zz_C p s m args c A D tys nL cc own) (hd : decode cc pc = .ok (.istore i, 2)) (hn : i < nL) (hl' : (i, Value.int x) :: lv.filter (fun q => !(q.1 == i) && !(q.1 + 1 == i && q.2.category == 2)) = lv') (kk : zz_Z p l e R s m args below meth c A D nL Q (pc + 2) lv' st w cells slots) : zz_Z p l e R s m args below meth c A D nL Q pc lv (.int x :: st) w cells slots :=
  fun ls H locs hl hP hD hS => lv_istore hC.1 hC.2.1 hd hl hn hl' (fun ls hl => kk ls H locs hl hP hD hS)
theorem zr_aload_n {k : Fin 4} {i : Nat} {x : Nat} (j : Nat) (hC : zz_C p s m args c A D tys nL cc own) (hd : decode cc pc = .ok (.aload_n k, 1)) (hi : (k : Nat) = i) (hj : lv[j]? = some (i, .ref x)) (kk : zz_Z p l e R s m args below meth c A D nL Q (pc + 1) lv (.ref x :: st) w cells slots) : zz_Z p l e R s m args below meth c A D nL Q pc lv st w cells slots :=
  fun ls H locs hl hP hD hS => lv_aload_n hC.1 hC.2.1 hd hi (lv_at hl j hj) (kk ls H locs hl hP hD hS)
theorem zr_aload {i : Nat} {x : Nat} (j : Nat) (hC : zz_C p s m args c A D tys nL cc own) (hd : decode cc pc = .ok (.aload i, 2)) (hj : lv[j]? = some (i, .ref x)) (kk : zz_Z p l e R s m args below meth c A D nL Q (pc + 2) lv (.ref x :: st) w cells slots) : zz_Z p l e R s m args below meth c A D nL Q pc lv st w cells slots :=
  fun ls H locs hl hP hD hS => lv_aload hC.1 hC.2.1 hd (lv_at hl j hj) (kk ls H locs hl hP hD hS)
theorem zr_astore_n {k : Fin 4} {i : Nat} {x : Nat} {lv' : List (Nat × Value)} (hC : zz_C p s m args c A D tys nL cc own) (hd : decode cc pc = .ok (.astore_n k, 1)) (hi : (k : Nat) = i) (hn : i < nL) (hl' : (i, Value.ref x) :: lv.filter (fun q => !(q.1 == i) && !(q.1 + 1 == i && q.2.category == 2)) = lv') (kk : zz_Z p l e R s m args below meth c A D nL Q (pc + 1) lv' st w cells slots) : zz_Z p l e R s m args below meth c A D nL Q pc lv (.ref x :: st) w cells slots :=
  fun ls H locs hl hP hD hS => lv_astore_n hC.1 hC.2.1 hd hi hl hn hl' (fun ls hl => kk ls H locs hl hP hD hS)
theorem zr_astore {i : Nat} {x : Nat} {lv' : List (Nat × Value)} (hC : zz_C p s m args c A D tys nL cc own) (hd : decode cc pc = .ok (.astore i, 2)) (hn : i < nL) (hl' : (i, Value.ref x) :: lv.filter (fun q => !(q.1 == i) && !(q.1 + 1 == i && q.2.category == 2)) = lv') (kk : zz_Z p l e R s m args below meth c A D nL Q (pc + 2) lv' st w cells slots) : zz_Z p l e R s m args below meth c A D nL Q pc lv (.ref x :: st) w cells slots :=
  fun ls H locs hl hP hD hS => lv_astore hC.1 hC.2.1 hd hl hn hl' (fun ls hl => kk ls H locs hl hP hD hS)
theorem zr_aload_nN {k : Fin 4} {i : Nat} (j : Nat) (hC : zz_C p s m args c A D tys nL cc own) (hd : decode cc pc = .ok (.aload_n k, 1)) (hi : (k : Nat) = i) (hj : lv[j]? = some (i, .null)) (kk : zz_Z p l e R s m args below meth c A D nL Q (pc + 1) lv (.null :: st) w cells slots) : zz_Z p l e R s m args below meth c A D nL Q pc lv st w cells slots :=
  fun ls H locs hl hP hD hS => lv_aload_nN hC.1 hC.2.1 hd hi (lv_at hl j hj) (kk ls H locs hl hP hD hS)
theorem zr_aloadN {i : Nat} (j : Nat) (hC : zz_C p s m args c A D tys nL cc own) (hd : decode cc pc = .ok (.aload i, 2)) (hj : lv[j]? = some (i, .null)) (kk : zz_Z p l e R s m args below meth c A D nL Q (pc + 2) lv (.null :: st) w cells slots) : zz_Z p l e R s m args below meth c A D nL Q pc lv st w cells slots :=
  fun ls H locs hl hP hD hS => lv_aloadN hC.1 hC.2.1 hd (lv_at hl j hj) (kk ls H locs hl hP hD hS)
theorem zr_astore_nN {k : Fin 4} {i : Nat} {lv' : List (Nat × Value)} (hC : zz_C p s m args c A D tys nL cc own) (hd : decode cc pc = .ok (.astore_n k, 1)) (hi : (k : Nat) = i) (hn : i < nL) (hl' : (i, Value.null) :: lv.filter (fun q => !(q.1 == i) && !(q.1 + 1 == i && q.2.category == 2)) = lv') (kk : zz_Z p l e R s m args below meth c A D nL Q (pc + 1) lv' st w cells slots) : zz_Z p l e R s m args below meth c A D nL Q pc lv (.null :: st) w cells slots :=
  fun ls H locs hl hP hD hS => lv_astore_nN hC.1 hC.2.1 hd hi hl hn hl' (fun ls hl => kk ls H locs hl hP hD hS)
theorem zr_astoreN {i : Nat} {lv' : List (Nat × Value)} (hC : zz_C p s m args c A D tys nL cc own) (hd : decode cc pc = .ok (.astore i, 2)) (hn : i < nL) (hl' : (i, Value.null) :: lv.filter (fun q => !(q.1 == i) && !(q.1 + 1 == i && q.2.category == 2)) = lv') (kk : zz_Z p l e R s m args below meth c A D nL Q (pc + 2) lv' st w cells slots) : zz_Z p l e R s m args below meth c A D nL Q pc lv (.null :: st) w cells slots :=
  fun ls H locs hl hP hD hS => lv_astoreN hC.1 hC.2.1 hd hl hn hl' (fun ls hl => kk ls H locs hl hP hD hS)
theorem zr_iinc {i : Nat} {n : Int} {x v : Int32} {lv' : List (Nat × Value)} (j : Nat) (hC : zz_C p s m args c A D tys nL cc own) (hd : decode cc pc = .ok (.iinc i n, 3)) (hj : lv[j]? = some (i, .int x)) (hv : x + Int32.ofInt n = v) (hn : i < nL) (hl' : (i, Value.int v) :: lv.filter (fun q => !(q.1 == i) && !(q.1 + 1 == i && q.2.category == 2)) = lv') (kk : zz_Z p l e R s m args below meth c A D nL Q (pc + 3) lv' st w cells slots) : zz_Z p l e R s m args below meth c A D nL Q pc lv st w cells slots :=
  fun ls H locs hl hP hD hS => lv_iinc hC.1 hC.2.1 hd hl hj hv hn hl' (fun ls hl => kk ls H locs hl hP hD hS)
theorem zr_iadd {x y : Int32} (hC : zz_C p s m args c A D tys nL cc own) (hd : decode cc pc = .ok (.iadd, 1)) (kk : zz_Z p l e R s m args below meth c A D nL Q (pc + 1) lv (.int (x + y) :: st) w cells slots) : zz_Z p l e R s m args below meth c A D nL Q pc lv (.int y :: .int x :: st) w cells slots :=
  fun ls H locs hl hP hD hS => lv_iadd hC.1 hC.2.1 hd (kk ls H locs hl hP hD hS)
theorem zr_isub {x y : Int32} (hC : zz_C p s m args c A D tys nL cc own) (hd : decode cc pc = .ok (.isub, 1)) (kk : zz_Z p l e R s m args below meth c A D nL Q (pc + 1) lv (.int (x - y) :: st) w cells slots) : zz_Z p l e R s m args below meth c A D nL Q pc lv (.int y :: .int x :: st) w cells slots :=
  fun ls H locs hl hP hD hS => lv_isub hC.1 hC.2.1 hd (kk ls H locs hl hP hD hS)
theorem zr_imul {x y : Int32} (hC : zz_C p s m args c A D tys nL cc own) (hd : decode cc pc = .ok (.imul, 1)) (kk : zz_Z p l e R s m args below meth c A D nL Q (pc + 1) lv (.int (x * y) :: st) w cells slots) : zz_Z p l e R s m args below meth c A D nL Q pc lv (.int y :: .int x :: st) w cells slots :=
  fun ls H locs hl hP hD hS => lv_imul hC.1 hC.2.1 hd (kk ls H locs hl hP hD hS)
theorem zr_iand {x y : Int32} (hC : zz_C p s m args c A D tys nL cc own) (hd : decode cc pc = .ok (.iand, 1)) (kk : zz_Z p l e R s m args below meth c A D nL Q (pc + 1) lv (.int (x &&& y) :: st) w cells slots) : zz_Z p l e R s m args below meth c A D nL Q pc lv (.int y :: .int x :: st) w cells slots :=
  fun ls H locs hl hP hD hS => lv_iand hC.1 hC.2.1 hd (kk ls H locs hl hP hD hS)
theorem zr_idiv {x y : Int32} (hC : zz_C p s m args c A D tys nL cc own) (hd : decode cc pc = .ok (.idiv, 1)) (hne : ¬ y = 0) (kk : zz_Z p l e R s m args below meth c A D nL Q (pc + 1) lv (.int (x / y) :: st) w cells slots) : zz_Z p l e R s m args below meth c A D nL Q pc lv (.int y :: .int x :: st) w cells slots :=
  fun ls H locs hl hP hD hS => lv_idiv hC.1 hC.2.1 hd hne (kk ls H locs hl hP hD hS)
theorem zr_irem {x y : Int32} (hC : zz_C p s m args c A D tys nL cc own) (hd : decode cc pc = .ok (.irem, 1)) (hne : ¬ y = 0) (kk : zz_Z p l e R s m args below meth c A D nL Q (pc + 1) lv (.int (x - x / y * y) :: st) w cells slots) : zz_Z p l e R s m args below meth c A D nL Q pc lv (.int y :: .int x :: st) w cells slots :=
  fun ls H locs hl hP hD hS => lv_irem hC.1 hC.2.1 hd hne (kk ls H locs hl hP hD hS)
theorem zr_ineg {x : Int32} (hC : zz_C p s m args c A D tys nL cc own) (hd : decode cc pc = .ok (.ineg, 1)) (kk : zz_Z p l e R s m args below meth c A D nL Q (pc + 1) lv (.int (0 - x) :: st) w cells slots) : zz_Z p l e R s m args below meth c A D nL Q pc lv (.int x :: st) w cells slots :=
  fun ls H locs hl hP hD hS => lv_ineg hC.1 hC.2.1 hd (kk ls H locs hl hP hD hS)
theorem zr_i2s {x : Int32} (hC : zz_C p s m args c A D tys nL cc own) (hd : decode cc pc = .ok (.i2s, 1)) (kk : zz_Z p l e R s m args below meth c A D nL Q (pc + 1) lv (.int x.toInt16.toInt32 :: st) w cells slots) : zz_Z p l e R s m args below meth c A D nL Q pc lv (.int x :: st) w cells slots :=
  fun ls H locs hl hP hD hS => lv_i2s hC.1 hC.2.1 hd rfl (kk ls H locs hl hP hD hS)
theorem zr_dup {v : Value} (hC : zz_C p s m args c A D tys nL cc own) (hd : decode cc pc = .ok (.dup, 1)) (hv : v.category = 1) (kk : zz_Z p l e R s m args below meth c A D nL Q (pc + 1) lv (v :: v :: st) w cells slots) : zz_Z p l e R s m args below meth c A D nL Q pc lv (v :: st) w cells slots :=
  fun ls H locs hl hP hD hS => lv_dup hC.1 hC.2.1 hd hv (kk ls H locs hl hP hD hS)
theorem zr_pop {v : Value} (hC : zz_C p s m args c A D tys nL cc own) (hd : decode cc pc = .ok (.pop, 1)) (hv : v.category = 1) (kk : zz_Z p l e R s m args below meth c A D nL Q (pc + 1) lv st w cells slots) : zz_Z p l e R s m args below meth c A D nL Q pc lv (v :: st) w cells slots :=
  fun ls H locs hl hP hD hS => lv_pop hC.1 hC.2.1 hd hv (kk ls H locs hl hP hD hS)
theorem zr_null (hC : zz_C p s m args c A D tys nL cc own) (hd : decode cc pc = .ok (.aconst_null, 1)) (kk : zz_Z p l e R s m args below meth c A D nL Q (pc + 1) lv (.null :: st) w cells slots) : zz_Z p l e R s m args below meth c A D nL Q pc lv st w cells slots :=
  fun ls H locs hl hP hD hS => lv_null hC.1 hC.2.1 hd (kk ls H locs hl hP hD hS)
theorem zr_goto {off : Int} {tgt : Nat} (hC : zz_C p s m args c A D tys nL cc own) (hd : decode cc pc = .ok (.goto off, 3)) (ht : (pc : Int) + off = (tgt : Int)) (kk : zz_Z p l e R s m args below meth c A D nL Q tgt lv st w cells slots) : zz_Z p l e R s m args below meth c A D nL Q pc lv st w cells slots :=
  fun ls H locs hl hP hD hS => lv_goto hC.1 hC.2.1 hd ht (kk ls H locs hl hP hD hS)
theorem zr_if_eq {x : Int32} {off : Int} {tgt : Nat} (hC : zz_C p s m args c A D tys nL cc own) (hd : decode cc pc = .ok (.ifCond .eq off, 3)) (ht : (pc : Int) + off = (tgt : Int)) (kt : x = 0 → zz_Z p l e R s m args below meth c A D nL Q tgt lv st w cells slots) (kf : ¬ x = 0 → zz_Z p l e R s m args below meth c A D nL Q (pc + 3) lv st w cells slots) : zz_Z p l e R s m args below meth c A D nL Q pc lv (.int x :: st) w cells slots :=
  fun ls H locs hl hP hD hS => lv_if_eq hC.1 hC.2.1 hd ht (fun h => kt h ls H locs hl hP hD hS) (fun h => kf h ls H locs hl hP hD hS)
theorem zr_icmp_eq {x y : Int32} {off : Int} {tgt : Nat} (hC : zz_C p s m args c A D tys nL cc own) (hd : decode cc pc = .ok (.if_icmp .eq off, 3)) (ht : (pc : Int) + off = (tgt : Int)) (kt : x = y → zz_Z p l e R s m args below meth c A D nL Q tgt lv st w cells slots) (kf : ¬ x = y → zz_Z p l e R s m args below meth c A D nL Q (pc + 3) lv st w cells slots) : zz_Z p l e R s m args below meth c A D nL Q pc lv (.int y :: .int x :: st) w cells slots :=
  fun ls H locs hl hP hD hS => lv_icmp_eq hC.1 hC.2.1 hd ht (fun h => kt h ls H locs hl hP hD hS) (fun h => kf h ls H locs hl hP hD hS)
theorem zr_if_ne {x : Int32} {off : Int} {tgt : Nat} (hC : zz_C p s m args c A D tys nL cc own) (hd : decode cc pc = .ok (.ifCond .ne off, 3)) (ht : (pc : Int) + off = (tgt : Int)) (kt : ¬ x = 0 → zz_Z p l e R s m args below meth c A D nL Q tgt lv st w cells slots) (kf : x = 0 → zz_Z p l e R s m args below meth c A D nL Q (pc + 3) lv st w cells slots) : zz_Z p l e R s m args below meth c A D nL Q pc lv (.int x :: st) w cells slots :=
  fun ls H locs hl hP hD hS => lv_if_ne hC.1 hC.2.1 hd ht (fun h => kt h ls H locs hl hP hD hS) (fun h => kf h ls H locs hl hP hD hS)
theorem zr_icmp_ne {x y : Int32} {off : Int} {tgt : Nat} (hC : zz_C p s m args c A D tys nL cc own) (hd : decode cc pc = .ok (.if_icmp .ne off, 3)) (ht : (pc : Int) + off = (tgt : Int)) (kt : ¬ x = y → zz_Z p l e R s m args below meth c A D nL Q tgt lv st w cells slots) (kf : x = y → zz_Z p l e R s m args below meth c A D nL Q (pc + 3) lv st w cells slots) : zz_Z p l e R s m args below meth c A D nL Q pc lv (.int y :: .int x :: st) w cells slots :=
  fun ls H locs hl hP hD hS => lv_icmp_ne hC.1 hC.2.1 hd ht (fun h => kt h ls H locs hl hP hD hS) (fun h => kf h ls H locs hl hP hD hS)
theorem zr_if_lt {x : Int32} {off : Int} {tgt : Nat} (hC : zz_C p s m args c A D tys nL cc own) (hd : decode cc pc = .ok (.ifCond .lt off, 3)) (ht : (pc : Int) + off = (tgt : Int)) (kt : x < 0 → zz_Z p l e R s m args below meth c A D nL Q tgt lv st w cells slots) (kf : ¬ x < 0 → zz_Z p l e R s m args below meth c A D nL Q (pc + 3) lv st w cells slots) : zz_Z p l e R s m args below meth c A D nL Q pc lv (.int x :: st) w cells slots :=
  fun ls H locs hl hP hD hS => lv_if_lt hC.1 hC.2.1 hd ht (fun h => kt h ls H locs hl hP hD hS) (fun h => kf h ls H locs hl hP hD hS)
theorem zr_icmp_lt {x y : Int32} {off : Int} {tgt : Nat} (hC : zz_C p s m args c A D tys nL cc own) (hd : decode cc pc = .ok (.if_icmp .lt off, 3)) (ht : (pc : Int) + off = (tgt : Int)) (kt : x < y → zz_Z p l e R s m args below meth c A D nL Q tgt lv st w cells slots) (kf : ¬ x < y → zz_Z p l e R s m args below meth c A D nL Q (pc + 3) lv st w cells slots) : zz_Z p l e R s m args below meth c A D nL Q pc lv (.int y :: .int x :: st) w cells slots :=
  fun ls H locs hl hP hD hS => lv_icmp_lt hC.1 hC.2.1 hd ht (fun h => kt h ls H locs hl hP hD hS) (fun h => kf h ls H locs hl hP hD hS)
theorem zr_if_ge {x : Int32} {off : Int} {tgt : Nat} (hC : zz_C p s m args c A D tys nL cc own) (hd : decode cc pc = .ok (.ifCond .ge off, 3)) (ht : (pc : Int) + off = (tgt : Int)) (kt : 0 ≤ x → zz_Z p l e R s m args below meth c A D nL Q tgt lv st w cells slots) (kf : ¬ 0 ≤ x → zz_Z p l e R s m args below meth c A D nL Q (pc + 3) lv st w cells slots) : zz_Z p l e R s m args below meth c A D nL Q pc lv (.int x :: st) w cells slots :=
  fun ls H locs hl hP hD hS => lv_if_ge hC.1 hC.2.1 hd ht (fun h => kt h ls H locs hl hP hD hS) (fun h => kf h ls H locs hl hP hD hS)
theorem zr_icmp_ge {x y : Int32} {off : Int} {tgt : Nat} (hC : zz_C p s m args c A D tys nL cc own) (hd : decode cc pc = .ok (.if_icmp .ge off, 3)) (ht : (pc : Int) + off = (tgt : Int)) (kt : y ≤ x → zz_Z p l e R s m args below meth c A D nL Q tgt lv st w cells slots) (kf : ¬ y ≤ x → zz_Z p l e R s m args below meth c A D nL Q (pc + 3) lv st w cells slots) : zz_Z p l e R s m args below meth c A D nL Q pc lv (.int y :: .int x :: st) w cells slots :=
  fun ls H locs hl hP hD hS => lv_icmp_ge hC.1 hC.2.1 hd ht (fun h => kt h ls H locs hl hP hD hS) (fun h => kf h ls H locs hl hP hD hS)
theorem zr_if_gt {x : Int32} {off : Int} {tgt : Nat} (hC : zz_C p s m args c A D tys nL cc own) (hd : decode cc pc = .ok (.ifCond .gt off, 3)) (ht : (pc : Int) + off = (tgt : Int)) (kt : 0 < x → zz_Z p l e R s m args below meth c A D nL Q tgt lv st w cells slots) (kf : ¬ 0 < x → zz_Z p l e R s m args below meth c A D nL Q (pc + 3) lv st w cells slots) : zz_Z p l e R s m args below meth c A D nL Q pc lv (.int x :: st) w cells slots :=
  fun ls H locs hl hP hD hS => lv_if_gt hC.1 hC.2.1 hd ht (fun h => kt h ls H locs hl hP hD hS) (fun h => kf h ls H locs hl hP hD hS)
theorem zr_icmp_gt {x y : Int32} {off : Int} {tgt : Nat} (hC : zz_C p s m args c A D tys nL cc own) (hd : decode cc pc = .ok (.if_icmp .gt off, 3)) (ht : (pc : Int) + off = (tgt : Int)) (kt : y < x → zz_Z p l e R s m args below meth c A D nL Q tgt lv st w cells slots) (kf : ¬ y < x → zz_Z p l e R s m args below meth c A D nL Q (pc + 3) lv st w cells slots) : zz_Z p l e R s m args below meth c A D nL Q pc lv (.int y :: .int x :: st) w cells slots :=
  fun ls H locs hl hP hD hS => lv_icmp_gt hC.1 hC.2.1 hd ht (fun h => kt h ls H locs hl hP hD hS) (fun h => kf h ls H locs hl hP hD hS)
theorem zr_if_le {x : Int32} {off : Int} {tgt : Nat} (hC : zz_C p s m args c A D tys nL cc own) (hd : decode cc pc = .ok (.ifCond .le off, 3)) (ht : (pc : Int) + off = (tgt : Int)) (kt : x ≤ 0 → zz_Z p l e R s m args below meth c A D nL Q tgt lv st w cells slots) (kf : ¬ x ≤ 0 → zz_Z p l e R s m args below meth c A D nL Q (pc + 3) lv st w cells slots) : zz_Z p l e R s m args below meth c A D nL Q pc lv (.int x :: st) w cells slots :=
  fun ls H locs hl hP hD hS => lv_if_le hC.1 hC.2.1 hd ht (fun h => kt h ls H locs hl hP hD hS) (fun h => kf h ls H locs hl hP hD hS)
theorem zr_icmp_le {x y : Int32} {off : Int} {tgt : Nat} (hC : zz_C p s m args c A D tys nL cc own) (hd : decode cc pc = .ok (.if_icmp .le off, 3)) (ht : (pc : Int) + off = (tgt : Int)) (kt : x ≤ y → zz_Z p l e R s m args below meth c A D nL Q tgt lv st w cells slots) (kf : ¬ x ≤ y → zz_Z p l e R s m args below meth c A D nL Q (pc + 3) lv st w cells slots) : zz_Z p l e R s m args below meth c A D nL Q pc lv (.int y :: .int x :: st) w cells slots :=
  fun ls H locs hl hP hD hS => lv_icmp_le hC.1 hC.2.1 hd ht (fun h => kt h ls H locs hl hP hD hS) (fun h => kf h ls H locs hl hP hD hS)
theorem zr_ifnull {x : Nat} {off : Int} (hC : zz_C p s m args c A D tys nL cc own) (hd : decode cc pc = .ok (.ifnull off, 3)) (kk : zz_Z p l e R s m args below meth c A D nL Q (pc + 3) lv st w cells slots) : zz_Z p l e R s m args below meth c A D nL Q pc lv (.ref x :: st) w cells slots :=
  fun ls H locs hl hP hD hS => lv_ifnull hC.1 hC.2.1 hd (kk ls H locs hl hP hD hS)
theorem zr_ifnullN {off : Int} {tgt : Nat} (hC : zz_C p s m args c A D tys nL cc own) (hd : decode cc pc = .ok (.ifnull off, 3)) (ht : (pc : Int) + off = (tgt : Int)) (kk : zz_Z p l e R s m args below meth c A D nL Q tgt lv st w cells slots) : zz_Z p l e R s m args below meth c A D nL Q pc lv (.null :: st) w cells slots :=
  fun ls H locs hl hP hD hS => lv_ifnullN hC.1 hC.2.1 hd ht (kk ls H locs hl hP hD hS)
theorem zr_ifnonnull {x : Nat} {off : Int} {tgt : Nat} (hC : zz_C p s m args c A D tys nL cc own) (hd : decode cc pc = .ok (.ifnonnull off, 3)) (ht : (pc : Int) + off = (tgt : Int)) (kk : zz_Z p l e R s m args below meth c A D nL Q tgt lv st w cells slots) : zz_Z p l e R s m args below meth c A D nL Q pc lv (.ref x :: st) w cells slots :=
  fun ls H locs hl hP hD hS => lv_ifnonnull hC.1 hC.2.1 hd ht (kk ls H locs hl hP hD hS)
theorem zr_ifnonnullN {off : Int} (hC : zz_C p s m args c A D tys nL cc own) (hd : decode cc pc = .ok (.ifnonnull off, 3)) (kk : zz_Z p l e R s m args below meth c A D nL Q (pc + 3) lv st w cells slots) : zz_Z p l e R s m args below meth c A D nL Q pc lv (.null :: st) w cells slots :=
  fun ls H locs hl hP hD hS => lv_ifnonnullN hC.1 hC.2.1 hd (kk ls H locs hl hP hD hS)
theorem zr_rf {r : Option Nat} (kn : r = none → zz_Z p l e R s m args below meth c A D nL Q pc lv (.null :: st) w cells slots) (ks : ∀ q : Nat, r = some q → zz_Z p l e R s m args below meth c A D nL Q pc lv (.ref q :: st) w cells slots) : zz_Z p l e R s m args below meth c A D nL Q pc lv (va_rf r :: st) w cells slots := by
  cases r with
  | none => exact kn rfl
  | some q => exact ks q rfl
theorem zr_tableOut {dflt lo hi : Int} {offs : Array Int} {len : Nat} {x : Int32} {tgt : Nat} (hC : zz_C p s m args c A D tys nL cc own) (hd : decode cc pc = .ok (.tableswitch dflt lo hi offs, len)) (h : x.toInt < lo ∨ hi < x.toInt) (ht : (pc : Int) + dflt = (tgt : Int)) (kk : zz_Z p l e R s m args below meth c A D nL Q tgt lv st w cells slots) : zz_Z p l e R s m args below meth c A D nL Q pc lv (.int x :: st) w cells slots :=
  fun ls H locs hl hP hD hS => lv_tableOut hC.1 hC.2.1 hd h ht (kk ls H locs hl hP hD hS)
theorem zr_tableIn {dflt lo hi : Int} {offs : Array Int} {len : Nat} {x : Int32} {off : Int} {tgt : Nat} (hC : zz_C p s m args c A D tys nL cc own) (hd : decode cc pc = .ok (.tableswitch dflt lo hi offs, len)) (h1 : ¬ x.toInt < lo) (h2 : ¬ hi < x.toInt) (ho : offs[(x.toInt - lo).toNat]? = some off) (ht : (pc : Int) + off = (tgt : Int)) (kk : zz_Z p l e R s m args below meth c A D nL Q tgt lv st w cells slots) : zz_Z p l e R s m args below meth c A D nL Q pc lv (.int x :: st) w cells slots :=
  fun ls H locs hl hP hD hS => lv_tableIn hC.1 hC.2.1 hd h1 h2 ho ht (kk ls H locs hl hP hD hS)
theorem zr_get {C : String} {T : u_T} {N ci index a : Nat} {fs : List Value} {v : Value} (q0 k : Nat) (hC : zz_C p s m args c A D tys nL cc own) (hin : ∀ w ∈ u_ws C T N, w ∈ zu_tbl) (hc : vwCl[ci]? = some (C, T, N)) (hd : decode cc pc = .ok (.getfield index, 3)) (hlk : Cond.fieldLink own index (T k).1 (T k).2.1 (T k).2.2.1 ∈ zu_tbl) (hk : k < N) (he : w[q0]? = some (a, .inr (ci, fs))) (hv : fs[k]? = some v) (kk : zz_Z p l e R s m args below meth c A D nL Q (pc + 3) lv (v :: st) w cells slots) : zz_Z p l e R s m args below meth c A D nL Q pc lv (.ref a :: st) w cells slots :=
  fun ls H locs hl hP hD hS => va_get (ref := (T k).1) hC.1 hC.2.1 hC.2.2.2.2.1 hin hC.2.2.2.1 hC.2.2.2.2.2.2.1 hP q0 he hc k hk (hC.2.2.2.2.1 _ hlk) (fun _ h => h) hv hd (kk ls H locs hl hP hD hS)
theorem zr_getN {C host : String} {T : u_T} {N ci index a : Nat} {fs : List Value} {v : Value} (q0 k : Nat) (hC : zz_C p s m args c A D tys nL cc own) (hin : ∀ w ∈ u_ws C T N, w ∈ zu_tbl) (hc : vwCl[ci]? = some (C, T, N)) (hd : decode cc pc = .ok (.getfield index, 3)) (hlk : va_Nw (Cond.fieldLinkNest own index (T k).1 (T k).2.1 (T k).2.2.1 host) s) (hk : k < N) (he : w[q0]? = some (a, .inr (ci, fs))) (hv : fs[k]? = some v) (kk : zz_Z p l e R s m args below meth c A D nL Q (pc + 3) lv (v :: st) w cells slots) : zz_Z p l e R s m args below meth c A D nL Q pc lv (.ref a :: st) w cells slots :=
  fun ls H locs hl hP hD hS => va_getN (ref := (T k).1) hC.1 hC.2.1 hC.2.2.2.2.1 hin hC.2.2.2.1 hC.2.2.2.2.2.2.1 hP q0 he hc k hk (va_Nw.use rfl hlk) (fun _ h => h) hv hd (kk ls H locs hl hP hD hS)
theorem zr_put {C : String} {T : u_T} {N ci index a : Nat} {fs : List Value} {v : Value} {ty0 : Nat → FieldType} {w' : va_W} (q0 k : Nat) (hC : zz_C p s m args c A D tys nL cc own) (hin : ∀ w ∈ u_ws C T N, w ∈ zu_tbl) (hty : ∀ k, k < N → parseFieldDescriptor (T k).2.2.1 = some (ty0 k)) (hnm : ∀ a, a < N → ∀ b, b < N → a ≠ b → (T a).2.1 ≠ (T b).2.1) (hc : vwCl[ci]? = some (C, T, N)) (hd : decode cc pc = .ok (.putfield index, 3)) (hlk : Cond.fieldLink own index (T k).1 (T k).2.1 (T k).2.2.1 ∈ zu_tbl) (hk : k < N) (hfin : (T k).2.2.2 = false) (he : w[q0]? = some (a, .inr (ci, fs))) (hn : narrow (ty0 k) v = v) (hfit : fits (ty0 k) v = true) (hl : k < fs.length) (hw : w.set q0 (a, .inr (ci, fs.set k v)) = w') (kk : zz_Z p l e R s m args below meth c A D nL Q (pc + 3) lv st w' cells slots) : zz_Z p l e R s m args below meth c A D nL Q pc lv (v :: .ref a :: st) w cells slots := by
  subst hw
  exact fun ls H locs hl' hP hD hS => va_put (ref := (T k).1) hC.1 hC.2.1 hC.2.2.2.2.1 hin ty0 hty hnm hC.2.2.2.1 hC.2.2.2.2.2.2.1 hP hD hS q0 he hc k hk (hC.2.2.2.2.1 _ hlk) (fun _ h => h) hfin (hty k hk) hn hfit hl hd (fun H1 locs1 hP hD hS => kk ls H1 locs1 hl' hP hD hS)
theorem zr_putF {C : String} {T : u_T} {N ci index a : Nat} {fs : List Value} {v : Value} {ty0 : Nat → FieldType} {w' : va_W} (q0 k : Nat) (hC : zz_C p s m args c A D tys nL cc own) (hin : ∀ w ∈ u_ws C T N, w ∈ zu_tbl) (hty : ∀ k, k < N → parseFieldDescriptor (T k).2.2.1 = some (ty0 k)) (hnm : ∀ a, a < N → ∀ b, b < N → a ≠ b → (T a).2.1 ≠ (T b).2.1) (hc : vwCl[ci]? = some (C, T, N)) (hd : decode cc pc = .ok (.putfield index, 3)) (hlk : Cond.fieldLink own index (T k).1 (T k).2.1 (T k).2.2.1 ∈ zu_tbl) (hk : k < N) (hfin : (T k).2.2.2 = true) (hini : meth.name = "<init>") (hdecl : (T k).1 = own) (he : w[q0]? = some (a, .inr (ci, fs))) (hn : narrow (ty0 k) v = v) (hfit : fits (ty0 k) v = true) (hl : k < fs.length) (hw : w.set q0 (a, .inr (ci, fs.set k v)) = w') (kk : zz_Z p l e R s m args below meth c A D nL Q (pc + 3) lv st w' cells slots) : zz_Z p l e R s m args below meth c A D nL Q pc lv (v :: .ref a :: st) w cells slots := by
  subst hw
  exact fun ls H locs hl' hP hD hS => va_putF (ref := (T k).1) hC.1 hC.2.1 hC.2.2.2.2.1 hin ty0 hty hnm hC.2.2.2.1 hC.2.2.2.2.2.2.1 hP hD hS q0 he hc k hk (hC.2.2.2.2.1 _ hlk) (fun _ h => h) hfin hini hdecl (hty k hk) hn hfit hl hd (fun H1 locs1 hP hD hS => kk ls H1 locs1 hl' hP hD hS)
theorem zr_iald {a : Nat} {cA : ClassId} {n : Nat} {f : Nat → Int32} {i : Int32} (q0 t0 : Nat) (hC : zz_C p s m args c A D tys nL cc own) (hd : decode cc pc = .ok (.iaload, 1)) (he : w[q0]? = some (a, .inl (cA, n, .inl f))) (ht : tys[t0]? = some (cA, .int)) (hin : vp_in i n) (kk : zz_Z p l e R s m args below meth c A D nL Q (pc + 1) lv (.int (f i.toNatClampNeg) :: st) w cells slots) : zz_Z p l e R s m args below meth c A D nL Q pc lv (.int i :: .ref a :: st) w cells slots :=
  fun ls H locs hl hP hD hS => va_iald hC.1 hC.2.1 hC.2.2.2.2.2.2.1 hP q0 t0 he ht hin hd (kk ls H locs hl hP hD hS)
theorem zr_iast {a : Nat} {cA : ClassId} {n : Nat} {f : Nat → Int32} {i x : Int32} {w' : va_W} (q0 t0 : Nat) (hC : zz_C p s m args c A D tys nL cc own) (hd : decode cc pc = .ok (.iastore, 1)) (he : w[q0]? = some (a, .inl (cA, n, .inl f))) (ht : tys[t0]? = some (cA, .int)) (hin : vp_in i n) (hw : w.set q0 (a, .inl (cA, n, .inl (upd f i.toNatClampNeg x))) = w') (kk : zz_Z p l e R s m args below meth c A D nL Q (pc + 1) lv st w' cells slots) : zz_Z p l e R s m args below meth c A D nL Q pc lv (.int x :: .int i :: .ref a :: st) w cells slots := by
  subst hw
  exact fun ls H locs hl hP hD hS => va_iast hC.1 hC.2.1 hC.2.2.2.2.2.2.1 hP hD hS q0 t0 he ht hin hd (fun H1 locs1 hP hD hS => kk ls H1 locs1 hl hP hD hS)
theorem zr_alen {a : Nat} {cA : ClassId} {y : vp_A} {ty : FieldType} (q0 t0 : Nat) (hC : zz_C p s m args c A D tys nL cc own) (hd : decode cc pc = .ok (.arraylength, 1)) (he : w[q0]? = some (a, .inl (cA, y))) (ht : tys[t0]? = some (cA, ty)) (kk : zz_Z p l e R s m args below meth c A D nL Q (pc + 1) lv (.int (nI y.1) :: st) w cells slots) : zz_Z p l e R s m args below meth c A D nL Q pc lv (.ref a :: st) w cells slots :=
  fun ls H locs hl hP hD hS => va_alen hC.1 hC.2.1 hC.2.2.2.2.2.2.1 hP q0 t0 he ht rfl hd (kk ls H locs hl hP hD hS)
theorem zr_aald {a : Nat} {cA : ClassId} {n : Nat} {f : Nat → Option Nat} {i : Int32} {ty : FieldType} (q0 t0 : Nat) (hC : zz_C p s m args c A D tys nL cc own) (hd : decode cc pc = .ok (.aaload, 1)) (he : w[q0]? = some (a, .inl (cA, n, .inr (.inr (.inr (.inr f)))))) (ht : tys[t0]? = some (cA, ty)) (hty : ty.isReference = true) (hin : vp_in i n) (kk : zz_Z p l e R s m args below meth c A D nL Q (pc + 1) lv (va_rf (f i.toNatClampNeg) :: st) w cells slots) : zz_Z p l e R s m args below meth c A D nL Q pc lv (.int i :: .ref a :: st) w cells slots := by
  intro ls H locs hl hP hD hS
  have hlt : i.toNatClampNeg < n := Nat.not_le.mp fun q => hin (Or.inr q)
  exact W.aald (v := va_rf (f i.toNatClampNeg)) (ty := ty) hC.1 hC.2.1 (hP q0 _ he) ((hC.2.2.2.2.2.2.1.2 t0 _ ht).1 n (fun j => va_rf (f j))) hty (fun q => by cases q) (by show ¬ (i < 0 ∨ (arrV _ _ _).slots.size ≤ _); rw [arrV_size]; exact hin) (by show (arrV _ _ _).slots[_]? = _; rw [arrV_read _ _ hlt]) rfl rfl hd (kk ls H locs hl hP hD hS)
theorem zr_astq {a v ci : Nat} {cA : ClassId} {r : vw_C} {n : Nat} {vs : List Value} {f : Nat → Option Nat} {i : Int32} {w' : va_W} (q0 t0 qk : Nat) (hC : zz_C p s m args c A D tys nL cc own) (hd : decode cc pc = .ok (.aastore, 1)) (he : w[q0]? = some (a, .inl (cA, n, .inr (.inr (.inr (.inr f)))))) (ht : tys[t0]? = some (cA, .object r.1)) (hv : w[qk]? = some (v, .inr (ci, vs))) (hc : vwCl[ci]? = some r) (hin : vp_in i n) (hw : w.set q0 (a, .inl (cA, n, .inr (.inr (.inr (.inr (va_up f i.toNatClampNeg (some v))))))) = w') (kk : zz_Z p l e R s m args below meth c A D nL Q (pc + 1) lv st w' cells slots) : zz_Z p l e R s m args below meth c A D nL Q pc lv (.ref v :: .int i :: .ref a :: st) w cells slots := by
  subst hw
  exact fun ls H locs hl hP hD hS => va_astq hC.1 hC.2.1 hC.2.2.2.2.2.2.1 hP hD hS q0 t0 qk ci he ht hv hc hin hd (fun H1 locs1 hP hD hS => kk ls H1 locs1 hl hP hD hS)
theorem zz_aastN0 {T : State} {locs : List Loc} (X : Stand p l e R s m args below meth c T locs cells slots) (hexec : p.tables.exec = Jvm.exec) {a : Addr} {cell : Cell} {j : Int32} (hcell : T.heap[a]? = some cell) (harr : s.isArrayOf cell (.array .int)) (hknown : cell.vm ≠ .unknown)
    (hin : ¬ (j < 0 ∨ cell.slots.size ≤ j.toNatClampNeg))
    {g : JFrame} (hg : g.method = m) {rest : List Value} (hstack : g.stack = .null :: .int j :: .ref a :: rest) (hdg : decode c.code g.pc = .ok (.aastore, 1)) :
    Stand p l e R s m args below meth c (T.setCell a (cell.setSlot j.toNatClampNeg .null)) (locs ++ [⟨a, j.toNatClampNeg⟩]) cells slots ∧
      ∀ target, Steps p.tables e below ((T.setCell a (cell.setSlot j.toNatClampNeg .null)).setTop { g with pc := g.pc + 1, stack := rest }) target → Steps p.tables e below (T.setTop g) target := by
  have hT := State.isArrayOf_alike X.warmed.alike harr
  have hfit : T.fitsSlot cell.cls cell.vm j.toNatClampNeg .null = true := by
    obtain ⟨hobj, k, hk, comp, hkind⟩ := hT
    cases hvm : cell.vm <;> first | exact absurd hvm (hobj _) | simp [State.fitsSlot, State.slotType?, hk, hkind, fits]
  refine ⟨X.stored hcell _ _, fun target hrest => ?_⟩
  subst hg
  jvm_step X.here [hexec, hdg]
  refine aastore.wp_of_null (c := cell) (t := .array .int) X.here.top hstack hcell hT hin hknown (Nat.not_le.mp fun q => hin (Or.inr q)) hfit ?_
  intro acts
  rw [afterInstr_ok]
  exact hrest
theorem zr_astAN {a : Nat} {cA : ClassId} {n : Nat} {f : Nat → Option Nat} {i : Int32} {w' : va_W} (q0 t0 : Nat) (hC : zz_C p s m args c A D tys nL cc own) (hd : decode cc pc = .ok (.aastore, 1)) (he : w[q0]? = some (a, .inl (cA, n, .inr (.inr (.inr (.inr f)))))) (ht : tys[t0]? = some (cA, .array .int)) (hin : vp_in i n) (hw : w.set q0 (a, .inl (cA, n, .inr (.inr (.inr (.inr (va_up f i.toNatClampNeg none)))))) = w') (kk : zz_Z p l e R s m args below meth c A D nL Q (pc + 1) lv st w' cells slots) : zz_Z p l e R s m args below meth c A D nL Q pc lv (.null :: .int i :: .ref a :: st) w cells slots := by
  subst hw
  intro ls H locs hl hP hD hS T hT X
  have hcell : H[a]? = some (vp_cell cA (n, .inr (.inr (.inr (.inr f))))) := hP q0 _ he
  have hT' : T.heap[a]? = some (vp_cell cA (n, .inr (.inr (.inr (.inr f))))) := by rw [hT]; exact hcell
  obtain ⟨X', stp⟩ := zz_aastN0 X hC.1 hT' ((hC.2.2.2.2.2.2.1.2 t0 _ ht).1 n (fun j => va_rf (f j))) (fun h => by cases h) (by show ¬ (i < 0 ∨ (arrV _ _ _).slots.size ≤ _); rw [arrV_size]; exact hin) (g := F0 m pc ls (.null :: .int i :: .ref a :: st)) rfl rfl (by rw [hC.2.1]; exact hd)
  have hlt : a < T.heap.size := (Array.getElem?_eq_some_iff.mp hT').1
  have oq : ∀ q : Nat, q ≠ a → (T.setCell a ((vp_cell cA (n, .inr (.inr (.inr (.inr f))))).setSlot i.toNatClampNeg .null)).heap[q]? = H[q]? := fun q hq => by rw [heapAt_setCell_ne _ (Ne.symm hq), hT]
  obtain ⟨t', a1, b1⟩ := kk ls _ _ hl (hP.set hD he (e := .inl (cA, n, .inr (.inr (.inr (.inr (va_up f i.toNatClampNeg none)))))) (H1 := (T.setCell a ((vp_cell cA (n, .inr (.inr (.inr (.inr f))))).setSlot i.toNatClampNeg .null)).heap) (by
      show (T.setCell a _).heap[a]? = some (vp_cell _ _)
      rw [heapAt_setCell_self _ hlt]
      rw [vp_cell_q, vp_cell_q, arrV_store]
      congr 2
      funext q
      by_cases hq : q = i.toNatClampNeg
      · subst hq
        simp [updV, va_up, va_rf]
      · simp [updV, va_up, hq]) oq) (hD.set he) (hS.put (k := i.toNatClampNeg) (by rw [size_setCell, hT]) oq (hD.2 q0 _ he)) _ rfl X'
  exact ⟨t', stp t' a1, b1⟩
theorem zr_astA {a v : Nat} {cA cI : ClassId} {n k : Nat} {f : Nat → Option Nat} {z : Nat → Int32} {i : Int32} {w' : va_W} (q0 t0 t1 qk : Nat) (hC : zz_C p s m args c A D tys nL cc own) (hd : decode cc pc = .ok (.aastore, 1)) (he : w[q0]? = some (a, .inl (cA, n, .inr (.inr (.inr (.inr f)))))) (ht : tys[t0]? = some (cA, .array .int)) (hv : w[qk]? = some (v, .inl (cI, k, .inl z))) (ht1 : tys[t1]? = some (cI, .int)) (hin : vp_in i n) (hw : w.set q0 (a, .inl (cA, n, .inr (.inr (.inr (.inr (va_up f i.toNatClampNeg (some v))))))) = w') (kk : zz_Z p l e R s m args below meth c A D nL Q (pc + 1) lv st w' cells slots) : zz_Z p l e R s m args below meth c A D nL Q pc lv (.ref v :: .int i :: .ref a :: st) w cells slots := by
  subst hw
  intro ls H locs hl hP hD hS
  have hlt : i.toNatClampNeg < n := Nat.not_le.mp fun q => hin (Or.inr q)
  have h0 : ¬ i < 0 := fun q => hin (Or.inl q)
  obtain ⟨comp, c0, kA, f1, -, f2, f3, f4⟩ := arrayOverA_spec hC.2.2.2.2.2.2.2.2.2.2.2.1
  have r1 : s.vm.findClass ("[" ++ (FieldType.array .int).toString) = some cA := (hC.2.2.2.2.2.2.1.2 t0 _ ht).2
  have r2 : s.vm.findClass ("[" ++ FieldType.int.toString) = some cI := (hC.2.2.2.2.2.2.1.2 t1 _ ht1).2
  cases f4.symm.trans r1
  have r3 : s.vm.findClass (FieldType.array .int).toString = some cI := r2
  cases f1.symm.trans r3
  obtain ⟨kC, hkC, -⟩ := Vm.findClass_spec f1
  refine W.aast hC.1 hC.2.1 (hP q0 _ he) (fun q h => by cases h) (fun h => by cases h) f2 f3 rfl hkC ⟨h0, by show _ < (arrV _ _ _).slots.size; rw [arrV_size]; exact hlt⟩ (hP qk _ hv) (fun q h => by cases h) hkC (va_asg _ _) rfl rfl hd fun H1 e z oq => ?_
  refine kk ls H1 _ hl (hP.set hD he ?_ oq) (hD.set he) (hS.put z oq (hD.2 q0 _ he))
  show H1[a]? = some (vp_cell _ _)
  rw [e]
  rw [vp_cell_q, vp_cell_q, arrV_store]
  congr 2
  funext q
  by_cases hq : q = i.toNatClampNeg
  · subst hq
    simp [updV, va_up, va_rf]
  · simp [updV, va_up, hq]
theorem zr_newa {cI : ClassId} {n : Int32} {N' : Nat} (t0 : Nat) (hC : zz_C p s m args c A D tys nL cc own) (hd : decode cc pc = .ok (.newarray .int, 2)) (har : Cond.arrayClass .int ∈ zu_tbl) (ht : tys[t0]? = some (cI, .int)) (hn : ¬ n < 0) (hN : n.toNatClampNeg = N') (hbytes : N' ≤ 1000) (hcells : cells + 1 ≤ R.cells) (hslots : slots + N' ≤ R.slots) (kk : ∀ q : Nat, va_D A (w ++ [(q, .inl (cI, N', .inl (fun _ => 0)))]) → zz_Z p l e R s m args below meth c A D nL Q (pc + 2) lv (.ref q :: st) (w ++ [(q, .inl (cI, N', .inl (fun _ => 0)))]) (cells + 1) (slots + N')) : zz_Z p l e R s m args below meth c A D nL Q pc lv (.int n :: st) w cells slots := by
  intro ls H locs hl hP hD hS
  refine va_newa (atype := .int) (ty := .int) (a0 := (N', .inl (fun _ => 0))) (N' := N') hC.1 hC.2.1 (hC.2.2.2.2.1 _ har) rfl hC.2.2.2.2.2.2.1 hP hD hS hC.2.2.2.2.2.1 (fun _ => rfl) hn hN (by simp [componentBytes]; omega) hcells hslots hd ?_
  intro q cA H1 hK hP hD hS
  have r1 : s.vm.findClass ("[" ++ FieldType.int.toString) = some cA := (hK.2 tys.length (cA, .int) (by simp)).2
  have r2 : s.vm.findClass ("[" ++ FieldType.int.toString) = some cI := (hC.2.2.2.2.2.2.1.2 t0 _ ht).2
  cases r1.symm.trans r2
  exact kk q hD ls H1 locs hl hP hD hS
theorem zr_newA {cA : ClassId} {index : Nat} {n : Int32} {N' : Nat} (t0 : Nat) (hC : zz_C p s m args c A D tys nL cc own) (hd : decode cc pc = .ok (.anewarray index, 3)) (hcl : Cond.classLink own index (FieldType.array .int).toString ∈ zu_tbl) (ht : tys[t0]? = some (cA, .array .int)) (hn : ¬ n < 0) (hN : n.toNatClampNeg = N') (hbytes : N' ≤ 1000) (hcells : cells + 1 ≤ R.cells) (hslots : slots + N' ≤ R.slots) (kk : ∀ q : Nat, va_D A (w ++ [(q, .inl (cA, N', .inr (.inr (.inr (.inr (fun _ => none))))))]) → zz_Z p l e R s m args below meth c A D nL Q (pc + 3) lv (.ref q :: st) (w ++ [(q, .inl (cA, N', .inr (.inr (.inr (.inr (fun _ => none))))))]) (cells + 1) (slots + N')) : zz_Z p l e R s m args below meth c A D nL Q pc lv (.int n :: st) w cells slots := by
  intro ls H locs hl hP hD hS
  subst hN
  refine W.anewA hC.1 hC.2.1 hC.2.2.2.1 (hC.2.2.2.2.1 _ hcl) hC.2.2.2.2.2.2.2.2.2.2.2.1 rfl hd rfl hn (by omega) hcells hslots fun cB kA comp f1 f2 f3 f4 => ?_
  have r1 : s.vm.findClass ("[" ++ (FieldType.array .int).toString) = some cA := (hC.2.2.2.2.2.2.1.2 t0 _ ht).2
  cases f1.symm.trans r1
  generalize hH1 : H.push ({ cls := cA, slots := Array.replicate n.toNatClampNeg .null, vm := .none } : Cell) = H1
  have z1 : H1.size = H.size + 1 := by rw [← hH1, Array.size_push]
  have e1 : H1[H.size]? = some (arrV cA n.toNatClampNeg (fun _ => .null)) := by rw [← hH1, Array.getElem?_push_size, ← arrV_new]
  have o1 : ∀ q : Nat, q < H.size → H1[q]? = H[q]? := fun q hq => by rw [← hH1, Array.getElem?_push, if_neg (Nat.ne_of_lt hq)]
  have hk : ∀ (k : Nat) (x : Nat × va_E), w[k]? = some x → H1[x.1]? = H[x.1]? := fun k x hx => o1 x.1 ((hP k x hx).lt)
  have hD' : va_D A (w ++ [(H.size, .inl (cA, n.toNatClampNeg, .inr (.inr (.inr (.inr (fun _ => none))))))]) := hD.push hP rfl (hC.2.2.2.2.2.1 _ hS.1)
  refine kk H.size hD' ls H1 locs hl ((hP.kept hk).app (fun k x hx => ?_)) hD' ⟨Nat.le_trans hS.1 (by omega), fun x h1 h2 => (o1 x (Nat.lt_of_lt_of_le h1 hS.1)).trans (hS.2.1 x h1 h2), hS.2.2⟩
  have hz : k < 1 := (List.getElem?_eq_some_iff.mp hx).1
  rw [show k = 0 by omega] at hx
  cases hx
  show H1[H.size]? = some (vp_cell _ _)
  rw [vp_cell_q]
  exact e1
theorem zr_newq {cF : ClassId} {index : Nat} {n : Int32} {N' : Nat} (t0 : Nat) (hC : zz_C p s m args c A D tys nL cc own) (hd : decode cc pc = .ok (.anewarray index, 3)) (hcl : Cond.classLink own index RX0 ∈ zu_tbl) (ht : tys[t0]? = some (cF, .object RX0)) (hn : ¬ n < 0) (hN : n.toNatClampNeg = N') (hbytes : N' ≤ 1000) (hcells : cells + 1 ≤ R.cells) (hslots : slots + N' ≤ R.slots) (kk : ∀ q : Nat, va_D A (w ++ [(q, .inl (cF, N', .inr (.inr (.inr (.inr (fun _ => none))))))]) → zz_Z p l e R s m args below meth c A D nL Q (pc + 3) lv (.ref q :: st) (w ++ [(q, .inl (cF, N', .inr (.inr (.inr (.inr (fun _ => none))))))]) (cells + 1) (slots + N')) : zz_Z p l e R s m args below meth c A D nL Q pc lv (.int n :: st) w cells slots := by
  intro ls H locs hl hP hD hS
  refine va_newq hC.1 hC.2.1 hC.2.2.2.1 (hC.2.2.2.2.1 _ hcl) hC.2.2.2.2.2.2.2.2.2.2.2.2 hC.2.2.2.2.2.2.1 hP hD hS hC.2.2.2.2.2.1 hn hN (by omega) hcells hslots hd ?_
  intro q cA H1 hK hP hD hS
  obtain ⟨-, -, -, -, -, r1⟩ := (hK.2 tys.length (cA, .object RX0) (by simp)).2
  obtain ⟨-, -, -, -, -, r2⟩ := (hC.2.2.2.2.2.2.1.2 t0 _ ht).2
  cases r1.symm.trans r2
  exact kk q hD ls H1 locs hl hP hD hS
theorem zr_new {C : String} {T : u_T} {N ci index : Nat} {ty : Nat → FieldType} {fs : List Value} (hC : zz_C p s m args c A D tys nL cc own) (hin : ∀ w ∈ u_ws C T N, w ∈ zu_tbl) (hty : ∀ k, k < N → parseFieldDescriptor (T k).2.2.1 = some (ty k)) (hc : vwCl[ci]? = some (C, T, N)) (hd : decode cc pc = .ok (.new index, 3)) (hcl : Cond.classLink own index C ∈ zu_tbl) (hit : Cond.instantiable C N ∈ zu_tbl) (hii : Cond.initialized C ∈ zu_tbl) (hfs : ∀ j, j < N → defaultValue (ty j) = vp_V fs j) (hcells : cells + 1 ≤ R.cells) (hslots : slots + N ≤ R.slots) (kk : ∀ q : Nat, va_D A (w ++ [(q, .inr (ci, fs))]) → zz_Z p l e R s m args below meth c A D nL Q (pc + 3) lv (.ref q :: st) (w ++ [(q, .inr (ci, fs))]) (cells + 1) (slots + N)) : zz_Z p l e R s m args below meth c A D nL Q pc lv st w cells slots :=
  fun ls H locs hl hP hD hS => va_new hC.1 hC.2.1 hC.2.2.2.2.1 hin ty hty hC.2.2.2.1 (hC.2.2.2.2.1 _ hcl) (hC.2.2.2.2.1 _ hit) (hC.2.2.2.2.1 _ hii) hC.2.2.2.2.2.2.1 hP hD hS hC.2.2.2.2.2.1 hc hfs hcells hslots hd (fun q H1 hP hD hS => kk q hD ls H1 locs hl hP hD hS)
theorem zr_objInit {index a : Nat} (hC : zz_C p s m args c A D tys nL cc own) (hd : decode cc pc = .ok (.invokespecial index, 3)) (h1 : Cond.methodLink own index objectInit ∈ zu_tbl) (h2 : Cond.instanceMethod objectInit ∈ zu_tbl) (h3 : Cond.code objectInit ⟨#[0xb1]⟩ 1 none ∈ zu_tbl) (hfr : 1 ≤ R.frames) (hlo : (st.map fun v => v.category).sum + 12 ≤ R.locals) (kk : zz_Z p l e R s m args below meth c A D nL Q (pc + 3) lv st w cells slots) : zz_Z p l e R s m args below meth c A D nL Q pc lv (.ref a :: st) w cells slots := by
  intro ls H locs hl hP hD hS
  refine W.objInit hC.1 hC.2.1 hC.2.2.2.1 (hC.2.2.2.2.1 _ h1) (hC.2.2.2.2.1 _ h2) (hC.2.2.2.2.1 _ h3) rfl (by rw [hC.2.2.1]; exact hl.1) rfl hd hfr (by show 2 * 0 + _ + 12 ≤ _; omega) ?_
  exact W.eq (g2 := F0 m (pc + 3) ls st) rfl (kk ls H locs hl hP hD hS)
theorem zr_max {index : Nat} {x y : Int32} (hC : zz_C p s m args c A D tys nL cc own) (hd : decode cc pc = .ok (.invokestatic index, 3)) (h1 : Cond.methodLink own index Lib.Math.max.name ∈ zu_tbl) (h2 : Cond.static Lib.Math.max.name ∈ zu_tbl) (h3 : Cond.initialized "java/lang/Math" ∈ zu_tbl) (h4 : Cond.code Lib.Math.max.name Lib.Math.max.code 2 (some .int) ∈ zu_tbl) (hfr : 1 ≤ R.frames) (hlo : (st.map fun v => v.category).sum + 13 ≤ R.locals) (hcc : cells ≤ R.cells) (hss : slots ≤ R.slots) (kk : zz_Z p l e R s m args below meth c A D nL Q (pc + 3) lv (.int (if x < y then y else x) :: st) w cells slots) : zz_Z p l e R s m args below meth c A D nL Q pc lv (.int y :: .int x :: st) w cells slots :=
  fun ls H locs hl hP hD hS => va_mmax hC.1 hC.2.1 (by rw [hC.2.2.1]; exact hl.1.symm) hC.2.2.2.1 (hC.2.2.2.2.1 _ h1) (hC.2.2.2.2.1 _ h2) (hC.2.2.2.2.1 _ h3) (hC.2.2.2.2.1 _ h4) hfr hlo hcc hss hd (kk ls H locs hl hP hD hS)
theorem zr_min {index : Nat} {x y : Int32} (hC : zz_C p s m args c A D tys nL cc own) (hd : decode cc pc = .ok (.invokestatic index, 3)) (h1 : Cond.methodLink own index Lib.Math.min.name ∈ zu_tbl) (h2 : Cond.static Lib.Math.min.name ∈ zu_tbl) (h3 : Cond.initialized "java/lang/Math" ∈ zu_tbl) (h4 : Cond.code Lib.Math.min.name Lib.Math.min.code 2 (some .int) ∈ zu_tbl) (hfr : 1 ≤ R.frames) (hlo : (st.map fun v => v.category).sum + 13 ≤ R.locals) (hcc : cells ≤ R.cells) (hss : slots ≤ R.slots) (kk : zz_Z p l e R s m args below meth c A D nL Q (pc + 3) lv (.int (if y < x then y else x) :: st) w cells slots) : zz_Z p l e R s m args below meth c A D nL Q pc lv (.int y :: .int x :: st) w cells slots :=
  fun ls H locs hl hP hD hS => va_mmin hC.1 hC.2.1 (by rw [hC.2.2.1]; exact hl.1.symm) hC.2.2.2.1 (hC.2.2.2.2.1 _ h1) (hC.2.2.2.2.1 _ h2) (hC.2.2.2.2.1 _ h3) (hC.2.2.2.2.1 _ h4) hfr hlo hcc hss hd (kk ls H locs hl hP hD hS)
theorem zr_abs {index : Nat} {x : Int32} (hC : zz_C p s m args c A D tys nL cc own) (hd : decode cc pc = .ok (.invokestatic index, 3)) (h1 : Cond.methodLink own index Lib.Math.abs.name ∈ zu_tbl) (h2 : Cond.static Lib.Math.abs.name ∈ zu_tbl) (h3 : Cond.initialized "java/lang/Math" ∈ zu_tbl) (h4 : Cond.code Lib.Math.abs.name Lib.Math.abs.code 1 (some .int) ∈ zu_tbl) (hfr : 1 ≤ R.frames) (hlo : (st.map fun v => v.category).sum + 13 ≤ R.locals) (hcc : cells ≤ R.cells) (hss : slots ≤ R.slots) (kk : zz_Z p l e R s m args below meth c A D nL Q (pc + 3) lv (.int (if 0 ≤ x then x else 0 - x) :: st) w cells slots) : zz_Z p l e R s m args below meth c A D nL Q pc lv (.int x :: st) w cells slots :=
  fun ls H locs hl hP hD hS => va_mabs hC.1 hC.2.1 (by rw [hC.2.2.1]; exact hl.1.symm) hC.2.2.2.1 (hC.2.2.2.2.1 _ h1) (hC.2.2.2.2.1 _ h2) (hC.2.2.2.2.1 _ h3) (hC.2.2.2.2.1 _ h4) hfr hlo hcc hss hd (kk ls H locs hl hP hD hS)
end ZF
end
section
/-! ===== contracts over a world of cells, and calls ===== -/
def zz_Q (D : va_G) (post : Option Value → va_W → Prop) (A : Nat → Prop) : Array Value → State → Outcome → State → Prop := fun _ st oc t =>
  (∃ (v : Option Value) (w' : va_W), oc = .returned v ∧ post v w' ∧ va_P D vwCl w' t.heap ∧ va_D A w') ∧ va_F A st t
def zz_P (D : va_G) (tys : List (ClassId × FieldType)) (av : List Value) (w : va_W) (sz : Nat) : Array Value → State → Prop :=
  va_Pc av (fun U => U.heap.size = sz ∧ va_P D vwCl w U.heap ∧ zz_K D tys U ∧ va_D (fun _ => True) w)
def zz_M (l : Launch) (D : va_G) (tys : List (ClassId × FieldType)) (y : MethodName) (bytes : ByteArray) (maxL : Nat) (ret : Option FieldType) (fr lo mc ms : Nat) (av : List Value) (w : va_W) (post : Option Value → va_W → Prop) : Prop :=
  ∀ sz : Nat, Met l y (Cond.code y bytes maxL ret :: zu_tbl) { frames := fr, cells := mc, slots := ms, locals := lo } (zz_P D tys av w sz) (zz_Q D post (va_A w sz)) mc ms (va_A w sz)
theorem zz_blind {D : va_G} {tys : List (ClassId × FieldType)} {av : List Value} {w : va_W} {sz : Nat} : FrameBlind (zz_P D tys av w sz) := fun a U g mk q => by
  obtain ⟨q0, q1, qP, qK, qD⟩ := q
  exact ⟨q0, q1, qP, ⟨va_K.moved (u := U) (U := U.calling g mk a) (Vm.Alike.refl U.vm) qK.1, zz_bad.same (u := U) (U := U.calling g mk a) rfl qK.2⟩, qD⟩
theorem zz_good {y : MethodName} {bytes : ByteArray} {maxL : Nat} {ret : Option FieldType} (h : Cond.code y bytes maxL ret ∈ zu_tbl) : GoodIn zu_tbl (Cond.code y bytes maxL ret :: zu_tbl) := fun w hw => by
  have hm : w ∈ zu_tbl := (List.mem_cons.mp hw).elim (fun e => e ▸ h) id
  exact ⟨hm, good_of_word (List.mem_filter.mp hm).2⟩
section ZC
variable {p : Program} {l : Launch} {e : Env} {R : Room} {s : State} {m : MethodId} {args : Array Value} {below : List Frame} {meth : Method} {c : Code} {A : Nat → Prop} {D : va_G} {tys : List (ClassId × FieldType)} {nL : Nat} {Q : State → Prop} {cc : ByteArray} {own : String} {pc : Nat} {lv : List (Nat × Value)} {st : List Value} {w : va_W} {cells slots : Nat}
variable {y : MethodName} {bytes : ByteArray} {maxL : Nat} {ret : Option FieldType} {fr lo mc ms : Nat} {post : Option Value → va_W → Prop}
/-- behind a call: the world around it, and what came back -/
theorem zz_back {wr w1 : va_W} {H H1 : Heap} {locs L : List Loc} {t : State} (hP : va_P D vwCl (wr ++ w) H) (hD : va_D A (wr ++ w)) (hS : va_S A s.heap H locs) (hA : ∀ q : Nat, s.heap.size ≤ q → A q) (hz : H.size ≤ H1.size) (hk : ∀ q : Nat, q < H.size → ¬ va_A w H.size q → H1[q]? = H[q]?) (hP1 : va_P D vwCl w1 H1) (hD1 : va_D (va_A w H.size) w1) (hL : ∀ q ∈ L, va_A w H.size q.base) :
    va_P D vwCl (wr ++ w1) H1 ∧ va_D A (wr ++ w1) ∧ va_S A s.heap H1 (locs ++ L) := by
  have inw : ∀ (k : Nat) (q : Nat × va_E), w[k]? = some q → (wr ++ w)[wr.length + k]? = some q := fun k q h => by
    rw [List.getElem?_append_right (by omega), Nat.add_sub_cancel_left]; exact h
  have inr : ∀ (k : Nat) (q : Nat × va_E), wr[k]? = some q → (wr ++ w)[k]? = some q := fun k q h => by
    rw [List.getElem?_append_left (List.getElem?_eq_some_iff.mp h).1]; exact h
  have hF : ∀ q, va_A w H.size q → A q := by
    intro q h
    rcases h with ⟨k, e0, h⟩ | h
    · exact hD.2 _ (q, e0) (inw k _ h)
    · exact hA q (Nat.le_trans hS.1 h)
  have apart : ∀ (k : Nat) (q : Nat × va_E), wr[k]? = some q → q.1 < H.size ∧ ¬ va_A w H.size q.1 := by
    intro k q hq
    have hl := (hP k q (inr k q hq)).lt
    refine ⟨hl, fun h => ?_⟩
    rcases h with ⟨k2, e0, h⟩ | h
    · have := hD.1 k (wr.length + k2) q (q.1, e0) (inr k q hq) (inw k2 _ h) rfl
      have hlen := (List.getElem?_eq_some_iff.mp hq).1
      omega
    · omega
  refine ⟨va_P.app (fun k q hq => (hP k q (inr k q hq)).kept (hk q.1 (apart k q hq).1 (apart k q hq).2)) hP1, va_D.app ?_ (hD1.weaken (fun k q _ h => hF q.1 h)) (fun i j x y0 hx hy hxy => (apart i x hx).2 (by rw [hxy]; exact hD1.2 j y0 hy)), ?_⟩
  · exact ⟨fun i j x y0 hi hj hxy => hD.1 i j x y0 (inr i x hi) (inr j y0 hj) hxy, fun k q hq => hD.2 k q (inr k q hq)⟩
  · refine ⟨Nat.le_trans hS.1 hz, fun q h1 h2 => ?_, fun q hq => ?_⟩
    · rw [hk q (Nat.lt_of_lt_of_le h1 hS.1) (fun z => h2 (hF q z))]
      exact hS.2.1 q h1 h2
    · rcases List.mem_append.mp hq with h | h
      · exact hS.2.2 q h
      · exact hF _ (hL q h)
/-- a run of a call gives the judgement behind it -/
theorem zz_run {wr : va_W} {st0 : List Value} {av : List Value} {a : Array Value} (hC : zz_C p s m args c A D tys nL cc own) (hr : ∀ (ls : Array Slot) (H : Heap) (locs : List Loc), lv_has ls nL lv → va_P D vwCl (wr ++ w) H → va_D A (wr ++ w) → va_Run p l e R s m args below meth c H locs cells slots mc ms (F0 m pc ls st0) st (zz_Q D post (va_A w H.size) a) (va_A w H.size))
    (kk : ∀ (v : Option Value) (w1 : va_W), post v w1 → zz_Z p l e R s m args below meth c A D nL Q (pc + 3) lv (v.toList ++ st) (wr ++ w1) (cells + mc) (slots + ms)) : zz_Z p l e R s m args below meth c A D nL Q pc lv st0 (wr ++ w) cells slots := by
  intro ls H locs hl hP hD hS T hT X
  obtain ⟨v, st₀, t, T', L, h0, X', hL, e1, e2, ⟨⟨v', w1, hv, hp, hP1, hD1⟩, hz, hk⟩, stp⟩ := hr ls H locs hl hP hD T hT X
  cases hv
  rw [h0] at hz hk
  obtain ⟨b1, b2, b3⟩ := zz_back (t := t) (H1 := T'.heap) hP hD hS hC.2.2.2.2.2.1 (by rw [e1]; exact hz) (fun q h1 h2 => by rw [e1]; exact hk q h1 h2) (by rw [e1]; exact hP1) hD1 hL
  obtain ⟨t2, a1, a2⟩ := kk v w1 hp ls T'.heap (locs ++ L) hl b1 b2 b3 T' rfl X'
  exact ⟨t2, stp t2 a1, a2⟩
theorem zz_sub {wr : va_W} {H : Heap} (hP : va_P D vwCl (wr ++ w) H) (hD : va_D A (wr ++ w)) : va_P D vwCl w H ∧ va_D (fun _ => True) w := by
  have inw : ∀ (k : Nat) (q : Nat × va_E), w[k]? = some q → (wr ++ w)[wr.length + k]? = some q := fun k q h => by
    rw [List.getElem?_append_right (by omega), Nat.add_sub_cancel_left]; exact h
  exact ⟨fun k q h => hP _ q (inw k q h), fun i j x y0 hi hj hxy => by have := hD.1 _ _ x y0 (inw i x hi) (inw j y0 hj) hxy; omega, fun _ _ _ => trivial⟩
def zz_nice (y : MethodName) (C : String) (n : Nat) : Prop := y.cls = C ∧ y.cls ≠ "java/lang/invoke/MethodHandle" ∧ y.cls ≠ "java/lang/invoke/VarHandle" ∧ (parseMethodDescriptor y.desc).map (fun d => d.parameters.length) = some n
/-- words of a callee that any caller needs -/
def zz_V (y : MethodName) (C : String) (bytes : ByteArray) (maxL : Nat) (ret : Option FieldType) (n : Nat) : Prop := Cond.instanceMethod y ∈ zu_tbl ∧ Cond.selects C y y ∈ zu_tbl ∧ Cond.initialized C ∈ zu_tbl ∧ Cond.code y bytes maxL ret ∈ zu_tbl ∧ zz_nice y C n
def zz_S (y : MethodName) (C : String) (bytes : ByteArray) (maxL : Nat) (ret : Option FieldType) (n : Nat) : Prop := Cond.static y ∈ zu_tbl ∧ Cond.initialized C ∈ zu_tbl ∧ Cond.code y bytes maxL ret ∈ zu_tbl ∧ zz_nice y C n
def zz_I (y : MethodName) (C : String) (bytes : ByteArray) (maxL : Nat) (n : Nat) : Prop := Cond.instanceMethod y ∈ zu_tbl ∧ Cond.initialized C ∈ zu_tbl ∧ Cond.code y bytes maxL none ∈ zu_tbl ∧ zz_nice y C n ∧ y.name = "<init>"
theorem zr_callV {wr : va_W} {C : String} {index n b ci q0 : Nat} {As st0 : List Value} {fs : List Value} {r : vw_C} (hC : zz_C p s m args c A D tys nL cc own) (hV : zz_V y C bytes maxL ret n) (hlk : Cond.methodLink own index y ∈ zu_tbl) (hM : zz_M l D tys y bytes maxL ret fr lo mc ms (.ref b :: As) w post) (hd : decode cc pc = .ok (.invokevirtual index, 3)) (hR : fr + 1 ≤ R.frames ∧ 8 + (maxL + 11) + lo ≤ R.locals) (hf : cells + mc ≤ R.cells ∧ slots + ms ≤ R.slots) (hcl : vwCl[ci]? = some r) (hrC : r.1 = C) (he : w[q0]? = some (b, .inr (ci, fs))) (hst : st0 = As.reverse ++ .ref b :: st) (hn : As.length = n) (hcat : (st.map fun v => v.category).sum ≤ 8)
    (kk : ∀ (v : Option Value) (w1 : va_W), post v w1 → zz_Z p l e R s m args below meth c A D nL Q (pc + 3) lv (v.toList ++ st) (wr ++ w1) (cells + mc) (slots + ms)) : zz_Z p l e R s m args below meth c A D nL Q pc lv st0 (wr ++ w) cells slots := by
  obtain ⟨v1, v2, v3, v4, v5⟩ := hV
  have hCW : CallW R s args own C index y bytes maxL ret (Cond.code y bytes maxL ret :: zu_tbl) { frames := fr, cells := mc, slots := ms, locals := lo } mc ms n :=
    ⟨callB_of n hC.2.2.2.2.1 (zz_good v4) rfl rfl rfl (by rw [v5.1]; exact hC.2.2.2.2.1 _ v3) (hC.2.2.2.2.1 _ hlk) v5.2 hR, hC.2.2.2.2.1 _ v1, hC.2.2.2.2.1 _ v2⟩
  refine zz_run (av := .ref b :: As) (a := (Value.ref b :: As).toArray) (post := post) (mc := mc) (ms := ms) hC (fun ls H locs hl hP hD => ?_) kk
  obtain ⟨hPc, hDc⟩ := zz_sub hP hD
  exact va_runV ⟨hC.1, hC.2.1, hC.2.2.1, hC.2.2.2.1, hC.2.2.2.2.1⟩ (hM H.size) hCW ⟨zz_blind, by rw [← hrC]; exact va_recv hC.2.2.2.2.2.2.1 hPc hcl he, fun U hU hW => ⟨rfl, by rw [hU], by rw [hU]; exact hPc, ⟨va_K.moved hW.alike hC.2.2.2.2.2.2.1, zz_bad.warm hW hC.2.2.2.2.2.2.2⟩, hDc⟩⟩ rfl hn hl.1 hst (by show 2 * 0 + _ ≤ 8; omega) hd hf
theorem zr_callS {wr : va_W} {index n : Nat} {As st0 : List Value} (hC : zz_C p s m args c A D tys nL cc own) (hV : zz_S y own bytes maxL ret n) (hlk : Cond.methodLink own index y ∈ zu_tbl) (hM : zz_M l D tys y bytes maxL ret fr lo mc ms As w post) (hd : decode cc pc = .ok (.invokestatic index, 3)) (hR : fr + 1 ≤ R.frames ∧ 8 + (maxL + 11) + lo ≤ R.locals) (hf : cells + mc ≤ R.cells ∧ slots + ms ≤ R.slots) (hst : st0 = As.reverse ++ st) (hn : As.length = n) (hcat : (st.map fun v => v.category).sum ≤ 8)
    (kk : ∀ (v : Option Value) (w1 : va_W), post v w1 → zz_Z p l e R s m args below meth c A D nL Q (pc + 3) lv (v.toList ++ st) (wr ++ w1) (cells + mc) (slots + ms)) : zz_Z p l e R s m args below meth c A D nL Q pc lv st0 (wr ++ w) cells slots := by
  obtain ⟨v1, v3, v4, v5⟩ := hV
  have hCB : CallB R s args own index y bytes maxL ret (Cond.code y bytes maxL ret :: zu_tbl) { frames := fr, cells := mc, slots := ms, locals := lo } mc ms n :=
    callB_of n hC.2.2.2.2.1 (zz_good v4) rfl rfl rfl (by rw [v5.1]; exact hC.2.2.2.2.1 _ v3) (hC.2.2.2.2.1 _ hlk) v5.2 hR
  refine zz_run (av := As) (a := As.toArray) (post := post) (mc := mc) (ms := ms) hC (fun ls H locs hl hP hD => ?_) kk
  obtain ⟨hPc, hDc⟩ := zz_sub hP hD
  exact va_runS ⟨hC.1, hC.2.1, hC.2.2.1, hC.2.2.2.1, hC.2.2.2.2.1⟩ (hM H.size) ⟨hCB, hC.2.2.2.2.1 _ v1⟩ ⟨zz_blind, fun U hU hW => ⟨rfl, by rw [hU], by rw [hU]; exact hPc, ⟨va_K.moved hW.alike hC.2.2.2.2.2.2.1, zz_bad.warm hW hC.2.2.2.2.2.2.2⟩, hDc⟩⟩ rfl hn hl.1 hst (by show 2 * 0 + _ ≤ 8; omega) hd hf
theorem zr_callI {wr : va_W} {C : String} {index n b : Nat} {As st0 : List Value} (hC : zz_C p s m args c A D tys nL cc own) (hV : zz_I y C bytes maxL n) (hlk : Cond.methodLink own index y ∈ zu_tbl) (hM : zz_M l D tys y bytes maxL none fr lo mc ms (.ref b :: As) w post) (hd : decode cc pc = .ok (.invokespecial index, 3)) (hR : fr + 1 ≤ R.frames ∧ 8 + (maxL + 11) + lo ≤ R.locals) (hf : cells + mc ≤ R.cells ∧ slots + ms ≤ R.slots) (hst : st0 = As.reverse ++ .ref b :: st) (hn : As.length = n) (hcat : (st.map fun v => v.category).sum ≤ 8)
    (kk : ∀ (v : Option Value) (w1 : va_W), post v w1 → zz_Z p l e R s m args below meth c A D nL Q (pc + 3) lv (v.toList ++ st) (wr ++ w1) (cells + mc) (slots + ms)) : zz_Z p l e R s m args below meth c A D nL Q pc lv st0 (wr ++ w) cells slots := by
  obtain ⟨v1, v3, v4, v5, v6⟩ := hV
  have hCB : CallB R s args own index y bytes maxL none (Cond.code y bytes maxL none :: zu_tbl) { frames := fr, cells := mc, slots := ms, locals := lo } mc ms n :=
    callB_of n hC.2.2.2.2.1 (zz_good v4) rfl rfl rfl (by rw [v5.1]; exact hC.2.2.2.2.1 _ v3) (hC.2.2.2.2.1 _ hlk) v5.2 hR
  refine zz_run (av := .ref b :: As) (a := (Value.ref b :: As).toArray) (post := post) (mc := mc) (ms := ms) hC (fun ls H locs hl hP hD => ?_) kk
  obtain ⟨hPc, hDc⟩ := zz_sub hP hD
  exact va_runI ⟨hC.1, hC.2.1, hC.2.2.1, hC.2.2.2.1, hC.2.2.2.2.1⟩ (hM H.size) ⟨hCB, v6, hC.2.2.2.2.1 _ v1⟩ ⟨zz_blind, fun U hU hW => ⟨rfl, by rw [hU], by rw [hU]; exact hPc, ⟨va_K.moved hW.alike hC.2.2.2.2.2.2.1, zz_bad.warm hW hC.2.2.2.2.2.2.2⟩, hDc⟩⟩ rfl hn hl.1 hst (by show 2 * 0 + _ ≤ 8; omega) hd hf
theorem zr_callIN {wr : va_W} {C : String} {index n b : Nat} {As st0 : List Value} (hC : zz_C p s m args c A D tys nL cc own) (hV : zz_I y C bytes maxL n) {host : String} (hlk : va_Nw (.methodLinkNest own index y host) s) (hM : zz_M l D tys y bytes maxL none fr lo mc ms (.ref b :: As) w post) (hd : decode cc pc = .ok (.invokespecial index, 3)) (hR : fr + 1 ≤ R.frames ∧ 8 + (maxL + 11) + lo ≤ R.locals) (hf : cells + mc ≤ R.cells ∧ slots + ms ≤ R.slots) (hst : st0 = As.reverse ++ .ref b :: st) (hn : As.length = n) (hcat : (st.map fun v => v.category).sum ≤ 8)
    (kk : ∀ (v : Option Value) (w1 : va_W), post v w1 → zz_Z p l e R s m args below meth c A D nL Q (pc + 3) lv (v.toList ++ st) (wr ++ w1) (cells + mc) (slots + ms)) : zz_Z p l e R s m args below meth c A D nL Q pc lv st0 (wr ++ w) cells slots := by
  obtain ⟨v1, v3, v4, v5, v6⟩ := hV
  have hCB : va_CN R s args own index y host bytes maxL none (Cond.code y bytes maxL none :: zu_tbl) { frames := fr, cells := mc, slots := ms, locals := lo } mc ms n :=
    va_cnB n hC.2.2.2.2.1 (zz_good v4) rfl rfl rfl hlk (by rw [v5.1]; exact hC.2.2.2.2.1 _ v3) v5.2 hR
  refine zz_run (av := .ref b :: As) (a := (Value.ref b :: As).toArray) (post := post) (mc := mc) (ms := ms) hC (fun ls H locs hl hP hD => ?_) kk
  obtain ⟨hPc, hDc⟩ := zz_sub hP hD
  exact va_runIN ⟨hC.1, hC.2.1, hC.2.2.1, hC.2.2.2.1, hC.2.2.2.2.1⟩ (hM H.size) ⟨hCB, v6, hC.2.2.2.2.1 _ v1⟩ ⟨zz_blind, fun U hU hW => ⟨rfl, by rw [hU], by rw [hU]; exact hPc, ⟨va_K.moved hW.alike hC.2.2.2.2.2.2.1, zz_bad.warm hW hC.2.2.2.2.2.2.2⟩, hDc⟩⟩ rfl hn hl.1 hst (by show 2 * 0 + _ ≤ 8; omega) hd hf
/-- a method's contract out of its walk -/
theorem zz_mk {av : List Value} (hy : plainName y.cls = true) (hlen : (lg_sl av).length ≤ maxL)
    (body : ∀ (p : Program) (e : Env) (s : State) (m : MethodId) (below : List Frame) (meth : Method) (c : Code) (A : Nat → Prop), zz_C p s m av.toArray c A D tys maxL bytes y.cls → meth.sig.returnType = ret → meth.locks = false → meth.name = y.name →
      zz_Z p l e { frames := fr, cells := mc, slots := ms, locals := lo } s m av.toArray below meth c A D maxL (MQ below (zz_Q D post A) av.toArray s mc ms A) 0 (lv_args 0 av) [] w 0 0) : zz_M l D tys y bytes maxL ret fr lo mc ms av w post := by
  intro sz
  refine Met.ofW (cc := bytes) (maxL := maxL) (ret := ret) hy rfl ?_
  intro p e s m args below meth c s₁ B hml hv
  obtain ⟨rfl, hsz, hP, hK, hD0⟩ := hv
  have hts := atoms_spec (ws := Cond.code y bytes maxL ret :: zu_tbl) B.pre
  have hown : s.vm.findClass y.cls = some m.cls := findClass_of_methodNamed B.named
  subst hsz
  have hl := lv_entry av (n := maxL) hlen
  rw [lg_entry_eq]
  exact body p e s m below meth c (va_A w s.heap.size) ⟨B.exec, B.bytes, hml, hown, fun x h => hts x (List.mem_cons_of_mem _ h), fun q h => Or.inr h, hK⟩ B.returns B.notSynchronized (name_of_methodNamed B.named B.method).1 _ _ _ hl hP hD0.self va_S.rf
theorem zr_iret {v : Int32} (hC : zz_C p s m args c A D tys nL cc own) (hr : meth.sig.returnType = some .int) (hlocks : meth.locks = false) (hd : decode cc pc = .ok (.ireturn, 1)) (hc : cells ≤ mc) (hs : slots ≤ ms) (hp : post (some (.int v)) w) : zz_Z p l e R s m args below meth c A D nL (MQ below (zz_Q D post A) args s mc ms A) pc lv [.int v] w cells slots := by
  intro ls H locs hl hP hD hS
  refine W.widen hc hs ?_
  exact W.iret hC.1 hC.2.1 hr (fun t ht hW => ⟨⟨_, w, rfl, hp, by rw [ht]; exact hP, hD⟩, hS.F ht⟩) hS.2.2 hd hlocks
theorem zr_zret {v : Int32} (hC : zz_C p s m args c A D tys nL cc own) (hr : meth.sig.returnType = some .boolean) (hlocks : meth.locks = false) (hd : decode cc pc = .ok (.ireturn, 1)) (hn : narrow .boolean (.int v) = .int v) (hc : cells ≤ mc) (hs : slots ≤ ms) (hp : post (some (.int v)) w) : zz_Z p l e R s m args below meth c A D nL (MQ below (zz_Q D post A) args s mc ms A) pc lv [.int v] w cells slots := by
  intro ls H locs hl hP hD hS
  refine W.widen hc hs ?_
  exact W.zret hC.1 hC.2.1 hr hn (fun t ht hW => ⟨⟨_, w, rfl, hp, by rw [ht]; exact hP, hD⟩, hS.F ht⟩) hS.2.2 hd hlocks
theorem zr_aret {v : Option Nat} {ty : FieldType} (hC : zz_C p s m args c A D tys nL cc own) (hr : meth.sig.returnType = some (.array ty)) (hlocks : meth.locks = false) (hd : decode cc pc = .ok (.areturn, 1)) (hc : cells ≤ mc) (hs : slots ≤ ms) (hp : post (some (va_rf v)) w) : zz_Z p l e R s m args below meth c A D nL (MQ below (zz_Q D post A) args s mc ms A) pc lv [va_rf v] w cells slots := by
  intro ls H locs hl hP hD hS
  refine W.widen hc hs ?_
  exact W.aret hC.1 hC.2.1 hr (Or.inr ⟨_, rfl⟩) (va_rf_or v) (fun t ht hW => ⟨⟨_, w, rfl, hp, by rw [ht]; exact hP, hD⟩, hS.F ht⟩) hS.2.2 hd hlocks
theorem zr_vret (hC : zz_C p s m args c A D tys nL cc own) (hr : meth.sig.returnType = none) (hlocks : meth.locks = false) (hd : decode cc pc = .ok (.return_, 1)) (hc : cells ≤ mc) (hs : slots ≤ ms) (hp : post none w) : zz_Z p l e R s m args below meth c A D nL (MQ below (zz_Q D post A) args s mc ms A) pc lv [] w cells slots := by
  intro ls H locs hl hP hD hS
  refine W.widen hc hs ?_
  exact W.vret hC.1 hC.2.1 hr (fun t ht hW => ⟨⟨_, w, rfl, hp, by rw [ht]; exact hP, hD⟩, hS.F ht⟩) hS.2.2 hd hlocks
end ZC
end
section
theorem zu_mem {w : Cond} (i : Nat) (h : tables_1[i]? = some w) (g : goodWord w = true) : w ∈ zu_tbl := List.mem_filter.mpr ⟨List.mem_append_right _ (List.mem_of_getElem? h), g⟩
theorem zu_sel {w : Cond} (i : Nat) (h : (k2_sels lw_privs)[i]? = some w) (g : goodWord w = true) : w ∈ zu_tbl := List.mem_filter.mpr ⟨List.mem_append_left _ (List.mem_of_getElem? h), g⟩
set_option maxRecDepth 20000 in
theorem fl_X0_7 : Cond.fieldLink RX0 7 (TX0 0).1 (TX0 0).2.1 (TX0 0).2.2.1 ∈ zu_tbl := zu_mem 217 rfl rfl
set_option maxRecDepth 20000 in
theorem fl_X0_13 : Cond.fieldLink RX0 13 (TX0 1).1 (TX0 1).2.1 (TX0 1).2.2.1 ∈ zu_tbl := zu_mem 219 rfl rfl
set_option maxRecDepth 20000 in
theorem fl_X0_16 : Cond.fieldLink RX0 16 (TX0 2).1 (TX0 2).2.1 (TX0 2).2.2.1 ∈ zu_tbl := zu_mem 221 rfl rfl
set_option maxRecDepth 20000 in
theorem fl_X0_19 : Cond.fieldLink RX0 19 (TX0 3).1 (TX0 3).2.1 (TX0 3).2.2.1 ∈ zu_tbl := zu_mem 223 rfl rfl
set_option maxRecDepth 20000 in
theorem fl_X1_9 : Cond.fieldLink RX1 9 (TX1 0).1 (TX1 0).2.1 (TX1 0).2.2.1 ∈ zu_tbl := zu_mem 36 rfl rfl
set_option maxRecDepth 20000 in
theorem fl_X1_23 : Cond.fieldLink RX1 23 (TX1 1).1 (TX1 1).2.1 (TX1 1).2.2.1 ∈ zu_tbl := zu_mem 37 rfl rfl
set_option maxRecDepth 20000 in
theorem fl_X2_11 : Cond.fieldLink RX2 11 (TX2 0).1 (TX2 0).2.1 (TX2 0).2.2.1 ∈ zu_tbl := zu_mem 23 rfl rfl
set_option maxRecDepth 20000 in
theorem fl_X2_21 : Cond.fieldLink RX2 21 (TX2 1).1 (TX2 1).2.1 (TX2 1).2.2.1 ∈ zu_tbl := zu_mem 24 rfl rfl
set_option maxRecDepth 20000 in
theorem fl_X3_10 : Cond.fieldLink RX3 10 (TX3 0).1 (TX3 0).2.1 (TX3 0).2.2.1 ∈ zu_tbl := zu_mem 45 rfl rfl
set_option maxRecDepth 20000 in
theorem fl_X3_19 : Cond.fieldLink RX3 19 (TX3 1).1 (TX3 1).2.1 (TX3 1).2.2.1 ∈ zu_tbl := zu_mem 46 rfl rfl
set_option maxRecDepth 20000 in
theorem fl_X3_25 : Cond.fieldLink RX3 25 (TX3 2).1 (TX3 2).2.1 (TX3 2).2.2.1 ∈ zu_tbl := zu_mem 47 rfl rfl
set_option maxRecDepth 20000 in
theorem fl_X3_66 : Cond.fieldLink RX3 66 (TX3 11).1 (TX3 11).2.1 (TX3 11).2.2.1 ∈ zu_tbl := zu_mem 56 rfl rfl
set_option maxRecDepth 20000 in
theorem fl_X3_83 : Cond.fieldLink RX3 83 (TX3 3).1 (TX3 3).2.1 (TX3 3).2.2.1 ∈ zu_tbl := zu_mem 48 rfl rfl
set_option maxRecDepth 20000 in
theorem fl_X3_122 : Cond.fieldLink RX3 122 (TX3 10).1 (TX3 10).2.1 (TX3 10).2.2.1 ∈ zu_tbl := zu_mem 55 rfl rfl
set_option maxRecDepth 20000 in
theorem fl_X3_125 : Cond.fieldLink RX3 125 (TX3 7).1 (TX3 7).2.1 (TX3 7).2.2.1 ∈ zu_tbl := zu_mem 52 rfl rfl
set_option maxRecDepth 20000 in
theorem fl_X3_128 : Cond.fieldLink RX3 128 (TX3 8).1 (TX3 8).2.1 (TX3 8).2.2.1 ∈ zu_tbl := zu_mem 53 rfl rfl
set_option maxRecDepth 20000 in
theorem fl_X3_131 : Cond.fieldLink RX3 131 (TX3 9).1 (TX3 9).2.1 (TX3 9).2.2.1 ∈ zu_tbl := zu_mem 54 rfl rfl
set_option maxRecDepth 20000 in
theorem fl_X3_134 : Cond.fieldLink RX3 134 (TX3 4).1 (TX3 4).2.1 (TX3 4).2.2.1 ∈ zu_tbl := zu_mem 49 rfl rfl
set_option maxRecDepth 20000 in
theorem fl_X3_137 : Cond.fieldLink RX3 137 (TX3 5).1 (TX3 5).2.1 (TX3 5).2.2.1 ∈ zu_tbl := zu_mem 50 rfl rfl
set_option maxRecDepth 20000 in
theorem fl_X3_140 : Cond.fieldLink RX3 140 (TX3 6).1 (TX3 6).2.1 (TX3 6).2.2.1 ∈ zu_tbl := zu_mem 51 rfl rfl
set_option maxRecDepth 20000 in
theorem fl_X4_7 : Cond.fieldLink RX4 7 (TX4 0).1 (TX4 0).2.1 (TX4 0).2.2.1 ∈ zu_tbl := zu_mem 337 rfl rfl
set_option maxRecDepth 20000 in
theorem fl_X4_13 : Cond.fieldLink RX4 13 (TX4 1).1 (TX4 1).2.1 (TX4 1).2.2.1 ∈ zu_tbl := zu_mem 338 rfl rfl
set_option maxRecDepth 20000 in
theorem fl_X4_16 : Cond.fieldLink RX4 16 (TX4 2).1 (TX4 2).2.1 (TX4 2).2.2.1 ∈ zu_tbl := zu_mem 339 rfl rfl
set_option maxRecDepth 20000 in
theorem fl_X4_19 : Cond.fieldLink RX4 19 (TX4 6).1 (TX4 6).2.1 (TX4 6).2.2.1 ∈ zu_tbl := zu_mem 343 rfl rfl
set_option maxRecDepth 20000 in
theorem fl_X4_22 : Cond.fieldLink RX4 22 (TX4 7).1 (TX4 7).2.1 (TX4 7).2.2.1 ∈ zu_tbl := zu_mem 344 rfl rfl
set_option maxRecDepth 20000 in
theorem fl_X4_25 : Cond.fieldLink RX4 25 (TX4 9).1 (TX4 9).2.1 (TX4 9).2.2.1 ∈ zu_tbl := zu_mem 346 rfl rfl
set_option maxRecDepth 20000 in
theorem fl_X4_28 : Cond.fieldLink RX4 28 (TX4 10).1 (TX4 10).2.1 (TX4 10).2.2.1 ∈ zu_tbl := zu_mem 347 rfl rfl
set_option maxRecDepth 20000 in
theorem fl_X4_31 : Cond.fieldLink RX4 31 (TX4 11).1 (TX4 11).2.1 (TX4 11).2.2.1 ∈ zu_tbl := zu_mem 348 rfl rfl
set_option maxRecDepth 20000 in
theorem fl_X4_34 : Cond.fieldLink RX4 34 (TX4 12).1 (TX4 12).2.1 (TX4 12).2.2.1 ∈ zu_tbl := zu_mem 349 rfl rfl
set_option maxRecDepth 20000 in
theorem fl_X4_41 : Cond.fieldLink RX4 41 (TX4 13).1 (TX4 13).2.1 (TX4 13).2.2.1 ∈ zu_tbl := zu_mem 350 rfl rfl
set_option maxRecDepth 20000 in
theorem fl_X4_60 : Cond.fieldLink RX4 60 (TX4 14).1 (TX4 14).2.1 (TX4 14).2.2.1 ∈ zu_tbl := zu_mem 351 rfl rfl
set_option maxRecDepth 20000 in
theorem fl_X4_63 : Cond.fieldLink RX4 63 (TX4 15).1 (TX4 15).2.1 (TX4 15).2.2.1 ∈ zu_tbl := zu_mem 352 rfl rfl
set_option maxRecDepth 20000 in
theorem fl_X4_70 : Cond.fieldLink RX4 70 (TX4 20).1 (TX4 20).2.1 (TX4 20).2.2.1 ∈ zu_tbl := zu_mem 357 rfl rfl
set_option maxRecDepth 20000 in
theorem fl_X4_84 : Cond.fieldLink RX4 84 (TX4 16).1 (TX4 16).2.1 (TX4 16).2.2.1 ∈ zu_tbl := zu_mem 353 rfl rfl
set_option maxRecDepth 20000 in
theorem fl_X4_100 : Cond.fieldLink RX4 100 (TX4 22).1 (TX4 22).2.1 (TX4 22).2.2.1 ∈ zu_tbl := zu_mem 359 rfl rfl
set_option maxRecDepth 20000 in
theorem fl_X4_106 : Cond.fieldLink RX4 106 (TX4 8).1 (TX4 8).2.1 (TX4 8).2.2.1 ∈ zu_tbl := zu_mem 345 rfl rfl
set_option maxRecDepth 20000 in
theorem fl_X4_109 : Cond.fieldLink RX4 109 (TX4 18).1 (TX4 18).2.1 (TX4 18).2.2.1 ∈ zu_tbl := zu_mem 355 rfl rfl
set_option maxRecDepth 20000 in
theorem fl_X4_112 : Cond.fieldLink RX4 112 (TX4 19).1 (TX4 19).2.1 (TX4 19).2.2.1 ∈ zu_tbl := zu_mem 356 rfl rfl
set_option maxRecDepth 20000 in
theorem fl_X4_115 : Cond.fieldLink RX4 115 (TX4 17).1 (TX4 17).2.1 (TX4 17).2.2.1 ∈ zu_tbl := zu_mem 354 rfl rfl
set_option maxRecDepth 20000 in
theorem fl_X4_118 : Cond.fieldLink RX4 118 (TX4 3).1 (TX4 3).2.1 (TX4 3).2.2.1 ∈ zu_tbl := zu_mem 340 rfl rfl
set_option maxRecDepth 20000 in
theorem fl_X4_122 : Cond.fieldLink RX4 122 (TX4 4).1 (TX4 4).2.1 (TX4 4).2.2.1 ∈ zu_tbl := zu_mem 341 rfl rfl
set_option maxRecDepth 20000 in
theorem fl_X4_125 : Cond.fieldLink RX4 125 (TX4 5).1 (TX4 5).2.1 (TX4 5).2.2.1 ∈ zu_tbl := zu_mem 342 rfl rfl
set_option maxRecDepth 20000 in
theorem fl_X4_131 : Cond.fieldLink RX4 131 (TX4 21).1 (TX4 21).2.1 (TX4 21).2.2.1 ∈ zu_tbl := zu_mem 358 rfl rfl
set_option maxRecDepth 20000 in
theorem ml_L_9 : Cond.methodLink RL 9 yX3_init ∈ zu_tbl := zu_mem 9 rfl rfl
set_option maxRecDepth 20000 in
theorem ml_L_12 : Cond.methodLink RL 12 yX4_init ∈ zu_tbl := zu_mem 333 rfl rfl
set_option maxRecDepth 20000 in
theorem ml_L_13 : Cond.methodLink RL 13 yX3_hang ∈ zu_tbl := zu_mem 82 rfl rfl
set_option maxRecDepth 20000 in
theorem ml_L_17 : Cond.methodLink RL 17 yX4_hang ∈ zu_tbl := zu_mem 407 rfl rfl
set_option maxRecDepth 20000 in
theorem ml_L_18 : Cond.methodLink RL 18 yX3_strike ∈ zu_tbl := zu_mem 105 rfl rfl
set_option maxRecDepth 20000 in
theorem ml_L_22 : Cond.methodLink RL 22 yX4_strike ∈ zu_tbl := zu_mem 424 rfl rfl
set_option maxRecDepth 20000 in
theorem ml_L_23 : Cond.methodLink RL 23 yX3_share ∈ zu_tbl := zu_mem 113 rfl rfl
set_option maxRecDepth 20000 in
theorem ml_L_26 : Cond.methodLink RL 26 yX4_share ∈ zu_tbl := zu_mem 428 rfl rfl
set_option maxRecDepth 20000 in
theorem ml_L_27 : Cond.methodLink RL 27 yX3_size ∈ zu_tbl := zu_mem 117 rfl rfl
set_option maxRecDepth 20000 in
theorem ml_L_30 : Cond.methodLink RL 30 yX4_size ∈ zu_tbl := zu_mem 432 rfl rfl
set_option maxRecDepth 20000 in
theorem ml_L_31 : Cond.methodLink RL 31 yX3_get ∈ zu_tbl := zu_mem 129 rfl rfl
set_option maxRecDepth 20000 in
theorem ml_L_34 : Cond.methodLink RL 34 yX4_get ∈ zu_tbl := zu_mem 440 rfl rfl
set_option maxRecDepth 20000 in
theorem ml_L_35 : Cond.methodLink RL 35 yX3_set ∈ zu_tbl := zu_mem 146 rfl rfl
set_option maxRecDepth 20000 in
theorem ml_L_39 : Cond.methodLink RL 39 yX4_set ∈ zu_tbl := zu_mem 456 rfl rfl
set_option maxRecDepth 20000 in
theorem ml_L_40 : Cond.methodLink RL 40 yX3_patch ∈ zu_tbl := zu_mem 173 rfl rfl
set_option maxRecDepth 20000 in
theorem ml_L_44 : Cond.methodLink RL 44 yX4_patch ∈ zu_tbl := zu_mem 474 rfl rfl
set_option maxRecDepth 20000 in
theorem ml_L_45 : Cond.methodLink RL 45 yX3_ripple ∈ zu_tbl := zu_mem 177 rfl rfl
set_option maxRecDepth 20000 in
theorem ml_L_48 : Cond.methodLink RL 48 yX4_ripple ∈ zu_tbl := zu_mem 478 rfl rfl
set_option maxRecDepth 20000 in
theorem ml_L_49 : Cond.methodLink RL 49 yX3_probe ∈ zu_tbl := zu_mem 181 rfl rfl
set_option maxRecDepth 20000 in
theorem ml_L_52 : Cond.methodLink RL 52 yX4_probe ∈ zu_tbl := zu_mem 482 rfl rfl
set_option maxRecDepth 20000 in
theorem ml_L_53 : Cond.methodLink RL 53 yX3_poke ∈ zu_tbl := zu_mem 188 rfl rfl
set_option maxRecDepth 20000 in
theorem ml_L_56 : Cond.methodLink RL 56 yX4_poke ∈ zu_tbl := zu_mem 489 rfl rfl
set_option maxRecDepth 20000 in
theorem ml_L_57 : Cond.methodLink RL 57 yX3_shown ∈ zu_tbl := zu_mem 192 rfl rfl
set_option maxRecDepth 20000 in
theorem ml_L_60 : Cond.methodLink RL 60 yX4_shown ∈ zu_tbl := zu_mem 493 rfl rfl
set_option maxRecDepth 20000 in
theorem ml_L_61 : Cond.methodLink RL 61 yX3_lit ∈ zu_tbl := zu_mem 200 rfl rfl
set_option maxRecDepth 20000 in
theorem ml_L_65 : Cond.methodLink RL 65 yX4_lit ∈ zu_tbl := zu_mem 501 rfl rfl
set_option maxRecDepth 20000 in
theorem ml_L_66 : Cond.methodLink RL 66 yX3_fade ∈ zu_tbl := zu_mem 208 rfl rfl
set_option maxRecDepth 20000 in
theorem ml_L_69 : Cond.methodLink RL 69 yX4_fade ∈ zu_tbl := zu_mem 505 rfl rfl
set_option maxRecDepth 20000 in
theorem ml_L_70 : Cond.methodLink RL 70 yX3_tick ∈ zu_tbl := zu_mem 233 rfl rfl
set_option maxRecDepth 20000 in
theorem ml_L_74 : Cond.methodLink RL 74 yX4_tick ∈ zu_tbl := zu_mem 509 rfl rfl
set_option maxRecDepth 20000 in
theorem ml_L_75 : Cond.methodLink RL 75 yX3_sheet ∈ zu_tbl := zu_mem 252 rfl rfl
set_option maxRecDepth 20000 in
theorem ml_L_78 : Cond.methodLink RL 78 yX4_sheet ∈ zu_tbl := zu_mem 513 rfl rfl
set_option maxRecDepth 20000 in
theorem ml_L_79 : Cond.methodLink RL 79 yX3_cell ∈ zu_tbl := zu_mem 261 rfl rfl
set_option maxRecDepth 20000 in
theorem ml_L_82 : Cond.methodLink RL 82 yX4_cell ∈ zu_tbl := zu_mem 517 rfl rfl
set_option maxRecDepth 20000 in
theorem ml_L_83 : Cond.methodLink RL 83 yX3_tear ∈ zu_tbl := zu_mem 281 rfl rfl
set_option maxRecDepth 20000 in
theorem ml_L_86 : Cond.methodLink RL 86 yX4_tear ∈ zu_tbl := zu_mem 525 rfl rfl
set_option maxRecDepth 20000 in
theorem ml_L_87 : Cond.methodLink RL 87 yX3_draw ∈ zu_tbl := zu_mem 298 rfl rfl
set_option maxRecDepth 20000 in
theorem ml_L_90 : Cond.methodLink RL 90 yX4_draw ∈ zu_tbl := zu_mem 529 rfl rfl
set_option maxRecDepth 20000 in
theorem ml_L_91 : Cond.methodLink RL 91 yX3_status ∈ zu_tbl := zu_mem 310 rfl rfl
set_option maxRecDepth 20000 in
theorem ml_L_94 : Cond.methodLink RL 94 yX4_status ∈ zu_tbl := zu_mem 533 rfl rfl
set_option maxRecDepth 20000 in
theorem ml_L_95 : Cond.methodLink RL 95 yX3_count ∈ zu_tbl := zu_mem 314 rfl rfl
set_option maxRecDepth 20000 in
theorem ml_L_98 : Cond.methodLink RL 98 yX4_count ∈ zu_tbl := zu_mem 537 rfl rfl
set_option maxRecDepth 20000 in
theorem ml_X0_1 : Cond.methodLink RX0 1 objectInit ∈ zu_tbl := zu_mem 216 rfl rfl
set_option maxRecDepth 20000 in
theorem ml_X0_22 : Cond.methodLink RX0 22 Lib.Math.abs.name ∈ zu_tbl := zu_mem 249 rfl rfl
set_option maxRecDepth 20000 in
theorem ml_X1_3 : Cond.methodLink RX1 3 objectInit ∈ zu_tbl := zu_mem 35 rfl rfl
set_option maxRecDepth 20000 in
theorem ml_X1_15 : Cond.methodLink RX1 15 yX1_rowCount ∈ zu_tbl := zu_mem 273 rfl rfl
set_option maxRecDepth 20000 in
theorem ml_X1_19 : Cond.methodLink RX1 19 yX1_hasRow ∈ zu_tbl := zu_mem 269 rfl rfl
set_option maxRecDepth 20000 in
theorem ml_X2_3 : Cond.methodLink RX2 3 objectInit ∈ zu_tbl := zu_mem 20 rfl rfl
set_option maxRecDepth 20000 in
theorem ml_X2_17 : Cond.methodLink RX2 17 yX2_stripOf ∈ zu_tbl := zu_mem 141 rfl rfl
set_option maxRecDepth 20000 in
theorem ml_X3_1 : Cond.methodLink RX3 1 objectInit ∈ zu_tbl := zu_mem 12 rfl rfl
set_option maxRecDepth 20000 in
theorem ml_X3_9 : Cond.methodLink RX3 9 yX2_init ∈ zu_tbl := zu_mem 17 rfl rfl
set_option maxRecDepth 20000 in
theorem ml_X3_29 : Cond.methodLink RX3 29 yX3_isBank ∈ zu_tbl := zu_mem 86 rfl rfl
set_option maxRecDepth 20000 in
theorem ml_X3_33 : Cond.methodLink RX3 33 yX3_isStrip ∈ zu_tbl := zu_mem 89 rfl rfl
set_option maxRecDepth 20000 in
theorem ml_X3_36 : Cond.methodLink RX3 36 yX3_leave ∈ zu_tbl := zu_mem 92 rfl rfl
set_option maxRecDepth 20000 in
theorem ml_X3_40 : Cond.methodLink RX3 40 yX3_counted ∈ zu_tbl := zu_mem 96 rfl rfl
set_option maxRecDepth 20000 in
theorem ml_X3_44 : Cond.methodLink RX3 44 yX2_replace ∈ zu_tbl := zu_mem 100 rfl rfl
set_option maxRecDepth 20000 in
theorem ml_X3_48 : Cond.methodLink RX3 48 yX2_stripOf ∈ zu_tbl := zu_mem 109 rfl rfl
set_option maxRecDepth 20000 in
theorem ml_X3_52 : Cond.methodLink RX3 52 yX3_measure ∈ zu_tbl := zu_mem 121 rfl rfl
set_option maxRecDepth 20000 in
theorem ml_X3_55 : Cond.methodLink RX3 55 yX3_leaveFound ∈ zu_tbl := zu_mem 125 rfl rfl
set_option maxRecDepth 20000 in
theorem ml_X3_58 : Cond.methodLink RX3 58 yX3_look ∈ zu_tbl := zu_mem 133 rfl rfl
set_option maxRecDepth 20000 in
theorem ml_X3_62 : Cond.methodLink RX3 62 yX3_put ∈ zu_tbl := zu_mem 150 rfl rfl
set_option maxRecDepth 20000 in
theorem ml_X3_70 : Cond.methodLink RX3 70 yX3_asLevel ∈ zu_tbl := zu_mem 158 rfl rfl
set_option maxRecDepth 20000 in
theorem ml_X3_73 : Cond.methodLink RX3 73 yX3_digitOf ∈ zu_tbl := zu_mem 185 rfl rfl
set_option maxRecDepth 20000 in
theorem ml_X3_76 : Cond.methodLink RX3 76 yX3_findShown ∈ zu_tbl := zu_mem 196 rfl rfl
set_option maxRecDepth 20000 in
theorem ml_X3_79 : Cond.methodLink RX3 79 yX3_isLit ∈ zu_tbl := zu_mem 204 rfl rfl
set_option maxRecDepth 20000 in
theorem ml_X3_86 : Cond.methodLink RX3 86 yX0_init ∈ zu_tbl := zu_mem 213 rfl rfl
set_option maxRecDepth 20000 in
theorem ml_X3_89 : Cond.methodLink RX3 89 yX3_runsOn ∈ zu_tbl := zu_mem 237 rfl rfl
set_option maxRecDepth 20000 in
theorem ml_X3_95 : Cond.methodLink RX3 95 yX1_replace ∈ zu_tbl := zu_mem 257 rfl rfl
set_option maxRecDepth 20000 in
theorem ml_X3_98 : Cond.methodLink RX3 98 yX1_refusalAt ∈ zu_tbl := zu_mem 265 rfl rfl
set_option maxRecDepth 20000 in
theorem ml_X3_101 : Cond.methodLink RX3 101 yX1_numberAt ∈ zu_tbl := zu_mem 277 rfl rfl
set_option maxRecDepth 20000 in
theorem ml_X3_104 : Cond.methodLink RX3 104 yX1_isThere ∈ zu_tbl := zu_mem 285 rfl rfl
set_option maxRecDepth 20000 in
theorem ml_X3_108 : Cond.methodLink RX3 108 yX1_hasRow ∈ zu_tbl := zu_mem 289 rfl rfl
set_option maxRecDepth 20000 in
theorem ml_X3_111 : Cond.methodLink RX3 111 yX1_rowOf ∈ zu_tbl := zu_mem 290 rfl rfl
set_option maxRecDepth 20000 in
theorem ml_X3_115 : Cond.methodLink RX3 115 yX1_replaceRow ∈ zu_tbl := zu_mem 294 rfl rfl
set_option maxRecDepth 20000 in
theorem ml_X3_119 : Cond.methodLink RX3 119 yX3_drawLamp ∈ zu_tbl := zu_mem 302 rfl rfl
set_option maxRecDepth 20000 in
theorem ml_X3_143 : Cond.methodLink RX3 143 yX2_stripsThere ∈ zu_tbl := zu_mem 318 rfl rfl
set_option maxRecDepth 20000 in
theorem ml_X3_147 : Cond.methodLink RX3 147 yX2_placesSet ∈ zu_tbl := zu_mem 322 rfl rfl
set_option maxRecDepth 20000 in
theorem ml_X3_150 : Cond.methodLink RX3 150 yX1_rowCount ∈ zu_tbl := zu_mem 326 rfl rfl
set_option maxRecDepth 20000 in
theorem ml_X3_153 : Cond.methodLink RX3 153 yX1_cellsWritten ∈ zu_tbl := zu_mem 327 rfl rfl
set_option maxRecDepth 20000 in
theorem ml_X3_156 : Cond.methodLink RX3 156 yX2_refusalAt ∈ zu_tbl := zu_mem 137 rfl rfl
set_option maxRecDepth 20000 in
theorem ml_X3_158 : Cond.methodLink RX3 158 yX2_numberAt ∈ zu_tbl := zu_mem 142 rfl rfl
set_option maxRecDepth 20000 in
theorem ml_X3_160 : Cond.methodLink RX3 160 yX3_asNumber ∈ zu_tbl := zu_mem 154 rfl rfl
set_option maxRecDepth 20000 in
theorem ml_X3_163 : Cond.methodLink RX3 163 yX2_setAt ∈ zu_tbl := zu_mem 169 rfl rfl
set_option maxRecDepth 20000 in
theorem ml_X3_166 : Cond.methodLink RX3 166 yX1_write ∈ zu_tbl := zu_mem 306 rfl rfl
set_option maxRecDepth 20000 in
theorem ml_X3_176 : Cond.methodLink RX3 176 yX3_countDropped ∈ zu_tbl := zu_mem 241 rfl rfl
set_option maxRecDepth 20000 in
theorem ml_X3_180 : Cond.methodLink RX3 180 yX0_nextLevel ∈ zu_tbl := zu_mem 245 rfl rfl
set_option maxRecDepth 20000 in
theorem ml_X3_189 : Cond.methodLink RX3 189 Lib.Math.min.name ∈ zu_tbl := zu_mem 163 rfl rfl
set_option maxRecDepth 20000 in
theorem ml_X3_194 : Cond.methodLink RX3 194 Lib.Math.max.name ∈ zu_tbl := zu_mem 166 rfl rfl
set_option maxRecDepth 20000 in
theorem ml_X4_1 : Cond.methodLink RX4 1 objectInit ∈ zu_tbl := zu_mem 336 rfl rfl
set_option maxRecDepth 20000 in
theorem ml_X4_37 : Cond.methodLink RX4 37 yX4_in ∈ zu_tbl := zu_mem 414 rfl rfl
set_option maxRecDepth 20000 in
theorem ml_X4_49 : Cond.methodLink RX4 49 yX4_nearest ∈ zu_tbl := zu_mem 469 rfl rfl
set_option maxRecDepth 20000 in
theorem ml_X4_53 : Cond.methodLink RX4 53 yX4_why ∈ zu_tbl := zu_mem 448 rfl rfl
set_option maxRecDepth 20000 in
theorem ml_X4_57 : Cond.methodLink RX4 57 yX4_counted ∈ zu_tbl := zu_mem 436 rfl rfl
set_option maxRecDepth 20000 in
theorem ml_X4_66 : Cond.methodLink RX4 66 yX4_kept ∈ zu_tbl := zu_mem 464 rfl rfl
set_option maxRecDepth 20000 in
theorem ml_X4_73 : Cond.methodLink RX4 73 yX4_isBank ∈ zu_tbl := zu_mem 411 rfl rfl
set_option maxRecDepth 20000 in
theorem ml_X4_77 : Cond.methodLink RX4 77 yX4_isStrip ∈ zu_tbl := zu_mem 417 rfl rfl
set_option maxRecDepth 20000 in
theorem ml_X4_80 : Cond.methodLink RX4 80 yX4_begins ∈ zu_tbl := zu_mem 420 rfl rfl
set_option maxRecDepth 20000 in
theorem ml_X4_87 : Cond.methodLink RX4 87 yX4_refused ∈ zu_tbl := zu_mem 444 rfl rfl
set_option maxRecDepth 20000 in
theorem ml_X4_90 : Cond.methodLink RX4 90 yX4_at ∈ zu_tbl := zu_mem 452 rfl rfl
set_option maxRecDepth 20000 in
theorem ml_X4_93 : Cond.methodLink RX4 93 yX4_put ∈ zu_tbl := zu_mem 460 rfl rfl
set_option maxRecDepth 20000 in
theorem ml_X4_97 : Cond.methodLink RX4 97 yX4_digit ∈ zu_tbl := zu_mem 486 rfl rfl
set_option maxRecDepth 20000 in
theorem ml_X4_103 : Cond.methodLink RX4 103 yX4_light ∈ zu_tbl := zu_mem 497 rfl rfl
set_option maxRecDepth 20000 in
theorem ml_X4_128 : Cond.methodLink RX4 128 yX4_whyCell ∈ zu_tbl := zu_mem 521 rfl rfl
set_option maxRecDepth 20000 in
theorem in_L : Cond.initialized RL ∈ zu_tbl := zu_mem 0 rfl rfl
set_option maxRecDepth 20000 in
theorem in_X3 : Cond.initialized RX3 ∈ zu_tbl := zu_mem 1 rfl rfl
set_option maxRecDepth 20000 in
theorem in_X2 : Cond.initialized RX2 ∈ zu_tbl := zu_mem 2 rfl rfl
set_option maxRecDepth 20000 in
theorem in_X1 : Cond.initialized RX1 ∈ zu_tbl := zu_mem 3 rfl rfl
set_option maxRecDepth 20000 in
theorem in_X4 : Cond.initialized RX4 ∈ zu_tbl := zu_mem 4 rfl rfl
set_option maxRecDepth 20000 in
theorem in_Math : Cond.initialized "java/lang/Math" ∈ zu_tbl := zu_mem 5 rfl rfl
set_option maxRecDepth 20000 in
theorem in_X0 : Cond.initialized RX0 ∈ zu_tbl := zu_mem 6 rfl rfl
set_option maxRecDepth 20000 in
theorem cl_L_7 : Cond.classLink RL 7 RX3 ∈ zu_tbl := zu_mem 7 rfl rfl
set_option maxRecDepth 20000 in
theorem it_X3 : Cond.instantiable RX3 12 ∈ zu_tbl := zu_mem 8 rfl rfl
set_option maxRecDepth 20000 in
theorem oi_inst : Cond.instanceMethod objectInit ∈ zu_tbl := zu_mem 13 rfl rfl
set_option maxRecDepth 20000 in
theorem oi_code : Cond.code objectInit ⟨#[0xb1]⟩ 1 none ∈ zu_tbl := zu_mem 14 rfl rfl
set_option maxRecDepth 20000 in
theorem cl_X3_7 : Cond.classLink RX3 7 RX2 ∈ zu_tbl := zu_mem 15 rfl rfl
set_option maxRecDepth 20000 in
theorem it_X2 : Cond.instantiable RX2 2 ∈ zu_tbl := zu_mem 16 rfl rfl
set_option maxRecDepth 20000 in
theorem cl_X2_9 : Cond.classLink RX2 9 (FieldType.array .int).toString ∈ zu_tbl := zu_mem 21 rfl rfl
set_option maxRecDepth 20000 in
theorem cl_X3_16 : Cond.classLink RX3 16 RX1 ∈ zu_tbl := zu_mem 30 rfl rfl
set_option maxRecDepth 20000 in
theorem it_X1 : Cond.instantiable RX1 2 ∈ zu_tbl := zu_mem 31 rfl rfl
set_option maxRecDepth 20000 in
theorem cl_X3_23 : Cond.classLink RX3 23 RX0 ∈ zu_tbl := zu_mem 43 rfl rfl
set_option maxRecDepth 20000 in
theorem ac_int : Cond.arrayClass .int ∈ zu_tbl := zu_mem 104 rfl rfl
set_option maxRecDepth 20000 in
theorem kc_X3_186 : Cond.constant RX3 186 (65535) ∈ zu_tbl := zu_mem 157 rfl rfl
set_option maxRecDepth 20000 in
theorem kc_X3_187 : Cond.constant RX3 187 (-8000000) ∈ zu_tbl := zu_mem 161 rfl rfl
set_option maxRecDepth 20000 in
theorem kc_X3_188 : Cond.constant RX3 188 (8000000) ∈ zu_tbl := zu_mem 162 rfl rfl
set_option maxRecDepth 20000 in
theorem ms_min : Cond.static Lib.Math.min.name ∈ zu_tbl := zu_mem 164 rfl rfl
set_option maxRecDepth 20000 in
theorem mc_min : Cond.code Lib.Math.min.name Lib.Math.min.code 2 (some .int) ∈ zu_tbl := zu_mem 165 rfl rfl
set_option maxRecDepth 20000 in
theorem ms_max : Cond.static Lib.Math.max.name ∈ zu_tbl := zu_mem 167 rfl rfl
set_option maxRecDepth 20000 in
theorem mc_max : Cond.code Lib.Math.max.name Lib.Math.max.code 2 (some .int) ∈ zu_tbl := zu_mem 168 rfl rfl
set_option maxRecDepth 20000 in
theorem it_X0 : Cond.instantiable RX0 4 ∈ zu_tbl := zu_mem 212 rfl rfl
set_option maxRecDepth 20000 in
theorem ms_abs : Cond.static Lib.Math.abs.name ∈ zu_tbl := zu_mem 250 rfl rfl
set_option maxRecDepth 20000 in
theorem mc_abs : Cond.code Lib.Math.abs.name Lib.Math.abs.code 1 (some .int) ∈ zu_tbl := zu_mem 251 rfl rfl
set_option maxRecDepth 20000 in
theorem cl_X3_93 : Cond.classLink RX3 93 (FieldType.array .int).toString ∈ zu_tbl := zu_mem 256 rfl rfl
set_option maxRecDepth 20000 in
theorem cl_L_10 : Cond.classLink RL 10 RX4 ∈ zu_tbl := zu_mem 331 rfl rfl
set_option maxRecDepth 20000 in
theorem it_X4 : Cond.instantiable RX4 23 ∈ zu_tbl := zu_mem 332 rfl rfl
set_option maxRecDepth 20000 in
theorem kc_X4_47 : Cond.constant RX4 47 (65535) ∈ zu_tbl := zu_mem 467 rfl rfl
set_option maxRecDepth 20000 in
theorem kc_X4_48 : Cond.constant RX4 48 (65536) ∈ zu_tbl := zu_mem 468 rfl rfl
set_option maxRecDepth 20000 in
theorem kc_X4_45 : Cond.constant RX4 45 (-8000000) ∈ zu_tbl := zu_mem 472 rfl rfl
set_option maxRecDepth 20000 in
theorem kc_X4_46 : Cond.constant RX4 46 (8000000) ∈ zu_tbl := zu_mem 473 rfl rfl
theorem zu_all {ws : List Cond} (h : ws.all (fun w => decide (w ∈ lw_tbl) && goodWord w) = true) : ∀ w ∈ ws, w ∈ zu_tbl := fun w hw => by
  have h1 := List.all_eq_true.mp h w hw
  simp only [Bool.and_eq_true, decide_eq_true_eq] at h1
  exact List.mem_filter.mpr h1
theorem iu_X0 : ∀ w ∈ u_ws RX0 TX0 4, w ∈ zu_tbl := zu_all (by decide +kernel)
theorem iu_X1 : ∀ w ∈ u_ws RX1 TX1 2, w ∈ zu_tbl := zu_all (by decide +kernel)
theorem iu_X2 : ∀ w ∈ u_ws RX2 TX2 2, w ∈ zu_tbl := zu_all (by decide +kernel)
theorem iu_X3 : ∀ w ∈ u_ws RX3 TX3 12, w ∈ zu_tbl := zu_all (by decide +kernel)
theorem iu_X4 : ∀ w ∈ u_ws RX4 TX4 23, w ∈ zu_tbl := zu_all (by decide +kernel)
set_option maxRecDepth 20000 in
theorem ci_X3_init : zz_I yX3_init RX3 cX3_init 1 0 := ⟨zu_mem 10 rfl rfl, in_X3, zu_mem 11 rfl rfl, ⟨by decide +kernel, by decide +kernel, by decide +kernel, by decide +kernel⟩, rfl⟩
set_option maxRecDepth 20000 in
theorem ci_X2_init : zz_I yX2_init RX2 cX2_init 1 0 := ⟨zu_mem 18 rfl rfl, in_X2, zu_mem 19 rfl rfl, ⟨by decide +kernel, by decide +kernel, by decide +kernel, by decide +kernel⟩, rfl⟩
set_option maxRecDepth 20000 in
theorem ci_X1_init : zz_I yX1_init RX1 cX1_init 1 0 := ⟨zu_mem 33 rfl rfl, in_X1, zu_mem 34 rfl rfl, ⟨by decide +kernel, by decide +kernel, by decide +kernel, by decide +kernel⟩, rfl⟩
set_option maxRecDepth 20000 in
theorem cv_X3_hang : zz_V yX3_hang RX3 cX3_hang 4 (some .int) 3 := ⟨zu_mem 83 rfl rfl, zu_mem 84 rfl rfl, in_X3, zu_mem 85 rfl rfl, ⟨by decide +kernel, by decide +kernel, by decide +kernel, by decide +kernel⟩⟩
set_option maxRecDepth 20000 in
theorem cs_X3_isBank : zz_S yX3_isBank RX3 cX3_isBank 1 (some .boolean) 1 := ⟨zu_mem 87 rfl rfl, in_X3, zu_mem 88 rfl rfl, ⟨by decide +kernel, by decide +kernel, by decide +kernel, by decide +kernel⟩⟩
set_option maxRecDepth 20000 in
theorem cs_X3_isStrip : zz_S yX3_isStrip RX3 cX3_isStrip 1 (some .boolean) 1 := ⟨zu_mem 90 rfl rfl, in_X3, zu_mem 91 rfl rfl, ⟨by decide +kernel, by decide +kernel, by decide +kernel, by decide +kernel⟩⟩
set_option maxRecDepth 20000 in
theorem cv_X3_leave : zz_V yX3_leave RX3 cX3_leave 3 (some .int) 2 := ⟨zu_mem 94 rfl rfl, zu_sel 0 rfl rfl, in_X3, zu_mem 95 rfl rfl, ⟨by decide +kernel, by decide +kernel, by decide +kernel, by decide +kernel⟩⟩
set_option maxRecDepth 20000 in
theorem cv_X3_counted : zz_V yX3_counted RX3 cX3_counted 2 (some .int) 1 := ⟨zu_mem 98 rfl rfl, zu_sel 1 rfl rfl, in_X3, zu_mem 99 rfl rfl, ⟨by decide +kernel, by decide +kernel, by decide +kernel, by decide +kernel⟩⟩
set_option maxRecDepth 20000 in
theorem cv_X2_replace : zz_V yX2_replace RX2 cX2_replace 4 none 3 := ⟨zu_mem 101 rfl rfl, zu_mem 102 rfl rfl, in_X2, zu_mem 103 rfl rfl, ⟨by decide +kernel, by decide +kernel, by decide +kernel, by decide +kernel⟩⟩
set_option maxRecDepth 20000 in
theorem cv_X3_strike : zz_V yX3_strike RX3 cX3_strike 4 (some .int) 2 := ⟨zu_mem 106 rfl rfl, zu_mem 107 rfl rfl, in_X3, zu_mem 108 rfl rfl, ⟨by decide +kernel, by decide +kernel, by decide +kernel, by decide +kernel⟩⟩
set_option maxRecDepth 20000 in
theorem cv_X2_stripOf : zz_V yX2_stripOf RX2 cX2_stripOf 3 (some (.array .int)) 2 := ⟨zu_mem 110 rfl rfl, zu_mem 111 rfl rfl, in_X2, zu_mem 112 rfl rfl, ⟨by decide +kernel, by decide +kernel, by decide +kernel, by decide +kernel⟩⟩
set_option maxRecDepth 20000 in
theorem cv_X3_share : zz_V yX3_share RX3 cX3_share 5 (some .int) 3 := ⟨zu_mem 114 rfl rfl, zu_mem 115 rfl rfl, in_X3, zu_mem 116 rfl rfl, ⟨by decide +kernel, by decide +kernel, by decide +kernel, by decide +kernel⟩⟩
set_option maxRecDepth 20000 in
theorem cv_X3_size : zz_V yX3_size RX3 cX3_size 3 (some .int) 2 := ⟨zu_mem 118 rfl rfl, zu_mem 119 rfl rfl, in_X3, zu_mem 120 rfl rfl, ⟨by decide +kernel, by decide +kernel, by decide +kernel, by decide +kernel⟩⟩
set_option maxRecDepth 20000 in
theorem cv_X3_measure : zz_V yX3_measure RX3 cX3_measure 4 (some .int) 2 := ⟨zu_mem 123 rfl rfl, zu_sel 2 rfl rfl, in_X3, zu_mem 124 rfl rfl, ⟨by decide +kernel, by decide +kernel, by decide +kernel, by decide +kernel⟩⟩
set_option maxRecDepth 20000 in
theorem cv_X3_leaveFound : zz_V yX3_leaveFound RX3 cX3_leaveFound 2 (some .int) 1 := ⟨zu_mem 127 rfl rfl, zu_sel 3 rfl rfl, in_X3, zu_mem 128 rfl rfl, ⟨by decide +kernel, by decide +kernel, by decide +kernel, by decide +kernel⟩⟩
set_option maxRecDepth 20000 in
theorem cv_X3_get : zz_V yX3_get RX3 cX3_get 4 (some .int) 3 := ⟨zu_mem 130 rfl rfl, zu_mem 131 rfl rfl, in_X3, zu_mem 132 rfl rfl, ⟨by decide +kernel, by decide +kernel, by decide +kernel, by decide +kernel⟩⟩
set_option maxRecDepth 20000 in
theorem cv_X3_look : zz_V yX3_look RX3 cX3_look 5 (some .int) 3 := ⟨zu_mem 135 rfl rfl, zu_sel 4 rfl rfl, in_X3, zu_mem 136 rfl rfl, ⟨by decide +kernel, by decide +kernel, by decide +kernel, by decide +kernel⟩⟩
set_option maxRecDepth 20000 in
theorem cv_X2_refusalAt : zz_V yX2_refusalAt RX2 cX2_refusalAt 5 (some .int) 3 := ⟨zu_mem 138 rfl rfl, zu_mem 139 rfl rfl, in_X2, zu_mem 140 rfl rfl, ⟨by decide +kernel, by decide +kernel, by decide +kernel, by decide +kernel⟩⟩
set_option maxRecDepth 20000 in
theorem cv_X2_numberAt : zz_V yX2_numberAt RX2 cX2_numberAt 4 (some .int) 3 := ⟨zu_mem 143 rfl rfl, zu_mem 144 rfl rfl, in_X2, zu_mem 145 rfl rfl, ⟨by decide +kernel, by decide +kernel, by decide +kernel, by decide +kernel⟩⟩
set_option maxRecDepth 20000 in
theorem cv_X3_set : zz_V yX3_set RX3 cX3_set 6 (some .int) 4 := ⟨zu_mem 147 rfl rfl, zu_mem 148 rfl rfl, in_X3, zu_mem 149 rfl rfl, ⟨by decide +kernel, by decide +kernel, by decide +kernel, by decide +kernel⟩⟩
set_option maxRecDepth 20000 in
theorem cv_X3_put : zz_V yX3_put RX3 cX3_put 6 (some .int) 4 := ⟨zu_mem 152 rfl rfl, zu_sel 5 rfl rfl, in_X3, zu_mem 153 rfl rfl, ⟨by decide +kernel, by decide +kernel, by decide +kernel, by decide +kernel⟩⟩
set_option maxRecDepth 20000 in
theorem cs_X3_asNumber : zz_S yX3_asNumber RX3 cX3_asNumber 2 (some .int) 2 := ⟨zu_mem 155 rfl rfl, in_X3, zu_mem 156 rfl rfl, ⟨by decide +kernel, by decide +kernel, by decide +kernel, by decide +kernel⟩⟩
set_option maxRecDepth 20000 in
theorem cs_X3_asLevel : zz_S yX3_asLevel RX3 cX3_asLevel 1 (some .int) 1 := ⟨zu_mem 159 rfl rfl, in_X3, zu_mem 160 rfl rfl, ⟨by decide +kernel, by decide +kernel, by decide +kernel, by decide +kernel⟩⟩
set_option maxRecDepth 20000 in
theorem cv_X2_setAt : zz_V yX2_setAt RX2 cX2_setAt 5 none 4 := ⟨zu_mem 170 rfl rfl, zu_mem 171 rfl rfl, in_X2, zu_mem 172 rfl rfl, ⟨by decide +kernel, by decide +kernel, by decide +kernel, by decide +kernel⟩⟩
set_option maxRecDepth 20000 in
theorem cv_X3_patch : zz_V yX3_patch RX3 cX3_patch 7 (some .int) 5 := ⟨zu_mem 174 rfl rfl, zu_mem 175 rfl rfl, in_X3, zu_mem 176 rfl rfl, ⟨by decide +kernel, by decide +kernel, by decide +kernel, by decide +kernel⟩⟩
set_option maxRecDepth 20000 in
theorem cv_X3_ripple : zz_V yX3_ripple RX3 cX3_ripple 10 (some .int) 5 := ⟨zu_mem 178 rfl rfl, zu_mem 179 rfl rfl, in_X3, zu_mem 180 rfl rfl, ⟨by decide +kernel, by decide +kernel, by decide +kernel, by decide +kernel⟩⟩
set_option maxRecDepth 20000 in
theorem cv_X3_probe : zz_V yX3_probe RX3 cX3_probe 6 (some .int) 2 := ⟨zu_mem 182 rfl rfl, zu_mem 183 rfl rfl, in_X3, zu_mem 184 rfl rfl, ⟨by decide +kernel, by decide +kernel, by decide +kernel, by decide +kernel⟩⟩
set_option maxRecDepth 20000 in
theorem cs_X3_digitOf : zz_S yX3_digitOf RX3 cX3_digitOf 1 (some .int) 1 := ⟨zu_mem 186 rfl rfl, in_X3, zu_mem 187 rfl rfl, ⟨by decide +kernel, by decide +kernel, by decide +kernel, by decide +kernel⟩⟩
set_option maxRecDepth 20000 in
theorem cv_X3_poke : zz_V yX3_poke RX3 cX3_poke 7 (some .int) 3 := ⟨zu_mem 189 rfl rfl, zu_mem 190 rfl rfl, in_X3, zu_mem 191 rfl rfl, ⟨by decide +kernel, by decide +kernel, by decide +kernel, by decide +kernel⟩⟩
set_option maxRecDepth 20000 in
theorem cv_X3_shown : zz_V yX3_shown RX3 cX3_shown 3 (some .int) 2 := ⟨zu_mem 193 rfl rfl, zu_mem 194 rfl rfl, in_X3, zu_mem 195 rfl rfl, ⟨by decide +kernel, by decide +kernel, by decide +kernel, by decide +kernel⟩⟩
set_option maxRecDepth 20000 in
theorem cv_X3_findShown : zz_V yX3_findShown RX3 cX3_findShown 6 (some .int) 2 := ⟨zu_mem 198 rfl rfl, zu_sel 6 rfl rfl, in_X3, zu_mem 199 rfl rfl, ⟨by decide +kernel, by decide +kernel, by decide +kernel, by decide +kernel⟩⟩
set_option maxRecDepth 20000 in
theorem cv_X3_lit : zz_V yX3_lit RX3 cX3_lit 6 (some .int) 1 := ⟨zu_mem 201 rfl rfl, zu_mem 202 rfl rfl, in_X3, zu_mem 203 rfl rfl, ⟨by decide +kernel, by decide +kernel, by decide +kernel, by decide +kernel⟩⟩
set_option maxRecDepth 20000 in
theorem cv_X3_isLit : zz_V yX3_isLit RX3 cX3_isLit 3 (some .boolean) 2 := ⟨zu_mem 206 rfl rfl, zu_sel 7 rfl rfl, in_X3, zu_mem 207 rfl rfl, ⟨by decide +kernel, by decide +kernel, by decide +kernel, by decide +kernel⟩⟩
set_option maxRecDepth 20000 in
theorem cv_X3_fade : zz_V yX3_fade RX3 cX3_fade 6 (some .int) 4 := ⟨zu_mem 209 rfl rfl, zu_mem 210 rfl rfl, in_X3, zu_mem 211 rfl rfl, ⟨by decide +kernel, by decide +kernel, by decide +kernel, by decide +kernel⟩⟩
set_option maxRecDepth 20000 in
theorem ci_X0_init : zz_I yX0_init RX0 cX0_init 5 4 := ⟨zu_mem 214 rfl rfl, in_X0, zu_mem 215 rfl rfl, ⟨by decide +kernel, by decide +kernel, by decide +kernel, by decide +kernel⟩, rfl⟩
set_option maxRecDepth 20000 in
theorem cv_X3_tick : zz_V yX3_tick RX3 cX3_tick 4 (some .int) 0 := ⟨zu_mem 234 rfl rfl, zu_mem 235 rfl rfl, in_X3, zu_mem 236 rfl rfl, ⟨by decide +kernel, by decide +kernel, by decide +kernel, by decide +kernel⟩⟩
set_option maxRecDepth 20000 in
theorem cv_X3_runsOn : zz_V yX3_runsOn RX3 cX3_runsOn 4 (some .boolean) 1 := ⟨zu_mem 239 rfl rfl, zu_sel 8 rfl rfl, in_X3, zu_mem 240 rfl rfl, ⟨by decide +kernel, by decide +kernel, by decide +kernel, by decide +kernel⟩⟩
set_option maxRecDepth 20000 in
theorem cv_X3_countDropped : zz_V yX3_countDropped RX3 cX3_countDropped 2 none 1 := ⟨zu_mem 243 rfl rfl, zu_sel 9 rfl rfl, in_X3, zu_mem 244 rfl rfl, ⟨by decide +kernel, by decide +kernel, by decide +kernel, by decide +kernel⟩⟩
set_option maxRecDepth 20000 in
theorem cv_X0_nextLevel : zz_V yX0_nextLevel RX0 cX0_nextLevel 2 (some .int) 1 := ⟨zu_mem 246 rfl rfl, zu_mem 247 rfl rfl, in_X0, zu_mem 248 rfl rfl, ⟨by decide +kernel, by decide +kernel, by decide +kernel, by decide +kernel⟩⟩
set_option maxRecDepth 20000 in
theorem cv_X3_sheet : zz_V yX3_sheet RX3 cX3_sheet 5 (some .int) 2 := ⟨zu_mem 253 rfl rfl, zu_mem 254 rfl rfl, in_X3, zu_mem 255 rfl rfl, ⟨by decide +kernel, by decide +kernel, by decide +kernel, by decide +kernel⟩⟩
set_option maxRecDepth 20000 in
theorem cv_X1_replace : zz_V yX1_replace RX1 cX1_replace 2 none 1 := ⟨zu_mem 258 rfl rfl, zu_mem 259 rfl rfl, in_X1, zu_mem 260 rfl rfl, ⟨by decide +kernel, by decide +kernel, by decide +kernel, by decide +kernel⟩⟩
set_option maxRecDepth 20000 in
theorem cv_X3_cell : zz_V yX3_cell RX3 cX3_cell 4 (some .int) 2 := ⟨zu_mem 262 rfl rfl, zu_mem 263 rfl rfl, in_X3, zu_mem 264 rfl rfl, ⟨by decide +kernel, by decide +kernel, by decide +kernel, by decide +kernel⟩⟩
set_option maxRecDepth 20000 in
theorem cv_X1_refusalAt : zz_V yX1_refusalAt RX1 cX1_refusalAt 4 (some .int) 2 := ⟨zu_mem 266 rfl rfl, zu_mem 267 rfl rfl, in_X1, zu_mem 268 rfl rfl, ⟨by decide +kernel, by decide +kernel, by decide +kernel, by decide +kernel⟩⟩
set_option maxRecDepth 20000 in
theorem cv_X1_hasRow : zz_V yX1_hasRow RX1 cX1_hasRow 2 (some .boolean) 1 := ⟨zu_mem 270 rfl rfl, zu_mem 271 rfl rfl, in_X1, zu_mem 272 rfl rfl, ⟨by decide +kernel, by decide +kernel, by decide +kernel, by decide +kernel⟩⟩
set_option maxRecDepth 20000 in
theorem cv_X1_rowCount : zz_V yX1_rowCount RX1 cX1_rowCount 1 (some .int) 0 := ⟨zu_mem 274 rfl rfl, zu_mem 275 rfl rfl, in_X1, zu_mem 276 rfl rfl, ⟨by decide +kernel, by decide +kernel, by decide +kernel, by decide +kernel⟩⟩
set_option maxRecDepth 20000 in
theorem cv_X1_numberAt : zz_V yX1_numberAt RX1 cX1_numberAt 3 (some .int) 2 := ⟨zu_mem 278 rfl rfl, zu_mem 279 rfl rfl, in_X1, zu_mem 280 rfl rfl, ⟨by decide +kernel, by decide +kernel, by decide +kernel, by decide +kernel⟩⟩
set_option maxRecDepth 20000 in
theorem cv_X3_tear : zz_V yX3_tear RX3 cX3_tear 5 (some .int) 2 := ⟨zu_mem 282 rfl rfl, zu_mem 283 rfl rfl, in_X3, zu_mem 284 rfl rfl, ⟨by decide +kernel, by decide +kernel, by decide +kernel, by decide +kernel⟩⟩
set_option maxRecDepth 20000 in
theorem cv_X1_isThere : zz_V yX1_isThere RX1 cX1_isThere 1 (some .boolean) 0 := ⟨zu_mem 286 rfl rfl, zu_mem 287 rfl rfl, in_X1, zu_mem 288 rfl rfl, ⟨by decide +kernel, by decide +kernel, by decide +kernel, by decide +kernel⟩⟩
set_option maxRecDepth 20000 in
theorem cv_X1_rowOf : zz_V yX1_rowOf RX1 cX1_rowOf 2 (some (.array .int)) 1 := ⟨zu_mem 291 rfl rfl, zu_mem 292 rfl rfl, in_X1, zu_mem 293 rfl rfl, ⟨by decide +kernel, by decide +kernel, by decide +kernel, by decide +kernel⟩⟩
set_option maxRecDepth 20000 in
theorem cv_X1_replaceRow : zz_V yX1_replaceRow RX1 cX1_replaceRow 3 none 2 := ⟨zu_mem 295 rfl rfl, zu_mem 296 rfl rfl, in_X1, zu_mem 297 rfl rfl, ⟨by decide +kernel, by decide +kernel, by decide +kernel, by decide +kernel⟩⟩
set_option maxRecDepth 20000 in
theorem cv_X3_draw : zz_V yX3_draw RX3 cX3_draw 5 (some .int) 2 := ⟨zu_mem 299 rfl rfl, zu_mem 300 rfl rfl, in_X3, zu_mem 301 rfl rfl, ⟨by decide +kernel, by decide +kernel, by decide +kernel, by decide +kernel⟩⟩
set_option maxRecDepth 20000 in
theorem cv_X3_drawLamp : zz_V yX3_drawLamp RX3 cX3_drawLamp 5 (some .int) 3 := ⟨zu_mem 304 rfl rfl, zu_sel 10 rfl rfl, in_X3, zu_mem 305 rfl rfl, ⟨by decide +kernel, by decide +kernel, by decide +kernel, by decide +kernel⟩⟩
set_option maxRecDepth 20000 in
theorem cv_X1_write : zz_V yX1_write RX1 cX1_write 4 none 3 := ⟨zu_mem 307 rfl rfl, zu_mem 308 rfl rfl, in_X1, zu_mem 309 rfl rfl, ⟨by decide +kernel, by decide +kernel, by decide +kernel, by decide +kernel⟩⟩
set_option maxRecDepth 20000 in
theorem cv_X3_status : zz_V yX3_status RX3 cX3_status 1 (some .int) 0 := ⟨zu_mem 311 rfl rfl, zu_mem 312 rfl rfl, in_X3, zu_mem 313 rfl rfl, ⟨by decide +kernel, by decide +kernel, by decide +kernel, by decide +kernel⟩⟩
set_option maxRecDepth 20000 in
theorem cv_X3_count : zz_V yX3_count RX3 cX3_count 2 (some .int) 1 := ⟨zu_mem 315 rfl rfl, zu_mem 316 rfl rfl, in_X3, zu_mem 317 rfl rfl, ⟨by decide +kernel, by decide +kernel, by decide +kernel, by decide +kernel⟩⟩
set_option maxRecDepth 20000 in
theorem cv_X2_stripsThere : zz_V yX2_stripsThere RX2 cX2_stripsThere 3 (some .int) 0 := ⟨zu_mem 319 rfl rfl, zu_mem 320 rfl rfl, in_X2, zu_mem 321 rfl rfl, ⟨by decide +kernel, by decide +kernel, by decide +kernel, by decide +kernel⟩⟩
set_option maxRecDepth 20000 in
theorem cv_X2_placesSet : zz_V yX2_placesSet RX2 cX2_placesSet 1 (some .int) 0 := ⟨zu_mem 323 rfl rfl, zu_mem 324 rfl rfl, in_X2, zu_mem 325 rfl rfl, ⟨by decide +kernel, by decide +kernel, by decide +kernel, by decide +kernel⟩⟩
set_option maxRecDepth 20000 in
theorem cv_X1_cellsWritten : zz_V yX1_cellsWritten RX1 cX1_cellsWritten 1 (some .int) 0 := ⟨zu_mem 328 rfl rfl, zu_mem 329 rfl rfl, in_X1, zu_mem 330 rfl rfl, ⟨by decide +kernel, by decide +kernel, by decide +kernel, by decide +kernel⟩⟩
set_option maxRecDepth 20000 in
theorem ci_X4_init : zz_I yX4_init RX4 cX4_init 2 0 := ⟨zu_mem 334 rfl rfl, in_X4, zu_mem 335 rfl rfl, ⟨by decide +kernel, by decide +kernel, by decide +kernel, by decide +kernel⟩, rfl⟩
set_option maxRecDepth 20000 in
theorem cv_X4_hang : zz_V yX4_hang RX4 cX4_hang 8 (some .int) 3 := ⟨zu_mem 408 rfl rfl, zu_mem 409 rfl rfl, in_X4, zu_mem 410 rfl rfl, ⟨by decide +kernel, by decide +kernel, by decide +kernel, by decide +kernel⟩⟩
set_option maxRecDepth 20000 in
theorem cs_X4_isBank : zz_S yX4_isBank RX4 cX4_isBank 1 (some .boolean) 1 := ⟨zu_mem 412 rfl rfl, in_X4, zu_mem 413 rfl rfl, ⟨by decide +kernel, by decide +kernel, by decide +kernel, by decide +kernel⟩⟩
set_option maxRecDepth 20000 in
theorem cs_X4_in : zz_S yX4_in RX4 cX4_in 3 (some .boolean) 3 := ⟨zu_mem 415 rfl rfl, in_X4, zu_mem 416 rfl rfl, ⟨by decide +kernel, by decide +kernel, by decide +kernel, by decide +kernel⟩⟩
set_option maxRecDepth 20000 in
theorem cs_X4_isStrip : zz_S yX4_isStrip RX4 cX4_isStrip 1 (some .boolean) 1 := ⟨zu_mem 418 rfl rfl, in_X4, zu_mem 419 rfl rfl, ⟨by decide +kernel, by decide +kernel, by decide +kernel, by decide +kernel⟩⟩
set_option maxRecDepth 20000 in
theorem cv_X4_begins : zz_V yX4_begins RX4 cX4_begins 2 (some .boolean) 1 := ⟨zu_mem 422 rfl rfl, zu_sel 11 rfl rfl, in_X4, zu_mem 423 rfl rfl, ⟨by decide +kernel, by decide +kernel, by decide +kernel, by decide +kernel⟩⟩
set_option maxRecDepth 20000 in
theorem cv_X4_strike : zz_V yX4_strike RX4 cX4_strike 4 (some .int) 2 := ⟨zu_mem 425 rfl rfl, zu_mem 426 rfl rfl, in_X4, zu_mem 427 rfl rfl, ⟨by decide +kernel, by decide +kernel, by decide +kernel, by decide +kernel⟩⟩
set_option maxRecDepth 20000 in
theorem cv_X4_share : zz_V yX4_share RX4 cX4_share 4 (some .int) 3 := ⟨zu_mem 429 rfl rfl, zu_mem 430 rfl rfl, in_X4, zu_mem 431 rfl rfl, ⟨by decide +kernel, by decide +kernel, by decide +kernel, by decide +kernel⟩⟩
set_option maxRecDepth 20000 in
theorem cv_X4_size : zz_V yX4_size RX4 cX4_size 4 (some .int) 2 := ⟨zu_mem 433 rfl rfl, zu_mem 434 rfl rfl, in_X4, zu_mem 435 rfl rfl, ⟨by decide +kernel, by decide +kernel, by decide +kernel, by decide +kernel⟩⟩
set_option maxRecDepth 20000 in
theorem cv_X4_counted : zz_V yX4_counted RX4 cX4_counted 2 (some .int) 1 := ⟨zu_mem 438 rfl rfl, zu_sel 12 rfl rfl, in_X4, zu_mem 439 rfl rfl, ⟨by decide +kernel, by decide +kernel, by decide +kernel, by decide +kernel⟩⟩
set_option maxRecDepth 20000 in
theorem cv_X4_get : zz_V yX4_get RX4 cX4_get 4 (some .int) 3 := ⟨zu_mem 441 rfl rfl, zu_mem 442 rfl rfl, in_X4, zu_mem 443 rfl rfl, ⟨by decide +kernel, by decide +kernel, by decide +kernel, by decide +kernel⟩⟩
set_option maxRecDepth 20000 in
theorem cv_X4_refused : zz_V yX4_refused RX4 cX4_refused 4 (some .int) 3 := ⟨zu_mem 446 rfl rfl, zu_sel 13 rfl rfl, in_X4, zu_mem 447 rfl rfl, ⟨by decide +kernel, by decide +kernel, by decide +kernel, by decide +kernel⟩⟩
set_option maxRecDepth 20000 in
theorem cv_X4_why : zz_V yX4_why RX4 cX4_why 5 (some .int) 3 := ⟨zu_mem 450 rfl rfl, zu_sel 14 rfl rfl, in_X4, zu_mem 451 rfl rfl, ⟨by decide +kernel, by decide +kernel, by decide +kernel, by decide +kernel⟩⟩
set_option maxRecDepth 20000 in
theorem cv_X4_at : zz_V yX4_at RX4 cX4_at 4 (some .int) 3 := ⟨zu_mem 454 rfl rfl, zu_sel 15 rfl rfl, in_X4, zu_mem 455 rfl rfl, ⟨by decide +kernel, by decide +kernel, by decide +kernel, by decide +kernel⟩⟩
set_option maxRecDepth 20000 in
theorem cv_X4_set : zz_V yX4_set RX4 cX4_set 6 (some .int) 4 := ⟨zu_mem 457 rfl rfl, zu_mem 458 rfl rfl, in_X4, zu_mem 459 rfl rfl, ⟨by decide +kernel, by decide +kernel, by decide +kernel, by decide +kernel⟩⟩
set_option maxRecDepth 20000 in
theorem cv_X4_put : zz_V yX4_put RX4 cX4_put 5 none 4 := ⟨zu_mem 462 rfl rfl, zu_sel 16 rfl rfl, in_X4, zu_mem 463 rfl rfl, ⟨by decide +kernel, by decide +kernel, by decide +kernel, by decide +kernel⟩⟩
set_option maxRecDepth 20000 in
theorem cs_X4_kept : zz_S yX4_kept RX4 cX4_kept 3 (some .int) 2 := ⟨zu_mem 465 rfl rfl, in_X4, zu_mem 466 rfl rfl, ⟨by decide +kernel, by decide +kernel, by decide +kernel, by decide +kernel⟩⟩
set_option maxRecDepth 20000 in
theorem cs_X4_nearest : zz_S yX4_nearest RX4 cX4_nearest 1 (some .int) 1 := ⟨zu_mem 470 rfl rfl, in_X4, zu_mem 471 rfl rfl, ⟨by decide +kernel, by decide +kernel, by decide +kernel, by decide +kernel⟩⟩
set_option maxRecDepth 20000 in
theorem cv_X4_patch : zz_V yX4_patch RX4 cX4_patch 7 (some .int) 5 := ⟨zu_mem 475 rfl rfl, zu_mem 476 rfl rfl, in_X4, zu_mem 477 rfl rfl, ⟨by decide +kernel, by decide +kernel, by decide +kernel, by decide +kernel⟩⟩
set_option maxRecDepth 20000 in
theorem cv_X4_ripple : zz_V yX4_ripple RX4 cX4_ripple 8 (some .int) 5 := ⟨zu_mem 479 rfl rfl, zu_mem 480 rfl rfl, in_X4, zu_mem 481 rfl rfl, ⟨by decide +kernel, by decide +kernel, by decide +kernel, by decide +kernel⟩⟩
set_option maxRecDepth 20000 in
theorem cv_X4_probe : zz_V yX4_probe RX4 cX4_probe 6 (some .int) 2 := ⟨zu_mem 483 rfl rfl, zu_mem 484 rfl rfl, in_X4, zu_mem 485 rfl rfl, ⟨by decide +kernel, by decide +kernel, by decide +kernel, by decide +kernel⟩⟩
set_option maxRecDepth 20000 in
theorem cs_X4_digit : zz_S yX4_digit RX4 cX4_digit 1 (some .int) 1 := ⟨zu_mem 487 rfl rfl, in_X4, zu_mem 488 rfl rfl, ⟨by decide +kernel, by decide +kernel, by decide +kernel, by decide +kernel⟩⟩
set_option maxRecDepth 20000 in
theorem cv_X4_poke : zz_V yX4_poke RX4 cX4_poke 8 (some .int) 3 := ⟨zu_mem 490 rfl rfl, zu_mem 491 rfl rfl, in_X4, zu_mem 492 rfl rfl, ⟨by decide +kernel, by decide +kernel, by decide +kernel, by decide +kernel⟩⟩
set_option maxRecDepth 20000 in
theorem cv_X4_shown : zz_V yX4_shown RX4 cX4_shown 4 (some .int) 2 := ⟨zu_mem 494 rfl rfl, zu_mem 495 rfl rfl, in_X4, zu_mem 496 rfl rfl, ⟨by decide +kernel, by decide +kernel, by decide +kernel, by decide +kernel⟩⟩
set_option maxRecDepth 20000 in
theorem cv_X4_light : zz_V yX4_light RX4 cX4_light 4 (some .int) 2 := ⟨zu_mem 499 rfl rfl, zu_sel 17 rfl rfl, in_X4, zu_mem 500 rfl rfl, ⟨by decide +kernel, by decide +kernel, by decide +kernel, by decide +kernel⟩⟩
set_option maxRecDepth 20000 in
theorem cv_X4_lit : zz_V yX4_lit RX4 cX4_lit 6 (some .int) 1 := ⟨zu_mem 502 rfl rfl, zu_mem 503 rfl rfl, in_X4, zu_mem 504 rfl rfl, ⟨by decide +kernel, by decide +kernel, by decide +kernel, by decide +kernel⟩⟩
set_option maxRecDepth 20000 in
theorem cv_X4_fade : zz_V yX4_fade RX4 cX4_fade 5 (some .int) 4 := ⟨zu_mem 506 rfl rfl, zu_mem 507 rfl rfl, in_X4, zu_mem 508 rfl rfl, ⟨by decide +kernel, by decide +kernel, by decide +kernel, by decide +kernel⟩⟩
set_option maxRecDepth 20000 in
theorem cv_X4_tick : zz_V yX4_tick RX4 cX4_tick 9 (some .int) 0 := ⟨zu_mem 510 rfl rfl, zu_mem 511 rfl rfl, in_X4, zu_mem 512 rfl rfl, ⟨by decide +kernel, by decide +kernel, by decide +kernel, by decide +kernel⟩⟩
set_option maxRecDepth 20000 in
theorem cv_X4_sheet : zz_V yX4_sheet RX4 cX4_sheet 4 (some .int) 2 := ⟨zu_mem 514 rfl rfl, zu_mem 515 rfl rfl, in_X4, zu_mem 516 rfl rfl, ⟨by decide +kernel, by decide +kernel, by decide +kernel, by decide +kernel⟩⟩
set_option maxRecDepth 20000 in
theorem cv_X4_cell : zz_V yX4_cell RX4 cX4_cell 3 (some .int) 2 := ⟨zu_mem 518 rfl rfl, zu_mem 519 rfl rfl, in_X4, zu_mem 520 rfl rfl, ⟨by decide +kernel, by decide +kernel, by decide +kernel, by decide +kernel⟩⟩
set_option maxRecDepth 20000 in
theorem cv_X4_whyCell : zz_V yX4_whyCell RX4 cX4_whyCell 3 (some .int) 2 := ⟨zu_mem 523 rfl rfl, zu_sel 18 rfl rfl, in_X4, zu_mem 524 rfl rfl, ⟨by decide +kernel, by decide +kernel, by decide +kernel, by decide +kernel⟩⟩
set_option maxRecDepth 20000 in
theorem cv_X4_tear : zz_V yX4_tear RX4 cX4_tear 3 (some .int) 2 := ⟨zu_mem 526 rfl rfl, zu_mem 527 rfl rfl, in_X4, zu_mem 528 rfl rfl, ⟨by decide +kernel, by decide +kernel, by decide +kernel, by decide +kernel⟩⟩
set_option maxRecDepth 20000 in
theorem cv_X4_draw : zz_V yX4_draw RX4 cX4_draw 5 (some .int) 2 := ⟨zu_mem 530 rfl rfl, zu_mem 531 rfl rfl, in_X4, zu_mem 532 rfl rfl, ⟨by decide +kernel, by decide +kernel, by decide +kernel, by decide +kernel⟩⟩
set_option maxRecDepth 20000 in
theorem cv_X4_status : zz_V yX4_status RX4 cX4_status 1 (some .int) 0 := ⟨zu_mem 534 rfl rfl, zu_mem 535 rfl rfl, in_X4, zu_mem 536 rfl rfl, ⟨by decide +kernel, by decide +kernel, by decide +kernel, by decide +kernel⟩⟩
set_option maxRecDepth 20000 in
theorem cv_X4_count : zz_V yX4_count RX4 cX4_count 4 (some .int) 1 := ⟨zu_mem 538 rfl rfl, zu_mem 539 rfl rfl, in_X4, zu_mem 540 rfl rfl, ⟨by decide +kernel, by decide +kernel, by decide +kernel, by decide +kernel⟩⟩
end
section
/-! ===== the mathematical state ===== -/
abbrev ax_ST : Type := (Nat → Option Nat) × (Nat → Nat → Int32) × (Nat → Nat → Bool)
abbrev ax_SH : Type := Option (Nat × Nat) × (Nat → Bool) × (Nat → Nat → Int32) × (Nat → Nat → Bool)
abbrev ax_FD : Type := List (Int32 × Int32 × Int32 × Int32)
abbrev ax_A : Type := ax_ST × ax_SH × ax_FD × Int32 × Int32 × Int32 × Int32 × Int32 × Int32 × Int32 × Int32 × Int32
abbrev aa_st (a : ax_A) : ax_ST := a.1
abbrev aa_sh (a : ax_A) : ax_SH := a.2.1
abbrev aa_fd (a : ax_A) : ax_FD := a.2.2.1
abbrev aa_re (a : ax_A) : Int32 := a.2.2.2.1
abbrev aa_dm (a : ax_A) : Int32 := a.2.2.2.2.1
abbrev aa_dO (a : ax_A) : Int32 := a.2.2.2.2.2.1
abbrev aa_mi (a : ax_A) : Int32 := a.2.2.2.2.2.2.1
abbrev aa_ou (a : ax_A) : Int32 := a.2.2.2.2.2.2.2.1
abbrev aa_ne (a : ax_A) : Int32 := a.2.2.2.2.2.2.2.2.1
abbrev aa_sta (a : ax_A) : Int32 := a.2.2.2.2.2.2.2.2.2.1
abbrev aa_se (a : ax_A) : Int32 := a.2.2.2.2.2.2.2.2.2.2.1
abbrev aa_wr (a : ax_A) : Int32 := a.2.2.2.2.2.2.2.2.2.2.2
abbrev as_st (a : ax_A) (v : ax_ST) : ax_A := (v, a.2.1, a.2.2.1, a.2.2.2.1, a.2.2.2.2.1, a.2.2.2.2.2.1, a.2.2.2.2.2.2.1, a.2.2.2.2.2.2.2.1, a.2.2.2.2.2.2.2.2.1, a.2.2.2.2.2.2.2.2.2.1, a.2.2.2.2.2.2.2.2.2.2.1, a.2.2.2.2.2.2.2.2.2.2.2)
abbrev as_sh (a : ax_A) (v : ax_SH) : ax_A := (a.1, v, a.2.2.1, a.2.2.2.1, a.2.2.2.2.1, a.2.2.2.2.2.1, a.2.2.2.2.2.2.1, a.2.2.2.2.2.2.2.1, a.2.2.2.2.2.2.2.2.1, a.2.2.2.2.2.2.2.2.2.1, a.2.2.2.2.2.2.2.2.2.2.1, a.2.2.2.2.2.2.2.2.2.2.2)
abbrev as_fd (a : ax_A) (v : ax_FD) : ax_A := (a.1, a.2.1, v, a.2.2.2.1, a.2.2.2.2.1, a.2.2.2.2.2.1, a.2.2.2.2.2.2.1, a.2.2.2.2.2.2.2.1, a.2.2.2.2.2.2.2.2.1, a.2.2.2.2.2.2.2.2.2.1, a.2.2.2.2.2.2.2.2.2.2.1, a.2.2.2.2.2.2.2.2.2.2.2)
abbrev as_re (a : ax_A) (v : Int32) : ax_A := (a.1, a.2.1, a.2.2.1, v, a.2.2.2.2.1, a.2.2.2.2.2.1, a.2.2.2.2.2.2.1, a.2.2.2.2.2.2.2.1, a.2.2.2.2.2.2.2.2.1, a.2.2.2.2.2.2.2.2.2.1, a.2.2.2.2.2.2.2.2.2.2.1, a.2.2.2.2.2.2.2.2.2.2.2)
abbrev as_dm (a : ax_A) (v : Int32) : ax_A := (a.1, a.2.1, a.2.2.1, a.2.2.2.1, v, a.2.2.2.2.2.1, a.2.2.2.2.2.2.1, a.2.2.2.2.2.2.2.1, a.2.2.2.2.2.2.2.2.1, a.2.2.2.2.2.2.2.2.2.1, a.2.2.2.2.2.2.2.2.2.2.1, a.2.2.2.2.2.2.2.2.2.2.2)
abbrev as_dO (a : ax_A) (v : Int32) : ax_A := (a.1, a.2.1, a.2.2.1, a.2.2.2.1, a.2.2.2.2.1, v, a.2.2.2.2.2.2.1, a.2.2.2.2.2.2.2.1, a.2.2.2.2.2.2.2.2.1, a.2.2.2.2.2.2.2.2.2.1, a.2.2.2.2.2.2.2.2.2.2.1, a.2.2.2.2.2.2.2.2.2.2.2)
abbrev as_mi (a : ax_A) (v : Int32) : ax_A := (a.1, a.2.1, a.2.2.1, a.2.2.2.1, a.2.2.2.2.1, a.2.2.2.2.2.1, v, a.2.2.2.2.2.2.2.1, a.2.2.2.2.2.2.2.2.1, a.2.2.2.2.2.2.2.2.2.1, a.2.2.2.2.2.2.2.2.2.2.1, a.2.2.2.2.2.2.2.2.2.2.2)
abbrev as_ou (a : ax_A) (v : Int32) : ax_A := (a.1, a.2.1, a.2.2.1, a.2.2.2.1, a.2.2.2.2.1, a.2.2.2.2.2.1, a.2.2.2.2.2.2.1, v, a.2.2.2.2.2.2.2.2.1, a.2.2.2.2.2.2.2.2.2.1, a.2.2.2.2.2.2.2.2.2.2.1, a.2.2.2.2.2.2.2.2.2.2.2)
abbrev as_ne (a : ax_A) (v : Int32) : ax_A := (a.1, a.2.1, a.2.2.1, a.2.2.2.1, a.2.2.2.2.1, a.2.2.2.2.2.1, a.2.2.2.2.2.2.1, a.2.2.2.2.2.2.2.1, v, a.2.2.2.2.2.2.2.2.2.1, a.2.2.2.2.2.2.2.2.2.2.1, a.2.2.2.2.2.2.2.2.2.2.2)
abbrev as_sta (a : ax_A) (v : Int32) : ax_A := (a.1, a.2.1, a.2.2.1, a.2.2.2.1, a.2.2.2.2.1, a.2.2.2.2.2.1, a.2.2.2.2.2.2.1, a.2.2.2.2.2.2.2.1, a.2.2.2.2.2.2.2.2.1, v, a.2.2.2.2.2.2.2.2.2.2.1, a.2.2.2.2.2.2.2.2.2.2.2)
abbrev as_se (a : ax_A) (v : Int32) : ax_A := (a.1, a.2.1, a.2.2.1, a.2.2.2.1, a.2.2.2.2.1, a.2.2.2.2.2.1, a.2.2.2.2.2.2.1, a.2.2.2.2.2.2.2.1, a.2.2.2.2.2.2.2.2.1, a.2.2.2.2.2.2.2.2.2.1, v, a.2.2.2.2.2.2.2.2.2.2.2)
abbrev as_wr (a : ax_A) (v : Int32) : ax_A := (a.1, a.2.1, a.2.2.1, a.2.2.2.1, a.2.2.2.2.1, a.2.2.2.2.2.1, a.2.2.2.2.2.2.1, a.2.2.2.2.2.2.2.1, a.2.2.2.2.2.2.2.2.1, a.2.2.2.2.2.2.2.2.2.1, a.2.2.2.2.2.2.2.2.2.2.1, v)
abbrev zk_b (b : Int32) : Prop := 0 ≤ b ∧ b < 6
abbrev zk_s (s : Int32) : Prop := 0 ≤ s ∧ s < 4
def zl (b s : Int32) : Nat := 4 * b.toNatClampNeg + s.toNatClampNeg
def zf_why (st : ax_ST) (k : Nat) (i : Int32) : Int32 := match st.1 k with
  | none => 2
  | some n => if 0 ≤ i ∧ i < nI n then 0 else 3
def zf_val (st : ax_ST) (k : Nat) (i : Int32) : Int32 := st.2.1 k i.toNatClampNeg
def zf_lev (v : Int32) : Int32 := if (-8000000) < (if v < 8000000 then v else 8000000) then (if v < 8000000 then v else 8000000) else (-8000000)
def zf_num (s v : Int32) : Int32 := if s = 0 then v &&& 65535 else if s = 1 then v.toInt16.toInt32 else if s = 2 then zf_lev v else v &&& 1
def zf_putS (st : ax_ST) (k : Nat) (i v : Int32) : ax_ST := (st.1, fun j p => if st.2.2 k j = true ∧ p = i.toNatClampNeg then v else st.2.1 j p, st.2.2)
def zf_hangS (st : ax_ST) (k n : Nat) : ax_ST := (fun j => if j = k then some n else st.1 j, fun j p => if j = k then 0 else st.2.1 j p, fun i j => if i = k ∨ j = k then decide (i = j) else st.2.2 i j)
def zf_strikeS (st : ax_ST) (k : Nat) : ax_ST := (fun j => if j = k then none else st.1 j, st.2.1, st.2.2)
def zf_rho (k k0 j : Nat) : Nat := if j = k then k0 else j
def zf_shareS (st : ax_ST) (k k0 : Nat) : ax_ST := (fun j => st.1 (zf_rho k k0 j), fun j p => st.2.1 (zf_rho k k0 j) p, fun i j => st.2.2 (zf_rho k k0 i) (zf_rho k k0 j))
def zf_there (st : ax_ST) : Nat → Int32
  | 0 => 0
  | n + 1 => if st.1 n = none then zf_there st n else zf_there st n + 1
abbrev zf_cnt (w : Int32) (a : ax_A) : ax_A := (aa_st a, aa_sh a, aa_fd a, aa_re a, aa_dm a, aa_dO a, aa_mi a + (if w = 2 then 1 else 0), aa_ou a + (if w = 3 then 1 else 0), aa_ne a + (if w = 4 then 1 else 0), aa_sta a, aa_se a, aa_wr a)
abbrev zf_set (a : ax_A) (k : Nat) (i v : Int32) : ax_A := (zf_putS (aa_st a) k i v, aa_sh a, aa_fd a, aa_re a, aa_dm a, aa_dO a, aa_mi a, aa_ou a, aa_ne a, aa_sta a, aa_se a + 1, aa_wr a)
def zf_dig (r : Int32) : Int32 := if r = 2 then 1 else if r = 3 then 2 else 0
def zf_abs (v : Int32) : Int32 := if 0 ≤ v then v else 0 - v
def zf_next (t s v : Int32) : Int32 := if zf_abs (t - v) ≤ s then t else if v < t then v + s else v - s
def zf_whyC (sh : ax_SH) (i j : Int32) : Int32 := match sh.1 with
  | none => 2
  | some d => if 0 ≤ i ∧ i < nI d.1 then (if sh.2.1 i.toNatClampNeg = true then (if 0 ≤ j ∧ j < nI d.2 then 0 else 3) else 2) else 3
def zf_cell (sh : ax_SH) (i j : Int32) : Int32 := sh.2.2.1 i.toNatClampNeg j.toNatClampNeg
def zf_sheetS (n m : Nat) : ax_SH := (some (n, m), fun _ => true, fun _ _ => 0, fun i j => decide (i = j))
def zf_writeS (sh : ax_SH) (i j v : Int32) : ax_SH := (sh.1, sh.2.1, fun r p => if sh.2.2.2 i.toNatClampNeg r = true ∧ p = j.toNatClampNeg then v else sh.2.2.1 r p, sh.2.2.2)
def zf_tear0 (sh : ax_SH) (i : Nat) : ax_SH := (sh.1, fun r => if r = i then false else sh.2.1 r, sh.2.2.1, sh.2.2.2)
def zf_tearS (sh : ax_SH) (i k : Nat) : ax_SH := (sh.1, fun r => sh.2.1 (zf_rho i k r), fun r p => sh.2.2.1 (zf_rho i k r) p, fun r q => sh.2.2.2 (zf_rho i k r) (zf_rho i k q))
abbrev zf_wri (a : ax_A) (i j v : Int32) : ax_A := (aa_st a, zf_writeS (aa_sh a) i j v, aa_fd a, aa_re a, aa_dm a, aa_dO a, aa_mi a, aa_ou a, aa_ne a, aa_sta a, aa_se a, aa_wr a + 1)
/-- what a lamp shows: the refusal, the number, the state behind the looks -/
def zf_show (a : ax_A) (b i : Int32) : Int32 × Int32 × ax_A :=
  if zf_why (aa_st a) (zl b 3) i = 0 then
    (if zf_val (aa_st a) (zl b 3) i = 0 then (0, 0, a)
     else if zf_why (aa_st a) (zl b 2) i = 0 then
       (if zf_why (aa_st a) (zl b 1) i = 0 then
         (if zf_why (aa_st a) (zl b 0) i = 0 then
           (0, (if zf_val (aa_st a) (zl b 0) i - zf_val (aa_st a) (zl b 0) i / 2 * 2 = 0 then zf_val (aa_st a) (zl b 2) i + zf_val (aa_st a) (zl b 1) i else 0 - (zf_val (aa_st a) (zl b 2) i + zf_val (aa_st a) (zl b 1) i)), a)
          else (zf_why (aa_st a) (zl b 0) i, 0, zf_cnt (zf_why (aa_st a) (zl b 0) i) a))
        else (zf_why (aa_st a) (zl b 1) i, 0, zf_cnt (zf_why (aa_st a) (zl b 1) i) a))
      else (zf_why (aa_st a) (zl b 2) i, 0, zf_cnt (zf_why (aa_st a) (zl b 2) i) a))
  else (zf_why (aa_st a) (zl b 3) i, 0, zf_cnt (zf_why (aa_st a) (zl b 3) i) a)
/-! the operations: the answer, and the state behind it -/
def zo_hang (a : ax_A) (b s n : Int32) : Int32 × ax_A := if zk_b b ∧ zk_s s then (if n ≤ 24 then (if 0 ≤ n then (n, as_sta (as_st a (zf_hangS (aa_st a) (zl b s) n.toNatClampNeg)) 0) else (0, as_sta (zf_cnt 4 a) 4)) else (0, as_sta a 5)) else (0, as_sta a 1)
def zo_strike (a : ax_A) (b s : Int32) : Int32 × ax_A := if zk_b b ∧ zk_s s then ((if (aa_st a).1 (zl b s) = none then 0 else 1), as_sta (as_st a (zf_strikeS (aa_st a) (zl b s))) 0) else (0, as_sta a 1)
def zo_share (a : ax_A) (b s f : Int32) : Int32 × ax_A := if zk_b b ∧ zk_s s ∧ zk_b f then ((if (aa_st a).1 (zl f s) = none then 0 else 1), as_sta (as_st a (zf_shareS (aa_st a) (zl b s) (zl f s))) 0) else (0, as_sta a 1)
def zf_len (st : ax_ST) (k : Nat) : Int32 := match st.1 k with
  | none => 0
  | some n => nI n
def zo_size (a : ax_A) (b s : Int32) : Int32 × ax_A := if zk_b b ∧ zk_s s then (if (aa_st a).1 (zl b s) = none then (0, as_sta (zf_cnt 2 a) 2) else (zf_len (aa_st a) (zl b s), as_sta a 0)) else (0, as_sta a 1)
def zo_get (a : ax_A) (b s i : Int32) : Int32 × ax_A := if zk_b b ∧ zk_s s then (if zf_why (aa_st a) (zl b s) i = 0 then (zf_val (aa_st a) (zl b s) i, as_sta a 0) else (0, as_sta (zf_cnt (zf_why (aa_st a) (zl b s) i) a) (zf_why (aa_st a) (zl b s) i))) else (0, as_sta a 1)
def zo_set (a : ax_A) (b s i v : Int32) : Int32 × ax_A := if zk_b b ∧ zk_s s then (if zf_why (aa_st a) (zl b s) i = 0 then (zf_val (aa_st a) (zl b s) i, as_sta (zf_set a (zl b s) i (zf_num s v)) 0) else (0, as_sta (zf_cnt (zf_why (aa_st a) (zl b s) i) a) (zf_why (aa_st a) (zl b s) i))) else (0, as_sta a 1)
def zo_patch (a : ax_A) (f i t j q : Int32) : Int32 × ax_A := if zk_b f ∧ zk_b t ∧ (0 ≤ q ∧ q < 16) then
    (if zf_why (aa_st a) (zl f (q / 4)) i = 0 then
      (if zf_why (aa_st a) (zl t (q - q / 4 * 4)) j = 0 then (zf_val (aa_st a) (zl f (q / 4)) i, as_sta (zf_set a (zl t (q - q / 4 * 4)) j (zf_num (q - q / 4 * 4) (zf_val (aa_st a) (zl f (q / 4)) i))) 0)
       else (0, as_sta (zf_cnt (zf_why (aa_st a) (zl t (q - q / 4 * 4)) j) a) (zf_why (aa_st a) (zl t (q - q / 4 * 4)) j)))
     else (0, as_sta (zf_cnt (zf_why (aa_st a) (zl f (q / 4)) i) a) (zf_why (aa_st a) (zl f (q / 4)) i))) else (0, as_sta a 1)
def zf_rip (r b d : Int32) : Nat → Int32 → Int32 → ax_A → Int32 × ax_A
  | 0, _, k, a => (k, as_sta a 0)
  | n + 1, p, k, a => if zf_why (aa_st a) (zl b 2) p = 0 then zf_rip r b d n (p + d) (k + 1) (zf_set a (zl b 2) p (zf_lev (zf_val (aa_st a) (zl b 2) p + r))) else (k, as_sta (zf_cnt (zf_why (aa_st a) (zl b 2) p) a) (zf_why (aa_st a) (zl b 2) p))
def zo_ripple (a : ax_A) (b i d n s : Int32) : Int32 × ax_A := if zk_b b ∧ (0 ≤ n ∧ n ≤ 64) then zf_rip (zf_lev s) b d n.toNatClampNeg i 0 a else (0, as_sta a 1)
def zf_pro (b i : Int32) : Nat → Int32 → Int32 → Int32 → ax_A → Int32 × ax_A
  | 0, _, _, t, a => (t, as_sta a 0)
  | n + 1, s, u, t, a => zf_pro b i n (s + 1) (u * 10) (t + u * zf_dig (zf_why (aa_st a) (zl b s) i)) (zf_cnt (zf_why (aa_st a) (zl b s) i) a)
def zo_probe (a : ax_A) (b i : Int32) : Int32 × ax_A := if zk_b b then zf_pro b i 4 0 1 0 a else (0, as_sta a 1)
def zf_pok (b i v : Int32) : Nat → Int32 → Int32 → Int32 → ax_A → Int32 × ax_A
  | 0, _, _, t, a => (t, as_sta a 0)
  | n + 1, s, u, t, a => zf_pok b i v n (s + 1) (u * 10) (t + u * zf_dig (zf_why (aa_st a) (zl b s) i)) (if zf_why (aa_st a) (zl b s) i = 0 then zf_set a (zl b s) i (zf_num s v) else zf_cnt (zf_why (aa_st a) (zl b s) i) a)
def zo_poke (a : ax_A) (b i v : Int32) : Int32 × ax_A := if zk_b b then zf_pok b i v 4 0 1 0 a else (0, as_sta a 1)
def zo_shown (a : ax_A) (b i : Int32) : Int32 × ax_A := if zk_b b then ((zf_show a b i).2.1, as_sta (zf_show a b i).2.2 (zf_show a b i).1) else (0, as_sta a 1)
def zf_lit (b : Int32) : Nat → Int32 → Int32 → ax_A → Int32 × ax_A
  | 0, _, k, a => (k, as_sta a 0)
  | n + 1, i, k, a => zf_lit b n (i + 1) (if zf_why (aa_st a) (zl b 3) i = 0 ∧ ¬ zf_val (aa_st a) (zl b 3) i = 0 ∧ 0 < zf_val (aa_st a) (zl b 2) i then k + 1 else k) (zf_cnt (zf_why (aa_st a) (zl b 3) i) a)
def zo_lit (a : ax_A) (b : Int32) : Int32 × ax_A := if zk_b b then (match (aa_st a).1 (zl b 2) with
  | none => (0, as_sta (zf_cnt 2 a) 2)
  | some n => zf_lit b n 0 0 a) else (0, as_sta a 1)
def zo_fade (a : ax_A) (b i t s : Int32) : Int32 × ax_A := if zk_b b ∧ (1 ≤ s ∧ s ≤ 1000) then (if (aa_fd a).length < 16 then
    (if zf_why (aa_st a) (zl b 2) i = 0 then (nI ((aa_fd a).length + 1), as_sta (as_fd a (aa_fd a ++ [(b, i, zf_lev t, s)])) 0) else (0, as_sta (zf_cnt (zf_why (aa_st a) (zl b 2) i) a) (zf_why (aa_st a) (zl b 2) i))) else (0, as_sta a 6)) else (0, as_sta a 1)
def zf_tick : ax_FD → ax_FD → ax_A → ax_FD × ax_A
  | [], kept, a => (kept, a)
  | q :: rest, kept, a => if zf_why (aa_st a) (zl q.1 2) q.2.1 = 0 then
      (if zf_next q.2.2.1 q.2.2.2 (zf_val (aa_st a) (zl q.1 2) q.2.1) = q.2.2.1 then zf_tick rest kept (as_re (zf_set a (zl q.1 2) q.2.1 (zf_lev (zf_next q.2.2.1 q.2.2.2 (zf_val (aa_st a) (zl q.1 2) q.2.1)))) (aa_re a + 1))
       else zf_tick rest (kept ++ [q]) (zf_set a (zl q.1 2) q.2.1 (zf_lev (zf_next q.2.2.1 q.2.2.2 (zf_val (aa_st a) (zl q.1 2) q.2.1)))))
    else if zf_why (aa_st a) (zl q.1 2) q.2.1 = 2 then zf_tick rest kept (as_dm (zf_cnt 2 a) (aa_dm a + 1)) else zf_tick rest kept (as_dO (zf_cnt (zf_why (aa_st a) (zl q.1 2) q.2.1) a) (aa_dO a + 1))
def zo_tick (a : ax_A) : Int32 × ax_A := (nI (zf_tick (aa_fd a) [] a).1.length, as_sta (as_fd (zf_tick (aa_fd a) [] a).2 (zf_tick (aa_fd a) [] a).1) 0)
def zo_sheet (a : ax_A) (n m : Int32) : Int32 × ax_A := if n ≤ 12 ∧ m ≤ 12 then (if 0 ≤ n ∧ 0 ≤ m then (n * m, as_sta (as_sh a (zf_sheetS n.toNatClampNeg m.toNatClampNeg)) 0) else (0, as_sta (zf_cnt 4 a) 4)) else (0, as_sta a 5)
def zo_cell (a : ax_A) (i j : Int32) : Int32 × ax_A := if zf_whyC (aa_sh a) i j = 0 then (zf_cell (aa_sh a) i j, as_sta a 0) else (0, as_sta (zf_cnt (zf_whyC (aa_sh a) i j) a) (zf_whyC (aa_sh a) i j))
def zf_rows (sh : ax_SH) : Int32 := match sh.1 with
  | none => 0
  | some d => nI d.1
def zo_tear (a : ax_A) (i k : Int32) : Int32 × ax_A := if (aa_sh a).1 = none then (0, as_sta (zf_cnt 2 a) 2) else
    if (k = -1 ∨ (0 ≤ k ∧ k < zf_rows (aa_sh a))) ∧ (0 ≤ i ∧ i < zf_rows (aa_sh a)) then
      (if k = -1 then (0, as_sta (as_sh a (zf_tear0 (aa_sh a) i.toNatClampNeg)) 0) else ((if (aa_sh a).2.1 k.toNatClampNeg = true then 1 else 0), as_sta (as_sh a (zf_tearS (aa_sh a) i.toNatClampNeg k.toNatClampNeg)) 0))
    else (0, as_sta (zf_cnt 3 a) 3)
def zf_draw (b i : Int32) : Nat → Int32 → ax_A → Int32 × ax_A
  | 0, _, a => (24, as_sta a 0)
  | n + 1, j, a => if (zf_show a b j).1 = 0 then
      (if zf_whyC (aa_sh (zf_show a b j).2.2) i j = 0 then zf_draw b i n (j + 1) (zf_wri (zf_show a b j).2.2 i j (zf_show a b j).2.1)
       else (j, as_sta (zf_cnt (zf_whyC (aa_sh (zf_show a b j).2.2) i j) (zf_show a b j).2.2) (zf_whyC (aa_sh (zf_show a b j).2.2) i j)))
    else (j, as_sta (zf_show a b j).2.2 (zf_show a b j).1)
def zo_draw (a : ax_A) (b i : Int32) : Int32 × ax_A := if zk_b b then zf_draw b i 25 0 a else (0, as_sta a 1)
def zo_status (a : ax_A) : Int32 × ax_A := (aa_sta a, a)
def zo_count (a : ax_A) (w : Int32) : Int32 × ax_A := ((if w = 0 then aa_mi a else if w = 1 then aa_ou a else if w = 2 then aa_ne a else if w = 3 then nI (aa_fd a).length else if w = 4 then aa_re a else if w = 5 then aa_dm a else if w = 6 then aa_dO a else if w = 7 then zf_there (aa_st a) 24 else if w = 8 then aa_se a else if w = 9 then zf_rows (aa_sh a) else if w = 10 then aa_wr a else 0), a)
/-! the class's world -/
abbrev zt (cI cII cF : ClassId) : List (ClassId × FieldType) := [(cI, .int), (cII, .array .int), (cF, .object RX0)]
abbrev cx_X : Type := Int32 × Int32 × (Nat → Option Nat) × (Nat → Option Nat) × Option Nat × List Nat × (Nat → va_E)
abbrev cx_run (x : cx_X) : Int32 := x.1
abbrev cx_fnd (x : cx_X) : Int32 := x.2.1
abbrev cx_f (x : cx_X) : (Nat → Option Nat) := x.2.2.1
abbrev cx_g (x : cx_X) : (Nat → Option Nat) := x.2.2.2.1
abbrev cx_rw (x : cx_X) : (Option Nat) := x.2.2.2.2.1
abbrev cx_L (x : cx_X) : (List Nat) := x.2.2.2.2.2.1
abbrev cx_ent (x : cx_X) : (Nat → va_E) := x.2.2.2.2.2.2
abbrev ck_run (x : cx_X) (v : Int32) : cx_X := (v, x.2.1, x.2.2.1, x.2.2.2.1, x.2.2.2.2.1, x.2.2.2.2.2.1, x.2.2.2.2.2.2)
abbrev ck_fnd (x : cx_X) (v : Int32) : cx_X := (x.1, v, x.2.2.1, x.2.2.2.1, x.2.2.2.2.1, x.2.2.2.2.2.1, x.2.2.2.2.2.2)
abbrev ck_f (x : cx_X) (v : (Nat → Option Nat)) : cx_X := (x.1, x.2.1, v, x.2.2.2.1, x.2.2.2.2.1, x.2.2.2.2.2.1, x.2.2.2.2.2.2)
abbrev ck_g (x : cx_X) (v : (Nat → Option Nat)) : cx_X := (x.1, x.2.1, x.2.2.1, v, x.2.2.2.2.1, x.2.2.2.2.2.1, x.2.2.2.2.2.2)
abbrev ck_rw (x : cx_X) (v : (Option Nat)) : cx_X := (x.1, x.2.1, x.2.2.1, x.2.2.2.1, v, x.2.2.2.2.2.1, x.2.2.2.2.2.2)
abbrev ck_L (x : cx_X) (v : (List Nat)) : cx_X := (x.1, x.2.1, x.2.2.1, x.2.2.2.1, x.2.2.2.2.1, v, x.2.2.2.2.2.2)
abbrev ck_ent (x : cx_X) (v : (Nat → va_E)) : cx_X := (x.1, x.2.1, x.2.2.1, x.2.2.2.1, x.2.2.2.2.1, x.2.2.2.2.2.1, v)
abbrev ze_i (c : ClassId) (n : Nat) (z : Nat → Int32) : va_E := .inl (c, n, .inl z)
abbrev ze_q (c : ClassId) (n : Nat) (z : Nat → Option Nat) : va_E := .inl (c, n, .inr (.inr (.inr (.inr z))))
def cw_X (o rk sp pp fp : Nat) (cII cF : ClassId) (a : ax_A) (x : cx_X) : va_W := [(o, .inr (3, [.ref rk, .ref pp, .ref fp, .int (cx_run x), .int (aa_re a), .int (aa_dm a), .int (aa_dO a), .int (aa_mi a), .int (aa_ou a), .int (aa_ne a), .int (aa_sta a), .int (cx_fnd x)])), (rk, .inr (2, [.ref sp, .int (aa_se a)])), (sp, ze_q cII 24 (cx_f x)), (pp, .inr (1, [va_rf (cx_rw x), .int (aa_wr a)])), (fp, ze_q cF 16 (cx_g x))]
def cw_W (o rk sp pp fp : Nat) (cII cF : ClassId) (a : ax_A) (x : cx_X) : va_W := cw_X o rk sp pp fp cII cF a x ++ va_pl (cx_L x) (cx_ent x)
/-- what the class's cells say of the strips -/
def rc_S (cI : ClassId) (st : ax_ST) (f : Nat → Option Nat) (L : List Nat) (ent : Nat → va_E) : Prop :=
  (∀ k, k < 24 → (f k = none ↔ st.1 k = none)) ∧
  (∀ k q, k < 24 → f k = some q → q ∈ L ∧ ∃ n z, ent q = ze_i cI n z ∧ n ≤ 24 ∧ st.1 k = some n ∧ ∀ i, i < n → z i = st.2.1 k i) ∧
  (∀ j k, j < 24 → k < 24 → ¬ f j = none → ¬ f k = none → (st.2.2 j k = true ↔ f j = f k))
def rc_H (cI cII : ClassId) (sh : ax_SH) (f : Nat → Option Nat) (rw : Option Nat) (L : List Nat) (ent : Nat → va_E) : Prop :=
  (rw = none ↔ sh.1 = none) ∧
  (∀ q, rw = some q → q ∈ L ∧ ∃ n m h, sh.1 = some (n, m) ∧ n ≤ 12 ∧ m ≤ 12 ∧ ent q = ze_q cII n h ∧
    (∀ i, i < n → (h i = none ↔ sh.2.1 i = false)) ∧
    (∀ i y, i < n → h i = some y → y ∈ L ∧ (∃ z, ent y = ze_i cI m z ∧ ∀ j, j < m → z j = sh.2.2.1 i j) ∧ ∀ k, k < 24 → ¬ f k = some y) ∧
    (∀ i j, i < n → j < n → ¬ h i = none → ¬ h j = none → (sh.2.2.2 i j = true ↔ h i = h j)))
def rc_F (fd : ax_FD) (g : Nat → Option Nat) (L : List Nat) (ent : Nat → va_E) (off : Nat) : Prop :=
  ∀ (j : Nat) (q : Int32 × Int32 × Int32 × Int32), fd[j]? = some q → zk_b q.1 ∧ ∃ y, g (off + j) = some y ∧ y ∈ L ∧ ent y = .inr (0, [.int q.1, .int q.2.1, .int q.2.2.1, .int q.2.2.2])
def rc_Q (cI cII : ClassId) (a : ax_A) (x : cx_X) : Prop :=
  rc_S cI (aa_st a) (cx_f x) (cx_L x) (cx_ent x) ∧ rc_H cI cII (aa_sh a) (cx_f x) (cx_rw x) (cx_L x) (cx_ent x)
def rc_R (cI cII : ClassId) (a : ax_A) (x : cx_X) : Prop :=
  rc_Q cI cII a x ∧ rc_F (aa_fd a) (cx_g x) (cx_L x) (cx_ent x) 0 ∧ cx_run x = nI (aa_fd a).length ∧ (aa_fd a).length ≤ 16
/-- the class's own objects stay -/
def cx_K (x x' : cx_X) : Prop := cx_run x' = cx_run x ∧ cx_g x' = cx_g x ∧ (∀ y, y ∈ cx_L x → y ∈ cx_L x') ∧ ∀ y q, y ∈ cx_L x → cx_ent x y = .inr q → cx_ent x' y = .inr q
/-! the reference's world -/
abbrev mx_X : Type := (Nat → Int32) × (Nat → Int32) × (Nat → Int32) × Int32 × Int32 × Int32 × (Nat → Int32) × (Nat → Int32) × Int32 × (Nat → Int32) × (Nat → Int32) × (Nat → Int32) × (Nat → Int32) × Int32
abbrev mx_sp (x : mx_X) : (Nat → Int32) := x.1
abbrev mx_ln (x : mx_X) : (Nat → Int32) := x.2.1
abbrev mx_pl (x : mx_X) : (Nat → Int32) := x.2.2.1
abbrev mx_hs (x : mx_X) : Int32 := x.2.2.2.1
abbrev mx_rm (x : mx_X) : Int32 := x.2.2.2.2.1
abbrev mx_cm (x : mx_X) : Int32 := x.2.2.2.2.2.1
abbrev mx_rw (x : mx_X) : (Nat → Int32) := x.2.2.2.2.2.2.1
abbrev mx_ce (x : mx_X) : (Nat → Int32) := x.2.2.2.2.2.2.2.1
abbrev mx_fs (x : mx_X) : Int32 := x.2.2.2.2.2.2.2.2.1
abbrev mx_fb (x : mx_X) : (Nat → Int32) := x.2.2.2.2.2.2.2.2.2.1
abbrev mx_fl (x : mx_X) : (Nat → Int32) := x.2.2.2.2.2.2.2.2.2.2.1
abbrev mx_ft (x : mx_X) : (Nat → Int32) := x.2.2.2.2.2.2.2.2.2.2.2.1
abbrev mx_fg (x : mx_X) : (Nat → Int32) := x.2.2.2.2.2.2.2.2.2.2.2.2.1
abbrev mx_dk (x : mx_X) : Int32 := x.2.2.2.2.2.2.2.2.2.2.2.2.2
abbrev mk_sp (x : mx_X) (v : (Nat → Int32)) : mx_X := (v, x.2.1, x.2.2.1, x.2.2.2.1, x.2.2.2.2.1, x.2.2.2.2.2.1, x.2.2.2.2.2.2.1, x.2.2.2.2.2.2.2.1, x.2.2.2.2.2.2.2.2.1, x.2.2.2.2.2.2.2.2.2.1, x.2.2.2.2.2.2.2.2.2.2.1, x.2.2.2.2.2.2.2.2.2.2.2.1, x.2.2.2.2.2.2.2.2.2.2.2.2.1, x.2.2.2.2.2.2.2.2.2.2.2.2.2)
abbrev mk_ln (x : mx_X) (v : (Nat → Int32)) : mx_X := (x.1, v, x.2.2.1, x.2.2.2.1, x.2.2.2.2.1, x.2.2.2.2.2.1, x.2.2.2.2.2.2.1, x.2.2.2.2.2.2.2.1, x.2.2.2.2.2.2.2.2.1, x.2.2.2.2.2.2.2.2.2.1, x.2.2.2.2.2.2.2.2.2.2.1, x.2.2.2.2.2.2.2.2.2.2.2.1, x.2.2.2.2.2.2.2.2.2.2.2.2.1, x.2.2.2.2.2.2.2.2.2.2.2.2.2)
abbrev mk_pl (x : mx_X) (v : (Nat → Int32)) : mx_X := (x.1, x.2.1, v, x.2.2.2.1, x.2.2.2.2.1, x.2.2.2.2.2.1, x.2.2.2.2.2.2.1, x.2.2.2.2.2.2.2.1, x.2.2.2.2.2.2.2.2.1, x.2.2.2.2.2.2.2.2.2.1, x.2.2.2.2.2.2.2.2.2.2.1, x.2.2.2.2.2.2.2.2.2.2.2.1, x.2.2.2.2.2.2.2.2.2.2.2.2.1, x.2.2.2.2.2.2.2.2.2.2.2.2.2)
abbrev mk_hs (x : mx_X) (v : Int32) : mx_X := (x.1, x.2.1, x.2.2.1, v, x.2.2.2.2.1, x.2.2.2.2.2.1, x.2.2.2.2.2.2.1, x.2.2.2.2.2.2.2.1, x.2.2.2.2.2.2.2.2.1, x.2.2.2.2.2.2.2.2.2.1, x.2.2.2.2.2.2.2.2.2.2.1, x.2.2.2.2.2.2.2.2.2.2.2.1, x.2.2.2.2.2.2.2.2.2.2.2.2.1, x.2.2.2.2.2.2.2.2.2.2.2.2.2)
abbrev mk_rm (x : mx_X) (v : Int32) : mx_X := (x.1, x.2.1, x.2.2.1, x.2.2.2.1, v, x.2.2.2.2.2.1, x.2.2.2.2.2.2.1, x.2.2.2.2.2.2.2.1, x.2.2.2.2.2.2.2.2.1, x.2.2.2.2.2.2.2.2.2.1, x.2.2.2.2.2.2.2.2.2.2.1, x.2.2.2.2.2.2.2.2.2.2.2.1, x.2.2.2.2.2.2.2.2.2.2.2.2.1, x.2.2.2.2.2.2.2.2.2.2.2.2.2)
abbrev mk_cm (x : mx_X) (v : Int32) : mx_X := (x.1, x.2.1, x.2.2.1, x.2.2.2.1, x.2.2.2.2.1, v, x.2.2.2.2.2.2.1, x.2.2.2.2.2.2.2.1, x.2.2.2.2.2.2.2.2.1, x.2.2.2.2.2.2.2.2.2.1, x.2.2.2.2.2.2.2.2.2.2.1, x.2.2.2.2.2.2.2.2.2.2.2.1, x.2.2.2.2.2.2.2.2.2.2.2.2.1, x.2.2.2.2.2.2.2.2.2.2.2.2.2)
abbrev mk_rw (x : mx_X) (v : (Nat → Int32)) : mx_X := (x.1, x.2.1, x.2.2.1, x.2.2.2.1, x.2.2.2.2.1, x.2.2.2.2.2.1, v, x.2.2.2.2.2.2.2.1, x.2.2.2.2.2.2.2.2.1, x.2.2.2.2.2.2.2.2.2.1, x.2.2.2.2.2.2.2.2.2.2.1, x.2.2.2.2.2.2.2.2.2.2.2.1, x.2.2.2.2.2.2.2.2.2.2.2.2.1, x.2.2.2.2.2.2.2.2.2.2.2.2.2)
abbrev mk_ce (x : mx_X) (v : (Nat → Int32)) : mx_X := (x.1, x.2.1, x.2.2.1, x.2.2.2.1, x.2.2.2.2.1, x.2.2.2.2.2.1, x.2.2.2.2.2.2.1, v, x.2.2.2.2.2.2.2.2.1, x.2.2.2.2.2.2.2.2.2.1, x.2.2.2.2.2.2.2.2.2.2.1, x.2.2.2.2.2.2.2.2.2.2.2.1, x.2.2.2.2.2.2.2.2.2.2.2.2.1, x.2.2.2.2.2.2.2.2.2.2.2.2.2)
abbrev mk_fs (x : mx_X) (v : Int32) : mx_X := (x.1, x.2.1, x.2.2.1, x.2.2.2.1, x.2.2.2.2.1, x.2.2.2.2.2.1, x.2.2.2.2.2.2.1, x.2.2.2.2.2.2.2.1, v, x.2.2.2.2.2.2.2.2.2.1, x.2.2.2.2.2.2.2.2.2.2.1, x.2.2.2.2.2.2.2.2.2.2.2.1, x.2.2.2.2.2.2.2.2.2.2.2.2.1, x.2.2.2.2.2.2.2.2.2.2.2.2.2)
abbrev mk_fb (x : mx_X) (v : (Nat → Int32)) : mx_X := (x.1, x.2.1, x.2.2.1, x.2.2.2.1, x.2.2.2.2.1, x.2.2.2.2.2.1, x.2.2.2.2.2.2.1, x.2.2.2.2.2.2.2.1, x.2.2.2.2.2.2.2.2.1, v, x.2.2.2.2.2.2.2.2.2.2.1, x.2.2.2.2.2.2.2.2.2.2.2.1, x.2.2.2.2.2.2.2.2.2.2.2.2.1, x.2.2.2.2.2.2.2.2.2.2.2.2.2)
abbrev mk_fl (x : mx_X) (v : (Nat → Int32)) : mx_X := (x.1, x.2.1, x.2.2.1, x.2.2.2.1, x.2.2.2.2.1, x.2.2.2.2.2.1, x.2.2.2.2.2.2.1, x.2.2.2.2.2.2.2.1, x.2.2.2.2.2.2.2.2.1, x.2.2.2.2.2.2.2.2.2.1, v, x.2.2.2.2.2.2.2.2.2.2.2.1, x.2.2.2.2.2.2.2.2.2.2.2.2.1, x.2.2.2.2.2.2.2.2.2.2.2.2.2)
abbrev mk_ft (x : mx_X) (v : (Nat → Int32)) : mx_X := (x.1, x.2.1, x.2.2.1, x.2.2.2.1, x.2.2.2.2.1, x.2.2.2.2.2.1, x.2.2.2.2.2.2.1, x.2.2.2.2.2.2.2.1, x.2.2.2.2.2.2.2.2.1, x.2.2.2.2.2.2.2.2.2.1, x.2.2.2.2.2.2.2.2.2.2.1, v, x.2.2.2.2.2.2.2.2.2.2.2.2.1, x.2.2.2.2.2.2.2.2.2.2.2.2.2)
abbrev mk_fg (x : mx_X) (v : (Nat → Int32)) : mx_X := (x.1, x.2.1, x.2.2.1, x.2.2.2.1, x.2.2.2.2.1, x.2.2.2.2.2.1, x.2.2.2.2.2.2.1, x.2.2.2.2.2.2.2.1, x.2.2.2.2.2.2.2.2.1, x.2.2.2.2.2.2.2.2.2.1, x.2.2.2.2.2.2.2.2.2.2.1, x.2.2.2.2.2.2.2.2.2.2.2.1, v, x.2.2.2.2.2.2.2.2.2.2.2.2.2)
abbrev mk_dk (x : mx_X) (v : Int32) : mx_X := (x.1, x.2.1, x.2.2.1, x.2.2.2.1, x.2.2.2.2.1, x.2.2.2.2.2.1, x.2.2.2.2.2.2.1, x.2.2.2.2.2.2.2.1, x.2.2.2.2.2.2.2.2.1, x.2.2.2.2.2.2.2.2.2.1, x.2.2.2.2.2.2.2.2.2.2.1, x.2.2.2.2.2.2.2.2.2.2.2.1, x.2.2.2.2.2.2.2.2.2.2.2.2.1, v)
def mw_W (mo m1 m2 m3 m4 m5 m6 m7 m8 m9 : Nat) (cI : ClassId) (a : ax_A) (x : mx_X) : va_W := [(mo, .inr (4, [.ref m1, .ref m2, .ref m3, .int (mx_hs x), .int (mx_rm x), .int (mx_cm x), .ref m4, .ref m5, .int (mx_fs x), .ref m6, .ref m7, .ref m8, .ref m9, .int (aa_sta a), .int (aa_mi a), .int (aa_ou a), .int (aa_ne a), .int (aa_re a), .int (aa_dm a), .int (aa_dO a), .int (aa_se a), .int (aa_wr a), .int (mx_dk x)])), (m1, ze_i cI 24 (mx_sp x)), (m2, ze_i cI 24 (mx_ln x)), (m3, ze_i cI 600 (mx_pl x)), (m4, ze_i cI 12 (mx_rw x)), (m5, ze_i cI 144 (mx_ce x)), (m6, ze_i cI 16 (mx_fb x)), (m7, ze_i cI 16 (mx_fl x)), (m8, ze_i cI 16 (mx_ft x)), (m9, ze_i cI 16 (mx_fg x))]
/-- which numbers stand in a strip of kind k -/
def zk_n (k : Nat) (v : Int32) : Prop := (k % 4 = 0 → 0 ≤ v ∧ v ≤ 65535) ∧ (k % 4 = 2 → -8000000 ≤ v ∧ v ≤ 8000000) ∧ (k % 4 = 3 → v = 0 ∨ v = 1)
def rm_S (st : ax_ST) (sp ln pl : Nat → Int32) : Prop :=
  (∀ k, k < 24 → (sp k = -1 ↔ st.1 k = none)) ∧
  (∀ k, k < 24 → ¬ sp k = -1 → ∃ z n, z < 24 ∧ sp k = nI z ∧ n ≤ 24 ∧ ln z = nI n ∧ st.1 k = some n ∧ ∀ i, i < n → pl (25 * z + i) = st.2.1 k i ∧ zk_n k (st.2.1 k i)) ∧
  (∀ j k, j < 24 → k < 24 → ¬ sp j = -1 → ¬ sp k = -1 → (st.2.2 j k = true ↔ sp j = sp k)) ∧
  (∀ j k, j < 24 → k < 24 → ¬ sp j = -1 → sp j = sp k → j % 4 = k % 4)
def rm_H (sh : ax_SH) (hs rm cm : Int32) (rw ce : Nat → Int32) : Prop :=
  (hs = 0 ∧ sh.1 = none) ∨ (hs = 1 ∧ ∃ n m, sh.1 = some (n, m) ∧ n ≤ 12 ∧ m ≤ 12 ∧ rm = nI n ∧ cm = nI m ∧
    (∀ i, i < n → (rw i = -1 ↔ sh.2.1 i = false)) ∧
    (∀ i, i < n → ¬ rw i = -1 → ∃ z, z < 12 ∧ rw i = nI z ∧ ∀ j, j < m → ce (12 * z + j) = sh.2.2.1 i j) ∧
    (∀ i j, i < n → j < n → ¬ rw i = -1 → ¬ rw j = -1 → (sh.2.2.2 i j = true ↔ rw i = rw j)))
def rm_F (fd : ax_FD) (fb fl ft fg : Nat → Int32) (off : Nat) : Prop :=
  ∀ (j : Nat) (q : Int32 × Int32 × Int32 × Int32), fd[j]? = some q → zk_b q.1 ∧ fb (off + j) = q.1 ∧ fl (off + j) = q.2.1 ∧ ft (off + j) = q.2.2.1 ∧ fg (off + j) = q.2.2.2 ∧ (-8000000 ≤ q.2.2.1 ∧ q.2.2.1 ≤ 8000000) ∧ (1 ≤ q.2.2.2 ∧ q.2.2.2 ≤ 1000)
def rm_Q (a : ax_A) (x : mx_X) : Prop :=
  rm_S (aa_st a) (mx_sp x) (mx_ln x) (mx_pl x) ∧ rm_H (aa_sh a) (mx_hs x) (mx_rm x) (mx_cm x) (mx_rw x) (mx_ce x)
def rm_R (a : ax_A) (x : mx_X) : Prop :=
  rm_Q a x ∧ rm_F (aa_fd a) (mx_fb x) (mx_fl x) (mx_ft x) (mx_fg x) 0 ∧ mx_fs x = nI (aa_fd a).length ∧ (aa_fd a).length ≤ 16
end
section
def zz_Mi (l : Launch) (D : va_G) (tys : List (ClassId × FieldType)) (y : MethodName) (bytes : ByteArray) (maxL : Nat) (ret : Option FieldType) (fr lo mc ms : Nat) (av : List Value) (w : va_W) (pst : Int32 → va_W → Prop) : Prop := zz_M l D tys y bytes maxL ret fr lo mc ms av w (fun v w' => ∃ r : Int32, v = some (.int r) ∧ pst r w')
def zz_Mr (l : Launch) (D : va_G) (tys : List (ClassId × FieldType)) (y : MethodName) (bytes : ByteArray) (maxL : Nat) (ret : Option FieldType) (fr lo mc ms : Nat) (av : List Value) (w : va_W) (pst : Option Nat → va_W → Prop) : Prop := zz_M l D tys y bytes maxL ret fr lo mc ms av w (fun v w' => ∃ r : Option Nat, v = some (va_rf r) ∧ pst r w')
def zz_Mv (l : Launch) (D : va_G) (tys : List (ClassId × FieldType)) (y : MethodName) (bytes : ByteArray) (maxL : Nat) (ret : Option FieldType) (fr lo mc ms : Nat) (av : List Value) (w : va_W) (pst : va_W → Prop) : Prop := zz_M l D tys y bytes maxL ret fr lo mc ms av w (fun v w' => v = none ∧ pst w')
section ZT
variable {p : Program} {l : Launch} {e : Env} {R : Room} {s : State} {m : MethodId} {args : Array Value} {below : List Frame} {meth : Method} {c : Code} {A : Nat → Prop} {D : va_G} {tys : List (ClassId × FieldType)} {nL : Nat} {Q : State → Prop} {cc : ByteArray} {own : String} {pc : Nat} {lv : List (Nat × Value)} {st : List Value} {w : va_W} {cells slots : Nat}
variable {y : MethodName} {bytes : ByteArray} {maxL : Nat} {ret : Option FieldType} {fr lo mc ms : Nat}
theorem zr_cVi {C : String} {index n b ci : Nat} {As : List Value} {fs : List Value} {r0 : vw_C} {pst : Int32 → va_W → Prop} {st0 : List Value} (q0 : Nat) (hC : zz_C p s m args c A D tys nL cc own) (hV : zz_V y C bytes maxL ret n) (hlk : Cond.methodLink own index y ∈ zu_tbl) (hM : zz_Mi l D tys y bytes maxL ret fr lo mc ms (.ref b :: As) w pst) (hd : decode cc pc = .ok (.invokevirtual index, 3)) (hR : fr + 1 ≤ R.frames ∧ 8 + (maxL + 11) + lo ≤ R.locals) (hf : cells + mc ≤ R.cells ∧ slots + ms ≤ R.slots) (hcl : vwCl[ci]? = some r0) (hrC : r0.1 = C) (he : w[q0]? = some (b, .inr (ci, fs))) (hst : st0 = As.reverse ++ .ref b :: st) (hn : As.length = n) (hcat : (st.map fun v => v.category).sum ≤ 8)
    (kk : ∀ (r : Int32) (w1 : va_W), pst r w1 → zz_Z p l e R s m args below meth c A D nL Q (pc + 3) lv (.int r :: st) (w1) (cells + mc) (slots + ms)) : zz_Z p l e R s m args below meth c A D nL Q pc lv st0 (w) cells slots :=
  zr_callV (wr := []) (q0 := q0) hC hV hlk hM hd hR hf hcl hrC he hst hn hcat (fun v w1 hp => by
    obtain ⟨r, rfl, hq⟩ := hp
    exact kk r w1 hq)
theorem zr_cSi {index n : Nat} {As : List Value} {pst : Int32 → va_W → Prop} {st0 : List Value} (hC : zz_C p s m args c A D tys nL cc own) (hV : zz_S y own bytes maxL ret n) (hlk : Cond.methodLink own index y ∈ zu_tbl) (hM : zz_Mi l D tys y bytes maxL ret fr lo mc ms As w pst) (hd : decode cc pc = .ok (.invokestatic index, 3)) (hR : fr + 1 ≤ R.frames ∧ 8 + (maxL + 11) + lo ≤ R.locals) (hf : cells + mc ≤ R.cells ∧ slots + ms ≤ R.slots) (hst : st0 = As.reverse ++ st) (hn : As.length = n) (hcat : (st.map fun v => v.category).sum ≤ 8)
    (kk : ∀ (r : Int32) (w1 : va_W), pst r w1 → zz_Z p l e R s m args below meth c A D nL Q (pc + 3) lv (.int r :: st) (w1) (cells + mc) (slots + ms)) : zz_Z p l e R s m args below meth c A D nL Q pc lv st0 (w) cells slots :=
  zr_callS (wr := []) hC hV hlk hM hd hR hf hst hn hcat (fun v w1 hp => by
    obtain ⟨r, rfl, hq⟩ := hp
    exact kk r w1 hq)
theorem zr_cVr {C : String} {index n b ci : Nat} {As : List Value} {fs : List Value} {r0 : vw_C} {pst : Option Nat → va_W → Prop} {st0 : List Value} (q0 : Nat) (hC : zz_C p s m args c A D tys nL cc own) (hV : zz_V y C bytes maxL ret n) (hlk : Cond.methodLink own index y ∈ zu_tbl) (hM : zz_Mr l D tys y bytes maxL ret fr lo mc ms (.ref b :: As) w pst) (hd : decode cc pc = .ok (.invokevirtual index, 3)) (hR : fr + 1 ≤ R.frames ∧ 8 + (maxL + 11) + lo ≤ R.locals) (hf : cells + mc ≤ R.cells ∧ slots + ms ≤ R.slots) (hcl : vwCl[ci]? = some r0) (hrC : r0.1 = C) (he : w[q0]? = some (b, .inr (ci, fs))) (hst : st0 = As.reverse ++ .ref b :: st) (hn : As.length = n) (hcat : (st.map fun v => v.category).sum ≤ 8)
    (kk : ∀ (r : Option Nat) (w1 : va_W), pst r w1 → zz_Z p l e R s m args below meth c A D nL Q (pc + 3) lv (va_rf r :: st) (w1) (cells + mc) (slots + ms)) : zz_Z p l e R s m args below meth c A D nL Q pc lv st0 (w) cells slots :=
  zr_callV (wr := []) (q0 := q0) hC hV hlk hM hd hR hf hcl hrC he hst hn hcat (fun v w1 hp => by
    obtain ⟨r, rfl, hq⟩ := hp
    exact kk r w1 hq)
theorem zr_cVv {C : String} {index n b ci : Nat} {As : List Value} {fs : List Value} {r0 : vw_C} {pst : va_W → Prop} {st0 : List Value} (q0 : Nat) (hC : zz_C p s m args c A D tys nL cc own) (hV : zz_V y C bytes maxL ret n) (hlk : Cond.methodLink own index y ∈ zu_tbl) (hM : zz_Mv l D tys y bytes maxL ret fr lo mc ms (.ref b :: As) w pst) (hd : decode cc pc = .ok (.invokevirtual index, 3)) (hR : fr + 1 ≤ R.frames ∧ 8 + (maxL + 11) + lo ≤ R.locals) (hf : cells + mc ≤ R.cells ∧ slots + ms ≤ R.slots) (hcl : vwCl[ci]? = some r0) (hrC : r0.1 = C) (he : w[q0]? = some (b, .inr (ci, fs))) (hst : st0 = As.reverse ++ .ref b :: st) (hn : As.length = n) (hcat : (st.map fun v => v.category).sum ≤ 8)
    (kk : ∀ (w1 : va_W), pst w1 → zz_Z p l e R s m args below meth c A D nL Q (pc + 3) lv st (w1) (cells + mc) (slots + ms)) : zz_Z p l e R s m args below meth c A D nL Q pc lv st0 (w) cells slots :=
  zr_callV (wr := []) (q0 := q0) hC hV hlk hM hd hR hf hcl hrC he hst hn hcat (fun v w1 hp => by
    obtain ⟨rfl, hq⟩ := hp
    exact kk w1 hq)
theorem zr_cIv {C : String} {index n b : Nat} {As : List Value} {pst : va_W → Prop} {st0 : List Value} (hC : zz_C p s m args c A D tys nL cc own) (hV : zz_I y C bytes maxL n) (hlk : Cond.methodLink own index y ∈ zu_tbl) (hM : zz_Mv l D tys y bytes maxL none fr lo mc ms (.ref b :: As) w pst) (hd : decode cc pc = .ok (.invokespecial index, 3)) (hR : fr + 1 ≤ R.frames ∧ 8 + (maxL + 11) + lo ≤ R.locals) (hf : cells + mc ≤ R.cells ∧ slots + ms ≤ R.slots) (hst : st0 = As.reverse ++ .ref b :: st) (hn : As.length = n) (hcat : (st.map fun v => v.category).sum ≤ 8)
    (kk : ∀ (w1 : va_W), pst w1 → zz_Z p l e R s m args below meth c A D nL Q (pc + 3) lv st (w1) (cells + mc) (slots + ms)) : zz_Z p l e R s m args below meth c A D nL Q pc lv st0 (w) cells slots :=
  zr_callI (wr := []) hC hV hlk hM hd hR hf hst hn hcat (fun v w1 hp => by
    obtain ⟨rfl, hq⟩ := hp
    exact kk w1 hq)
theorem zr_cINv {C : String} {index n b : Nat} {As : List Value} {pst : va_W → Prop} {st0 : List Value} (hC : zz_C p s m args c A D tys nL cc own) (hV : zz_I y C bytes maxL n) {host : String} (hlk : va_Nw (.methodLinkNest own index y host) s) (hM : zz_Mv l D tys y bytes maxL none fr lo mc ms (.ref b :: As) w pst) (hd : decode cc pc = .ok (.invokespecial index, 3)) (hR : fr + 1 ≤ R.frames ∧ 8 + (maxL + 11) + lo ≤ R.locals) (hf : cells + mc ≤ R.cells ∧ slots + ms ≤ R.slots) (hst : st0 = As.reverse ++ .ref b :: st) (hn : As.length = n) (hcat : (st.map fun v => v.category).sum ≤ 8)
    (kk : ∀ (w1 : va_W), pst w1 → zz_Z p l e R s m args below meth c A D nL Q (pc + 3) lv st (w1) (cells + mc) (slots + ms)) : zz_Z p l e R s m args below meth c A D nL Q pc lv st0 (w) cells slots :=
  zr_callIN (wr := []) hC hV hlk hM hd hR hf hst hn hcat (fun v w1 hp => by
    obtain ⟨rfl, hq⟩ := hp
    exact kk w1 hq)
theorem zr_wVi {wr : va_W} {C : String} {index n b ci : Nat} {As : List Value} {fs : List Value} {r0 : vw_C} {pst : Int32 → va_W → Prop} {st0 : List Value} (q0 : Nat) (hC : zz_C p s m args c A D tys nL cc own) (hV : zz_V y C bytes maxL ret n) (hlk : Cond.methodLink own index y ∈ zu_tbl) (hM : zz_Mi l D tys y bytes maxL ret fr lo mc ms (.ref b :: As) w pst) (hd : decode cc pc = .ok (.invokevirtual index, 3)) (hR : fr + 1 ≤ R.frames ∧ 8 + (maxL + 11) + lo ≤ R.locals) (hf : cells + mc ≤ R.cells ∧ slots + ms ≤ R.slots) (hcl : vwCl[ci]? = some r0) (hrC : r0.1 = C) (he : w[q0]? = some (b, .inr (ci, fs))) (hst : st0 = As.reverse ++ .ref b :: st) (hn : As.length = n) (hcat : (st.map fun v => v.category).sum ≤ 8)
    (kk : ∀ (r : Int32) (w1 : va_W), pst r w1 → zz_Z p l e R s m args below meth c A D nL Q (pc + 3) lv (.int r :: st) (wr ++ w1) (cells + mc) (slots + ms)) : zz_Z p l e R s m args below meth c A D nL Q pc lv st0 (wr ++ w) cells slots :=
  zr_callV (wr := wr) (q0 := q0) hC hV hlk hM hd hR hf hcl hrC he hst hn hcat (fun v w1 hp => by
    obtain ⟨r, rfl, hq⟩ := hp
    exact kk r w1 hq)
theorem zr_wSi {wr : va_W} {index n : Nat} {As : List Value} {pst : Int32 → va_W → Prop} {st0 : List Value} (hC : zz_C p s m args c A D tys nL cc own) (hV : zz_S y own bytes maxL ret n) (hlk : Cond.methodLink own index y ∈ zu_tbl) (hM : zz_Mi l D tys y bytes maxL ret fr lo mc ms As w pst) (hd : decode cc pc = .ok (.invokestatic index, 3)) (hR : fr + 1 ≤ R.frames ∧ 8 + (maxL + 11) + lo ≤ R.locals) (hf : cells + mc ≤ R.cells ∧ slots + ms ≤ R.slots) (hst : st0 = As.reverse ++ st) (hn : As.length = n) (hcat : (st.map fun v => v.category).sum ≤ 8)
    (kk : ∀ (r : Int32) (w1 : va_W), pst r w1 → zz_Z p l e R s m args below meth c A D nL Q (pc + 3) lv (.int r :: st) (wr ++ w1) (cells + mc) (slots + ms)) : zz_Z p l e R s m args below meth c A D nL Q pc lv st0 (wr ++ w) cells slots :=
  zr_callS (wr := wr) hC hV hlk hM hd hR hf hst hn hcat (fun v w1 hp => by
    obtain ⟨r, rfl, hq⟩ := hp
    exact kk r w1 hq)
theorem zr_wVr {wr : va_W} {C : String} {index n b ci : Nat} {As : List Value} {fs : List Value} {r0 : vw_C} {pst : Option Nat → va_W → Prop} {st0 : List Value} (q0 : Nat) (hC : zz_C p s m args c A D tys nL cc own) (hV : zz_V y C bytes maxL ret n) (hlk : Cond.methodLink own index y ∈ zu_tbl) (hM : zz_Mr l D tys y bytes maxL ret fr lo mc ms (.ref b :: As) w pst) (hd : decode cc pc = .ok (.invokevirtual index, 3)) (hR : fr + 1 ≤ R.frames ∧ 8 + (maxL + 11) + lo ≤ R.locals) (hf : cells + mc ≤ R.cells ∧ slots + ms ≤ R.slots) (hcl : vwCl[ci]? = some r0) (hrC : r0.1 = C) (he : w[q0]? = some (b, .inr (ci, fs))) (hst : st0 = As.reverse ++ .ref b :: st) (hn : As.length = n) (hcat : (st.map fun v => v.category).sum ≤ 8)
    (kk : ∀ (r : Option Nat) (w1 : va_W), pst r w1 → zz_Z p l e R s m args below meth c A D nL Q (pc + 3) lv (va_rf r :: st) (wr ++ w1) (cells + mc) (slots + ms)) : zz_Z p l e R s m args below meth c A D nL Q pc lv st0 (wr ++ w) cells slots :=
  zr_callV (wr := wr) (q0 := q0) hC hV hlk hM hd hR hf hcl hrC he hst hn hcat (fun v w1 hp => by
    obtain ⟨r, rfl, hq⟩ := hp
    exact kk r w1 hq)
theorem zr_wVv {wr : va_W} {C : String} {index n b ci : Nat} {As : List Value} {fs : List Value} {r0 : vw_C} {pst : va_W → Prop} {st0 : List Value} (q0 : Nat) (hC : zz_C p s m args c A D tys nL cc own) (hV : zz_V y C bytes maxL ret n) (hlk : Cond.methodLink own index y ∈ zu_tbl) (hM : zz_Mv l D tys y bytes maxL ret fr lo mc ms (.ref b :: As) w pst) (hd : decode cc pc = .ok (.invokevirtual index, 3)) (hR : fr + 1 ≤ R.frames ∧ 8 + (maxL + 11) + lo ≤ R.locals) (hf : cells + mc ≤ R.cells ∧ slots + ms ≤ R.slots) (hcl : vwCl[ci]? = some r0) (hrC : r0.1 = C) (he : w[q0]? = some (b, .inr (ci, fs))) (hst : st0 = As.reverse ++ .ref b :: st) (hn : As.length = n) (hcat : (st.map fun v => v.category).sum ≤ 8)
    (kk : ∀ (w1 : va_W), pst w1 → zz_Z p l e R s m args below meth c A D nL Q (pc + 3) lv st (wr ++ w1) (cells + mc) (slots + ms)) : zz_Z p l e R s m args below meth c A D nL Q pc lv st0 (wr ++ w) cells slots :=
  zr_callV (wr := wr) (q0 := q0) hC hV hlk hM hd hR hf hcl hrC he hst hn hcat (fun v w1 hp => by
    obtain ⟨rfl, hq⟩ := hp
    exact kk w1 hq)
theorem zr_wIv {wr : va_W} {C : String} {index n b : Nat} {As : List Value} {pst : va_W → Prop} {st0 : List Value} (hC : zz_C p s m args c A D tys nL cc own) (hV : zz_I y C bytes maxL n) (hlk : Cond.methodLink own index y ∈ zu_tbl) (hM : zz_Mv l D tys y bytes maxL none fr lo mc ms (.ref b :: As) w pst) (hd : decode cc pc = .ok (.invokespecial index, 3)) (hR : fr + 1 ≤ R.frames ∧ 8 + (maxL + 11) + lo ≤ R.locals) (hf : cells + mc ≤ R.cells ∧ slots + ms ≤ R.slots) (hst : st0 = As.reverse ++ .ref b :: st) (hn : As.length = n) (hcat : (st.map fun v => v.category).sum ≤ 8)
    (kk : ∀ (w1 : va_W), pst w1 → zz_Z p l e R s m args below meth c A D nL Q (pc + 3) lv st (wr ++ w1) (cells + mc) (slots + ms)) : zz_Z p l e R s m args below meth c A D nL Q pc lv st0 (wr ++ w) cells slots :=
  zr_callI (wr := wr) hC hV hlk hM hd hR hf hst hn hcat (fun v w1 hp => by
    obtain ⟨rfl, hq⟩ := hp
    exact kk w1 hq)
theorem zr_wINv {wr : va_W} {C : String} {index n b : Nat} {As : List Value} {pst : va_W → Prop} {st0 : List Value} (hC : zz_C p s m args c A D tys nL cc own) (hV : zz_I y C bytes maxL n) {host : String} (hlk : va_Nw (.methodLinkNest own index y host) s) (hM : zz_Mv l D tys y bytes maxL none fr lo mc ms (.ref b :: As) w pst) (hd : decode cc pc = .ok (.invokespecial index, 3)) (hR : fr + 1 ≤ R.frames ∧ 8 + (maxL + 11) + lo ≤ R.locals) (hf : cells + mc ≤ R.cells ∧ slots + ms ≤ R.slots) (hst : st0 = As.reverse ++ .ref b :: st) (hn : As.length = n) (hcat : (st.map fun v => v.category).sum ≤ 8)
    (kk : ∀ (w1 : va_W), pst w1 → zz_Z p l e R s m args below meth c A D nL Q (pc + 3) lv st (wr ++ w1) (cells + mc) (slots + ms)) : zz_Z p l e R s m args below meth c A D nL Q pc lv st0 (wr ++ w) cells slots :=
  zr_callIN (wr := wr) hC hV hlk hM hd hR hf hst hn hcat (fun v w1 hp => by
    obtain ⟨rfl, hq⟩ := hp
    exact kk w1 hq)
theorem zr_if_eqT {x : Int32} {off : Int} {tgt : Nat} (hC : zz_C p s m args c A D tys nL cc own) (hd : decode cc pc = .ok (.ifCond .eq off, 3)) (ht : (pc : Int) + off = (tgt : Int)) (h : x = 0) (kk : zz_Z p l e R s m args below meth c A D nL Q tgt lv st w cells slots) : zz_Z p l e R s m args below meth c A D nL Q pc lv (.int x :: st) w cells slots :=
  zr_if_eq hC hd ht (fun _ => kk) (fun q => absurd h q)
theorem zr_if_eqF {x : Int32} {off : Int} {tgt : Nat} (hC : zz_C p s m args c A D tys nL cc own) (hd : decode cc pc = .ok (.ifCond .eq off, 3)) (ht : (pc : Int) + off = (tgt : Int)) (h : ¬ x = 0) (kk : zz_Z p l e R s m args below meth c A D nL Q (pc + 3) lv st w cells slots) : zz_Z p l e R s m args below meth c A D nL Q pc lv (.int x :: st) w cells slots :=
  zr_if_eq hC hd ht (fun q => absurd q h) (fun _ => kk)
theorem zr_if_neT {x : Int32} {off : Int} {tgt : Nat} (hC : zz_C p s m args c A D tys nL cc own) (hd : decode cc pc = .ok (.ifCond .ne off, 3)) (ht : (pc : Int) + off = (tgt : Int)) (h : ¬ x = 0) (kk : zz_Z p l e R s m args below meth c A D nL Q tgt lv st w cells slots) : zz_Z p l e R s m args below meth c A D nL Q pc lv (.int x :: st) w cells slots :=
  zr_if_ne hC hd ht (fun _ => kk) (fun q => absurd q h)
theorem zr_if_neF {x : Int32} {off : Int} {tgt : Nat} (hC : zz_C p s m args c A D tys nL cc own) (hd : decode cc pc = .ok (.ifCond .ne off, 3)) (ht : (pc : Int) + off = (tgt : Int)) (h : x = 0) (kk : zz_Z p l e R s m args below meth c A D nL Q (pc + 3) lv st w cells slots) : zz_Z p l e R s m args below meth c A D nL Q pc lv (.int x :: st) w cells slots :=
  zr_if_ne hC hd ht (fun q => absurd h q) (fun _ => kk)
theorem zr_if_ltT {x : Int32} {off : Int} {tgt : Nat} (hC : zz_C p s m args c A D tys nL cc own) (hd : decode cc pc = .ok (.ifCond .lt off, 3)) (ht : (pc : Int) + off = (tgt : Int)) (h : x < 0) (kk : zz_Z p l e R s m args below meth c A D nL Q tgt lv st w cells slots) : zz_Z p l e R s m args below meth c A D nL Q pc lv (.int x :: st) w cells slots :=
  zr_if_lt hC hd ht (fun _ => kk) (fun q => absurd h q)
theorem zr_if_ltF {x : Int32} {off : Int} {tgt : Nat} (hC : zz_C p s m args c A D tys nL cc own) (hd : decode cc pc = .ok (.ifCond .lt off, 3)) (ht : (pc : Int) + off = (tgt : Int)) (h : ¬ x < 0) (kk : zz_Z p l e R s m args below meth c A D nL Q (pc + 3) lv st w cells slots) : zz_Z p l e R s m args below meth c A D nL Q pc lv (.int x :: st) w cells slots :=
  zr_if_lt hC hd ht (fun q => absurd q h) (fun _ => kk)
theorem zr_if_geT {x : Int32} {off : Int} {tgt : Nat} (hC : zz_C p s m args c A D tys nL cc own) (hd : decode cc pc = .ok (.ifCond .ge off, 3)) (ht : (pc : Int) + off = (tgt : Int)) (h : 0 ≤ x) (kk : zz_Z p l e R s m args below meth c A D nL Q tgt lv st w cells slots) : zz_Z p l e R s m args below meth c A D nL Q pc lv (.int x :: st) w cells slots :=
  zr_if_ge hC hd ht (fun _ => kk) (fun q => absurd h q)
theorem zr_if_geF {x : Int32} {off : Int} {tgt : Nat} (hC : zz_C p s m args c A D tys nL cc own) (hd : decode cc pc = .ok (.ifCond .ge off, 3)) (ht : (pc : Int) + off = (tgt : Int)) (h : ¬ 0 ≤ x) (kk : zz_Z p l e R s m args below meth c A D nL Q (pc + 3) lv st w cells slots) : zz_Z p l e R s m args below meth c A D nL Q pc lv (.int x :: st) w cells slots :=
  zr_if_ge hC hd ht (fun q => absurd q h) (fun _ => kk)
theorem zr_if_gtT {x : Int32} {off : Int} {tgt : Nat} (hC : zz_C p s m args c A D tys nL cc own) (hd : decode cc pc = .ok (.ifCond .gt off, 3)) (ht : (pc : Int) + off = (tgt : Int)) (h : 0 < x) (kk : zz_Z p l e R s m args below meth c A D nL Q tgt lv st w cells slots) : zz_Z p l e R s m args below meth c A D nL Q pc lv (.int x :: st) w cells slots :=
  zr_if_gt hC hd ht (fun _ => kk) (fun q => absurd h q)
theorem zr_if_gtF {x : Int32} {off : Int} {tgt : Nat} (hC : zz_C p s m args c A D tys nL cc own) (hd : decode cc pc = .ok (.ifCond .gt off, 3)) (ht : (pc : Int) + off = (tgt : Int)) (h : ¬ 0 < x) (kk : zz_Z p l e R s m args below meth c A D nL Q (pc + 3) lv st w cells slots) : zz_Z p l e R s m args below meth c A D nL Q pc lv (.int x :: st) w cells slots :=
  zr_if_gt hC hd ht (fun q => absurd q h) (fun _ => kk)
theorem zr_if_leT {x : Int32} {off : Int} {tgt : Nat} (hC : zz_C p s m args c A D tys nL cc own) (hd : decode cc pc = .ok (.ifCond .le off, 3)) (ht : (pc : Int) + off = (tgt : Int)) (h : x ≤ 0) (kk : zz_Z p l e R s m args below meth c A D nL Q tgt lv st w cells slots) : zz_Z p l e R s m args below meth c A D nL Q pc lv (.int x :: st) w cells slots :=
  zr_if_le hC hd ht (fun _ => kk) (fun q => absurd h q)
theorem zr_if_leF {x : Int32} {off : Int} {tgt : Nat} (hC : zz_C p s m args c A D tys nL cc own) (hd : decode cc pc = .ok (.ifCond .le off, 3)) (ht : (pc : Int) + off = (tgt : Int)) (h : ¬ x ≤ 0) (kk : zz_Z p l e R s m args below meth c A D nL Q (pc + 3) lv st w cells slots) : zz_Z p l e R s m args below meth c A D nL Q pc lv (.int x :: st) w cells slots :=
  zr_if_le hC hd ht (fun q => absurd q h) (fun _ => kk)
end ZT
end
section
/-! ===== array rows by a natural place; numbers ===== -/
section ZG
variable {p : Program} {l : Launch} {e : Env} {R : Room} {s : State} {m : MethodId} {args : Array Value} {below : List Frame} {meth : Method} {c : Code} {A : Nat → Prop} {D : va_G} {tys : List (ClassId × FieldType)} {nL : Nat} {Q : State → Prop} {cc : ByteArray} {own : String} {pc : Nat} {lv : List (Nat × Value)} {st : List Value} {w : va_W} {cells slots : Nat}
theorem zr_iaj {a : Nat} {cA : ClassId} {n j : Nat} {f : Nat → Int32} {i : Int32} (q0 t0 : Nat) (hC : zz_C p s m args c A D tys nL cc own) (hd : decode cc pc = .ok (.iaload, 1)) (he : w[q0]? = some (a, .inl (cA, n, .inl f))) (ht : tys[t0]? = some (cA, .int)) (hj : j < n) (hi : i = nI j) (hn : n < 2 ^ 31) (kk : zz_Z p l e R s m args below meth c A D nL Q (pc + 1) lv (.int (f j) :: st) w cells slots) : zz_Z p l e R s m args below meth c A D nL Q pc lv (.int i :: .ref a :: st) w cells slots := by
  subst hi
  have hjj : (nI j).toNatClampNeg = j := nI_clamp (by omega)
  refine zr_iald q0 t0 hC hd he ht (vp_in_nI hj hn) ?_
  rw [hjj]; exact kk
theorem zr_iasj {a : Nat} {cA : ClassId} {n j : Nat} {f : Nat → Int32} {i x : Int32} {w' : va_W} (q0 t0 : Nat) (hC : zz_C p s m args c A D tys nL cc own) (hd : decode cc pc = .ok (.iastore, 1)) (he : w[q0]? = some (a, .inl (cA, n, .inl f))) (ht : tys[t0]? = some (cA, .int)) (hj : j < n) (hi : i = nI j) (hn : n < 2 ^ 31) (hw : w.set q0 (a, .inl (cA, n, .inl (upd f j x))) = w') (kk : zz_Z p l e R s m args below meth c A D nL Q (pc + 1) lv st w' cells slots) : zz_Z p l e R s m args below meth c A D nL Q pc lv (.int x :: .int i :: .ref a :: st) w cells slots := by
  subst hi
  have hjj : (nI j).toNatClampNeg = j := nI_clamp (by omega)
  refine zr_iast q0 t0 hC hd he ht (vp_in_nI hj hn) ?_ kk
  rw [hjj]; exact hw
theorem zr_aaj {a : Nat} {cA : ClassId} {n j : Nat} {f : Nat → Option Nat} {i : Int32} {ty : FieldType} (q0 t0 : Nat) (hC : zz_C p s m args c A D tys nL cc own) (hd : decode cc pc = .ok (.aaload, 1)) (he : w[q0]? = some (a, .inl (cA, n, .inr (.inr (.inr (.inr f)))))) (ht : tys[t0]? = some (cA, ty)) (hty : ty.isReference = true) (hj : j < n) (hi : i = nI j) (hn : n < 2 ^ 31) (kk : zz_Z p l e R s m args below meth c A D nL Q (pc + 1) lv (va_rf (f j) :: st) w cells slots) : zz_Z p l e R s m args below meth c A D nL Q pc lv (.int i :: .ref a :: st) w cells slots := by
  subst hi
  have hjj : (nI j).toNatClampNeg = j := nI_clamp (by omega)
  refine zr_aald q0 t0 hC hd he ht hty (vp_in_nI hj hn) ?_
  rw [hjj]; exact kk
theorem zr_asjN {a : Nat} {cA : ClassId} {n j : Nat} {f : Nat → Option Nat} {i : Int32} {w' : va_W} (q0 t0 : Nat) (hC : zz_C p s m args c A D tys nL cc own) (hd : decode cc pc = .ok (.aastore, 1)) (he : w[q0]? = some (a, .inl (cA, n, .inr (.inr (.inr (.inr f)))))) (ht : tys[t0]? = some (cA, .array .int)) (hj : j < n) (hi : i = nI j) (hn : n < 2 ^ 31) (hw : w.set q0 (a, .inl (cA, n, .inr (.inr (.inr (.inr (va_up f j none)))))) = w') (kk : zz_Z p l e R s m args below meth c A D nL Q (pc + 1) lv st w' cells slots) : zz_Z p l e R s m args below meth c A D nL Q pc lv (.null :: .int i :: .ref a :: st) w cells slots := by
  subst hi
  have hjj : (nI j).toNatClampNeg = j := nI_clamp (by omega)
  refine zr_astAN q0 t0 hC hd he ht (vp_in_nI hj hn) ?_ kk
  rw [hjj]; exact hw
theorem zr_asjA {a v : Nat} {cA cI : ClassId} {n k j : Nat} {f : Nat → Option Nat} {z : Nat → Int32} {i : Int32} {w' : va_W} (q0 t0 t1 qk : Nat) (hC : zz_C p s m args c A D tys nL cc own) (hd : decode cc pc = .ok (.aastore, 1)) (he : w[q0]? = some (a, .inl (cA, n, .inr (.inr (.inr (.inr f)))))) (ht : tys[t0]? = some (cA, .array .int)) (hv : w[qk]? = some (v, .inl (cI, k, .inl z))) (ht1 : tys[t1]? = some (cI, .int)) (hj : j < n) (hi : i = nI j) (hn : n < 2 ^ 31) (hw : w.set q0 (a, .inl (cA, n, .inr (.inr (.inr (.inr (va_up f j (some v))))))) = w') (kk : zz_Z p l e R s m args below meth c A D nL Q (pc + 1) lv st w' cells slots) : zz_Z p l e R s m args below meth c A D nL Q pc lv (.ref v :: .int i :: .ref a :: st) w cells slots := by
  subst hi
  have hjj : (nI j).toNatClampNeg = j := nI_clamp (by omega)
  refine zr_astA q0 t0 t1 qk hC hd he ht hv ht1 (vp_in_nI hj hn) ?_ kk
  rw [hjj]; exact hw
theorem zr_asjq {a v ci : Nat} {cA : ClassId} {r : vw_C} {n j : Nat} {vs : List Value} {f : Nat → Option Nat} {i : Int32} {w' : va_W} (q0 t0 qk : Nat) (hC : zz_C p s m args c A D tys nL cc own) (hd : decode cc pc = .ok (.aastore, 1)) (he : w[q0]? = some (a, .inl (cA, n, .inr (.inr (.inr (.inr f)))))) (ht : tys[t0]? = some (cA, .object r.1)) (hv : w[qk]? = some (v, .inr (ci, vs))) (hc : vwCl[ci]? = some r) (hj : j < n) (hi : i = nI j) (hn : n < 2 ^ 31) (hw : w.set q0 (a, .inl (cA, n, .inr (.inr (.inr (.inr (va_up f j (some v))))))) = w') (kk : zz_Z p l e R s m args below meth c A D nL Q (pc + 1) lv st w' cells slots) : zz_Z p l e R s m args below meth c A D nL Q pc lv (.ref v :: .int i :: .ref a :: st) w cells slots := by
  subst hi
  have hjj : (nI j).toNatClampNeg = j := nI_clamp (by omega)
  refine zr_astq q0 t0 qk hC hd he ht hv hc (vp_in_nI hj hn) ?_ kk
  rw [hjj]; exact hw
end ZG
theorem zn_of {x M : Int32} {n : Nat} (hM : M.toInt = n) (h : 0 ≤ x ∧ x < M) : ∃ j : Nat, j < n ∧ x = nI j := by
  obtain ⟨j, hj, rfl⟩ := nI_of (x := x) (Int32.not_lt.mpr h.1)
  refine ⟨j, ?_, rfl⟩
  have := Int32.lt_iff_toInt_lt.mp h.2
  rw [nI_toInt hj, hM] at this
  omega
theorem zn_b {b : Int32} (h : zk_b b) : ∃ j : Nat, j < 6 ∧ b = nI j := zn_of (n := 6) (by decide) h
theorem zn_s {s : Int32} (h : zk_s s) : ∃ j : Nat, j < 4 ∧ s = nI j := zn_of (n := 4) (by decide) h
theorem zl_nI {i j : Nat} (hi : i < 6) (hj : j < 4) : zl (nI i) (nI j) = 4 * i + j := by
  unfold zl
  rw [nI_clamp (by omega), nI_clamp (by omega)]
theorem zl_lt {b s : Int32} (hb : zk_b b) (hs : zk_s s) : zl b s < 24 := by
  obtain ⟨i, hi, rfl⟩ := zn_b hb
  obtain ⟨j, hj, rfl⟩ := zn_s hs
  rw [zl_nI hi hj]; omega
theorem zl_c {b s : Int32} (hb : zk_b b) (hs : zk_s s) : b * 4 + s = nI (zl b s) := by
  obtain ⟨i, hi, rfl⟩ := zn_b hb
  obtain ⟨j, hj, rfl⟩ := zn_s hs
  rw [zl_nI hi hj, show (4 : Int32) = nI 4 from rfl, pk_mul, nI_add, Nat.mul_comm]
theorem zl_m {b s : Int32} (hb : zk_b b) (hs : zk_s s) : 4 * b + s = nI (zl b s) := by
  obtain ⟨i, hi, rfl⟩ := zn_b hb
  obtain ⟨j, hj, rfl⟩ := zn_s hs
  rw [zl_nI hi hj, show (4 : Int32) = nI 4 from rfl, pk_mul, nI_add]
theorem zl_mod {b s : Int32} (hb : zk_b b) (hs : zk_s s) : zl b s % 4 = s.toNatClampNeg := by
  obtain ⟨i, hi, rfl⟩ := zn_b hb
  obtain ⟨j, hj, rfl⟩ := zn_s hs
  rw [zl_nI hi hj, nI_clamp (by omega)]; omega
theorem zl_inj {b s b' s' : Int32} (hb : zk_b b) (hs : zk_s s) (hb' : zk_b b') (hs' : zk_s s') (h : zl b s = zl b' s') : b = b' ∧ s = s' := by
  obtain ⟨i, hi, rfl⟩ := zn_b hb
  obtain ⟨j, hj, rfl⟩ := zn_s hs
  obtain ⟨i', hi', rfl⟩ := zn_b hb'
  obtain ⟨j', hj', rfl⟩ := zn_s hs'
  rw [zl_nI hi hj, zl_nI hi' hj'] at h
  exact ⟨by rw [show i = i' by omega], by rw [show j = j' by omega]⟩
theorem zk_s0 : zk_s 0 := by decide
theorem zk_s1 : zk_s 1 := by decide
theorem zk_s2 : zk_s 2 := by decide
theorem zk_s3 : zk_s 3 := by decide
theorem zf_cnt0 (a : ax_A) : zf_cnt 0 a = a := by
  show (_, _, _, _, _, _, aa_mi a + 0, aa_ou a + 0, aa_ne a + 0, _, _, _) = a
  rw [Int32.add_zero, Int32.add_zero, Int32.add_zero]
theorem zf_why_or (st : ax_ST) (k : Nat) (i : Int32) : zf_why st k i = 0 ∨ zf_why st k i = 2 ∨ zf_why st k i = 3 := by
  unfold zf_why
  cases st.1 k with
  | none => exact Or.inr (Or.inl rfl)
  | some n =>
    by_cases h : 0 ≤ i ∧ i < nI n
    · exact Or.inl (if_pos h)
    · exact Or.inr (Or.inr (if_neg h))
theorem zf_whyC_or (sh : ax_SH) (i j : Int32) : zf_whyC sh i j = 0 ∨ zf_whyC sh i j = 2 ∨ zf_whyC sh i j = 3 := by
  unfold zf_whyC
  split
  · exact Or.inr (Or.inl rfl)
  · split
    · split
      · split
        · exact Or.inl rfl
        · exact Or.inr (Or.inr rfl)
      · exact Or.inr (Or.inl rfl)
    · exact Or.inr (Or.inr rfl)
end
section
section ZA1
variable {l : Launch} {D : va_G} {cI cII cF : ClassId} {o rk sp pp fp mo m1 m2 m3 m4 m5 m6 m7 m8 m9 : Nat}
set_option maxRecDepth 100000 in
set_option maxHeartbeats 4000000 in
theorem c_X3_isBank {w : va_W} (b : Int32) : zz_Mi l D (zt cI cII cF) yX3_isBank cX3_isBank 1 (some .boolean) 0 0 0 0 [.int b] w (fun r w' => w' = w ∧ ((r = 1 ∧ zk_b b) ∨ (r = 0 ∧ ¬ zk_b b))) := by
  refine zz_mk (by decide) (Nat.le_of_ble_eq_true rfl) ?_
  intro p e s m below meth c A hC hr hk hnm
  have hC : zz_C p s m _ c A D (zt cI cII cF) 1 cX3_isBank RX3 := hC
  refine zr_iload_n 0 hC dX3_isBank_0 rfl rfl ?_
  refine zr_if_lt (tgt := 14) hC dX3_isBank_1 (by decide) (fun c1 => ?_) (fun c1 => ?_)
  · refine zr_iconst (v := (0 : Int32)) hC dX3_isBank_14 rfl ?_
    refine zr_zret hC hr hk dX3_isBank_15 rfl (by decide) (by decide) ⟨_, rfl, ?_⟩
    exact ⟨rfl, Or.inr ⟨rfl, fun h => absurd h.1 (Int32.not_le.mpr c1)⟩⟩
  · refine zr_iload_n 0 hC dX3_isBank_4 rfl rfl ?_
    refine zr_bipush (v := (6 : Int32)) hC dX3_isBank_5 rfl ?_
    refine zr_icmp_ge (tgt := 14) hC dX3_isBank_7 (by decide) (fun c7 => ?_) (fun c7 => ?_)
    · refine zr_iconst (v := (0 : Int32)) hC dX3_isBank_14 rfl ?_
      refine zr_zret hC hr hk dX3_isBank_15 rfl (by decide) (by decide) ⟨_, rfl, ?_⟩
      exact ⟨rfl, Or.inr ⟨rfl, fun h => absurd h.2 (Int32.not_lt.mpr c7)⟩⟩
    · refine zr_iconst (v := (1 : Int32)) hC dX3_isBank_10 rfl ?_
      refine zr_goto (tgt := 15) hC dX3_isBank_11 (by decide) ?_
      refine zr_zret hC hr hk dX3_isBank_15 rfl (by decide) (by decide) ⟨_, rfl, ?_⟩
      exact ⟨rfl, Or.inl ⟨rfl, Int32.not_lt.mp c1, Int32.not_le.mp c7⟩⟩
set_option maxRecDepth 100000 in
set_option maxHeartbeats 4000000 in
theorem c_X3_isStrip {w : va_W} (b : Int32) : zz_Mi l D (zt cI cII cF) yX3_isStrip cX3_isStrip 1 (some .boolean) 0 0 0 0 [.int b] w (fun r w' => w' = w ∧ ((r = 1 ∧ zk_s b) ∨ (r = 0 ∧ ¬ zk_s b))) := by
  refine zz_mk (by decide) (Nat.le_of_ble_eq_true rfl) ?_
  intro p e s m below meth c A hC hr hk hnm
  have hC : zz_C p s m _ c A D (zt cI cII cF) 1 cX3_isStrip RX3 := hC
  refine zr_iload_n 0 hC dX3_isStrip_0 rfl rfl ?_
  refine zr_if_lt (tgt := 13) hC dX3_isStrip_1 (by decide) (fun c1 => ?_) (fun c1 => ?_)
  · refine zr_iconst (v := (0 : Int32)) hC dX3_isStrip_13 rfl ?_
    refine zr_zret hC hr hk dX3_isStrip_14 rfl (by decide) (by decide) ⟨_, rfl, ?_⟩
    exact ⟨rfl, Or.inr ⟨rfl, fun h => absurd h.1 (Int32.not_le.mpr c1)⟩⟩
  · refine zr_iload_n 0 hC dX3_isStrip_4 rfl rfl ?_
    refine zr_iconst (v := (4 : Int32)) hC dX3_isStrip_5 rfl ?_
    refine zr_icmp_ge (tgt := 13) hC dX3_isStrip_6 (by decide) (fun c6 => ?_) (fun c6 => ?_)
    · refine zr_iconst (v := (0 : Int32)) hC dX3_isStrip_13 rfl ?_
      refine zr_zret hC hr hk dX3_isStrip_14 rfl (by decide) (by decide) ⟨_, rfl, ?_⟩
      exact ⟨rfl, Or.inr ⟨rfl, fun h => absurd h.2 (Int32.not_lt.mpr c6)⟩⟩
    · refine zr_iconst (v := (1 : Int32)) hC dX3_isStrip_9 rfl ?_
      refine zr_goto (tgt := 14) hC dX3_isStrip_10 (by decide) ?_
      refine zr_zret hC hr hk dX3_isStrip_14 rfl (by decide) (by decide) ⟨_, rfl, ?_⟩
      exact ⟨rfl, Or.inl ⟨rfl, Int32.not_lt.mp c1, Int32.not_le.mp c6⟩⟩
set_option maxRecDepth 100000 in
set_option maxHeartbeats 4000000 in
theorem c_X3_digitOf {w : va_W} (r0 : Int32) : zz_Mi l D (zt cI cII cF) yX3_digitOf cX3_digitOf 1 (some .int) 0 0 0 0 [.int r0] w (fun r w' => r = zf_dig r0 ∧ w' = w) := by
  refine zz_mk (by decide) (Nat.le_of_ble_eq_true rfl) ?_
  intro p e s m below meth c A hC hr hk hnm
  have hC : zz_C p s m _ c A D (zt cI cII cF) 1 cX3_digitOf RX3 := hC
  refine zr_iload_n 0 hC dX3_digitOf_0 rfl rfl ?_
  refine zr_iconst (v := (2 : Int32)) hC dX3_digitOf_1 rfl ?_
  refine zr_icmp_ne (tgt := 7) hC dX3_digitOf_2 (by decide) (fun c2 => ?_) (fun c2 => ?_)
  · refine zr_iload_n 0 hC dX3_digitOf_7 rfl rfl ?_
    refine zr_iconst (v := (3 : Int32)) hC dX3_digitOf_8 rfl ?_
    refine zr_icmp_ne (tgt := 16) hC dX3_digitOf_9 (by decide) (fun c9 => ?_) (fun c9 => ?_)
    · refine zr_iconst (v := (0 : Int32)) hC dX3_digitOf_16 rfl ?_
      refine zr_iret hC hr hk dX3_digitOf_17 (by decide) (by decide) ⟨_, rfl, ?_⟩
      exact ⟨by simp [zf_dig, c2, c9], rfl⟩
    · refine zr_iconst (v := (2 : Int32)) hC dX3_digitOf_12 rfl ?_
      refine zr_goto (tgt := 17) hC dX3_digitOf_13 (by decide) ?_
      refine zr_iret hC hr hk dX3_digitOf_17 (by decide) (by decide) ⟨_, rfl, ?_⟩
      exact ⟨by simp [zf_dig, c2, c9], rfl⟩
  · refine zr_iconst (v := (1 : Int32)) hC dX3_digitOf_5 rfl ?_
    refine zr_iret hC hr hk dX3_digitOf_6 (by decide) (by decide) ⟨_, rfl, ?_⟩
    exact ⟨by simp [zf_dig, c2], rfl⟩
set_option maxRecDepth 100000 in
set_option maxHeartbeats 4000000 in
theorem c_X3_asLevel {w : va_W} (v : Int32) : zz_Mi l D (zt cI cII cF) yX3_asLevel cX3_asLevel 1 (some .int) 1 21 0 0 [.int v] w (fun r w' => r = zf_lev v ∧ w' = w) := by
  refine zz_mk (by decide) (Nat.le_of_ble_eq_true rfl) ?_
  intro p e s m below meth c A hC hr hk hnm
  have hC : zz_C p s m _ c A D (zt cI cII cF) 1 cX3_asLevel RX3 := hC
  refine zr_ldc hC dX3_asLevel_0 kc_X3_187 ?_
  refine zr_ldc hC dX3_asLevel_2 kc_X3_188 ?_
  refine zr_iload_n 0 hC dX3_asLevel_4 rfl rfl ?_
  refine zr_min hC dX3_asLevel_5 ml_X3_189 ms_min in_Math mc_min (by decide) (Nat.le_of_ble_eq_true rfl) (by decide) (by decide) ?_
  refine zr_max hC dX3_asLevel_8 ml_X3_194 ms_max in_Math mc_max (by decide) (Nat.le_of_ble_eq_true rfl) (by decide) (by decide) ?_
  refine zr_iret hC hr hk dX3_asLevel_11 (by decide) (by decide) ⟨_, rfl, ?_⟩
  exact ⟨rfl, rfl⟩
set_option maxRecDepth 100000 in
set_option maxHeartbeats 4000000 in
theorem c_X3_asNumber {w : va_W} (s0 v : Int32) : zz_Mi l D (zt cI cII cF) yX3_asNumber cX3_asNumber 2 (some .int) 2 41 0 0 [.int s0, .int v] w (fun r w' => r = zf_num s0 v ∧ w' = w) := by
  refine zz_mk (by decide) (Nat.le_of_ble_eq_true rfl) ?_
  intro p e s m below meth c A hC hr hk hnm
  have hC : zz_C p s m _ c A D (zt cI cII cF) 2 cX3_asNumber RX3 := hC
  refine zr_iload_n 0 hC dX3_asNumber_0 rfl rfl ?_
  by_cases t1_0 : s0 = (0 : Int32)
  · refine zr_tableIn (tgt := 28) hC dX3_asNumber_1 (by rw [t1_0]; decide) (by rw [t1_0]; decide) (by rw [t1_0]; rfl) (by decide) ?_
    refine zr_iload_n 1 hC dX3_asNumber_28 rfl rfl ?_
    refine zr_ldc hC dX3_asNumber_29 kc_X3_186 ?_
    refine zr_iand hC dX3_asNumber_31 ?_
    refine zr_iret hC hr hk dX3_asNumber_32 (by decide) (by decide) ⟨_, rfl, ?_⟩
    exact ⟨by simp [zf_num, t1_0], rfl⟩
  by_cases t1_1 : s0 = (1 : Int32)
  · refine zr_tableIn (tgt := 33) hC dX3_asNumber_1 (by rw [t1_1]; decide) (by rw [t1_1]; decide) (by rw [t1_1]; rfl) (by decide) ?_
    refine zr_iload_n 1 hC dX3_asNumber_33 rfl rfl ?_
    refine zr_i2s hC dX3_asNumber_34 ?_
    refine zr_iret hC hr hk dX3_asNumber_35 (by decide) (by decide) ⟨_, rfl, ?_⟩
    exact ⟨by simp [zf_num, t1_0, t1_1], rfl⟩
  by_cases t1_2 : s0 = (2 : Int32)
  · refine zr_tableIn (tgt := 36) hC dX3_asNumber_1 (by rw [t1_2]; decide) (by rw [t1_2]; decide) (by rw [t1_2]; rfl) (by decide) ?_
    refine zr_iload_n 1 hC dX3_asNumber_36 rfl rfl ?_
    refine zr_cSi hC cs_X3_asLevel ml_X3_70 (c_X3_asLevel (w := w) v) dX3_asNumber_37 ⟨Nat.le_of_ble_eq_true rfl, Nat.le_of_ble_eq_true rfl⟩ ⟨Nat.le_of_ble_eq_true rfl, Nat.le_of_ble_eq_true rfl⟩ rfl rfl (Nat.le_of_ble_eq_true rfl) ?_
    rintro _ _ ⟨rfl, rfl⟩
    refine zr_iret hC hr hk dX3_asNumber_40 (by decide) (by decide) ⟨_, rfl, ?_⟩
    exact ⟨by simp [zf_num, t1_0, t1_1, t1_2], rfl⟩
  refine zr_tableOut (tgt := 41) hC dX3_asNumber_1 (by have e0 := lv_neT (a := 0) t1_0 rfl; have e1 := lv_neT (a := 1) t1_1 rfl; have e2 := lv_neT (a := 2) t1_2 rfl; omega) (by decide) ?_
  refine zr_iload_n 1 hC dX3_asNumber_41 rfl rfl ?_
  refine zr_iconst (v := (1 : Int32)) hC dX3_asNumber_42 rfl ?_
  refine zr_iand hC dX3_asNumber_43 ?_
  refine zr_iret hC hr hk dX3_asNumber_44 (by decide) (by decide) ⟨_, rfl, ?_⟩
  exact ⟨by simp [zf_num, t1_0, t1_1, t1_2], rfl⟩
set_option maxRecDepth 100000 in
set_option maxHeartbeats 4000000 in
theorem c_X0_nextLevel {w : va_W} {y0 q0 : Nat} {b0 p0 t0 s0 : Int32} (he : w[q0]? = some (y0, .inr (0, [.int b0, .int p0, .int t0, .int s0]))) (v : Int32) : zz_Mi l D (zt cI cII cF) yX0_nextLevel cX0_nextLevel 2 (some .int) 1 21 0 0 [.ref y0, .int v] w (fun r w' => r = zf_next t0 s0 v ∧ w' = w) := by
  refine zz_mk (by decide) (Nat.le_of_ble_eq_true rfl) ?_
  intro p e s m below meth c A hC hr hk hnm
  have hC : zz_C p s m _ c A D (zt cI cII cF) 2 cX0_nextLevel RX0 := hC
  refine zr_aload_n 0 hC dX0_nextLevel_0 rfl rfl ?_
  refine zr_get (v := .int t0) q0 2 hC iu_X0 rfl dX0_nextLevel_1 fl_X0_16 (by decide) he rfl ?_
  refine zr_iload_n 1 hC dX0_nextLevel_4 rfl rfl ?_
  refine zr_isub hC dX0_nextLevel_5 ?_
  refine zr_abs hC dX0_nextLevel_6 ml_X0_22 ms_abs in_Math mc_abs (by decide) (Nat.le_of_ble_eq_true rfl) (by decide) (by decide) ?_
  refine zr_aload_n 0 hC dX0_nextLevel_9 rfl rfl ?_
  refine zr_get (v := .int s0) q0 3 hC iu_X0 rfl dX0_nextLevel_10 fl_X0_19 (by decide) he rfl ?_
  refine zr_icmp_gt (tgt := 21) hC dX0_nextLevel_13 (by decide) (fun c13 => ?_) (fun c13 => ?_)
  · refine zr_iload_n 1 hC dX0_nextLevel_21 rfl rfl ?_
    refine zr_aload_n 0 hC dX0_nextLevel_22 rfl rfl ?_
    refine zr_get (v := .int t0) q0 2 hC iu_X0 rfl dX0_nextLevel_23 fl_X0_16 (by decide) he rfl ?_
    refine zr_icmp_ge (tgt := 38) hC dX0_nextLevel_26 (by decide) (fun c26 => ?_) (fun c26 => ?_)
    · refine zr_iload_n 1 hC dX0_nextLevel_38 rfl rfl ?_
      refine zr_aload_n 0 hC dX0_nextLevel_39 rfl rfl ?_
      refine zr_get (v := .int s0) q0 3 hC iu_X0 rfl dX0_nextLevel_40 fl_X0_19 (by decide) he rfl ?_
      refine zr_isub hC dX0_nextLevel_43 ?_
      refine zr_iret hC hr hk dX0_nextLevel_44 (by decide) (by decide) ⟨_, rfl, ?_⟩
      exact ⟨by unfold zf_next zf_abs; rw [if_neg (Int32.not_le.mpr c13), if_neg (Int32.not_lt.mpr c26)], rfl⟩
    · refine zr_iload_n 1 hC dX0_nextLevel_29 rfl rfl ?_
      refine zr_aload_n 0 hC dX0_nextLevel_30 rfl rfl ?_
      refine zr_get (v := .int s0) q0 3 hC iu_X0 rfl dX0_nextLevel_31 fl_X0_19 (by decide) he rfl ?_
      refine zr_iadd hC dX0_nextLevel_34 ?_
      refine zr_goto (tgt := 44) hC dX0_nextLevel_35 (by decide) ?_
      refine zr_iret hC hr hk dX0_nextLevel_44 (by decide) (by decide) ⟨_, rfl, ?_⟩
      exact ⟨by unfold zf_next zf_abs; rw [if_neg (Int32.not_le.mpr c13), if_pos (Int32.not_le.mp c26)], rfl⟩
  · refine zr_aload_n 0 hC dX0_nextLevel_16 rfl rfl ?_
    refine zr_get (v := .int t0) q0 2 hC iu_X0 rfl dX0_nextLevel_17 fl_X0_16 (by decide) he rfl ?_
    refine zr_iret hC hr hk dX0_nextLevel_20 (by decide) (by decide) ⟨_, rfl, ?_⟩
    exact ⟨by unfold zf_next zf_abs; rw [if_pos (Int32.not_lt.mp c13)], rfl⟩
end ZA1
end
section
/-! ===== the class's relation: what an operation does to it ===== -/
theorem zf_why_none {st : ax_ST} {k : Nat} {i : Int32} (h : st.1 k = none) : zf_why st k i = 2 := by
  unfold zf_why; rw [h]
theorem zf_why_some {st : ax_ST} {k n : Nat} {i : Int32} (h : st.1 k = some n) : zf_why st k i = if 0 ≤ i ∧ i < nI n then 0 else 3 := by
  unfold zf_why; rw [h]
theorem zf_why_in {st : ax_ST} {k : Nat} {i : Int32} (h : zf_why st k i = 0) : ∃ n, st.1 k = some n ∧ 0 ≤ i ∧ i < nI n := by
  cases e : st.1 k with
  | none => rw [zf_why_none e] at h; exact absurd h (by decide)
  | some n =>
    rw [zf_why_some e] at h
    by_cases hc : 0 ≤ i ∧ i < nI n
    · exact ⟨n, rfl, hc⟩
    · rw [if_neg hc] at h; exact absurd h (by decide)
theorem zn_lt {i : Int32} {n : Nat} (hn : n < 2 ^ 31) (h : 0 ≤ i ∧ i < nI n) : ∃ j : Nat, j < n ∧ i = nI j := zn_of (n := n) (nI_toInt hn) h
theorem ze_i_inj {c c' : ClassId} {n n' : Nat} {z z' : Nat → Int32} (h : ze_i c n z = ze_i c' n' z') : n = n' ∧ z = z' := by
  injection h with h1
  injection h1 with h2 h3
  injection h3 with h4 h5
  injection h5 with h6
  exact ⟨h4, h6⟩
section ZPC
variable {cI cII : ClassId} {a : ax_A} {x : cx_X}
theorem rc_why0 (hR : rc_Q cI cII a x) {k : Nat} {i : Int32} (hk : k < 24) (h : zf_why (aa_st a) k i = 0) : ∃ (q n : Nat) (z : Nat → Int32) (j : Nat), cx_f x k = some q ∧ q ∈ cx_L x ∧ cx_ent x q = ze_i cI n z ∧ n ≤ 24 ∧ (aa_st a).1 k = some n ∧ j < n ∧ i = nI j ∧ z j = zf_val (aa_st a) k i := by
  obtain ⟨n, h1, h2⟩ := zf_why_in h
  cases e : cx_f x k with
  | none => rw [(hR.1.1 k hk).mp e] at h1; cases h1
  | some q =>
    obtain ⟨g1, n', z, g2, g3, g4, g5⟩ := hR.1.2.1 k q hk e
    cases h1.symm.trans g4
    obtain ⟨j, hj, rfl⟩ := zn_lt (by omega) h2
    refine ⟨q, n, z, j, rfl, g1, g2, g3, h1, hj, rfl, ?_⟩
    rw [g5 j hj, zf_val, nI_clamp (by omega)]
theorem rc_len (hR : rc_Q cI cII a x) {k q : Nat} (hk : k < 24) (h : cx_f x k = some q) : ∃ (n : Nat) (z : Nat → Int32), q ∈ cx_L x ∧ cx_ent x q = ze_i cI n z ∧ n ≤ 24 ∧ (aa_st a).1 k = some n := by
  obtain ⟨g1, n, z, g2, g3, g4, -⟩ := hR.1.2.1 k q hk h
  exact ⟨n, z, g1, g2, g3, g4⟩
theorem rc_none (hR : rc_Q cI cII a x) {k : Nat} (hk : k < 24) (h : cx_f x k = none) : (aa_st a).1 k = none := (hR.1.1 k hk).mp h
/-- only counts, the STATUS and what was found have changed -/
theorem rc_Q.keep (hR : rc_Q cI cII a x) {a' : ax_A} {x' : cx_X} (h1 : aa_st a' = aa_st a) (h2 : aa_sh a' = aa_sh a) (h4 : cx_f x' = cx_f x) (h6 : cx_rw x' = cx_rw x) (h7 : cx_L x' = cx_L x) (h8 : cx_ent x' = cx_ent x) : rc_Q cI cII a' x' := by
  unfold rc_Q
  rw [h1, h2, h4, h6, h7, h8]
  exact hR
theorem rc_put (hR : rc_Q cI cII a x) {k q n j : Nat} {z : Nat → Int32} (hk : k < 24) (hf : cx_f x k = some q) (he : cx_ent x q = ze_i cI n z) (hj : j < n) (hn : n ≤ 24) (v : Int32) : rc_Q cI cII (zf_set a k (nI j) v) (ck_ent x (va_up (cx_ent x) q (ze_i cI n (upd z j v)))) := by
  obtain ⟨⟨s1, s2, s3⟩, ⟨t1, t2⟩⟩ := hR
  have hjj : (nI j).toNatClampNeg = j := nI_clamp (by omega)
  refine ⟨⟨s1, fun k' q' hk' hf' => ?_, s3⟩, ⟨t1, fun qr hqr => ?_⟩⟩
  · obtain ⟨g1, n', z', g2, g3, g4, g5⟩ := s2 k' q' hk' hf'
    refine ⟨g1, ?_⟩
    have hsame : (aa_st a).2.2 k k' = true ↔ cx_f x k = cx_f x k' := s3 k k' hk hk' (by rw [hf]; exact fun h => by cases h) (by rw [hf']; exact fun h => by cases h)
    by_cases hqq : q' = q
    · subst hqq
      obtain ⟨rfl, rfl⟩ := ze_i_inj (he.symm.trans g2)
      refine ⟨n, upd z j v, va_up_self _ _ _, g3, g4, fun i hi => ?_⟩
      have hs : (aa_st a).2.2 k k' = true := hsame.mpr (hf.trans hf'.symm)
      show upd z j v i = if (aa_st a).2.2 k k' = true ∧ i = (nI j).toNatClampNeg then v else (aa_st a).2.1 k' i
      rw [hjj]
      by_cases hij : i = j
      · subst hij
        rw [pk_us, if_pos ⟨hs, rfl⟩]
      · rw [pk_un hij, if_neg (fun h => hij h.2), g5 i hi]
    · refine ⟨n', z', (va_up_ne _ _ hqq).trans g2, g3, g4, fun i hi => ?_⟩
      show z' i = if (aa_st a).2.2 k k' = true ∧ i = (nI j).toNatClampNeg then v else (aa_st a).2.1 k' i
      rw [if_neg, g5 i hi]
      intro h
      have := hsame.mp h.1
      rw [hf, hf'] at this
      exact hqq (Option.some.inj this).symm
  · obtain ⟨g1, n', m, h, g2, g3, g4, g5, g6, g7, g8⟩ := t2 qr hqr
    have hne : qr ≠ q := fun e => by rw [e, he] at g5; cases g5
    refine ⟨g1, n', m, h, g2, g3, g4, (va_up_ne _ _ hne).trans g5, g6, fun i y hi hy => ?_, g8⟩
    obtain ⟨k1, ⟨z1, k2, k3⟩, k4⟩ := g7 i y hi hy
    have hyq : y ≠ q := fun e => k4 k hk (by rw [hf, e])
    exact ⟨k1, ⟨z1, (va_up_ne _ _ hyq).trans k2, k3⟩, k4⟩
theorem rc_hang (hR : rc_Q cI cII a x) {k q n : Nat} (hk : k < 24) (hq : q ∉ cx_L x) (hn : n ≤ 24) : rc_Q cI cII (as_st a (zf_hangS (aa_st a) k n)) (cx_run x, cx_fnd x, va_up (cx_f x) k (some q), cx_g x, cx_rw x, cx_L x ++ [q], va_up (cx_ent x) q (ze_i cI n (fun _ => 0))) := by
  obtain ⟨⟨s1, s2, s3⟩, ⟨t1, t2⟩⟩ := hR
  have old : ∀ y, y ∈ cx_L x → y ≠ q := fun y hy e => hq (e ▸ hy)
  have inL : ∀ y, y ∈ cx_L x → y ∈ cx_L x ++ [q] := fun y hy => List.mem_append_left _ hy
  have fnq : ∀ j, j < 24 → ¬ cx_f x j = some q := fun j hj h => hq (s2 j q hj h).1
  refine ⟨⟨fun j hj => ?_, fun k' q' hk' hf' => ?_, fun i j hi hj hfi hfj => ?_⟩, ⟨t1, fun qr hqr => ?_⟩⟩
  · show va_up (cx_f x) k (some q) j = none ↔ (if j = k then some n else (aa_st a).1 j) = none
    by_cases hjk : j = k
    · subst hjk
      rw [va_up_self, if_pos rfl]
      exact ⟨fun h => (by cases h), fun h => (by cases h)⟩
    · rw [va_up_ne _ _ hjk, if_neg hjk]
      exact s1 j hj
  · by_cases hjk : k' = k
    · subst hjk
      have : q' = q := by
        have h2 : va_up (cx_f x) k' (some q) k' = some q' := hf'
        rw [va_up_self] at h2
        exact (Option.some.inj h2).symm
      subst this
      refine ⟨List.mem_append_right _ (List.mem_singleton.mpr rfl), n, fun _ => 0, va_up_self _ _ _, hn, ?_, fun i hi => ?_⟩
      · show (if k' = k' then some n else (aa_st a).1 k') = some n
        rw [if_pos rfl]
      · show (0 : Int32) = if k' = k' then 0 else (aa_st a).2.1 k' i
        rw [if_pos rfl]
    · have h2 : cx_f x k' = some q' := (va_up_ne _ _ hjk).symm.trans hf'
      obtain ⟨g1, n', z', g2, g3, g4, g5⟩ := s2 k' q' hk' h2
      refine ⟨inL _ g1, n', z', (va_up_ne _ _ (old _ g1)).trans g2, g3, ?_, fun i hi => ?_⟩
      · show (if k' = k then some n else (aa_st a).1 k') = some n'
        rw [if_neg hjk]; exact g4
      · show z' i = if k' = k then 0 else (aa_st a).2.1 k' i
        rw [if_neg hjk]; exact g5 i hi
  · show (if i = k ∨ j = k then decide (i = j) else (aa_st a).2.2 i j) = true ↔ va_up (cx_f x) k (some q) i = va_up (cx_f x) k (some q) j
    by_cases hik : i = k <;> by_cases hjk : j = k
    · subst hik; subst hjk
      simp
    · subst hik
      rw [if_pos (Or.inl rfl), va_up_self, va_up_ne _ _ hjk, decide_eq_true_iff]
      exact ⟨fun h => absurd h.symm hjk, fun h => absurd h.symm (fnq j hj)⟩
    · subst hjk
      rw [if_pos (Or.inr rfl), va_up_self, va_up_ne _ _ hik, decide_eq_true_iff]
      exact ⟨fun h => absurd h hik, fun h => absurd h (fnq i hi)⟩
    · rw [if_neg (by rintro (h | h); exact hik h; exact hjk h), va_up_ne _ _ hik, va_up_ne _ _ hjk]
      exact s3 i j hi hj (fun h => hfi ((va_up_ne _ _ hik).trans h)) (fun h => hfj ((va_up_ne _ _ hjk).trans h))
  · obtain ⟨g1, n', m, h, g2, g3, g4, g5, g6, g7, g8⟩ := t2 qr hqr
    refine ⟨inL _ g1, n', m, h, g2, g3, g4, (va_up_ne _ _ (old _ g1)).trans g5, g6, fun i y hi hy => ?_, g8⟩
    obtain ⟨k1, ⟨z1, k2, k3⟩, k4⟩ := g7 i y hi hy
    refine ⟨inL _ k1, ⟨z1, (va_up_ne _ _ (old _ k1)).trans k2, k3⟩, fun j hj hfj => ?_⟩
    have hfj : va_up (cx_f x) k (some q) j = some y := hfj
    by_cases hjk : j = k
    · subst hjk
      rw [va_up_self] at hfj
      exact old _ k1 (Option.some.inj hfj).symm
    · rw [va_up_ne _ _ hjk] at hfj
      exact k4 j hj hfj
theorem rc_strike (hR : rc_Q cI cII a x) {k : Nat} : rc_Q cI cII (as_st a (zf_strikeS (aa_st a) k)) (ck_f x (va_up (cx_f x) k none)) := by
  obtain ⟨⟨s1, s2, s3⟩, ⟨t1, t2⟩⟩ := hR
  have key : ∀ j q, va_up (cx_f x) k none j = some q → j ≠ k ∧ cx_f x j = some q := by
    intro j q h
    by_cases hjk : j = k
    · subst hjk
      rw [va_up_self] at h
      cases h
    · exact ⟨hjk, (va_up_ne _ _ hjk).symm.trans h⟩
  have key2 : ∀ j, ¬ va_up (cx_f x) k none j = none → j ≠ k ∧ va_up (cx_f x) k none j = cx_f x j := by
    intro j h
    by_cases hjk : j = k
    · subst hjk
      exact absurd (va_up_self _ _ _) h
    · exact ⟨hjk, va_up_ne _ _ hjk⟩
  refine ⟨⟨fun j hj => ?_, fun k' q' hk' hf' => ?_, fun i j hi hj hfi hfj => ?_⟩, ⟨t1, fun qr hqr => ?_⟩⟩
  · show va_up (cx_f x) k none j = none ↔ (if j = k then none else (aa_st a).1 j) = none
    by_cases hjk : j = k
    · subst hjk
      rw [va_up_self, if_pos rfl]
    · rw [va_up_ne _ _ hjk, if_neg hjk]
      exact s1 j hj
  · obtain ⟨h1, h2⟩ := key k' q' hf'
    obtain ⟨g1, n', z', g2, g3, g4, g5⟩ := s2 k' q' hk' h2
    refine ⟨g1, n', z', g2, g3, ?_, g5⟩
    show (if k' = k then none else (aa_st a).1 k') = some n'
    rw [if_neg h1]; exact g4
  · obtain ⟨h1, h2⟩ := key2 i hfi
    obtain ⟨h3, h4⟩ := key2 j hfj
    show (aa_st a).2.2 i j = true ↔ va_up (cx_f x) k none i = va_up (cx_f x) k none j
    rw [h2, h4]
    exact s3 i j hi hj (fun h => hfi (h2.trans h)) (fun h => hfj (h4.trans h))
  · obtain ⟨g1, n', m, h, g2, g3, g4, g5, g6, g7, g8⟩ := t2 qr hqr
    refine ⟨g1, n', m, h, g2, g3, g4, g5, g6, fun i y hi hy => ?_, g8⟩
    obtain ⟨k1, k2, k4⟩ := g7 i y hi hy
    exact ⟨k1, k2, fun j hj hfj => k4 j hj (key j y hfj).2⟩
theorem rc_share (hR : rc_Q cI cII a x) {k k0 : Nat} (hk0 : k0 < 24) : rc_Q cI cII (as_st a (zf_shareS (aa_st a) k k0)) (ck_f x (va_up (cx_f x) k (cx_f x k0))) := by
  obtain ⟨⟨s1, s2, s3⟩, ⟨t1, t2⟩⟩ := hR
  have key : ∀ j, va_up (cx_f x) k (cx_f x k0) j = cx_f x (zf_rho k k0 j) := by
    intro j
    by_cases hjk : j = k
    · subst hjk
      rw [va_up_self, zf_rho, if_pos rfl]
    · rw [va_up_ne _ _ hjk, zf_rho, if_neg hjk]
  have lt : ∀ j, j < 24 → zf_rho k k0 j < 24 := by
    intro j hj
    unfold zf_rho
    by_cases hjk : j = k
    · rw [if_pos hjk]; exact hk0
    · rw [if_neg hjk]; exact hj
  refine ⟨⟨fun j hj => ?_, fun k' q' hk' hf' => ?_, fun i j hi hj hfi hfj => ?_⟩, ⟨t1, fun qr hqr => ?_⟩⟩
  · show va_up (cx_f x) k (cx_f x k0) j = none ↔ (aa_st a).1 (zf_rho k k0 j) = none
    rw [key]
    exact s1 _ (lt j hj)
  · have hf' : va_up (cx_f x) k (cx_f x k0) k' = some q' := hf'
    rw [key] at hf'
    exact s2 _ q' (lt k' hk') hf'
  · have hfi : ¬ va_up (cx_f x) k (cx_f x k0) i = none := hfi
    have hfj : ¬ va_up (cx_f x) k (cx_f x k0) j = none := hfj
    show (aa_st a).2.2 (zf_rho k k0 i) (zf_rho k k0 j) = true ↔ va_up (cx_f x) k (cx_f x k0) i = va_up (cx_f x) k (cx_f x k0) j
    rw [key] at hfi hfj
    rw [key, key]
    exact s3 _ _ (lt i hi) (lt j hj) hfi hfj
  · obtain ⟨g1, n', m, h, g2, g3, g4, g5, g6, g7, g8⟩ := t2 qr hqr
    refine ⟨g1, n', m, h, g2, g3, g4, g5, g6, fun i y hi hy => ?_, g8⟩
    obtain ⟨k1, k2, k4⟩ := g7 i y hi hy
    refine ⟨k1, k2, fun j hj hfj => ?_⟩
    have hfj : va_up (cx_f x) k (cx_f x k0) j = some y := hfj
    rw [key] at hfj
    exact k4 _ (lt j hj) hfj
theorem rc_F.keep {fd : ax_FD} {g : Nat → Option Nat} {off : Nat} {x' : cx_X} (h : rc_F fd g (cx_L x) (cx_ent x) off) (hk : cx_K x x') : rc_F fd g (cx_L x') (cx_ent x') off := by
  intro j q hj
  obtain ⟨b1, y, b2, b3, b4⟩ := h j q hj
  exact ⟨b1, y, b2, hk.2.2.1 y b3, hk.2.2.2 y _ b3 b4⟩
theorem cx_K.rf : cx_K x x := ⟨rfl, rfl, fun _ h => h, fun _ _ _ h => h⟩
theorem cx_K.tr {x' x'' : cx_X} (h : cx_K x x') (h' : cx_K x' x'') : cx_K x x'' := ⟨h'.1.trans h.1, h'.2.1.trans h.2.1, fun y hy => h'.2.2.1 y (h.2.2.1 y hy), fun y q hy e => h'.2.2.2 y q (h.2.2.1 y hy) (h.2.2.2 y q hy e)⟩
theorem cx_K.fnd {x' : cx_X} (h : cx_K x x') (v : Int32) : cx_K x (ck_fnd x' v) := h
theorem cx_K.put {q : Nat} {e : va_E} {e0 : ClassId × vp_A} (he : cx_ent x q = .inl e0) : cx_K x (ck_ent x (va_up (cx_ent x) q e)) := ⟨rfl, rfl, fun _ h => h, fun y o _ h => by
  have hne : y ≠ q := fun h2 => by rw [h2, he] at h; cases h
  exact (va_up_ne _ _ hne).trans h⟩
theorem cx_K.new {q : Nat} {e : va_E} {f : Nat → Option Nat} {rw : Option Nat} (hq : q ∉ cx_L x) : cx_K x (cx_run x, cx_fnd x, f, cx_g x, rw, cx_L x ++ [q], va_up (cx_ent x) q e) := ⟨rfl, rfl, fun _ h => List.mem_append_left _ h, fun y o hy h => by
  have hne : y ≠ q := fun h2 => hq (h2 ▸ hy)
  exact (va_up_ne _ _ hne).trans h⟩
/-- the relation behind a call that leaves the fades as they are -/
theorem rc_R.of {a' : ax_A} {x' : cx_X} (hR : rc_R cI cII a x) (hQ : rc_Q cI cII a' x') (hk : cx_K x x') (hf : aa_fd a' = aa_fd a) : rc_R cI cII a' x' := by
  refine ⟨hQ, ?_, ?_, ?_⟩
  · rw [hf, hk.2.1]; exact hR.2.1.keep hk
  · rw [hf, hk.1]; exact hR.2.2.1
  · rw [hf]; exact hR.2.2.2
end ZPC
section ZPW
variable {A : Nat → Prop} {o rk sp pp fp : Nat} {cII cF : ClassId} {a : ax_A} {x : cx_X}
theorem cw_get {q : Nat} {E : va_E} (hq : q ∈ cx_L x) (he : cx_ent x q = E) : ∃ k : Nat, (cw_W o rk sp pp fp cII cF a x)[k]? = some (q, E) := by
  subst he
  exact va_pl_get (X := cw_X o rk sp pp fp cII cF a x) hq
theorem cw_set {q k : Nat} {E E' : va_E} (hq : q ∈ cx_L x) (he : cx_ent x q = E) (hk : (cw_W o rk sp pp fp cII cF a x)[k]? = some (q, E)) (hD : va_D A (cw_W o rk sp pp fp cII cF a x)) : (cw_W o rk sp pp fp cII cF a x).set k (q, E') = cw_W o rk sp pp fp cII cF a (ck_ent x (va_up (cx_ent x) q E')) := by
  subst he
  exact va_pl_set (X := cw_X o rk sp pp fp cII cF a x) hD hq hk
theorem cw_push {q : Nat} {E : va_E} (hD : va_D A (cw_W o rk sp pp fp cII cF a x ++ [(q, E)])) : q ∉ cx_L x ∧ cw_W o rk sp pp fp cII cF a x ++ [(q, E)] = cw_W o rk sp pp fp cII cF a (ck_ent (ck_L x (cx_L x ++ [q])) (va_up (cx_ent x) q E)) := by
  have hq : q ∉ cx_L x := va_pl_fresh2 (X := cw_X o rk sp pp fp cII cF a x) hD
  refine ⟨hq, ?_⟩
  show (cw_X o rk sp pp fp cII cF a x ++ va_pl (cx_L x) (cx_ent x)) ++ [(q, E)] = cw_X o rk sp pp fp cII cF a x ++ va_pl (cx_L x ++ [q]) (va_up (cx_ent x) q E)
  rw [List.append_assoc, va_pl_push hq]
end ZPW
section ZGD
variable {p : Program} {l : Launch} {e : Env} {R : Room} {s : State} {m : MethodId} {args : Array Value} {below : List Frame} {meth : Method} {c : Code} {A : Nat → Prop} {D : va_G} {tys : List (ClassId × FieldType)} {nL : Nat} {Q : State → Prop} {cc : ByteArray} {own : String} {pc : Nat} {lv : List (Nat × Value)} {st : List Value} {w : va_W} {cells slots : Nat}
/-- what is said of the world's cells may use that they are apart -/
theorem zr_apart (kk : va_D A w → zz_Z p l e R s m args below meth c A D nL Q pc lv st w cells slots) : zz_Z p l e R s m args below meth c A D nL Q pc lv st w cells slots :=
  fun ls H locs hl hP hD hS => kk hD ls H locs hl hP hD hS
end ZGD
end
section
section ZA2
variable {l : Launch} {D : va_G} {cI cII cF : ClassId} {o rk sp pp fp mo m1 m2 m3 m4 m5 m6 m7 m8 m9 : Nat}
variable {a : ax_A} {x : cx_X}
set_option maxRecDepth 100000 in
set_option maxHeartbeats 4000000 in
theorem c_X2_stripOf {b s0 : Int32} (hb : zk_b b) (hs : zk_s s0) : zz_Mr l D (zt cI cII cF) yX2_stripOf cX2_stripOf 3 (some (.array .int)) 0 0 0 0 [.ref rk, .int b, .int s0] (cw_W o rk sp pp fp cII cF a x) (fun r w' => r = cx_f x (zl b s0) ∧ w' = (cw_W o rk sp pp fp cII cF a x)) := by
  refine zz_mk (by decide) (Nat.le_of_ble_eq_true rfl) ?_
  intro p e s m below meth c A hC hr hk hnm
  have hC : zz_C p s m _ c A D (zt cI cII cF) 3 cX2_stripOf RX2 := hC
  refine zr_aload_n 0 hC dX2_stripOf_0 rfl rfl ?_
  refine zr_get (v := .ref sp) 1 0 hC iu_X2 rfl dX2_stripOf_1 fl_X2_11 (by decide) rfl rfl ?_
  refine zr_iload_n 1 hC dX2_stripOf_4 rfl rfl ?_
  refine zr_iconst (v := (4 : Int32)) hC dX2_stripOf_5 rfl ?_
  refine zr_imul hC dX2_stripOf_6 ?_
  refine zr_iload_n 2 hC dX2_stripOf_7 rfl rfl ?_
  refine zr_iadd hC dX2_stripOf_8 ?_
  refine zr_aaj (f := (cx_f x)) (j := zl b s0) 2 1 hC dX2_stripOf_9 rfl rfl rfl (zl_lt hb hs) (zl_c hb hs) (by decide) ?_
  refine zr_aret (v := ((cx_f x) (zl b s0))) hC hr hk dX2_stripOf_10 (by decide) (by decide) ⟨_, rfl, ?_⟩
  exact ⟨rfl, rfl⟩
set_option maxRecDepth 100000 in
set_option maxHeartbeats 4000000 in
theorem c_X2_replaceN {b s0 : Int32} (hb : zk_b b) (hs : zk_s s0) : zz_Mv l D (zt cI cII cF) yX2_replace cX2_replace 4 none 0 0 0 0 [.ref rk, .int b, .int s0, .null] (cw_W o rk sp pp fp cII cF a x) (fun w' => w' = (cw_W o rk sp pp fp cII cF a (ck_f x (va_up (cx_f x) (zl b s0) none)))) := by
  refine zz_mk (by decide) (Nat.le_of_ble_eq_true rfl) ?_
  intro p e s m below meth c A hC hr hk hnm
  have hC : zz_C p s m _ c A D (zt cI cII cF) 4 cX2_replace RX2 := hC
  refine zr_aload_n 0 hC dX2_replace_0 rfl rfl ?_
  refine zr_get (v := .ref sp) 1 0 hC iu_X2 rfl dX2_replace_1 fl_X2_11 (by decide) rfl rfl ?_
  refine zr_iload_n 1 hC dX2_replace_4 rfl rfl ?_
  refine zr_iconst (v := (4 : Int32)) hC dX2_replace_5 rfl ?_
  refine zr_imul hC dX2_replace_6 ?_
  refine zr_iload_n 2 hC dX2_replace_7 rfl rfl ?_
  refine zr_iadd hC dX2_replace_8 ?_
  refine zr_aload_nN 3 hC dX2_replace_9 rfl rfl ?_
  refine zr_asjN (j := zl b s0) (w' := (cw_W o rk sp pp fp cII cF a (ck_f x (va_up (cx_f x) (zl b s0) none)))) 2 1 hC dX2_replace_10 rfl rfl (zl_lt hb hs) (zl_c hb hs) (by decide) rfl ?_
  refine zr_vret hC hr hk dX2_replace_11 (by decide) (by decide) ⟨rfl, ?_⟩
  exact rfl
set_option maxRecDepth 100000 in
set_option maxHeartbeats 4000000 in
theorem c_X2_replaceA {b s0 : Int32} {q n : Nat} {z : Nat → Int32} (hq : q ∈ cx_L x) (he : cx_ent x q = ze_i cI n z) (hb : zk_b b) (hs : zk_s s0) : zz_Mv l D (zt cI cII cF) yX2_replace cX2_replace 4 none 0 0 0 0 [.ref rk, .int b, .int s0, .ref q] (cw_W o rk sp pp fp cII cF a x) (fun w' => w' = (cw_W o rk sp pp fp cII cF a (ck_f x (va_up (cx_f x) (zl b s0) (some q))))) := by
  refine zz_mk (by decide) (Nat.le_of_ble_eq_true rfl) ?_
  intro p e s m below meth c A hC hr hk hnm
  have hC : zz_C p s m _ c A D (zt cI cII cF) 4 cX2_replace RX2 := hC
  obtain ⟨k0, hk0⟩ := cw_get (o := o) (rk := rk) (sp := sp) (pp := pp) (fp := fp) (cII := cII) (cF := cF) (a := a) hq he
  refine zr_aload_n 0 hC dX2_replace_0 rfl rfl ?_
  refine zr_get (v := .ref sp) 1 0 hC iu_X2 rfl dX2_replace_1 fl_X2_11 (by decide) rfl rfl ?_
  refine zr_iload_n 1 hC dX2_replace_4 rfl rfl ?_
  refine zr_iconst (v := (4 : Int32)) hC dX2_replace_5 rfl ?_
  refine zr_imul hC dX2_replace_6 ?_
  refine zr_iload_n 2 hC dX2_replace_7 rfl rfl ?_
  refine zr_iadd hC dX2_replace_8 ?_
  refine zr_aload_n 3 hC dX2_replace_9 rfl rfl ?_
  refine zr_asjA (j := zl b s0) (w' := (cw_W o rk sp pp fp cII cF a (ck_f x (va_up (cx_f x) (zl b s0) (some q))))) 2 1 0 k0 hC dX2_replace_10 rfl rfl hk0 rfl (zl_lt hb hs) (zl_c hb hs) (by decide) rfl ?_
  refine zr_vret hC hr hk dX2_replace_11 (by decide) (by decide) ⟨rfl, ?_⟩
  exact rfl
set_option maxRecDepth 100000 in
set_option maxHeartbeats 4000000 in
theorem c_X2_refusalAt (hR : rc_Q cI cII a x) {b s0 : Int32} (i : Int32) (hb : zk_b b) (hs : zk_s s0) : zz_Mi l D (zt cI cII cF) yX2_refusalAt cX2_refusalAt 5 (some .int) 1 22 0 0 [.ref rk, .int b, .int s0, .int i] (cw_W o rk sp pp fp cII cF a x) (fun r w' => r = zf_why (aa_st a) (zl b s0) i ∧ w' = (cw_W o rk sp pp fp cII cF a x)) := by
  refine zz_mk (by decide) (Nat.le_of_ble_eq_true rfl) ?_
  intro p e s m below meth c A hC hr hk hnm
  have hC : zz_C p s m _ c A D (zt cI cII cF) 5 cX2_refusalAt RX2 := hC
  refine zr_aload_n 0 hC dX2_refusalAt_0 rfl rfl ?_
  refine zr_iload_n 1 hC dX2_refusalAt_1 rfl rfl ?_
  refine zr_iload_n 2 hC dX2_refusalAt_2 rfl rfl ?_
  refine zr_cVr 1 hC cv_X2_stripOf ml_X2_17 (c_X2_stripOf (a := a) (x := x) hb hs) dX2_refusalAt_3 ⟨Nat.le_of_ble_eq_true rfl, Nat.le_of_ble_eq_true rfl⟩ ⟨Nat.le_of_ble_eq_true rfl, Nat.le_of_ble_eq_true rfl⟩ rfl rfl rfl rfl rfl (Nat.le_of_ble_eq_true rfl) ?_
  rintro r0 _ ⟨hr0, rfl⟩
  refine zr_rf (fun hn => ?_) (fun q hn => ?_)
  · subst hn
    refine zr_astoreN (lv' := [(4, .null), (0, .ref rk), (1, .int b), (2, .int s0), (3, .int i)]) hC dX2_refusalAt_6 (by decide) rfl ?_
    refine zr_aloadN 0 hC dX2_refusalAt_8 rfl ?_
    refine zr_ifnonnullN hC dX2_refusalAt_10 ?_
    refine zr_iconst (v := (2 : Int32)) hC dX2_refusalAt_13 rfl ?_
    refine zr_iret hC hr hk dX2_refusalAt_14 (by decide) (by decide) ⟨_, rfl, ?_⟩
    exact ⟨(zf_why_none (rc_none hR (zl_lt hb hs) hr0.symm)).symm, rfl⟩
  · subst hn
    obtain ⟨n, z, hL, he, h24, hlen⟩ := rc_len hR (zl_lt hb hs) hr0.symm
    obtain ⟨k0, hk0⟩ := cw_get (o := o) (rk := rk) (sp := sp) (pp := pp) (fp := fp) (cII := cII) (cF := cF) (a := a) hL he
    refine zr_astore (lv' := [(4, .ref q), (0, .ref rk), (1, .int b), (2, .int s0), (3, .int i)]) hC dX2_refusalAt_6 (by decide) rfl ?_
    refine zr_aload 0 hC dX2_refusalAt_8 rfl ?_
    refine zr_ifnonnull (tgt := 15) hC dX2_refusalAt_10 (by decide) ?_
    refine zr_iload_n 4 hC dX2_refusalAt_15 rfl rfl ?_
    refine zr_if_lt (tgt := 30) hC dX2_refusalAt_16 (by decide) (fun c16 => ?_) (fun c16 => ?_)
    · refine zr_iconst (v := (3 : Int32)) hC dX2_refusalAt_30 rfl ?_
      refine zr_iret hC hr hk dX2_refusalAt_31 (by decide) (by decide) ⟨_, rfl, ?_⟩
      exact ⟨by rw [zf_why_some hlen, if_neg (fun h => absurd h.1 (Int32.not_le.mpr c16))], rfl⟩
    · refine zr_iload_n 4 hC dX2_refusalAt_19 rfl rfl ?_
      refine zr_aload 0 hC dX2_refusalAt_20 rfl ?_
      refine zr_alen k0 0 hC dX2_refusalAt_22 hk0 rfl ?_
      refine zr_icmp_ge (tgt := 30) hC dX2_refusalAt_23 (by decide) (fun c23 => ?_) (fun c23 => ?_)
      · refine zr_iconst (v := (3 : Int32)) hC dX2_refusalAt_30 rfl ?_
        refine zr_iret hC hr hk dX2_refusalAt_31 (by decide) (by decide) ⟨_, rfl, ?_⟩
        exact ⟨by rw [zf_why_some hlen, if_neg (fun h => absurd h.2 (Int32.not_lt.mpr c23))], rfl⟩
      · refine zr_iconst (v := (0 : Int32)) hC dX2_refusalAt_26 rfl ?_
        refine zr_goto (tgt := 31) hC dX2_refusalAt_27 (by decide) ?_
        refine zr_iret hC hr hk dX2_refusalAt_31 (by decide) (by decide) ⟨_, rfl, ?_⟩
        exact ⟨by rw [zf_why_some hlen, if_pos ⟨Int32.not_lt.mp c16, Int32.not_le.mp c23⟩], rfl⟩
set_option maxRecDepth 100000 in
set_option maxHeartbeats 4000000 in
theorem c_X2_numberAt (hR : rc_Q cI cII a x) {b s0 i : Int32} (hb : zk_b b) (hs : zk_s s0) (h0 : zf_why (aa_st a) (zl b s0) i = 0) : zz_Mi l D (zt cI cII cF) yX2_numberAt cX2_numberAt 4 (some .int) 1 22 0 0 [.ref rk, .int b, .int s0, .int i] (cw_W o rk sp pp fp cII cF a x) (fun r w' => r = zf_val (aa_st a) (zl b s0) i ∧ w' = (cw_W o rk sp pp fp cII cF a x)) := by
  refine zz_mk (by decide) (Nat.le_of_ble_eq_true rfl) ?_
  intro p e s m below meth c A hC hr hk hnm
  have hC : zz_C p s m _ c A D (zt cI cII cF) 4 cX2_numberAt RX2 := hC
  obtain ⟨q, n, z, j, hf, hL, he, h24, hlen, hj, rfl, hz⟩ := rc_why0 hR (zl_lt hb hs) h0
  obtain ⟨k0, hk0⟩ := cw_get (o := o) (rk := rk) (sp := sp) (pp := pp) (fp := fp) (cII := cII) (cF := cF) (a := a) hL he
  refine zr_aload_n 0 hC dX2_numberAt_0 rfl rfl ?_
  refine zr_iload_n 1 hC dX2_numberAt_1 rfl rfl ?_
  refine zr_iload_n 2 hC dX2_numberAt_2 rfl rfl ?_
  refine zr_cVr 1 hC cv_X2_stripOf ml_X2_17 (c_X2_stripOf (a := a) (x := x) hb hs) dX2_numberAt_3 ⟨Nat.le_of_ble_eq_true rfl, Nat.le_of_ble_eq_true rfl⟩ ⟨Nat.le_of_ble_eq_true rfl, Nat.le_of_ble_eq_true rfl⟩ rfl rfl rfl rfl rfl (Nat.le_of_ble_eq_true rfl) ?_
  rintro r0 _ ⟨hr0, rfl⟩
  obtain rfl : r0 = some q := hr0.trans hf
  refine zr_iload_n 3 hC dX2_numberAt_6 rfl rfl ?_
  refine zr_iaj (j := j) k0 0 hC dX2_numberAt_7 hk0 rfl hj rfl (by omega) ?_
  refine zr_iret hC hr hk dX2_numberAt_8 (by decide) (by decide) ⟨_, rfl, ?_⟩
  exact ⟨hz, rfl⟩
set_option maxRecDepth 100000 in
set_option maxHeartbeats 4000000 in
theorem c_X2_setAt (hR : rc_Q cI cII a x) {b s0 i : Int32} (v : Int32) (hb : zk_b b) (hs : zk_s s0) (h0 : zf_why (aa_st a) (zl b s0) i = 0) : zz_Mv l D (zt cI cII cF) yX2_setAt cX2_setAt 5 none 1 22 0 0 [.ref rk, .int b, .int s0, .int i, .int v] (cw_W o rk sp pp fp cII cF a x) (fun w' => ∃ x', cx_fnd x' = cx_fnd x ∧ cx_K x x' ∧ w' = (cw_W o rk sp pp fp cII cF (zf_set a (zl b s0) i v) x') ∧ rc_Q cI cII (zf_set a (zl b s0) i v) x') := by
  refine zz_mk (by decide) (Nat.le_of_ble_eq_true rfl) ?_
  intro p e s m below meth c A hC hr hk hnm
  have hC : zz_C p s m _ c A D (zt cI cII cF) 5 cX2_setAt RX2 := hC
  obtain ⟨q, n, z, j, hf, hL, he, h24, hlen, hj, rfl, hz⟩ := rc_why0 hR (zl_lt hb hs) h0
  obtain ⟨k0, hk0⟩ := cw_get (o := o) (rk := rk) (sp := sp) (pp := pp) (fp := fp) (cII := cII) (cF := cF) (a := a) hL he
  refine zr_aload_n 0 hC dX2_setAt_0 rfl rfl ?_
  refine zr_iload_n 1 hC dX2_setAt_1 rfl rfl ?_
  refine zr_iload_n 2 hC dX2_setAt_2 rfl rfl ?_
  refine zr_cVr 1 hC cv_X2_stripOf ml_X2_17 (c_X2_stripOf (a := a) (x := x) hb hs) dX2_setAt_3 ⟨Nat.le_of_ble_eq_true rfl, Nat.le_of_ble_eq_true rfl⟩ ⟨Nat.le_of_ble_eq_true rfl, Nat.le_of_ble_eq_true rfl⟩ rfl rfl rfl rfl rfl (Nat.le_of_ble_eq_true rfl) ?_
  rintro r0 _ ⟨hr0, rfl⟩
  obtain rfl : r0 = some q := hr0.trans hf
  refine zr_iload_n 3 hC dX2_setAt_6 rfl rfl ?_
  refine zr_iload 4 hC dX2_setAt_7 rfl ?_
  refine zr_apart (fun hD => ?_)
  refine zr_iasj (j := j) (w' := (cw_W o rk sp pp fp cII cF a (ck_ent x (va_up (cx_ent x) q (ze_i cI n (upd z j v)))))) k0 0 hC dX2_setAt_9 hk0 rfl hj rfl (by omega) (cw_set hL he hk0 hD) ?_
  refine zr_aload_n 0 hC dX2_setAt_10 rfl rfl ?_
  refine zr_dup hC dX2_setAt_11 rfl ?_
  refine zr_get (v := .int (aa_se a)) 1 1 hC iu_X2 rfl dX2_setAt_12 fl_X2_21 (by decide) rfl rfl ?_
  refine zr_iconst (v := (1 : Int32)) hC dX2_setAt_15 rfl ?_
  refine zr_iadd hC dX2_setAt_16 ?_
  refine zr_put (w' := (cw_W o rk sp pp fp cII cF (as_se a ((aa_se a) + (1 : Int32))) (ck_ent x (va_up (cx_ent x) q (ze_i cI n (upd z j v)))))) 1 1 hC iu_X2 tyX2_ok nmX2 rfl dX2_setAt_17 fl_X2_21 (by decide) rfl rfl rfl rfl (Nat.le_of_ble_eq_true rfl) rfl ?_
  refine zr_vret hC hr hk dX2_setAt_20 (by decide) (by decide) ⟨rfl, ?_⟩
  exact ⟨ck_ent x (va_up (cx_ent x) q (ze_i cI n (upd z j v))), rfl, cx_K.put he, rfl, rc_put hR (zl_lt hb hs) hf he hj h24 v⟩
set_option maxRecDepth 100000 in
set_option maxHeartbeats 4000000 in
theorem c_X2_placesSet  : zz_Mi l D (zt cI cII cF) yX2_placesSet cX2_placesSet 1 (some .int) 0 0 0 0 [.ref rk] (cw_W o rk sp pp fp cII cF a x) (fun r w' => r = aa_se a ∧ w' = (cw_W o rk sp pp fp cII cF a x)) := by
  refine zz_mk (by decide) (Nat.le_of_ble_eq_true rfl) ?_
  intro p e s m below meth c A hC hr hk hnm
  have hC : zz_C p s m _ c A D (zt cI cII cF) 1 cX2_placesSet RX2 := hC
  refine zr_aload_n 0 hC dX2_placesSet_0 rfl rfl ?_
  refine zr_get (v := .int (aa_se a)) 1 1 hC iu_X2 rfl dX2_placesSet_1 fl_X2_21 (by decide) rfl rfl ?_
  refine zr_iret hC hr hk dX2_placesSet_4 (by decide) (by decide) ⟨_, rfl, ?_⟩
  exact ⟨rfl, rfl⟩
set_option maxRecDepth 100000 in
set_option maxHeartbeats 4000000 in
theorem c_X1_isThere (hR : rc_Q cI cII a x) : zz_Mi l D (zt cI cII cF) yX1_isThere cX1_isThere 1 (some .boolean) 0 0 0 0 [.ref pp] (cw_W o rk sp pp fp cII cF a x) (fun r w' => w' = (cw_W o rk sp pp fp cII cF a x) ∧ ((r = 1 ∧ ¬ (aa_sh a).1 = none) ∨ (r = 0 ∧ (aa_sh a).1 = none))) := by
  refine zz_mk (by decide) (Nat.le_of_ble_eq_true rfl) ?_
  intro p e s m below meth c A hC hr hk hnm
  have hC : zz_C p s m _ c A D (zt cI cII cF) 1 cX1_isThere RX1 := hC
  refine zr_aload_n 0 hC dX1_isThere_0 rfl rfl ?_
  refine zr_get (v := va_rf (cx_rw x)) 3 0 hC iu_X1 rfl dX1_isThere_1 fl_X1_9 (by decide) rfl rfl ?_
  refine zr_rf (fun hq2 => ?_) (fun q1 hq2 => ?_)
  · refine zr_ifnullN (tgt := 11) hC dX1_isThere_4 (by decide) ?_
    refine zr_iconst (v := (0 : Int32)) hC dX1_isThere_11 rfl ?_
    refine zr_zret hC hr hk dX1_isThere_12 rfl (by decide) (by decide) ⟨_, rfl, ?_⟩
    exact ⟨rfl, Or.inr ⟨rfl, hR.2.1.mp hq2⟩⟩
  · refine zr_ifnull hC dX1_isThere_4 ?_
    refine zr_iconst (v := (1 : Int32)) hC dX1_isThere_7 rfl ?_
    refine zr_goto (tgt := 12) hC dX1_isThere_8 (by decide) ?_
    refine zr_zret hC hr hk dX1_isThere_12 rfl (by decide) (by decide) ⟨_, rfl, ?_⟩
    exact ⟨rfl, Or.inl ⟨rfl, fun h => by have := hR.2.1.mpr h; rw [hq2] at this; cases this⟩⟩
set_option maxRecDepth 100000 in
set_option maxHeartbeats 4000000 in
theorem c_X1_cellsWritten  : zz_Mi l D (zt cI cII cF) yX1_cellsWritten cX1_cellsWritten 1 (some .int) 0 0 0 0 [.ref pp] (cw_W o rk sp pp fp cII cF a x) (fun r w' => r = aa_wr a ∧ w' = (cw_W o rk sp pp fp cII cF a x)) := by
  refine zz_mk (by decide) (Nat.le_of_ble_eq_true rfl) ?_
  intro p e s m below meth c A hC hr hk hnm
  have hC : zz_C p s m _ c A D (zt cI cII cF) 1 cX1_cellsWritten RX1 := hC
  refine zr_aload_n 0 hC dX1_cellsWritten_0 rfl rfl ?_
  refine zr_get (v := .int (aa_wr a)) 3 1 hC iu_X1 rfl dX1_cellsWritten_1 fl_X1_23 (by decide) rfl rfl ?_
  refine zr_iret hC hr hk dX1_cellsWritten_4 (by decide) (by decide) ⟨_, rfl, ?_⟩
  exact ⟨rfl, rfl⟩
set_option maxRecDepth 100000 in
set_option maxHeartbeats 4000000 in
theorem c_X1_replace {q : Nat} : zz_Mv l D (zt cI cII cF) yX1_replace cX1_replace 2 none 0 0 0 0 [.ref pp, .ref q] (cw_W o rk sp pp fp cII cF a x) (fun w' => w' = (cw_W o rk sp pp fp cII cF a (ck_rw x (some q)))) := by
  refine zz_mk (by decide) (Nat.le_of_ble_eq_true rfl) ?_
  intro p e s m below meth c A hC hr hk hnm
  have hC : zz_C p s m _ c A D (zt cI cII cF) 2 cX1_replace RX1 := hC
  refine zr_aload_n 0 hC dX1_replace_0 rfl rfl ?_
  refine zr_aload_n 1 hC dX1_replace_1 rfl rfl ?_
  refine zr_put (w' := (cw_W o rk sp pp fp cII cF a (ck_rw x (some q)))) 3 0 hC iu_X1 tyX1_ok nmX1 rfl dX1_replace_2 fl_X1_9 (by decide) rfl rfl rfl rfl (Nat.le_of_ble_eq_true rfl) rfl ?_
  refine zr_vret hC hr hk dX1_replace_5 (by decide) (by decide) ⟨rfl, ?_⟩
  exact rfl
set_option maxRecDepth 100000 in
set_option maxHeartbeats 4000000 in
theorem c_X3_leave (r0 v : Int32) : zz_Mi l D (zt cI cII cF) yX3_leave cX3_leave 3 (some .int) 0 0 0 0 [.ref o, .int r0, .int v] (cw_W o rk sp pp fp cII cF a x) (fun r w' => r = v ∧ w' = (cw_W o rk sp pp fp cII cF (as_sta a r0) x)) := by
  refine zz_mk (by decide) (Nat.le_of_ble_eq_true rfl) ?_
  intro p e s m below meth c A hC hr hk hnm
  have hC : zz_C p s m _ c A D (zt cI cII cF) 3 cX3_leave RX3 := hC
  refine zr_aload_n 0 hC dX3_leave_0 rfl rfl ?_
  refine zr_iload_n 1 hC dX3_leave_1 rfl rfl ?_
  refine zr_put (w' := (cw_W o rk sp pp fp cII cF (as_sta a r0) x)) 0 10 hC iu_X3 tyX3_ok nmX3 rfl dX3_leave_2 fl_X3_122 (by decide) rfl rfl rfl rfl (Nat.le_of_ble_eq_true rfl) rfl ?_
  refine zr_iload_n 2 hC dX3_leave_5 rfl rfl ?_
  refine zr_iret hC hr hk dX3_leave_6 (by decide) (by decide) ⟨_, rfl, ?_⟩
  exact ⟨rfl, rfl⟩
set_option maxRecDepth 100000 in
set_option maxHeartbeats 4000000 in
theorem c_X3_counted (r0 : Int32) : zz_Mi l D (zt cI cII cF) yX3_counted cX3_counted 2 (some .int) 0 0 0 0 [.ref o, .int r0] (cw_W o rk sp pp fp cII cF a x) (fun r w' => r = r0 ∧ w' = (cw_W o rk sp pp fp cII cF (zf_cnt r0 a) x)) := by
  refine zz_mk (by decide) (Nat.le_of_ble_eq_true rfl) ?_
  intro p e s m below meth c A hC hr hk hnm
  have hC : zz_C p s m _ c A D (zt cI cII cF) 2 cX3_counted RX3 := hC
  refine zr_iload_n 1 hC dX3_counted_0 rfl rfl ?_
  refine zr_iconst (v := (2 : Int32)) hC dX3_counted_1 rfl ?_
  refine zr_icmp_ne (tgt := 18) hC dX3_counted_2 (by decide) (fun c2 => ?_) (fun c2 => ?_)
  · refine zr_iload_n 1 hC dX3_counted_18 rfl rfl ?_
    refine zr_iconst (v := (3 : Int32)) hC dX3_counted_19 rfl ?_
    refine zr_icmp_ne (tgt := 36) hC dX3_counted_20 (by decide) (fun c20 => ?_) (fun c20 => ?_)
    · refine zr_iload_n 1 hC dX3_counted_36 rfl rfl ?_
      refine zr_iconst (v := (4 : Int32)) hC dX3_counted_37 rfl ?_
      refine zr_icmp_ne (tgt := 51) hC dX3_counted_38 (by decide) (fun c38 => ?_) (fun c38 => ?_)
      · refine zr_iload_n 1 hC dX3_counted_51 rfl rfl ?_
        refine zr_iret hC hr hk dX3_counted_52 (by decide) (by decide) ⟨_, rfl, ?_⟩
        exact ⟨rfl, by simp [zf_cnt, c2, c20, c38]⟩
      · refine zr_aload_n 0 hC dX3_counted_41 rfl rfl ?_
        refine zr_dup hC dX3_counted_42 rfl ?_
        refine zr_get (v := .int (aa_ne a)) 0 9 hC iu_X3 rfl dX3_counted_43 fl_X3_131 (by decide) rfl rfl ?_
        refine zr_iconst (v := (1 : Int32)) hC dX3_counted_46 rfl ?_
        refine zr_iadd hC dX3_counted_47 ?_
        refine zr_put (w' := (cw_W o rk sp pp fp cII cF (as_ne a ((aa_ne a) + (1 : Int32))) x)) 0 9 hC iu_X3 tyX3_ok nmX3 rfl dX3_counted_48 fl_X3_131 (by decide) rfl rfl rfl rfl (Nat.le_of_ble_eq_true rfl) rfl ?_
        refine zr_iload_n 1 hC dX3_counted_51 rfl rfl ?_
        refine zr_iret hC hr hk dX3_counted_52 (by decide) (by decide) ⟨_, rfl, ?_⟩
        exact ⟨rfl, by simp [zf_cnt, c2, c20, c38]⟩
    · refine zr_aload_n 0 hC dX3_counted_23 rfl rfl ?_
      refine zr_dup hC dX3_counted_24 rfl ?_
      refine zr_get (v := .int (aa_ou a)) 0 8 hC iu_X3 rfl dX3_counted_25 fl_X3_128 (by decide) rfl rfl ?_
      refine zr_iconst (v := (1 : Int32)) hC dX3_counted_28 rfl ?_
      refine zr_iadd hC dX3_counted_29 ?_
      refine zr_put (w' := (cw_W o rk sp pp fp cII cF (as_ou a ((aa_ou a) + (1 : Int32))) x)) 0 8 hC iu_X3 tyX3_ok nmX3 rfl dX3_counted_30 fl_X3_128 (by decide) rfl rfl rfl rfl (Nat.le_of_ble_eq_true rfl) rfl ?_
      refine zr_goto (tgt := 51) hC dX3_counted_33 (by decide) ?_
      refine zr_iload_n 1 hC dX3_counted_51 rfl rfl ?_
      refine zr_iret hC hr hk dX3_counted_52 (by decide) (by decide) ⟨_, rfl, ?_⟩
      exact ⟨rfl, by simp [zf_cnt, c2, c20]⟩
  · refine zr_aload_n 0 hC dX3_counted_5 rfl rfl ?_
    refine zr_dup hC dX3_counted_6 rfl ?_
    refine zr_get (v := .int (aa_mi a)) 0 7 hC iu_X3 rfl dX3_counted_7 fl_X3_125 (by decide) rfl rfl ?_
    refine zr_iconst (v := (1 : Int32)) hC dX3_counted_10 rfl ?_
    refine zr_iadd hC dX3_counted_11 ?_
    refine zr_put (w' := (cw_W o rk sp pp fp cII cF (as_mi a ((aa_mi a) + (1 : Int32))) x)) 0 7 hC iu_X3 tyX3_ok nmX3 rfl dX3_counted_12 fl_X3_125 (by decide) rfl rfl rfl rfl (Nat.le_of_ble_eq_true rfl) rfl ?_
    refine zr_goto (tgt := 51) hC dX3_counted_15 (by decide) ?_
    refine zr_iload_n 1 hC dX3_counted_51 rfl rfl ?_
    refine zr_iret hC hr hk dX3_counted_52 (by decide) (by decide) ⟨_, rfl, ?_⟩
    exact ⟨rfl, by simp [zf_cnt, c2]⟩
set_option maxRecDepth 100000 in
set_option maxHeartbeats 4000000 in
theorem c_X3_leaveFound (r0 : Int32) : zz_Mi l D (zt cI cII cF) yX3_leaveFound cX3_leaveFound 2 (some .int) 1 22 0 0 [.ref o, .int r0] (cw_W o rk sp pp fp cII cF a x) (fun r w' => r = (if r0 = 0 then cx_fnd x else 0) ∧ w' = (cw_W o rk sp pp fp cII cF (as_sta a r0) x)) := by
  refine zz_mk (by decide) (Nat.le_of_ble_eq_true rfl) ?_
  intro p e s m below meth c A hC hr hk hnm
  have hC : zz_C p s m _ c A D (zt cI cII cF) 2 cX3_leaveFound RX3 := hC
  refine zr_aload_n 0 hC dX3_leaveFound_0 rfl rfl ?_
  refine zr_iload_n 1 hC dX3_leaveFound_1 rfl rfl ?_
  refine zr_iload_n 1 hC dX3_leaveFound_2 rfl rfl ?_
  refine zr_if_ne (tgt := 13) hC dX3_leaveFound_3 (by decide) (fun c3 => ?_) (fun c3 => ?_)
  · refine zr_iconst (v := (0 : Int32)) hC dX3_leaveFound_13 rfl ?_
    refine zr_cVi 0 hC cv_X3_leave ml_X3_36 (c_X3_leave (a := a) (x := x) r0 (0 : Int32)) dX3_leaveFound_14 ⟨Nat.le_of_ble_eq_true rfl, Nat.le_of_ble_eq_true rfl⟩ ⟨Nat.le_of_ble_eq_true rfl, Nat.le_of_ble_eq_true rfl⟩ rfl rfl rfl rfl rfl (Nat.le_of_ble_eq_true rfl) ?_
    rintro rr _ ⟨hrr, rfl⟩
    subst rr
    refine zr_iret hC hr hk dX3_leaveFound_17 (by decide) (by decide) ⟨_, rfl, ?_⟩
    exact ⟨by simp [c3], rfl⟩
  · refine zr_aload_n 0 hC dX3_leaveFound_6 rfl rfl ?_
    refine zr_get (v := .int (cx_fnd x)) 0 11 hC iu_X3 rfl dX3_leaveFound_7 fl_X3_66 (by decide) rfl rfl ?_
    refine zr_goto (tgt := 14) hC dX3_leaveFound_10 (by decide) ?_
    refine zr_cVi 0 hC cv_X3_leave ml_X3_36 (c_X3_leave (a := a) (x := x) r0 (cx_fnd x)) dX3_leaveFound_14 ⟨Nat.le_of_ble_eq_true rfl, Nat.le_of_ble_eq_true rfl⟩ ⟨Nat.le_of_ble_eq_true rfl, Nat.le_of_ble_eq_true rfl⟩ rfl rfl rfl rfl rfl (Nat.le_of_ble_eq_true rfl) ?_
    rintro rr _ ⟨hrr, rfl⟩
    subst rr
    refine zr_iret hC hr hk dX3_leaveFound_17 (by decide) (by decide) ⟨_, rfl, ?_⟩
    exact ⟨by simp [c3], rfl⟩
set_option maxRecDepth 100000 in
set_option maxHeartbeats 4000000 in
theorem c_X3_countDropped (r0 : Int32) : zz_Mv l D (zt cI cII cF) yX3_countDropped cX3_countDropped 2 none 0 0 0 0 [.ref o, .int r0] (cw_W o rk sp pp fp cII cF a x) (fun w' => w' = (cw_W o rk sp pp fp cII cF (if r0 = 2 then as_dm a (aa_dm a + 1) else as_dO a (aa_dO a + 1)) x)) := by
  refine zz_mk (by decide) (Nat.le_of_ble_eq_true rfl) ?_
  intro p e s m below meth c A hC hr hk hnm
  have hC : zz_C p s m _ c A D (zt cI cII cF) 2 cX3_countDropped RX3 := hC
  refine zr_iload_n 1 hC dX3_countDropped_0 rfl rfl ?_
  refine zr_iconst (v := (2 : Int32)) hC dX3_countDropped_1 rfl ?_
  refine zr_icmp_ne (tgt := 18) hC dX3_countDropped_2 (by decide) (fun c2 => ?_) (fun c2 => ?_)
  · refine zr_aload_n 0 hC dX3_countDropped_18 rfl rfl ?_
    refine zr_dup hC dX3_countDropped_19 rfl ?_
    refine zr_get (v := .int (aa_dO a)) 0 6 hC iu_X3 rfl dX3_countDropped_20 fl_X3_140 (by decide) rfl rfl ?_
    refine zr_iconst (v := (1 : Int32)) hC dX3_countDropped_23 rfl ?_
    refine zr_iadd hC dX3_countDropped_24 ?_
    refine zr_put (w' := (cw_W o rk sp pp fp cII cF (as_dO a ((aa_dO a) + (1 : Int32))) x)) 0 6 hC iu_X3 tyX3_ok nmX3 rfl dX3_countDropped_25 fl_X3_140 (by decide) rfl rfl rfl rfl (Nat.le_of_ble_eq_true rfl) rfl ?_
    refine zr_vret hC hr hk dX3_countDropped_28 (by decide) (by decide) ⟨rfl, ?_⟩
    simp [c2]
  · refine zr_aload_n 0 hC dX3_countDropped_5 rfl rfl ?_
    refine zr_dup hC dX3_countDropped_6 rfl ?_
    refine zr_get (v := .int (aa_dm a)) 0 5 hC iu_X3 rfl dX3_countDropped_7 fl_X3_137 (by decide) rfl rfl ?_
    refine zr_iconst (v := (1 : Int32)) hC dX3_countDropped_10 rfl ?_
    refine zr_iadd hC dX3_countDropped_11 ?_
    refine zr_put (w' := (cw_W o rk sp pp fp cII cF (as_dm a ((aa_dm a) + (1 : Int32))) x)) 0 5 hC iu_X3 tyX3_ok nmX3 rfl dX3_countDropped_12 fl_X3_137 (by decide) rfl rfl rfl rfl (Nat.le_of_ble_eq_true rfl) rfl ?_
    refine zr_goto (tgt := 28) hC dX3_countDropped_15 (by decide) ?_
    refine zr_vret hC hr hk dX3_countDropped_28 (by decide) (by decide) ⟨rfl, ?_⟩
    simp [c2]
end ZA2
end
section
/-! ===== the class's relation: the sheet ===== -/
section ZRF
variable {p : Program} {l : Launch} {e : Env} {R : Room} {s : State} {m : MethodId} {args : Array Value} {below : List Frame} {meth : Method} {c : Code} {A : Nat → Prop} {D : va_G} {nL : Nat} {Q : State → Prop} {pc : Nat} {lv : List (Nat × Value)} {st : List Value} {w : va_W} {cells slots : Nat}
theorem zr_rfs {r : Option Nat} {q : Nat} (h : r = some q) (kk : zz_Z p l e R s m args below meth c A D nL Q pc lv (.ref q :: st) w cells slots) : zz_Z p l e R s m args below meth c A D nL Q pc lv (va_rf r :: st) w cells slots := by
  subst h; exact kk
theorem zr_rfn {r : Option Nat} (h : r = none) (kk : zz_Z p l e R s m args below meth c A D nL Q pc lv (.null :: st) w cells slots) : zz_Z p l e R s m args below meth c A D nL Q pc lv (va_rf r :: st) w cells slots := by
  subst h; exact kk
end ZRF
theorem zf_whyC_none {sh : ax_SH} {i j : Int32} (h : sh.1 = none) : zf_whyC sh i j = 2 := by
  unfold zf_whyC; rw [h]
theorem zf_whyC_some {sh : ax_SH} {n m : Nat} {i j : Int32} (h : sh.1 = some (n, m)) : zf_whyC sh i j = if 0 ≤ i ∧ i < nI n then (if sh.2.1 i.toNatClampNeg = true then (if 0 ≤ j ∧ j < nI m then 0 else 3) else 2) else 3 := by
  unfold zf_whyC; rw [h]
theorem zf_rows_none {sh : ax_SH} (h : sh.1 = none) : zf_rows sh = 0 := by
  unfold zf_rows; rw [h]
theorem zf_rows_some {sh : ax_SH} {n m : Nat} (h : sh.1 = some (n, m)) : zf_rows sh = nI n := by
  unfold zf_rows; rw [h]
theorem zf_whyC_in {sh : ax_SH} {i j : Int32} (h : zf_whyC sh i j = 0) : ∃ n m, sh.1 = some (n, m) ∧ (0 ≤ i ∧ i < nI n) ∧ sh.2.1 i.toNatClampNeg = true ∧ (0 ≤ j ∧ j < nI m) := by
  cases e : sh.1 with
  | none => rw [zf_whyC_none e] at h; exact absurd h (by decide)
  | some d =>
    obtain ⟨n, m⟩ := d
    rw [zf_whyC_some e] at h
    by_cases h1 : 0 ≤ i ∧ i < nI n
    · rw [if_pos h1] at h
      by_cases h2 : sh.2.1 i.toNatClampNeg = true
      · rw [if_pos h2] at h
        by_cases h3 : 0 ≤ j ∧ j < nI m
        · exact ⟨n, m, rfl, h1, h2, h3⟩
        · rw [if_neg h3] at h; exact absurd h (by decide)
      · rw [if_neg h2] at h; exact absurd h (by decide)
    · rw [if_neg h1] at h; exact absurd h (by decide)
theorem ze_q_inj {c c' : ClassId} {n n' : Nat} {z z' : Nat → Option Nat} (h : ze_q c n z = ze_q c' n' z') : n = n' ∧ z = z' := by
  injection h with h1
  injection h1 with h2 h3
  injection h3 with h4 h5
  injection h5 with h6
  injection h6 with h7
  injection h7 with h8
  injection h8 with h9
  exact ⟨h4, h9⟩
section ZPH
variable {cI cII : ClassId} {a : ax_A} {x : cx_X}
theorem rc_cell0 (hR : rc_Q cI cII a x) {i j : Int32} (h : zf_whyC (aa_sh a) i j = 0) : ∃ (q n m : Nat) (hh : Nat → Option Nat) (y : Nat) (z : Nat → Int32) (ii jj : Nat), cx_rw x = some q ∧ q ∈ cx_L x ∧ cx_ent x q = ze_q cII n hh ∧ n ≤ 12 ∧ ii < n ∧ i = nI ii ∧ hh ii = some y ∧ y ∈ cx_L x ∧ cx_ent x y = ze_i cI m z ∧ m ≤ 12 ∧ jj < m ∧ j = nI jj ∧ z jj = zf_cell (aa_sh a) i j := by
  obtain ⟨n, m, h1, h2, h3, h4⟩ := zf_whyC_in h
  cases e : cx_rw x with
  | none => rw [hR.2.1.mp e] at h1; cases h1
  | some q =>
    obtain ⟨g1, n', m', hh, g2, g3, g4, g5, g6, g7, g8⟩ := hR.2.2 q e
    cases h1.symm.trans g2
    obtain ⟨ii, hii, rfl⟩ := zn_lt (by omega) h2
    obtain ⟨jj, hjj, rfl⟩ := zn_lt (by omega) h4
    have e1 : (nI ii).toNatClampNeg = ii := nI_clamp (by omega)
    have e2 : (nI jj).toNatClampNeg = jj := nI_clamp (by omega)
    rw [e1] at h3
    cases ey : hh ii with
    | none => rw [(g6 ii hii).mp ey] at h3; cases h3
    | some y =>
      obtain ⟨k1, ⟨z, k2, k3⟩, -⟩ := g7 ii y hii ey
      refine ⟨q, n, m, hh, y, z, ii, jj, rfl, g1, g5, g3, hii, rfl, ey, k1, k2, g4, hjj, rfl, ?_⟩
      rw [k3 jj hjj, zf_cell, e1, e2]
theorem rc_write (hR : rc_Q cI cII a x) {q n m y ii jj : Nat} {hh : Nat → Option Nat} {z : Nat → Int32} (e1 : cx_rw x = some q) (e2 : cx_ent x q = ze_q cII n hh) (hn : n ≤ 12) (hii : ii < n) (ey : hh ii = some y) (e3 : cx_ent x y = ze_i cI m z) (hm : m ≤ 12) (hjj : jj < m) (v : Int32) : rc_Q cI cII (zf_wri a (nI ii) (nI jj) v) (ck_ent x (va_up (cx_ent x) y (ze_i cI m (upd z jj v)))) := by
  obtain ⟨⟨s1, s2, s3⟩, ⟨t1, t2⟩⟩ := hR
  have hi1 : (nI ii).toNatClampNeg = ii := nI_clamp (by omega)
  have hj1 : (nI jj).toNatClampNeg = jj := nI_clamp (by omega)
  obtain ⟨g1, n', m', h', g2, g3, g4, g5, g6, g7, g8⟩ := t2 q e1
  obtain ⟨rfl, rfl⟩ := ze_q_inj (g5.symm.trans e2)
  obtain ⟨w1, ⟨w2, w3, w4⟩, w5⟩ := g7 ii y hii ey
  obtain ⟨rfl, rfl⟩ := ze_i_inj (w3.symm.trans e3)
  refine ⟨⟨s1, fun k' q' hk' hf' => ?_, s3⟩, ⟨t1, fun qr hqr => ?_⟩⟩
  · obtain ⟨b1, n2, z2, b2, b3, b4, b5⟩ := s2 k' q' hk' hf'
    have hne : q' ≠ y := fun e => w5 k' hk' (by rw [hf', e])
    exact ⟨b1, n2, z2, (va_up_ne _ _ hne).trans b2, b3, b4, b5⟩
  · cases e1.symm.trans hqr
    have hne : q ≠ y := fun e => by rw [e, e3] at g5; cases g5
    refine ⟨g1, n', m', h', g2, g3, g4, (va_up_ne _ _ hne).trans g5, g6, fun i y' hi hy' => ?_, g8⟩
    obtain ⟨k1, ⟨z1, k2, k3⟩, k4⟩ := g7 i y' hi hy'
    have hs := g8 ii i hii hi (by rw [ey]; exact fun h => by cases h) (by rw [hy']; exact fun h => by cases h)
    refine ⟨k1, ?_, k4⟩
    by_cases hyy : y' = y
    · subst hyy
      obtain ⟨-, rfl⟩ := ze_i_inj (w3.symm.trans k2)
      refine ⟨upd w2 jj v, va_up_self _ _ _, fun j hj => ?_⟩
      have h2 : (aa_sh a).2.2.2 ii i = true := hs.mpr (ey.trans hy'.symm)
      show upd w2 jj v j = if (aa_sh a).2.2.2 (nI ii).toNatClampNeg i = true ∧ j = (nI jj).toNatClampNeg then v else (aa_sh a).2.2.1 i j
      rw [hi1, hj1]
      by_cases hjk : j = jj
      · subst hjk
        rw [pk_us, if_pos ⟨h2, rfl⟩]
      · rw [pk_un hjk, if_neg (fun h => hjk h.2), k3 j hj]
    · refine ⟨z1, (va_up_ne _ _ hyy).trans k2, fun j hj => ?_⟩
      show z1 j = if (aa_sh a).2.2.2 (nI ii).toNatClampNeg i = true ∧ j = (nI jj).toNatClampNeg then v else (aa_sh a).2.2.1 i j
      rw [hi1, if_neg, k3 j hj]
      intro h
      have := hs.mp h.1
      rw [ey, hy'] at this
      exact hyy (Option.some.inj this).symm
/-- the rows' array has changed at one place -/
theorem rc_tear (hR : rc_Q cI cII a x) {q n m i : Nat} {hh : Nat → Option Nat} {sh' : ax_SH} {v : Option Nat} (e1 : cx_rw x = some q) (e2 : cx_ent x q = ze_q cII n hh) (ed : (aa_sh a).1 = some (n, m)) (d1 : sh'.1 = some (n, m))
    (d2 : ∀ r, r < n → (va_up hh i v r = none ↔ sh'.2.1 r = false))
    (d3 : ∀ r y, r < n → va_up hh i v r = some y → ∃ r', r' < n ∧ hh r' = some y ∧ ∀ j, sh'.2.2.1 r j = (aa_sh a).2.2.1 r' j)
    (d4 : ∀ r r', r < n → r' < n → ¬ va_up hh i v r = none → ¬ va_up hh i v r' = none → (sh'.2.2.2 r r' = true ↔ va_up hh i v r = va_up hh i v r')) : rc_Q cI cII (as_sh a sh') (ck_ent x (va_up (cx_ent x) q (ze_q cII n (va_up hh i v)))) := by
  obtain ⟨⟨s1, s2, s3⟩, ⟨t1, t2⟩⟩ := hR
  obtain ⟨g1, n', m', h', g2, g3, g4, g5, g6, g7, g8⟩ := t2 q e1
  obtain ⟨rfl, rfl⟩ := ze_q_inj (g5.symm.trans e2)
  cases ed.symm.trans g2
  refine ⟨⟨s1, fun k' q' hk' hf' => ?_, s3⟩, ⟨?_, fun qr hqr => ?_⟩⟩
  · obtain ⟨b1, n2, z2, b2, b3, b4, b5⟩ := s2 k' q' hk' hf'
    have hne : q' ≠ q := fun e => by rw [e, e2] at b2; cases b2
    exact ⟨b1, n2, z2, (va_up_ne _ _ hne).trans b2, b3, b4, b5⟩
  · show cx_rw x = none ↔ sh'.1 = none
    rw [e1, d1]
    exact ⟨fun h => (by cases h), fun h => (by cases h)⟩
  · cases e1.symm.trans hqr
    refine ⟨g1, n', m, va_up h' i v, d1, g3, g4, va_up_self _ _ _, d2, fun r y hr hy => ?_, d4⟩
    obtain ⟨r', hr', hy', hv⟩ := d3 r y hr hy
    obtain ⟨k1, ⟨z1, k2, k3⟩, k4⟩ := g7 r' y hr' hy'
    have hne : y ≠ q := fun e => by rw [e, e2] at k2; cases k2
    exact ⟨k1, ⟨z1, (va_up_ne _ _ hne).trans k2, fun j hj => by rw [hv]; exact k3 j hj⟩, k4⟩
theorem rc_tear0 (hR : rc_Q cI cII a x) {q n m i : Nat} {hh : Nat → Option Nat} (e1 : cx_rw x = some q) (e2 : cx_ent x q = ze_q cII n hh) (ed : (aa_sh a).1 = some (n, m)) : rc_Q cI cII (as_sh a (zf_tear0 (aa_sh a) i)) (ck_ent x (va_up (cx_ent x) q (ze_q cII n (va_up hh i none)))) := by
  obtain ⟨g1, n', m', h', g2, g3, g4, g5, g6, g7, g8⟩ := hR.2.2 q e1
  obtain ⟨rfl, rfl⟩ := ze_q_inj (g5.symm.trans e2)
  have key : ∀ r, ¬ va_up h' i none r = none → r ≠ i ∧ va_up h' i none r = h' r := by
    intro r h
    by_cases hri : r = i
    · subst hri
      exact absurd (va_up_self _ _ _) h
    · exact ⟨hri, va_up_ne _ _ hri⟩
  refine rc_tear hR e1 e2 ed ed (fun r hr => ?_) (fun r y hr hy => ?_) (fun r r' hr hr' h1 h2 => ?_)
  · show va_up h' i none r = none ↔ (if r = i then false else (aa_sh a).2.1 r) = false
    by_cases hri : r = i
    · subst hri
      rw [va_up_self, if_pos rfl]; exact ⟨fun _ => rfl, fun _ => rfl⟩
    · rw [va_up_ne _ _ hri, if_neg hri]; exact g6 r hr
  · obtain ⟨h1, h2⟩ := key r (by rw [hy]; exact fun h => by cases h)
    exact ⟨r, hr, h2.symm.trans hy, fun j => rfl⟩
  · obtain ⟨b1, b2⟩ := key r h1
    obtain ⟨b3, b4⟩ := key r' h2
    show (aa_sh a).2.2.2 r r' = true ↔ _
    rw [b2, b4]
    exact g8 r r' hr hr' (fun h => h1 (b2.trans h)) (fun h => h2 (b4.trans h))
theorem rc_tearS (hR : rc_Q cI cII a x) {q n m i k : Nat} {hh : Nat → Option Nat} (e1 : cx_rw x = some q) (e2 : cx_ent x q = ze_q cII n hh) (ed : (aa_sh a).1 = some (n, m)) (hk : k < n) : rc_Q cI cII (as_sh a (zf_tearS (aa_sh a) i k)) (ck_ent x (va_up (cx_ent x) q (ze_q cII n (va_up hh i (hh k))))) := by
  obtain ⟨g1, n', m', h', g2, g3, g4, g5, g6, g7, g8⟩ := hR.2.2 q e1
  obtain ⟨rfl, rfl⟩ := ze_q_inj (g5.symm.trans e2)
  have key : ∀ r, va_up h' i (h' k) r = h' (zf_rho i k r) := by
    intro r
    by_cases hri : r = i
    · subst hri
      rw [va_up_self, zf_rho, if_pos rfl]
    · rw [va_up_ne _ _ hri, zf_rho, if_neg hri]
  have lt : ∀ r, r < n' → zf_rho i k r < n' := by
    intro r hr
    unfold zf_rho
    by_cases hri : r = i
    · rw [if_pos hri]; exact hk
    · rw [if_neg hri]; exact hr
  refine rc_tear hR e1 e2 ed ed (fun r hr => ?_) (fun r y hr hy => ?_) (fun r r' hr hr' h1 h2 => ?_)
  · rw [key]; exact g6 _ (lt r hr)
  · rw [key] at hy
    exact ⟨_, lt r hr, hy, fun j => rfl⟩
  · rw [key] at h1 h2
    rw [key, key]
    exact g8 _ _ (lt r hr) (lt r' hr') h1 h2
end ZPH
end
section
section ZA3
variable {l : Launch} {D : va_G} {cI cII cF : ClassId} {o rk sp pp fp mo m1 m2 m3 m4 m5 m6 m7 m8 m9 : Nat}
variable {a : ax_A} {x : cx_X}
set_option maxRecDepth 100000 in
set_option maxHeartbeats 4000000 in
theorem c_X1_rowCount (hR : rc_Q cI cII a x) : zz_Mi l D (zt cI cII cF) yX1_rowCount cX1_rowCount 1 (some .int) 0 0 0 0 [.ref pp] (cw_W o rk sp pp fp cII cF a x) (fun r w' => r = zf_rows (aa_sh a) ∧ w' = (cw_W o rk sp pp fp cII cF a x)) := by
  refine zz_mk (by decide) (Nat.le_of_ble_eq_true rfl) ?_
  intro p e s m below meth c A hC hr hk hnm
  have hC : zz_C p s m _ c A D (zt cI cII cF) 1 cX1_rowCount RX1 := hC
  refine zr_aload_n 0 hC dX1_rowCount_0 rfl rfl ?_
  refine zr_get (v := va_rf (cx_rw x)) 3 0 hC iu_X1 rfl dX1_rowCount_1 fl_X1_9 (by decide) rfl rfl ?_
  refine zr_rf (fun hq2 => ?_) (fun q1 hq2 => ?_)
  · refine zr_ifnonnullN hC dX1_rowCount_4 ?_
    refine zr_iconst (v := (0 : Int32)) hC dX1_rowCount_7 rfl ?_
    refine zr_goto (tgt := 16) hC dX1_rowCount_8 (by decide) ?_
    refine zr_iret hC hr hk dX1_rowCount_16 (by decide) (by decide) ⟨_, rfl, ?_⟩
    exact ⟨(zf_rows_none (hR.2.1.mp hq2)).symm, rfl⟩
  · obtain ⟨hL, n, m0, hh, hdim, hn, hm, hent, g6, g7, g8⟩ := hR.2.2 q1 hq2
    obtain ⟨kq, hkq⟩ := cw_get (o := o) (rk := rk) (sp := sp) (pp := pp) (fp := fp) (cII := cII) (cF := cF) (a := a) hL hent
    refine zr_ifnonnull (tgt := 11) hC dX1_rowCount_4 (by decide) ?_
    refine zr_aload_n 0 hC dX1_rowCount_11 rfl rfl ?_
    refine zr_get (v := va_rf (cx_rw x)) 3 0 hC iu_X1 rfl dX1_rowCount_12 fl_X1_9 (by decide) rfl rfl ?_
    refine zr_rfs hq2 ?_
    refine zr_alen kq 1 hC dX1_rowCount_15 hkq rfl ?_
    refine zr_iret hC hr hk dX1_rowCount_16 (by decide) (by decide) ⟨_, rfl, ?_⟩
    exact ⟨(zf_rows_some hdim).symm, rfl⟩
set_option maxRecDepth 100000 in
set_option maxHeartbeats 4000000 in
theorem c_X1_hasRow (hR : rc_Q cI cII a x) (i : Int32) : zz_Mi l D (zt cI cII cF) yX1_hasRow cX1_hasRow 2 (some .boolean) 1 20 0 0 [.ref pp, .int i] (cw_W o rk sp pp fp cII cF a x) (fun r w' => w' = (cw_W o rk sp pp fp cII cF a x) ∧ ((r = 1 ∧ (0 ≤ i ∧ i < zf_rows (aa_sh a))) ∨ (r = 0 ∧ ¬ (0 ≤ i ∧ i < zf_rows (aa_sh a))))) := by
  refine zz_mk (by decide) (Nat.le_of_ble_eq_true rfl) ?_
  intro p e s m below meth c A hC hr hk hnm
  have hC : zz_C p s m _ c A D (zt cI cII cF) 2 cX1_hasRow RX1 := hC
  refine zr_iload_n 1 hC dX1_hasRow_0 rfl rfl ?_
  refine zr_if_lt (tgt := 16) hC dX1_hasRow_1 (by decide) (fun c1 => ?_) (fun c1 => ?_)
  · refine zr_iconst (v := (0 : Int32)) hC dX1_hasRow_16 rfl ?_
    refine zr_zret hC hr hk dX1_hasRow_17 rfl (by decide) (by decide) ⟨_, rfl, ?_⟩
    exact ⟨rfl, Or.inr ⟨rfl, fun h => absurd h.1 (Int32.not_le.mpr c1)⟩⟩
  · refine zr_iload_n 1 hC dX1_hasRow_4 rfl rfl ?_
    refine zr_aload_n 0 hC dX1_hasRow_5 rfl rfl ?_
    refine zr_cVi 3 hC cv_X1_rowCount ml_X1_15 (c_X1_rowCount (a := a) (x := x) hR) dX1_hasRow_6 ⟨Nat.le_of_ble_eq_true rfl, Nat.le_of_ble_eq_true rfl⟩ ⟨Nat.le_of_ble_eq_true rfl, Nat.le_of_ble_eq_true rfl⟩ rfl rfl rfl rfl rfl (Nat.le_of_ble_eq_true rfl) ?_
    rintro _ _ ⟨rfl, rfl⟩
    refine zr_icmp_ge (tgt := 16) hC dX1_hasRow_9 (by decide) (fun c9 => ?_) (fun c9 => ?_)
    · refine zr_iconst (v := (0 : Int32)) hC dX1_hasRow_16 rfl ?_
      refine zr_zret hC hr hk dX1_hasRow_17 rfl (by decide) (by decide) ⟨_, rfl, ?_⟩
      exact ⟨rfl, Or.inr ⟨rfl, fun h => absurd h.2 (Int32.not_lt.mpr c9)⟩⟩
    · refine zr_iconst (v := (1 : Int32)) hC dX1_hasRow_12 rfl ?_
      refine zr_goto (tgt := 17) hC dX1_hasRow_13 (by decide) ?_
      refine zr_zret hC hr hk dX1_hasRow_17 rfl (by decide) (by decide) ⟨_, rfl, ?_⟩
      exact ⟨rfl, Or.inl ⟨rfl, Int32.not_lt.mp c1, Int32.not_le.mp c9⟩⟩
set_option maxRecDepth 100000 in
set_option maxHeartbeats 4000000 in
theorem c_X1_rowOf {q n j : Nat} {hh : Nat → Option Nat} (hq : cx_rw x = some q) (hL : q ∈ cx_L x) (hent : cx_ent x q = ze_q cII n hh) (hn : n ≤ 12) (hj : j < n) : zz_Mr l D (zt cI cII cF) yX1_rowOf cX1_rowOf 2 (some (.array .int)) 0 0 0 0 [.ref pp, .int (nI j)] (cw_W o rk sp pp fp cII cF a x) (fun r w' => r = hh j ∧ w' = (cw_W o rk sp pp fp cII cF a x)) := by
  refine zz_mk (by decide) (Nat.le_of_ble_eq_true rfl) ?_
  intro p e s m below meth c A hC hr hk hnm
  have hC : zz_C p s m _ c A D (zt cI cII cF) 2 cX1_rowOf RX1 := hC
  obtain ⟨kq, hkq⟩ := cw_get (o := o) (rk := rk) (sp := sp) (pp := pp) (fp := fp) (cII := cII) (cF := cF) (a := a) hL hent
  refine zr_aload_n 0 hC dX1_rowOf_0 rfl rfl ?_
  refine zr_get (v := va_rf (cx_rw x)) 3 0 hC iu_X1 rfl dX1_rowOf_1 fl_X1_9 (by decide) rfl rfl ?_
  refine zr_rfs hq ?_
  refine zr_iload_n 1 hC dX1_rowOf_4 rfl rfl ?_
  refine zr_aaj (j := j) kq 1 hC dX1_rowOf_5 hkq rfl rfl hj rfl (by omega) ?_
  refine zr_aret (v := (hh j)) hC hr hk dX1_rowOf_6 (by decide) (by decide) ⟨_, rfl, ?_⟩
  exact ⟨rfl, rfl⟩
set_option maxRecDepth 100000 in
set_option maxHeartbeats 4000000 in
theorem c_X1_replaceRowN {q n j : Nat} {hh : Nat → Option Nat} (hq : cx_rw x = some q) (hL : q ∈ cx_L x) (hent : cx_ent x q = ze_q cII n hh) (hn : n ≤ 12) (hj : j < n) : zz_Mv l D (zt cI cII cF) yX1_replaceRow cX1_replaceRow 3 none 0 0 0 0 [.ref pp, .int (nI j), .null] (cw_W o rk sp pp fp cII cF a x) (fun w' => w' = (cw_W o rk sp pp fp cII cF a (ck_ent x (va_up (cx_ent x) q (ze_q cII n (va_up hh j none)))))) := by
  refine zz_mk (by decide) (Nat.le_of_ble_eq_true rfl) ?_
  intro p e s m below meth c A hC hr hk hnm
  have hC : zz_C p s m _ c A D (zt cI cII cF) 3 cX1_replaceRow RX1 := hC
  obtain ⟨kq, hkq⟩ := cw_get (o := o) (rk := rk) (sp := sp) (pp := pp) (fp := fp) (cII := cII) (cF := cF) (a := a) hL hent
  refine zr_aload_n 0 hC dX1_replaceRow_0 rfl rfl ?_
  refine zr_get (v := va_rf (cx_rw x)) 3 0 hC iu_X1 rfl dX1_replaceRow_1 fl_X1_9 (by decide) rfl rfl ?_
  refine zr_rfs hq ?_
  refine zr_iload_n 1 hC dX1_replaceRow_4 rfl rfl ?_
  refine zr_aload_nN 2 hC dX1_replaceRow_5 rfl rfl ?_
  refine zr_apart (fun hD => ?_)
  refine zr_asjN (j := j) (w' := (cw_W o rk sp pp fp cII cF a (ck_ent x (va_up (cx_ent x) q (ze_q cII n (va_up hh j none)))))) kq 1 hC dX1_replaceRow_6 hkq rfl hj rfl (by omega) (cw_set hL hent hkq hD) ?_
  refine zr_vret hC hr hk dX1_replaceRow_7 (by decide) (by decide) ⟨rfl, ?_⟩
  exact rfl
set_option maxRecDepth 100000 in
set_option maxHeartbeats 4000000 in
theorem c_X1_replaceRowA {q n j : Nat} {hh : Nat → Option Nat} (hq : cx_rw x = some q) (hL : q ∈ cx_L x) (hent : cx_ent x q = ze_q cII n hh) (hn : n ≤ 12) (hj : j < n) {y k : Nat} {z : Nat → Int32} (hy : y ∈ cx_L x) (hey : cx_ent x y = ze_i cI k z) : zz_Mv l D (zt cI cII cF) yX1_replaceRow cX1_replaceRow 3 none 0 0 0 0 [.ref pp, .int (nI j), .ref y] (cw_W o rk sp pp fp cII cF a x) (fun w' => w' = (cw_W o rk sp pp fp cII cF a (ck_ent x (va_up (cx_ent x) q (ze_q cII n (va_up hh j (some y))))))) := by
  refine zz_mk (by decide) (Nat.le_of_ble_eq_true rfl) ?_
  intro p e s m below meth c A hC hr hk hnm
  have hC : zz_C p s m _ c A D (zt cI cII cF) 3 cX1_replaceRow RX1 := hC
  obtain ⟨kq, hkq⟩ := cw_get (o := o) (rk := rk) (sp := sp) (pp := pp) (fp := fp) (cII := cII) (cF := cF) (a := a) hL hent
  obtain ⟨ky, hky⟩ := cw_get (o := o) (rk := rk) (sp := sp) (pp := pp) (fp := fp) (cII := cII) (cF := cF) (a := a) hy hey
  refine zr_aload_n 0 hC dX1_replaceRow_0 rfl rfl ?_
  refine zr_get (v := va_rf (cx_rw x)) 3 0 hC iu_X1 rfl dX1_replaceRow_1 fl_X1_9 (by decide) rfl rfl ?_
  refine zr_rfs hq ?_
  refine zr_iload_n 1 hC dX1_replaceRow_4 rfl rfl ?_
  refine zr_aload_n 2 hC dX1_replaceRow_5 rfl rfl ?_
  refine zr_apart (fun hD => ?_)
  refine zr_asjA (j := j) (w' := (cw_W o rk sp pp fp cII cF a (ck_ent x (va_up (cx_ent x) q (ze_q cII n (va_up hh j (some y))))))) kq 1 0 ky hC dX1_replaceRow_6 hkq rfl hky rfl hj rfl (by omega) (cw_set hL hent hkq hD) ?_
  refine zr_vret hC hr hk dX1_replaceRow_7 (by decide) (by decide) ⟨rfl, ?_⟩
  exact rfl
set_option maxRecDepth 100000 in
set_option maxHeartbeats 4000000 in
theorem c_X1_refusalAt (hR : rc_Q cI cII a x) (i j0 : Int32) : zz_Mi l D (zt cI cII cF) yX1_refusalAt cX1_refusalAt 4 (some .int) 2 41 0 0 [.ref pp, .int i, .int j0] (cw_W o rk sp pp fp cII cF a x) (fun r w' => r = zf_whyC (aa_sh a) i j0 ∧ w' = (cw_W o rk sp pp fp cII cF a x)) := by
  refine zz_mk (by decide) (Nat.le_of_ble_eq_true rfl) ?_
  intro p e s m below meth c A hC hr hk hnm
  have hC : zz_C p s m _ c A D (zt cI cII cF) 4 cX1_refusalAt RX1 := hC
  refine zr_aload_n 0 hC dX1_refusalAt_0 rfl rfl ?_
  refine zr_get (v := va_rf (cx_rw x)) 3 0 hC iu_X1 rfl dX1_refusalAt_1 fl_X1_9 (by decide) rfl rfl ?_
  refine zr_rf (fun hq2 => ?_) (fun q1 hq2 => ?_)
  · refine zr_ifnonnullN hC dX1_refusalAt_4 ?_
    refine zr_iconst (v := (2 : Int32)) hC dX1_refusalAt_7 rfl ?_
    refine zr_iret hC hr hk dX1_refusalAt_8 (by decide) (by decide) ⟨_, rfl, ?_⟩
    exact ⟨(zf_whyC_none (hR.2.1.mp hq2)).symm, rfl⟩
  · obtain ⟨hL, n, m0, hh, hdim, hn, hm, hent, g6, g7, g8⟩ := hR.2.2 q1 hq2
    obtain ⟨kq, hkq⟩ := cw_get (o := o) (rk := rk) (sp := sp) (pp := pp) (fp := fp) (cII := cII) (cF := cF) (a := a) hL hent
    refine zr_ifnonnull (tgt := 9) hC dX1_refusalAt_4 (by decide) ?_
    refine zr_aload_n 0 hC dX1_refusalAt_9 rfl rfl ?_
    refine zr_iload_n 1 hC dX1_refusalAt_10 rfl rfl ?_
    refine zr_cVi 3 hC cv_X1_hasRow ml_X1_19 (c_X1_hasRow (a := a) (x := x) hR i) dX1_refusalAt_11 ⟨Nat.le_of_ble_eq_true rfl, Nat.le_of_ble_eq_true rfl⟩ ⟨Nat.le_of_ble_eq_true rfl, Nat.le_of_ble_eq_true rfl⟩ rfl rfl rfl rfl rfl (Nat.le_of_ble_eq_true rfl) ?_
    rintro _ _ ⟨rfl, ⟨rfl, hw3⟩ | ⟨rfl, hw3⟩⟩
    · refine zr_if_neT (tgt := 19) hC dX1_refusalAt_14 (by decide) (by decide) ?_
      refine zr_aload_n 0 hC dX1_refusalAt_19 rfl rfl ?_
      refine zr_get (v := va_rf (cx_rw x)) 3 0 hC iu_X1 rfl dX1_refusalAt_20 fl_X1_9 (by decide) rfl rfl ?_
      refine zr_rfs hq2 ?_
      refine zr_iload_n 1 hC dX1_refusalAt_23 rfl rfl ?_
      rw [zf_rows_some hdim] at hw3
      obtain ⟨ii, hii, rfl⟩ := zn_lt (by omega) hw3
      refine zr_aaj (j := ii) kq 1 hC dX1_refusalAt_24 hkq rfl rfl hii rfl (by omega) ?_
      refine zr_rf (fun hy => ?_) (fun y hy => ?_)
      · refine zr_astore_nN (lv' := [(3, .null), (0, .ref pp), (1, .int (nI ii)), (2, .int j0)]) hC dX1_refusalAt_25 rfl (by decide) rfl ?_
        refine zr_aload_nN 0 hC dX1_refusalAt_26 rfl rfl ?_
        refine zr_ifnonnullN hC dX1_refusalAt_27 ?_
        refine zr_iconst (v := (2 : Int32)) hC dX1_refusalAt_30 rfl ?_
        refine zr_iret hC hr hk dX1_refusalAt_31 (by decide) (by decide) ⟨_, rfl, ?_⟩
        exact ⟨by rw [zf_whyC_some hdim, if_pos hw3, nI_clamp (by omega)]; rw [if_neg (by rw [(g6 ii hii).mp hy]; decide)], rfl⟩
      · obtain ⟨hyL, ⟨z, hey, hz⟩, -⟩ := g7 ii y hii hy
        obtain ⟨ky, hky⟩ := cw_get (o := o) (rk := rk) (sp := sp) (pp := pp) (fp := fp) (cII := cII) (cF := cF) (a := a) hyL hey
        refine zr_astore_n (lv' := [(3, .ref y), (0, .ref pp), (1, .int (nI ii)), (2, .int j0)]) hC dX1_refusalAt_25 rfl (by decide) rfl ?_
        refine zr_aload_n 0 hC dX1_refusalAt_26 rfl rfl ?_
        refine zr_ifnonnull (tgt := 32) hC dX1_refusalAt_27 (by decide) ?_
        refine zr_iload_n 3 hC dX1_refusalAt_32 rfl rfl ?_
        refine zr_if_lt (tgt := 46) hC dX1_refusalAt_33 (by decide) (fun c33 => ?_) (fun c33 => ?_)
        · refine zr_iconst (v := (3 : Int32)) hC dX1_refusalAt_46 rfl ?_
          refine zr_iret hC hr hk dX1_refusalAt_47 (by decide) (by decide) ⟨_, rfl, ?_⟩
          have hp : (aa_sh a).2.1 ii = true := by
            cases e0 : (aa_sh a).2.1 ii with
            | true => rfl
            | false => rw [(g6 ii hii).mpr e0] at hy; cases hy
          exact ⟨by rw [zf_whyC_some hdim, if_pos hw3, nI_clamp (by omega)]; rw [if_pos hp, if_neg (fun h => absurd h.1 (Int32.not_le.mpr c33))], rfl⟩
        · refine zr_iload_n 3 hC dX1_refusalAt_36 rfl rfl ?_
          refine zr_aload_n 0 hC dX1_refusalAt_37 rfl rfl ?_
          refine zr_alen ky 0 hC dX1_refusalAt_38 hky rfl ?_
          refine zr_icmp_ge (tgt := 46) hC dX1_refusalAt_39 (by decide) (fun c39 => ?_) (fun c39 => ?_)
          · refine zr_iconst (v := (3 : Int32)) hC dX1_refusalAt_46 rfl ?_
            refine zr_iret hC hr hk dX1_refusalAt_47 (by decide) (by decide) ⟨_, rfl, ?_⟩
            have hp : (aa_sh a).2.1 ii = true := by
              cases e0 : (aa_sh a).2.1 ii with
              | true => rfl
              | false => rw [(g6 ii hii).mpr e0] at hy; cases hy
            exact ⟨by rw [zf_whyC_some hdim, if_pos hw3, nI_clamp (by omega)]; rw [if_pos hp, if_neg (fun h => absurd h.2 (Int32.not_lt.mpr c39))], rfl⟩
          · refine zr_iconst (v := (0 : Int32)) hC dX1_refusalAt_42 rfl ?_
            refine zr_goto (tgt := 47) hC dX1_refusalAt_43 (by decide) ?_
            refine zr_iret hC hr hk dX1_refusalAt_47 (by decide) (by decide) ⟨_, rfl, ?_⟩
            have hp : (aa_sh a).2.1 ii = true := by
              cases e0 : (aa_sh a).2.1 ii with
              | true => rfl
              | false => rw [(g6 ii hii).mpr e0] at hy; cases hy
            exact ⟨by rw [zf_whyC_some hdim, if_pos hw3, nI_clamp (by omega)]; rw [if_pos hp, if_pos ⟨Int32.not_lt.mp c33, Int32.not_le.mp c39⟩], rfl⟩
    · refine zr_if_neF (tgt := 19) hC dX1_refusalAt_14 (by decide) (by decide) ?_
      refine zr_iconst (v := (3 : Int32)) hC dX1_refusalAt_17 rfl ?_
      refine zr_iret hC hr hk dX1_refusalAt_18 (by decide) (by decide) ⟨_, rfl, ?_⟩
      exact ⟨by rw [zf_whyC_some hdim, ← zf_rows_some hdim, if_neg hw3], rfl⟩
set_option maxRecDepth 100000 in
set_option maxHeartbeats 4000000 in
theorem c_X1_numberAt (hR : rc_Q cI cII a x) {i j0 : Int32} (h0 : zf_whyC (aa_sh a) i j0 = 0) : zz_Mi l D (zt cI cII cF) yX1_numberAt cX1_numberAt 3 (some .int) 0 0 0 0 [.ref pp, .int i, .int j0] (cw_W o rk sp pp fp cII cF a x) (fun r w' => r = zf_cell (aa_sh a) i j0 ∧ w' = (cw_W o rk sp pp fp cII cF a x)) := by
  refine zz_mk (by decide) (Nat.le_of_ble_eq_true rfl) ?_
  intro p e s m below meth c A hC hr hk hnm
  have hC : zz_C p s m _ c A D (zt cI cII cF) 3 cX1_numberAt RX1 := hC
  obtain ⟨q, n, m0, hh, y, z, ii, jj, hq, hL, hent, hn, hii, rfl, hy, hyL, hey, hm, hjj, rfl, hz⟩ := rc_cell0 hR h0
  obtain ⟨kq, hkq⟩ := cw_get (o := o) (rk := rk) (sp := sp) (pp := pp) (fp := fp) (cII := cII) (cF := cF) (a := a) hL hent
  obtain ⟨ky, hky⟩ := cw_get (o := o) (rk := rk) (sp := sp) (pp := pp) (fp := fp) (cII := cII) (cF := cF) (a := a) hyL hey
  refine zr_aload_n 0 hC dX1_numberAt_0 rfl rfl ?_
  refine zr_get (v := va_rf (cx_rw x)) 3 0 hC iu_X1 rfl dX1_numberAt_1 fl_X1_9 (by decide) rfl rfl ?_
  refine zr_rfs hq ?_
  refine zr_iload_n 1 hC dX1_numberAt_4 rfl rfl ?_
  refine zr_aaj (j := ii) kq 1 hC dX1_numberAt_5 hkq rfl rfl hii rfl (by omega) ?_
  refine zr_rfs hy ?_
  refine zr_iload_n 2 hC dX1_numberAt_6 rfl rfl ?_
  refine zr_iaj (j := jj) ky 0 hC dX1_numberAt_7 hky rfl hjj rfl (by omega) ?_
  refine zr_iret hC hr hk dX1_numberAt_8 (by decide) (by decide) ⟨_, rfl, ?_⟩
  exact ⟨hz, rfl⟩
set_option maxRecDepth 100000 in
set_option maxHeartbeats 4000000 in
theorem c_X1_write (hR : rc_Q cI cII a x) {i j0 : Int32} (v : Int32) (h0 : zf_whyC (aa_sh a) i j0 = 0) : zz_Mv l D (zt cI cII cF) yX1_write cX1_write 4 none 0 0 0 0 [.ref pp, .int i, .int j0, .int v] (cw_W o rk sp pp fp cII cF a x) (fun w' => ∃ x', cx_fnd x' = cx_fnd x ∧ cx_K x x' ∧ w' = (cw_W o rk sp pp fp cII cF (zf_wri a i j0 v) x') ∧ rc_Q cI cII (zf_wri a i j0 v) x') := by
  refine zz_mk (by decide) (Nat.le_of_ble_eq_true rfl) ?_
  intro p e s m below meth c A hC hr hk hnm
  have hC : zz_C p s m _ c A D (zt cI cII cF) 4 cX1_write RX1 := hC
  obtain ⟨q, n, m0, hh, y, z, ii, jj, hq, hL, hent, hn, hii, rfl, hy, hyL, hey, hm, hjj, rfl, hz⟩ := rc_cell0 hR h0
  obtain ⟨kq, hkq⟩ := cw_get (o := o) (rk := rk) (sp := sp) (pp := pp) (fp := fp) (cII := cII) (cF := cF) (a := a) hL hent
  obtain ⟨ky, hky⟩ := cw_get (o := o) (rk := rk) (sp := sp) (pp := pp) (fp := fp) (cII := cII) (cF := cF) (a := a) hyL hey
  refine zr_aload_n 0 hC dX1_write_0 rfl rfl ?_
  refine zr_get (v := va_rf (cx_rw x)) 3 0 hC iu_X1 rfl dX1_write_1 fl_X1_9 (by decide) rfl rfl ?_
  refine zr_rfs hq ?_
  refine zr_iload_n 1 hC dX1_write_4 rfl rfl ?_
  refine zr_aaj (j := ii) kq 1 hC dX1_write_5 hkq rfl rfl hii rfl (by omega) ?_
  refine zr_rfs hy ?_
  refine zr_iload_n 2 hC dX1_write_6 rfl rfl ?_
  refine zr_iload_n 3 hC dX1_write_7 rfl rfl ?_
  refine zr_apart (fun hD => ?_)
  refine zr_iasj (j := jj) (w' := (cw_W o rk sp pp fp cII cF a (ck_ent x (va_up (cx_ent x) y (ze_i cI m0 (upd z jj v)))))) ky 0 hC dX1_write_8 hky rfl hjj rfl (by omega) (cw_set hyL hey hky hD) ?_
  refine zr_aload_n 0 hC dX1_write_9 rfl rfl ?_
  refine zr_dup hC dX1_write_10 rfl ?_
  refine zr_get (v := .int (aa_wr a)) 3 1 hC iu_X1 rfl dX1_write_11 fl_X1_23 (by decide) rfl rfl ?_
  refine zr_iconst (v := (1 : Int32)) hC dX1_write_14 rfl ?_
  refine zr_iadd hC dX1_write_15 ?_
  refine zr_put (w' := (cw_W o rk sp pp fp cII cF (as_wr a ((aa_wr a) + (1 : Int32))) (ck_ent x (va_up (cx_ent x) y (ze_i cI m0 (upd z jj v)))))) 3 1 hC iu_X1 tyX1_ok nmX1 rfl dX1_write_16 fl_X1_23 (by decide) rfl rfl rfl rfl (Nat.le_of_ble_eq_true rfl) rfl ?_
  refine zr_vret hC hr hk dX1_write_19 (by decide) (by decide) ⟨rfl, ?_⟩
  exact ⟨ck_ent x (va_up (cx_ent x) y (ze_i cI m0 (upd z jj v))), rfl, cx_K.put hey, rfl, rc_write hR hq hent hn hii hy hey hm hjj v⟩
end ZA3
end
section
section ZA4
variable {l : Launch} {D : va_G} {cI cII cF : ClassId} {o rk sp pp fp mo m1 m2 m3 m4 m5 m6 m7 m8 m9 : Nat}
variable {a : ax_A} {x : cx_X}
set_option maxRecDepth 100000 in
set_option maxHeartbeats 4000000 in
theorem c_X3_look (hR : rc_Q cI cII a x) {b s0 : Int32} (i : Int32) (hb : zk_b b) (hs : zk_s s0) : zz_Mi l D (zt cI cII cF) yX3_look cX3_look 5 (some .int) 2 46 0 0 [.ref o, .int b, .int s0, .int i] (cw_W o rk sp pp fp cII cF a x) (fun r w' => (zf_why (aa_st a) (zl b s0) i = 0 ∧ r = 0 ∧ w' = (cw_W o rk sp pp fp cII cF a (ck_fnd x (zf_val (aa_st a) (zl b s0) i)))) ∨ (¬ zf_why (aa_st a) (zl b s0) i = 0 ∧ r = zf_why (aa_st a) (zl b s0) i ∧ w' = (cw_W o rk sp pp fp cII cF (zf_cnt (zf_why (aa_st a) (zl b s0) i) a) x))) := by
  refine zz_mk (by decide) (Nat.le_of_ble_eq_true rfl) ?_
  intro p e s m below meth c A hC hr hk hnm
  have hC : zz_C p s m _ c A D (zt cI cII cF) 5 cX3_look RX3 := hC
  refine zr_aload_n 0 hC dX3_look_0 rfl rfl ?_
  refine zr_get (v := .ref rk) 0 0 hC iu_X3 rfl dX3_look_1 fl_X3_10 (by decide) rfl rfl ?_
  refine zr_iload_n 1 hC dX3_look_4 rfl rfl ?_
  refine zr_iload_n 2 hC dX3_look_5 rfl rfl ?_
  refine zr_iload_n 3 hC dX3_look_6 rfl rfl ?_
  refine zr_cVi 1 hC cv_X2_refusalAt ml_X3_156 (c_X2_refusalAt (a := a) (x := x) hR i hb hs) dX3_look_7 ⟨Nat.le_of_ble_eq_true rfl, Nat.le_of_ble_eq_true rfl⟩ ⟨Nat.le_of_ble_eq_true rfl, Nat.le_of_ble_eq_true rfl⟩ rfl rfl rfl rfl rfl (Nat.le_of_ble_eq_true rfl) ?_
  rintro _ _ ⟨rfl, rfl⟩
  refine zr_istore (lv' := [(4, .int (zf_why (aa_st a) (zl b s0) i)), (0, .ref o), (1, .int b), (2, .int s0), (3, .int i)]) hC dX3_look_10 (by decide) rfl ?_
  refine zr_iload 0 hC dX3_look_12 rfl ?_
  refine zr_if_ne (tgt := 31) hC dX3_look_14 (by decide) (fun c14 => ?_) (fun c14 => ?_)
  · refine zr_aload_n 1 hC dX3_look_31 rfl rfl ?_
    refine zr_iload 0 hC dX3_look_32 rfl ?_
    refine zr_cVi 0 hC cv_X3_counted ml_X3_40 (c_X3_counted (a := a) (x := x) (zf_why (aa_st a) (zl b s0) i)) dX3_look_34 ⟨Nat.le_of_ble_eq_true rfl, Nat.le_of_ble_eq_true rfl⟩ ⟨Nat.le_of_ble_eq_true rfl, Nat.le_of_ble_eq_true rfl⟩ rfl rfl rfl rfl rfl (Nat.le_of_ble_eq_true rfl) ?_
    rintro _ _ ⟨rfl, rfl⟩
    refine zr_iret hC hr hk dX3_look_37 (by decide) (by decide) ⟨_, rfl, ?_⟩
    exact Or.inr ⟨c14, rfl, rfl⟩
  · refine zr_aload_n 1 hC dX3_look_17 rfl rfl ?_
    refine zr_aload_n 1 hC dX3_look_18 rfl rfl ?_
    refine zr_get (v := .ref rk) 0 0 hC iu_X3 rfl dX3_look_19 fl_X3_10 (by decide) rfl rfl ?_
    refine zr_iload_n 2 hC dX3_look_22 rfl rfl ?_
    refine zr_iload_n 3 hC dX3_look_23 rfl rfl ?_
    refine zr_iload_n 4 hC dX3_look_24 rfl rfl ?_
    refine zr_cVi 1 hC cv_X2_numberAt ml_X3_158 (c_X2_numberAt (a := a) (x := x) hR hb hs c14) dX3_look_25 ⟨Nat.le_of_ble_eq_true rfl, Nat.le_of_ble_eq_true rfl⟩ ⟨Nat.le_of_ble_eq_true rfl, Nat.le_of_ble_eq_true rfl⟩ rfl rfl rfl rfl rfl (Nat.le_of_ble_eq_true rfl) ?_
    rintro _ _ ⟨rfl, rfl⟩
    refine zr_put (w' := (cw_W o rk sp pp fp cII cF a (ck_fnd x (zf_val (aa_st a) (zl b s0) i)))) 0 11 hC iu_X3 tyX3_ok nmX3 rfl dX3_look_28 fl_X3_66 (by decide) rfl rfl rfl rfl (Nat.le_of_ble_eq_true rfl) rfl ?_
    refine zr_aload_n 1 hC dX3_look_31 rfl rfl ?_
    refine zr_iload 0 hC dX3_look_32 rfl ?_
    refine zr_cVi 0 hC cv_X3_counted ml_X3_40 (c_X3_counted (a := a) (x := (ck_fnd x (zf_val (aa_st a) (zl b s0) i))) (zf_why (aa_st a) (zl b s0) i)) dX3_look_34 ⟨Nat.le_of_ble_eq_true rfl, Nat.le_of_ble_eq_true rfl⟩ ⟨Nat.le_of_ble_eq_true rfl, Nat.le_of_ble_eq_true rfl⟩ rfl rfl rfl rfl rfl (Nat.le_of_ble_eq_true rfl) ?_
    rintro _ _ ⟨rfl, rfl⟩
    refine zr_iret hC hr hk dX3_look_37 (by decide) (by decide) ⟨_, rfl, ?_⟩
    exact Or.inl ⟨c14, c14, by rw [c14, zf_cnt0]⟩
set_option maxRecDepth 100000 in
set_option maxHeartbeats 4000000 in
theorem c_X3_put (hR : rc_Q cI cII a x) {b s0 : Int32} (i v : Int32) (hb : zk_b b) (hs : zk_s s0) : zz_Mi l D (zt cI cII cF) yX3_put cX3_put 6 (some .int) 3 62 0 0 [.ref o, .int b, .int s0, .int i, .int v] (cw_W o rk sp pp fp cII cF a x) (fun r w' => (zf_why (aa_st a) (zl b s0) i = 0 ∧ r = 0 ∧ ∃ x', cx_fnd x' = cx_fnd x ∧ cx_K x x' ∧ w' = (cw_W o rk sp pp fp cII cF (zf_set a (zl b s0) i (zf_num s0 v)) x') ∧ rc_Q cI cII (zf_set a (zl b s0) i (zf_num s0 v)) x') ∨ (¬ zf_why (aa_st a) (zl b s0) i = 0 ∧ r = zf_why (aa_st a) (zl b s0) i ∧ w' = (cw_W o rk sp pp fp cII cF (zf_cnt (zf_why (aa_st a) (zl b s0) i) a) x))) := by
  refine zz_mk (by decide) (Nat.le_of_ble_eq_true rfl) ?_
  intro p e s m below meth c A hC hr hk hnm
  have hC : zz_C p s m _ c A D (zt cI cII cF) 6 cX3_put RX3 := hC
  refine zr_aload_n 0 hC dX3_put_0 rfl rfl ?_
  refine zr_get (v := .ref rk) 0 0 hC iu_X3 rfl dX3_put_1 fl_X3_10 (by decide) rfl rfl ?_
  refine zr_iload_n 1 hC dX3_put_4 rfl rfl ?_
  refine zr_iload_n 2 hC dX3_put_5 rfl rfl ?_
  refine zr_iload_n 3 hC dX3_put_6 rfl rfl ?_
  refine zr_cVi 1 hC cv_X2_refusalAt ml_X3_156 (c_X2_refusalAt (a := a) (x := x) hR i hb hs) dX3_put_7 ⟨Nat.le_of_ble_eq_true rfl, Nat.le_of_ble_eq_true rfl⟩ ⟨Nat.le_of_ble_eq_true rfl, Nat.le_of_ble_eq_true rfl⟩ rfl rfl rfl rfl rfl (Nat.le_of_ble_eq_true rfl) ?_
  rintro _ _ ⟨rfl, rfl⟩
  refine zr_istore (lv' := [(5, .int (zf_why (aa_st a) (zl b s0) i)), (0, .ref o), (1, .int b), (2, .int s0), (3, .int i), (4, .int v)]) hC dX3_put_10 (by decide) rfl ?_
  refine zr_iload 0 hC dX3_put_12 rfl ?_
  refine zr_if_ne (tgt := 33) hC dX3_put_14 (by decide) (fun c14 => ?_) (fun c14 => ?_)
  · refine zr_aload_n 1 hC dX3_put_33 rfl rfl ?_
    refine zr_iload 0 hC dX3_put_34 rfl ?_
    refine zr_cVi 0 hC cv_X3_counted ml_X3_40 (c_X3_counted (a := a) (x := x) (zf_why (aa_st a) (zl b s0) i)) dX3_put_36 ⟨Nat.le_of_ble_eq_true rfl, Nat.le_of_ble_eq_true rfl⟩ ⟨Nat.le_of_ble_eq_true rfl, Nat.le_of_ble_eq_true rfl⟩ rfl rfl rfl rfl rfl (Nat.le_of_ble_eq_true rfl) ?_
    rintro _ _ ⟨rfl, rfl⟩
    refine zr_iret hC hr hk dX3_put_39 (by decide) (by decide) ⟨_, rfl, ?_⟩
    exact Or.inr ⟨c14, rfl, rfl⟩
  · refine zr_aload_n 1 hC dX3_put_17 rfl rfl ?_
    refine zr_get (v := .ref rk) 0 0 hC iu_X3 rfl dX3_put_18 fl_X3_10 (by decide) rfl rfl ?_
    refine zr_iload_n 2 hC dX3_put_21 rfl rfl ?_
    refine zr_iload_n 3 hC dX3_put_22 rfl rfl ?_
    refine zr_iload_n 4 hC dX3_put_23 rfl rfl ?_
    refine zr_iload_n 3 hC dX3_put_24 rfl rfl ?_
    refine zr_iload 5 hC dX3_put_25 rfl ?_
    refine zr_cSi hC cs_X3_asNumber ml_X3_160 (c_X3_asNumber (w := (cw_W o rk sp pp fp cII cF a x)) s0 v) dX3_put_27 ⟨Nat.le_of_ble_eq_true rfl, Nat.le_of_ble_eq_true rfl⟩ ⟨Nat.le_of_ble_eq_true rfl, Nat.le_of_ble_eq_true rfl⟩ rfl rfl (Nat.le_of_ble_eq_true rfl) ?_
    rintro _ _ ⟨rfl, rfl⟩
    refine zr_cVv 1 hC cv_X2_setAt ml_X3_163 (c_X2_setAt (a := a) (x := x) hR (zf_num s0 v) hb hs c14) dX3_put_30 ⟨Nat.le_of_ble_eq_true rfl, Nat.le_of_ble_eq_true rfl⟩ ⟨Nat.le_of_ble_eq_true rfl, Nat.le_of_ble_eq_true rfl⟩ rfl rfl rfl rfl rfl (Nat.le_of_ble_eq_true rfl) ?_
    rintro _ ⟨x', hx1, hx2, rfl, hQ⟩
    refine zr_aload_n 1 hC dX3_put_33 rfl rfl ?_
    refine zr_iload 0 hC dX3_put_34 rfl ?_
    refine zr_cVi 0 hC cv_X3_counted ml_X3_40 (c_X3_counted (a := (zf_set a (zl b s0) i (zf_num s0 v))) (x := x') (zf_why (aa_st a) (zl b s0) i)) dX3_put_36 ⟨Nat.le_of_ble_eq_true rfl, Nat.le_of_ble_eq_true rfl⟩ ⟨Nat.le_of_ble_eq_true rfl, Nat.le_of_ble_eq_true rfl⟩ rfl rfl rfl rfl rfl (Nat.le_of_ble_eq_true rfl) ?_
    rintro _ _ ⟨rfl, rfl⟩
    refine zr_iret hC hr hk dX3_put_39 (by decide) (by decide) ⟨_, rfl, ?_⟩
    exact Or.inl ⟨c14, c14, x', hx1, hx2, by rw [c14, zf_cnt0], hQ⟩
set_option maxRecDepth 100000 in
set_option maxHeartbeats 4000000 in
theorem c_X3_measure (hR : rc_Q cI cII a x) {b s0 : Int32} (hb : zk_b b) (hs : zk_s s0) : zz_Mi l D (zt cI cII cF) yX3_measure cX3_measure 4 (some .int) 1 22 0 0 [.ref o, .int b, .int s0] (cw_W o rk sp pp fp cII cF a x) (fun r w' => ((aa_st a).1 (zl b s0) = none ∧ r = 2 ∧ w' = (cw_W o rk sp pp fp cII cF (zf_cnt 2 a) x)) ∨ (∃ n, n ≤ 24 ∧ (aa_st a).1 (zl b s0) = some n ∧ r = 0 ∧ w' = (cw_W o rk sp pp fp cII cF a (ck_fnd x (nI n))))) := by
  refine zz_mk (by decide) (Nat.le_of_ble_eq_true rfl) ?_
  intro p e s m below meth c A hC hr hk hnm
  have hC : zz_C p s m _ c A D (zt cI cII cF) 4 cX3_measure RX3 := hC
  refine zr_aload_n 0 hC dX3_measure_0 rfl rfl ?_
  refine zr_get (v := .ref rk) 0 0 hC iu_X3 rfl dX3_measure_1 fl_X3_10 (by decide) rfl rfl ?_
  refine zr_iload_n 1 hC dX3_measure_4 rfl rfl ?_
  refine zr_iload_n 2 hC dX3_measure_5 rfl rfl ?_
  refine zr_cVr 1 hC cv_X2_stripOf ml_X3_48 (c_X2_stripOf (a := a) (x := x) hb hs) dX3_measure_6 ⟨Nat.le_of_ble_eq_true rfl, Nat.le_of_ble_eq_true rfl⟩ ⟨Nat.le_of_ble_eq_true rfl, Nat.le_of_ble_eq_true rfl⟩ rfl rfl rfl rfl rfl (Nat.le_of_ble_eq_true rfl) ?_
  rintro r0 _ ⟨hr0, rfl⟩
  refine zr_rf (fun hn => ?_) (fun q hn => ?_)
  · subst hn
    refine zr_astore_nN (lv' := [(3, .null), (0, .ref o), (1, .int b), (2, .int s0)]) hC dX3_measure_9 rfl (by decide) rfl ?_
    refine zr_aload_nN 0 hC dX3_measure_10 rfl rfl ?_
    refine zr_ifnonnullN hC dX3_measure_11 ?_
    refine zr_aload_n 1 hC dX3_measure_14 rfl rfl ?_
    refine zr_iconst (v := (2 : Int32)) hC dX3_measure_15 rfl ?_
    refine zr_cVi 0 hC cv_X3_counted ml_X3_40 (c_X3_counted (a := a) (x := x) (2 : Int32)) dX3_measure_16 ⟨Nat.le_of_ble_eq_true rfl, Nat.le_of_ble_eq_true rfl⟩ ⟨Nat.le_of_ble_eq_true rfl, Nat.le_of_ble_eq_true rfl⟩ rfl rfl rfl rfl rfl (Nat.le_of_ble_eq_true rfl) ?_
    rintro _ _ ⟨rfl, rfl⟩
    refine zr_iret hC hr hk dX3_measure_19 (by decide) (by decide) ⟨_, rfl, ?_⟩
    exact Or.inl ⟨rc_none hR (zl_lt hb hs) hr0.symm, rfl, rfl⟩
  · subst hn
    obtain ⟨n, z, hL, he, h24, hlen⟩ := rc_len hR (zl_lt hb hs) hr0.symm
    obtain ⟨k0, hk0⟩ := cw_get (o := o) (rk := rk) (sp := sp) (pp := pp) (fp := fp) (cII := cII) (cF := cF) (a := a) hL he
    refine zr_astore_n (lv' := [(3, .ref q), (0, .ref o), (1, .int b), (2, .int s0)]) hC dX3_measure_9 rfl (by decide) rfl ?_
    refine zr_aload_n 0 hC dX3_measure_10 rfl rfl ?_
    refine zr_ifnonnull (tgt := 20) hC dX3_measure_11 (by decide) ?_
    refine zr_aload_n 1 hC dX3_measure_20 rfl rfl ?_
    refine zr_aload_n 0 hC dX3_measure_21 rfl rfl ?_
    refine zr_alen k0 0 hC dX3_measure_22 hk0 rfl ?_
    refine zr_put (w' := (cw_W o rk sp pp fp cII cF a (ck_fnd x (nI n)))) 0 11 hC iu_X3 tyX3_ok nmX3 rfl dX3_measure_23 fl_X3_66 (by decide) rfl rfl rfl rfl (Nat.le_of_ble_eq_true rfl) rfl ?_
    refine zr_iconst (v := (0 : Int32)) hC dX3_measure_26 rfl ?_
    refine zr_iret hC hr hk dX3_measure_27 (by decide) (by decide) ⟨_, rfl, ?_⟩
    exact Or.inr ⟨n, h24, hlen, rfl, rfl⟩
set_option maxRecDepth 100000 in
set_option maxHeartbeats 4000000 in
theorem c_X3_findShown (hR : rc_Q cI cII a x) {b : Int32} (i : Int32) (hb : zk_b b) : zz_Mi l D (zt cI cII cF) yX3_findShown cX3_findShown 6 (some .int) 3 70 0 0 [.ref o, .int b, .int i] (cw_W o rk sp pp fp cII cF a x) (fun r w' => ((zf_show a b i).1 = 0 ∧ r = 0 ∧ w' = (cw_W o rk sp pp fp cII cF (zf_show a b i).2.2 (ck_fnd x (zf_show a b i).2.1))) ∨ (¬ (zf_show a b i).1 = 0 ∧ r = (zf_show a b i).1 ∧ ∃ fn, w' = (cw_W o rk sp pp fp cII cF (zf_show a b i).2.2 (ck_fnd x fn)))) := by
  refine zz_mk (by decide) (Nat.le_of_ble_eq_true rfl) ?_
  intro p e s m below meth c A hC hr hk hnm
  have hC : zz_C p s m _ c A D (zt cI cII cF) 6 cX3_findShown RX3 := hC
  refine zr_aload_n 0 hC dX3_findShown_0 rfl rfl ?_
  refine zr_iload_n 1 hC dX3_findShown_1 rfl rfl ?_
  refine zr_iconst (v := (3 : Int32)) hC dX3_findShown_2 rfl ?_
  refine zr_iload_n 2 hC dX3_findShown_3 rfl rfl ?_
  refine zr_cVi 0 hC cv_X3_look ml_X3_58 (c_X3_look (a := a) (x := x) hR i hb zk_s3) dX3_findShown_4 ⟨Nat.le_of_ble_eq_true rfl, Nat.le_of_ble_eq_true rfl⟩ ⟨Nat.le_of_ble_eq_true rfl, Nat.le_of_ble_eq_true rfl⟩ rfl rfl rfl rfl rfl (Nat.le_of_ble_eq_true rfl) ?_
  rintro _ _ (⟨h1, rfl, rfl⟩ | ⟨h1, rfl, rfl⟩)
  · refine zr_istore_n (lv' := [(3, .int (0 : Int32)), (0, .ref o), (1, .int b), (2, .int i)]) hC dX3_findShown_7 rfl (by decide) rfl ?_
    refine zr_iload_n 0 hC dX3_findShown_8 rfl rfl ?_
    refine zr_if_neF (tgt := 19) hC dX3_findShown_9 (by decide) (by decide) ?_
    refine zr_aload_n 1 hC dX3_findShown_12 rfl rfl ?_
    refine zr_get (v := .int (zf_val (aa_st a) (zl b 3) i)) 0 11 hC iu_X3 rfl dX3_findShown_13 fl_X3_66 (by decide) rfl rfl ?_
    refine zr_if_ne (tgt := 21) hC dX3_findShown_16 (by decide) (fun c16 => ?_) (fun c16 => ?_)
    · refine zr_aload_n 1 hC dX3_findShown_21 rfl rfl ?_
      refine zr_iload_n 2 hC dX3_findShown_22 rfl rfl ?_
      refine zr_iconst (v := (2 : Int32)) hC dX3_findShown_23 rfl ?_
      refine zr_iload_n 3 hC dX3_findShown_24 rfl rfl ?_
      refine zr_cVi 0 hC cv_X3_look ml_X3_58 (c_X3_look (a := a) (x := (ck_fnd x (zf_val (aa_st a) (zl b 3) i))) hR i hb zk_s2) dX3_findShown_25 ⟨Nat.le_of_ble_eq_true rfl, Nat.le_of_ble_eq_true rfl⟩ ⟨Nat.le_of_ble_eq_true rfl, Nat.le_of_ble_eq_true rfl⟩ rfl rfl rfl rfl rfl (Nat.le_of_ble_eq_true rfl) ?_
      rintro _ _ (⟨h2, rfl, rfl⟩ | ⟨h2, rfl, rfl⟩)
      · refine zr_istore_n (lv' := [(3, .int (0 : Int32)), (0, .ref o), (1, .int b), (2, .int i)]) hC dX3_findShown_28 rfl (by decide) rfl ?_
        refine zr_iload_n 0 hC dX3_findShown_29 rfl rfl ?_
        refine zr_if_eqT (tgt := 35) hC dX3_findShown_30 (by decide) (by decide) ?_
        refine zr_aload_n 1 hC dX3_findShown_35 rfl rfl ?_
        refine zr_get (v := .int (zf_val (aa_st a) (zl b 2) i)) 0 11 hC iu_X3 rfl dX3_findShown_36 fl_X3_66 (by decide) rfl rfl ?_
        refine zr_istore (lv' := [(4, .int (zf_val (aa_st a) (zl b 2) i)), (3, .int (0 : Int32)), (0, .ref o), (1, .int b), (2, .int i)]) hC dX3_findShown_39 (by decide) rfl ?_
        refine zr_aload_n 2 hC dX3_findShown_41 rfl rfl ?_
        refine zr_iload_n 3 hC dX3_findShown_42 rfl rfl ?_
        refine zr_iconst (v := (1 : Int32)) hC dX3_findShown_43 rfl ?_
        refine zr_iload_n 4 hC dX3_findShown_44 rfl rfl ?_
        refine zr_cVi 0 hC cv_X3_look ml_X3_58 (c_X3_look (a := a) (x := (ck_fnd (ck_fnd x (zf_val (aa_st a) (zl b 3) i)) (zf_val (aa_st a) (zl b 2) i))) hR i hb zk_s1) dX3_findShown_45 ⟨Nat.le_of_ble_eq_true rfl, Nat.le_of_ble_eq_true rfl⟩ ⟨Nat.le_of_ble_eq_true rfl, Nat.le_of_ble_eq_true rfl⟩ rfl rfl rfl rfl rfl (Nat.le_of_ble_eq_true rfl) ?_
        rintro _ _ (⟨h3, rfl, rfl⟩ | ⟨h3, rfl, rfl⟩)
        · refine zr_istore_n (lv' := [(3, .int (0 : Int32)), (4, .int (zf_val (aa_st a) (zl b 2) i)), (0, .ref o), (1, .int b), (2, .int i)]) hC dX3_findShown_48 rfl (by decide) rfl ?_
          refine zr_iload_n 0 hC dX3_findShown_49 rfl rfl ?_
          refine zr_if_eqT (tgt := 55) hC dX3_findShown_50 (by decide) (by decide) ?_
          refine zr_iload 1 hC dX3_findShown_55 rfl ?_
          refine zr_aload_n 2 hC dX3_findShown_57 rfl rfl ?_
          refine zr_get (v := .int (zf_val (aa_st a) (zl b 1) i)) 0 11 hC iu_X3 rfl dX3_findShown_58 fl_X3_66 (by decide) rfl rfl ?_
          refine zr_iadd hC dX3_findShown_61 ?_
          refine zr_istore (lv' := [(5, .int ((zf_val (aa_st a) (zl b 2) i) + (zf_val (aa_st a) (zl b 1) i))), (3, .int (0 : Int32)), (4, .int (zf_val (aa_st a) (zl b 2) i)), (0, .ref o), (1, .int b), (2, .int i)]) hC dX3_findShown_62 (by decide) rfl ?_
          refine zr_aload_n 3 hC dX3_findShown_64 rfl rfl ?_
          refine zr_iload_n 4 hC dX3_findShown_65 rfl rfl ?_
          refine zr_iconst (v := (0 : Int32)) hC dX3_findShown_66 rfl ?_
          refine zr_iload_n 5 hC dX3_findShown_67 rfl rfl ?_
          refine zr_cVi 0 hC cv_X3_look ml_X3_58 (c_X3_look (a := a) (x := (ck_fnd (ck_fnd (ck_fnd x (zf_val (aa_st a) (zl b 3) i)) (zf_val (aa_st a) (zl b 2) i)) (zf_val (aa_st a) (zl b 1) i))) hR i hb zk_s0) dX3_findShown_68 ⟨Nat.le_of_ble_eq_true rfl, Nat.le_of_ble_eq_true rfl⟩ ⟨Nat.le_of_ble_eq_true rfl, Nat.le_of_ble_eq_true rfl⟩ rfl rfl rfl rfl rfl (Nat.le_of_ble_eq_true rfl) ?_
          rintro _ _ (⟨h4, rfl, rfl⟩ | ⟨h4, rfl, rfl⟩)
          · refine zr_istore_n (lv' := [(3, .int (0 : Int32)), (5, .int ((zf_val (aa_st a) (zl b 2) i) + (zf_val (aa_st a) (zl b 1) i))), (4, .int (zf_val (aa_st a) (zl b 2) i)), (0, .ref o), (1, .int b), (2, .int i)]) hC dX3_findShown_71 rfl (by decide) rfl ?_
            refine zr_iload_n 0 hC dX3_findShown_72 rfl rfl ?_
            refine zr_if_eqT (tgt := 78) hC dX3_findShown_73 (by decide) (by decide) ?_
            refine zr_aload_n 3 hC dX3_findShown_78 rfl rfl ?_
            refine zr_aload_n 3 hC dX3_findShown_79 rfl rfl ?_
            refine zr_get (v := .int (zf_val (aa_st a) (zl b 0) i)) 0 11 hC iu_X3 rfl dX3_findShown_80 fl_X3_66 (by decide) rfl rfl ?_
            refine zr_iconst (v := (2 : Int32)) hC dX3_findShown_83 rfl ?_
            refine zr_irem hC dX3_findShown_84 (by decide) ?_
            refine zr_if_ne (tgt := 93) hC dX3_findShown_85 (by decide) (fun c85 => ?_) (fun c85 => ?_)
            · refine zr_iload 1 hC dX3_findShown_93 rfl ?_
              refine zr_ineg hC dX3_findShown_95 ?_
              refine zr_put (w' := (cw_W o rk sp pp fp cII cF a (ck_fnd (ck_fnd (ck_fnd (ck_fnd (ck_fnd x (zf_val (aa_st a) (zl b 3) i)) (zf_val (aa_st a) (zl b 2) i)) (zf_val (aa_st a) (zl b 1) i)) (zf_val (aa_st a) (zl b 0) i)) (0 - ((zf_val (aa_st a) (zl b 2) i) + (zf_val (aa_st a) (zl b 1) i)))))) 0 11 hC iu_X3 tyX3_ok nmX3 rfl dX3_findShown_96 fl_X3_66 (by decide) rfl rfl rfl rfl (Nat.le_of_ble_eq_true rfl) rfl ?_
              refine zr_iconst (v := (0 : Int32)) hC dX3_findShown_99 rfl ?_
              refine zr_iret hC hr hk dX3_findShown_100 (by decide) (by decide) ⟨_, rfl, ?_⟩
              have e0 : (zf_show a b i) = (0, (0 - ((zf_val (aa_st a) (zl b 2) i) + (zf_val (aa_st a) (zl b 1) i))), a) := by simp [zf_show, h1, c16, h2, h3, h4, c85]
              exact Or.inl ⟨by rw [e0], rfl, by rw [e0]⟩
            · refine zr_iload 1 hC dX3_findShown_88 rfl ?_
              refine zr_goto (tgt := 96) hC dX3_findShown_90 (by decide) ?_
              refine zr_put (w' := (cw_W o rk sp pp fp cII cF a (ck_fnd (ck_fnd (ck_fnd (ck_fnd (ck_fnd x (zf_val (aa_st a) (zl b 3) i)) (zf_val (aa_st a) (zl b 2) i)) (zf_val (aa_st a) (zl b 1) i)) (zf_val (aa_st a) (zl b 0) i)) ((zf_val (aa_st a) (zl b 2) i) + (zf_val (aa_st a) (zl b 1) i))))) 0 11 hC iu_X3 tyX3_ok nmX3 rfl dX3_findShown_96 fl_X3_66 (by decide) rfl rfl rfl rfl (Nat.le_of_ble_eq_true rfl) rfl ?_
              refine zr_iconst (v := (0 : Int32)) hC dX3_findShown_99 rfl ?_
              refine zr_iret hC hr hk dX3_findShown_100 (by decide) (by decide) ⟨_, rfl, ?_⟩
              have e0 : (zf_show a b i) = (0, ((zf_val (aa_st a) (zl b 2) i) + (zf_val (aa_st a) (zl b 1) i)), a) := by simp [zf_show, h1, c16, h2, h3, h4, c85]
              exact Or.inl ⟨by rw [e0], rfl, by rw [e0]⟩
          · refine zr_istore_n (lv' := [(3, .int (zf_why (aa_st a) (zl b 0) i)), (5, .int ((zf_val (aa_st a) (zl b 2) i) + (zf_val (aa_st a) (zl b 1) i))), (4, .int (zf_val (aa_st a) (zl b 2) i)), (0, .ref o), (1, .int b), (2, .int i)]) hC dX3_findShown_71 rfl (by decide) rfl ?_
            refine zr_iload_n 0 hC dX3_findShown_72 rfl rfl ?_
            refine zr_if_eqF (tgt := 78) hC dX3_findShown_73 (by decide) h4 ?_
            refine zr_iload_n 0 hC dX3_findShown_76 rfl rfl ?_
            refine zr_iret hC hr hk dX3_findShown_77 (by decide) (by decide) ⟨_, rfl, ?_⟩
            have e0 : (zf_show a b i) = ((zf_why (aa_st a) (zl b 0) i), 0, (zf_cnt (zf_why (aa_st a) (zl b 0) i) a)) := by simp [zf_show, h1, c16, h2, h3, h4]
            exact Or.inr ⟨by rw [e0]; exact h4, by rw [e0], cx_fnd (ck_fnd (ck_fnd (ck_fnd x (zf_val (aa_st a) (zl b 3) i)) (zf_val (aa_st a) (zl b 2) i)) (zf_val (aa_st a) (zl b 1) i)), by rw [e0]⟩
        · refine zr_istore_n (lv' := [(3, .int (zf_why (aa_st a) (zl b 1) i)), (4, .int (zf_val (aa_st a) (zl b 2) i)), (0, .ref o), (1, .int b), (2, .int i)]) hC dX3_findShown_48 rfl (by decide) rfl ?_
          refine zr_iload_n 0 hC dX3_findShown_49 rfl rfl ?_
          refine zr_if_eqF (tgt := 55) hC dX3_findShown_50 (by decide) h3 ?_
          refine zr_iload_n 0 hC dX3_findShown_53 rfl rfl ?_
          refine zr_iret hC hr hk dX3_findShown_54 (by decide) (by decide) ⟨_, rfl, ?_⟩
          have e0 : (zf_show a b i) = ((zf_why (aa_st a) (zl b 1) i), 0, (zf_cnt (zf_why (aa_st a) (zl b 1) i) a)) := by simp [zf_show, h1, c16, h2, h3]
          exact Or.inr ⟨by rw [e0]; exact h3, by rw [e0], cx_fnd (ck_fnd (ck_fnd x (zf_val (aa_st a) (zl b 3) i)) (zf_val (aa_st a) (zl b 2) i)), by rw [e0]⟩
      · refine zr_istore_n (lv' := [(3, .int (zf_why (aa_st a) (zl b 2) i)), (0, .ref o), (1, .int b), (2, .int i)]) hC dX3_findShown_28 rfl (by decide) rfl ?_
        refine zr_iload_n 0 hC dX3_findShown_29 rfl rfl ?_
        refine zr_if_eqF (tgt := 35) hC dX3_findShown_30 (by decide) h2 ?_
        refine zr_iload_n 0 hC dX3_findShown_33 rfl rfl ?_
        refine zr_iret hC hr hk dX3_findShown_34 (by decide) (by decide) ⟨_, rfl, ?_⟩
        have e0 : (zf_show a b i) = ((zf_why (aa_st a) (zl b 2) i), 0, (zf_cnt (zf_why (aa_st a) (zl b 2) i) a)) := by simp [zf_show, h1, c16, h2]
        exact Or.inr ⟨by rw [e0]; exact h2, by rw [e0], cx_fnd (ck_fnd x (zf_val (aa_st a) (zl b 3) i)), by rw [e0]⟩
    · refine zr_iload_n 0 hC dX3_findShown_19 rfl rfl ?_
      refine zr_iret hC hr hk dX3_findShown_20 (by decide) (by decide) ⟨_, rfl, ?_⟩
      have e0 : (zf_show a b i) = (0, (zf_val (aa_st a) (zl b 3) i), a) := by simp [zf_show, h1, c16]
      exact Or.inl ⟨by rw [e0], rfl, by rw [e0]⟩
  · refine zr_istore_n (lv' := [(3, .int (zf_why (aa_st a) (zl b 3) i)), (0, .ref o), (1, .int b), (2, .int i)]) hC dX3_findShown_7 rfl (by decide) rfl ?_
    refine zr_iload_n 0 hC dX3_findShown_8 rfl rfl ?_
    refine zr_if_neT (tgt := 19) hC dX3_findShown_9 (by decide) h1 ?_
    refine zr_iload_n 0 hC dX3_findShown_19 rfl rfl ?_
    refine zr_iret hC hr hk dX3_findShown_20 (by decide) (by decide) ⟨_, rfl, ?_⟩
    have e0 : (zf_show a b i) = ((zf_why (aa_st a) (zl b 3) i), 0, (zf_cnt (zf_why (aa_st a) (zl b 3) i) a)) := by simp [zf_show, h1]
    exact Or.inr ⟨by rw [e0]; exact h1, by rw [e0], cx_fnd x, by rw [e0]⟩
set_option maxRecDepth 100000 in
set_option maxHeartbeats 4000000 in
theorem c_X3_isLit (hR : rc_Q cI cII a x) {b : Int32} (i : Int32) (hb : zk_b b) (hl : zf_why (aa_st a) (zl b 2) i = 0) : zz_Mi l D (zt cI cII cF) yX3_isLit cX3_isLit 3 (some .boolean) 3 70 0 0 [.ref o, .int b, .int i] (cw_W o rk sp pp fp cII cF a x) (fun r w' => ∃ fn, w' = (cw_W o rk sp pp fp cII cF (zf_cnt (zf_why (aa_st a) (zl b 3) i) a) (ck_fnd x fn)) ∧ ((r = 1 ∧ zf_why (aa_st a) (zl b 3) i = 0 ∧ ¬ zf_val (aa_st a) (zl b 3) i = 0 ∧ 0 < zf_val (aa_st a) (zl b 2) i) ∨ (r = 0 ∧ ¬ (zf_why (aa_st a) (zl b 3) i = 0 ∧ ¬ zf_val (aa_st a) (zl b 3) i = 0 ∧ 0 < zf_val (aa_st a) (zl b 2) i)))) := by
  refine zz_mk (by decide) (Nat.le_of_ble_eq_true rfl) ?_
  intro p e s m below meth c A hC hr hk hnm
  have hC : zz_C p s m _ c A D (zt cI cII cF) 3 cX3_isLit RX3 := hC
  refine zr_aload_n 0 hC dX3_isLit_0 rfl rfl ?_
  refine zr_iload_n 1 hC dX3_isLit_1 rfl rfl ?_
  refine zr_iconst (v := (3 : Int32)) hC dX3_isLit_2 rfl ?_
  refine zr_iload_n 2 hC dX3_isLit_3 rfl rfl ?_
  refine zr_cVi 0 hC cv_X3_look ml_X3_58 (c_X3_look (a := a) (x := x) hR i hb zk_s3) dX3_isLit_4 ⟨Nat.le_of_ble_eq_true rfl, Nat.le_of_ble_eq_true rfl⟩ ⟨Nat.le_of_ble_eq_true rfl, Nat.le_of_ble_eq_true rfl⟩ rfl rfl rfl rfl rfl (Nat.le_of_ble_eq_true rfl) ?_
  rintro _ _ (⟨h1, rfl, rfl⟩ | ⟨h1, rfl, rfl⟩)
  · refine zr_if_neF (tgt := 17) hC dX3_isLit_7 (by decide) (by decide) ?_
    refine zr_aload_n 0 hC dX3_isLit_10 rfl rfl ?_
    refine zr_get (v := .int (zf_val (aa_st a) (zl b 3) i)) 0 11 hC iu_X3 rfl dX3_isLit_11 fl_X3_66 (by decide) rfl rfl ?_
    refine zr_if_ne (tgt := 19) hC dX3_isLit_14 (by decide) (fun c14 => ?_) (fun c14 => ?_)
    · refine zr_aload_n 0 hC dX3_isLit_19 rfl rfl ?_
      refine zr_iload_n 1 hC dX3_isLit_20 rfl rfl ?_
      refine zr_iconst (v := (2 : Int32)) hC dX3_isLit_21 rfl ?_
      refine zr_iload_n 2 hC dX3_isLit_22 rfl rfl ?_
      refine zr_cVi 0 hC cv_X3_look ml_X3_58 (c_X3_look (a := a) (x := (ck_fnd x (zf_val (aa_st a) (zl b 3) i))) hR i hb zk_s2) dX3_isLit_23 ⟨Nat.le_of_ble_eq_true rfl, Nat.le_of_ble_eq_true rfl⟩ ⟨Nat.le_of_ble_eq_true rfl, Nat.le_of_ble_eq_true rfl⟩ rfl rfl rfl rfl rfl (Nat.le_of_ble_eq_true rfl) ?_
      rintro _ _ (⟨h2, rfl, rfl⟩ | ⟨h2, rfl, rfl⟩)
      · refine zr_if_neF (tgt := 40) hC dX3_isLit_26 (by decide) (by decide) ?_
        refine zr_aload_n 0 hC dX3_isLit_29 rfl rfl ?_
        refine zr_get (v := .int (zf_val (aa_st a) (zl b 2) i)) 0 11 hC iu_X3 rfl dX3_isLit_30 fl_X3_66 (by decide) rfl rfl ?_
        refine zr_if_le (tgt := 40) hC dX3_isLit_33 (by decide) (fun c33 => ?_) (fun c33 => ?_)
        · refine zr_iconst (v := (0 : Int32)) hC dX3_isLit_40 rfl ?_
          refine zr_zret hC hr hk dX3_isLit_41 rfl (by decide) (by decide) ⟨_, rfl, ?_⟩
          exact ⟨(zf_val (aa_st a) (zl b 2) i), by rw [h1, zf_cnt0], Or.inr ⟨rfl, fun h => absurd h.2.2 (Int32.not_lt.mpr c33)⟩⟩
        · refine zr_iconst (v := (1 : Int32)) hC dX3_isLit_36 rfl ?_
          refine zr_goto (tgt := 41) hC dX3_isLit_37 (by decide) ?_
          refine zr_zret hC hr hk dX3_isLit_41 rfl (by decide) (by decide) ⟨_, rfl, ?_⟩
          exact ⟨(zf_val (aa_st a) (zl b 2) i), by rw [h1, zf_cnt0], Or.inl ⟨rfl, h1, c14, Int32.not_le.mp c33⟩⟩
      · refine zr_if_neT (tgt := 40) hC dX3_isLit_26 (by decide) h2 ?_
        refine zr_iconst (v := (0 : Int32)) hC dX3_isLit_40 rfl ?_
        refine zr_zret hC hr hk dX3_isLit_41 rfl (by decide) (by decide) ⟨_, rfl, ?_⟩
        exact absurd hl h2
    · refine zr_iconst (v := (0 : Int32)) hC dX3_isLit_17 rfl ?_
      refine zr_zret hC hr hk dX3_isLit_18 rfl (by decide) (by decide) ⟨_, rfl, ?_⟩
      exact ⟨(zf_val (aa_st a) (zl b 3) i), by rw [h1, zf_cnt0], Or.inr ⟨rfl, fun h => absurd c14 h.2.1⟩⟩
  · refine zr_if_neT (tgt := 17) hC dX3_isLit_7 (by decide) h1 ?_
    refine zr_iconst (v := (0 : Int32)) hC dX3_isLit_17 rfl ?_
    refine zr_zret hC hr hk dX3_isLit_18 rfl (by decide) (by decide) ⟨_, rfl, ?_⟩
    exact ⟨cx_fnd x, rfl, Or.inr ⟨rfl, fun h => absurd h.1 h1⟩⟩
theorem zf_show_st (a : ax_A) (b i : Int32) : aa_st (zf_show a b i).2.2 = aa_st a ∧ aa_sh (zf_show a b i).2.2 = aa_sh a ∧ aa_fd (zf_show a b i).2.2 = aa_fd a := by
  unfold zf_show
  repeat' split
  all_goals exact ⟨rfl, rfl, rfl⟩
theorem rc_show {cI cII : ClassId} {a : ax_A} {x : cx_X} (hR : rc_Q cI cII a x) (b i fn : Int32) : rc_Q cI cII (zf_show a b i).2.2 (ck_fnd x fn) := hR.keep (zf_show_st a b i).1 (zf_show_st a b i).2.1 rfl rfl rfl rfl
set_option maxRecDepth 100000 in
set_option maxHeartbeats 4000000 in
theorem c_X3_drawLamp (hR : rc_Q cI cII a x) {b : Int32} (i j0 : Int32) (hb : zk_b b) : zz_Mi l D (zt cI cII cF) yX3_drawLamp cX3_drawLamp 5 (some .int) 4 95 0 0 [.ref o, .int b, .int i, .int j0] (cw_W o rk sp pp fp cII cF a x) (fun r w' => ((zf_show a b j0).1 = 0 ∧ zf_whyC (aa_sh (zf_show a b j0).2.2) i j0 = 0 ∧ r = 0 ∧ ∃ x', cx_K x x' ∧ w' = (cw_W o rk sp pp fp cII cF (zf_wri (zf_show a b j0).2.2 i j0 (zf_show a b j0).2.1) x') ∧ rc_Q cI cII (zf_wri (zf_show a b j0).2.2 i j0 (zf_show a b j0).2.1) x') ∨ ((zf_show a b j0).1 = 0 ∧ ¬ zf_whyC (aa_sh (zf_show a b j0).2.2) i j0 = 0 ∧ r = zf_whyC (aa_sh (zf_show a b j0).2.2) i j0 ∧ ∃ fn, w' = (cw_W o rk sp pp fp cII cF (zf_cnt (zf_whyC (aa_sh (zf_show a b j0).2.2) i j0) (zf_show a b j0).2.2) (ck_fnd x fn))) ∨ (¬ (zf_show a b j0).1 = 0 ∧ r = (zf_show a b j0).1 ∧ ∃ fn, w' = (cw_W o rk sp pp fp cII cF (zf_show a b j0).2.2 (ck_fnd x fn)))) := by
  refine zz_mk (by decide) (Nat.le_of_ble_eq_true rfl) ?_
  intro p e s m below meth c A hC hr hk hnm
  have hC : zz_C p s m _ c A D (zt cI cII cF) 5 cX3_drawLamp RX3 := hC
  refine zr_aload_n 0 hC dX3_drawLamp_0 rfl rfl ?_
  refine zr_iload_n 1 hC dX3_drawLamp_1 rfl rfl ?_
  refine zr_iload_n 3 hC dX3_drawLamp_2 rfl rfl ?_
  refine zr_cVi 0 hC cv_X3_findShown ml_X3_76 (c_X3_findShown (a := a) (x := x) hR j0 hb) dX3_drawLamp_3 ⟨Nat.le_of_ble_eq_true rfl, Nat.le_of_ble_eq_true rfl⟩ ⟨Nat.le_of_ble_eq_true rfl, Nat.le_of_ble_eq_true rfl⟩ rfl rfl rfl rfl rfl (Nat.le_of_ble_eq_true rfl) ?_
  rintro _ _ (⟨h1, rfl, rfl⟩ | ⟨h1, rfl, fn2, rfl⟩)
  · refine zr_istore (lv' := [(4, .int (0 : Int32)), (0, .ref o), (1, .int b), (2, .int i), (3, .int j0)]) hC dX3_drawLamp_6 (by decide) rfl ?_
    refine zr_iload 0 hC dX3_drawLamp_8 rfl ?_
    refine zr_if_eqT (tgt := 16) hC dX3_drawLamp_10 (by decide) (by decide) ?_
    refine zr_aload_n 1 hC dX3_drawLamp_16 rfl rfl ?_
    refine zr_get (v := .ref pp) 0 1 hC iu_X3 rfl dX3_drawLamp_17 fl_X3_19 (by decide) rfl rfl ?_
    refine zr_iload_n 3 hC dX3_drawLamp_20 rfl rfl ?_
    refine zr_iload_n 4 hC dX3_drawLamp_21 rfl rfl ?_
    refine zr_cVi 3 hC cv_X1_refusalAt ml_X3_98 (c_X1_refusalAt (a := ((zf_show a b j0).2.2)) (x := (ck_fnd x ((zf_show a b j0).2.1))) (rc_show hR b j0 _) i j0) dX3_drawLamp_22 ⟨Nat.le_of_ble_eq_true rfl, Nat.le_of_ble_eq_true rfl⟩ ⟨Nat.le_of_ble_eq_true rfl, Nat.le_of_ble_eq_true rfl⟩ rfl rfl rfl rfl rfl (Nat.le_of_ble_eq_true rfl) ?_
    rintro _ _ ⟨rfl, rfl⟩
    refine zr_istore (lv' := [(4, .int (zf_whyC (aa_sh ((zf_show a b j0).2.2)) i j0)), (0, .ref o), (1, .int b), (2, .int i), (3, .int j0)]) hC dX3_drawLamp_25 (by decide) rfl ?_
    refine zr_iload 0 hC dX3_drawLamp_27 rfl ?_
    refine zr_if_ne (tgt := 45) hC dX3_drawLamp_29 (by decide) (fun c29 => ?_) (fun c29 => ?_)
    · refine zr_aload_n 1 hC dX3_drawLamp_45 rfl rfl ?_
      refine zr_iload 0 hC dX3_drawLamp_46 rfl ?_
      refine zr_cVi 0 hC cv_X3_counted ml_X3_40 (c_X3_counted (a := ((zf_show a b j0).2.2)) (x := (ck_fnd x ((zf_show a b j0).2.1))) (zf_whyC (aa_sh ((zf_show a b j0).2.2)) i j0)) dX3_drawLamp_48 ⟨Nat.le_of_ble_eq_true rfl, Nat.le_of_ble_eq_true rfl⟩ ⟨Nat.le_of_ble_eq_true rfl, Nat.le_of_ble_eq_true rfl⟩ rfl rfl rfl rfl rfl (Nat.le_of_ble_eq_true rfl) ?_
      rintro _ _ ⟨rfl, rfl⟩
      refine zr_iret hC hr hk dX3_drawLamp_51 (by decide) (by decide) ⟨_, rfl, ?_⟩
      exact Or.inr (Or.inl ⟨h1, c29, rfl, cx_fnd (ck_fnd x ((zf_show a b j0).2.1)), rfl⟩)
    · refine zr_aload_n 1 hC dX3_drawLamp_32 rfl rfl ?_
      refine zr_get (v := .ref pp) 0 1 hC iu_X3 rfl dX3_drawLamp_33 fl_X3_19 (by decide) rfl rfl ?_
      refine zr_iload_n 3 hC dX3_drawLamp_36 rfl rfl ?_
      refine zr_iload_n 4 hC dX3_drawLamp_37 rfl rfl ?_
      refine zr_aload_n 1 hC dX3_drawLamp_38 rfl rfl ?_
      refine zr_get (v := .int ((zf_show a b j0).2.1)) 0 11 hC iu_X3 rfl dX3_drawLamp_39 fl_X3_66 (by decide) rfl rfl ?_
      refine zr_cVv 3 hC cv_X1_write ml_X3_166 (c_X1_write (a := ((zf_show a b j0).2.2)) (x := (ck_fnd x ((zf_show a b j0).2.1))) (rc_show hR b j0 _) ((zf_show a b j0).2.1) c29) dX3_drawLamp_42 ⟨Nat.le_of_ble_eq_true rfl, Nat.le_of_ble_eq_true rfl⟩ ⟨Nat.le_of_ble_eq_true rfl, Nat.le_of_ble_eq_true rfl⟩ rfl rfl rfl rfl rfl (Nat.le_of_ble_eq_true rfl) ?_
      rintro _ ⟨x', hx1, hx2, rfl, hQ⟩
      refine zr_aload_n 1 hC dX3_drawLamp_45 rfl rfl ?_
      refine zr_iload 0 hC dX3_drawLamp_46 rfl ?_
      refine zr_cVi 0 hC cv_X3_counted ml_X3_40 (c_X3_counted (a := (zf_wri ((zf_show a b j0).2.2) i j0 ((zf_show a b j0).2.1))) (x := x') (zf_whyC (aa_sh ((zf_show a b j0).2.2)) i j0)) dX3_drawLamp_48 ⟨Nat.le_of_ble_eq_true rfl, Nat.le_of_ble_eq_true rfl⟩ ⟨Nat.le_of_ble_eq_true rfl, Nat.le_of_ble_eq_true rfl⟩ rfl rfl rfl rfl rfl (Nat.le_of_ble_eq_true rfl) ?_
      rintro _ _ ⟨rfl, rfl⟩
      refine zr_iret hC hr hk dX3_drawLamp_51 (by decide) (by decide) ⟨_, rfl, ?_⟩
      exact Or.inl ⟨h1, c29, c29, x', hx2, by rw [c29, zf_cnt0], hQ⟩
  · refine zr_istore (lv' := [(4, .int ((zf_show a b j0).1)), (0, .ref o), (1, .int b), (2, .int i), (3, .int j0)]) hC dX3_drawLamp_6 (by decide) rfl ?_
    refine zr_iload 0 hC dX3_drawLamp_8 rfl ?_
    refine zr_if_eqF (tgt := 16) hC dX3_drawLamp_10 (by decide) h1 ?_
    refine zr_iload 0 hC dX3_drawLamp_13 rfl ?_
    refine zr_iret hC hr hk dX3_drawLamp_15 (by decide) (by decide) ⟨_, rfl, ?_⟩
    exact Or.inr (Or.inr ⟨h1, rfl, cx_fnd (ck_fnd x fn2), rfl⟩)
end ZA4
end
section
/-! ===== a public call's end; loops ===== -/
def zp_c (o rk sp pp fp : Nat) (cI cII cF : ClassId) (q : Int32 × ax_A) (r : Int32) (w' : va_W) : Prop := ∃ x', r = q.1 ∧ w' = cw_W o rk sp pp fp cII cF q.2 x' ∧ rc_R cI cII q.2 x'
theorem zp_mk {o rk sp pp fp : Nat} {cI cII cF : ClassId} {q : Int32 × ax_A} {r : Int32} {a' : ax_A} {x' : cx_X} (e : q = (r, a')) (hR : rc_R cI cII a' x') : zp_c o rk sp pp fp cI cII cF q r (cw_W o rk sp pp fp cII cF a' x') := by
  subst e
  exact ⟨x', rfl, rfl, hR⟩
theorem zp_mw {o rk sp pp fp : Nat} {cI cII cF : ClassId} {q : Int32 × ax_A} {r : Int32} {a' : ax_A} {x' : cx_X} {w' : va_W} (e : q = (r, a')) (hR : rc_R cI cII a' x') (hw : w' = cw_W o rk sp pp fp cII cF a' x') : zp_c o rk sp pp fp cI cII cF q r w' := by
  subst e
  exact ⟨x', rfl, hw, hR⟩
section ZLP
variable {p : Program} {l : Launch} {e : Env} {R : Room} {s : State} {m : MethodId} {args : Array Value} {below : List Frame} {meth : Method} {c : Code} {A : Nat → Prop} {D : va_G} {nL : Nat} {Q : State → Prop} {pc : Nat} {cells slots : Nat}
theorem zr_loop {σ : Type} (lvF : σ → List (Nat × Value)) (wF : σ → va_W) (I : σ → Prop) (μ : σ → Nat) (hs : ∀ t : σ, I t → (∀ t' : σ, I t' → μ t' < μ t → zz_Z p l e R s m args below meth c A D nL Q pc (lvF t') [] (wF t') cells slots) → zz_Z p l e R s m args below meth c A D nL Q pc (lvF t) [] (wF t) cells slots) (t0 : σ) (h0 : I t0) : zz_Z p l e R s m args below meth c A D nL Q pc (lvF t0) [] (wF t0) cells slots := by
  have key : ∀ (n : Nat) (t : σ), μ t < n → I t → zz_Z p l e R s m args below meth c A D nL Q pc (lvF t) [] (wF t) cells slots := by
    intro n
    induction n with
    | zero => intro t h; exact absurd h (Nat.not_lt_zero _)
    | succ n ih => intro t h hI; exact hs t hI (fun t' hI' hlt => ih t' (by omega) hI')
  exact key _ t0 (Nat.lt_succ_self _) h0
/-- the same, where the count of cells and slots grows with the rounds -/
theorem zr_loopC {σ : Type} (lvF : σ → List (Nat × Value)) (wF : σ → va_W) (cF sF : σ → Nat) (I : σ → Prop) (μ : σ → Nat) (hs : ∀ t : σ, I t → (∀ t' : σ, I t' → μ t' < μ t → zz_Z p l e R s m args below meth c A D nL Q pc (lvF t') [] (wF t') (cF t') (sF t')) → zz_Z p l e R s m args below meth c A D nL Q pc (lvF t) [] (wF t) (cF t) (sF t)) (t0 : σ) (h0 : I t0) : zz_Z p l e R s m args below meth c A D nL Q pc (lvF t0) [] (wF t0) (cF t0) (sF t0) := by
  have key : ∀ (n : Nat) (t : σ), μ t < n → I t → zz_Z p l e R s m args below meth c A D nL Q pc (lvF t) [] (wF t) (cF t) (sF t) := by
    intro n
    induction n with
    | zero => intro t h; exact absurd h (Nat.not_lt_zero _)
    | succ n ih => intro t h hI; exact hs t hI (fun t' hI' hlt => ih t' (by omega) hI')
  exact key _ t0 (Nat.lt_succ_self _) h0
end ZLP
theorem zk_div {q : Int32} (h : 0 ≤ q ∧ q < 16) : zk_s (q / 4) := by
  obtain ⟨j, hj, rfl⟩ := zn_of (n := 16) (by decide) h
  rw [show (4 : Int32) = nI 4 from rfl, pk_div (by omega) (by omega) (by omega)]
  exact ⟨nI_pos' (by omega), nI_lt (b := 4) (by omega) (by omega)⟩
theorem zk_rem {q : Int32} (h : 0 ≤ q ∧ q < 16) : zk_s (q - q / 4 * 4) := by
  obtain ⟨j, hj, rfl⟩ := zn_of (n := 16) (by decide) h
  rw [show (4 : Int32) = nI 4 from rfl, pk_rem (by omega) (by omega) (by omega)]
  exact ⟨nI_pos' (by omega), nI_lt (b := 4) (by omega) (by omega)⟩
theorem rc_dim {cI cII : ClassId} {a : ax_A} {x : cx_X} (hR : rc_Q cI cII a x) (h : ¬ (aa_sh a).1 = none) : ∃ (q n m : Nat) (hh : Nat → Option Nat), cx_rw x = some q ∧ q ∈ cx_L x ∧ cx_ent x q = ze_q cII n hh ∧ n ≤ 12 ∧ m ≤ 12 ∧ (aa_sh a).1 = some (n, m) ∧ zf_rows (aa_sh a) = nI n ∧ (∀ i, i < n → (hh i = none ↔ (aa_sh a).2.1 i = false)) ∧ (∀ i y, i < n → hh i = some y → y ∈ cx_L x ∧ ∃ z, cx_ent x y = ze_i cI m z) := by
  cases e : cx_rw x with
  | none => exact absurd (hR.2.1.mp e) h
  | some q =>
    obtain ⟨g1, n, m, hh, g2, g3, g4, g5, g6, g7, g8⟩ := hR.2.2 q e
    refine ⟨q, n, m, hh, rfl, g1, g5, g3, g4, g2, zf_rows_some g2, g6, fun i y hi hy => ?_⟩
    obtain ⟨k1, ⟨z, k2, -⟩, -⟩ := g7 i y hi hy
    exact ⟨k1, z, k2⟩
theorem zf_show_bad {a : ax_A} {b i : Int32} (h : ¬ (zf_show a b i).1 = 0) : (zf_show a b i).2.1 = 0 := by
  revert h
  unfold zf_show
  repeat' split
  all_goals first | exact fun _ => rfl | exact fun h => absurd rfl h
end
section
section ZA5
variable {l : Launch} {D : va_G} {cI cII cF : ClassId} {o rk sp pp fp mo m1 m2 m3 m4 m5 m6 m7 m8 m9 : Nat}
variable {a : ax_A} {x : cx_X}
set_option maxRecDepth 100000 in
set_option maxHeartbeats 4000000 in
theorem c_X3_get (hR : rc_R cI cII a x) (b s0 i : Int32) : zz_Mi l D (zt cI cII cF) yX3_get cX3_get 4 (some .int) 3 70 0 0 [.ref o, .int b, .int s0, .int i] (cw_W o rk sp pp fp cII cF a x) (fun r w' => zp_c o rk sp pp fp cI cII cF (zo_get a b s0 i) r w') := by
  refine zz_mk (by decide) (Nat.le_of_ble_eq_true rfl) ?_
  intro p e s m below meth c A hC hr hk hnm
  have hC : zz_C p s m _ c A D (zt cI cII cF) 4 cX3_get RX3 := hC
  refine zr_iload_n 1 hC dX3_get_0 rfl rfl ?_
  refine zr_cSi hC cs_X3_isBank ml_X3_29 (c_X3_isBank (w := (cw_W o rk sp pp fp cII cF a x)) b) dX3_get_1 ⟨Nat.le_of_ble_eq_true rfl, Nat.le_of_ble_eq_true rfl⟩ ⟨Nat.le_of_ble_eq_true rfl, Nat.le_of_ble_eq_true rfl⟩ rfl rfl (Nat.le_of_ble_eq_true rfl) ?_
  rintro _ _ ⟨rfl, ⟨rfl, hb_b⟩ | ⟨rfl, hb_b⟩⟩
  · refine zr_if_eqF (tgt := 14) hC dX3_get_4 (by decide) (by decide) ?_
    refine zr_iload_n 2 hC dX3_get_7 rfl rfl ?_
    refine zr_cSi hC cs_X3_isStrip ml_X3_33 (c_X3_isStrip (w := (cw_W o rk sp pp fp cII cF a x)) s0) dX3_get_8 ⟨Nat.le_of_ble_eq_true rfl, Nat.le_of_ble_eq_true rfl⟩ ⟨Nat.le_of_ble_eq_true rfl, Nat.le_of_ble_eq_true rfl⟩ rfl rfl (Nat.le_of_ble_eq_true rfl) ?_
    rintro _ _ ⟨rfl, ⟨rfl, hs_s0⟩ | ⟨rfl, hs_s0⟩⟩
    · refine zr_if_neT (tgt := 21) hC dX3_get_11 (by decide) (by decide) ?_
      refine zr_aload_n 0 hC dX3_get_21 rfl rfl ?_
      refine zr_aload_n 0 hC dX3_get_22 rfl rfl ?_
      refine zr_iload_n 1 hC dX3_get_23 rfl rfl ?_
      refine zr_iload_n 2 hC dX3_get_24 rfl rfl ?_
      refine zr_iload_n 3 hC dX3_get_25 rfl rfl ?_
      refine zr_cVi 0 hC cv_X3_look ml_X3_58 (c_X3_look (a := a) (x := x) hR.1 i hb_b hs_s0) dX3_get_26 ⟨Nat.le_of_ble_eq_true rfl, Nat.le_of_ble_eq_true rfl⟩ ⟨Nat.le_of_ble_eq_true rfl, Nat.le_of_ble_eq_true rfl⟩ rfl rfl rfl rfl rfl (Nat.le_of_ble_eq_true rfl) ?_
      rintro _ _ (⟨h1, rfl, rfl⟩ | ⟨h1, rfl, rfl⟩)
      · refine zr_cVi 0 hC cv_X3_leaveFound ml_X3_55 (c_X3_leaveFound (a := a) (x := (ck_fnd x (zf_val (aa_st a) (zl b s0) i))) (0 : Int32)) dX3_get_29 ⟨Nat.le_of_ble_eq_true rfl, Nat.le_of_ble_eq_true rfl⟩ ⟨Nat.le_of_ble_eq_true rfl, Nat.le_of_ble_eq_true rfl⟩ rfl rfl rfl rfl rfl (Nat.le_of_ble_eq_true rfl) ?_
        rintro _ _ ⟨rfl, rfl⟩
        refine zr_iret hC hr hk dX3_get_32 (by decide) (by decide) ⟨_, rfl, ?_⟩
        exact zp_mk (by unfold zo_get; rw [if_pos ⟨hb_b, hs_s0⟩]; first | done | rfl | simp [h1]) hR
      · refine zr_cVi 0 hC cv_X3_leaveFound ml_X3_55 (c_X3_leaveFound (a := (zf_cnt (zf_why (aa_st a) (zl b s0) i) a)) (x := x) (zf_why (aa_st a) (zl b s0) i)) dX3_get_29 ⟨Nat.le_of_ble_eq_true rfl, Nat.le_of_ble_eq_true rfl⟩ ⟨Nat.le_of_ble_eq_true rfl, Nat.le_of_ble_eq_true rfl⟩ rfl rfl rfl rfl rfl (Nat.le_of_ble_eq_true rfl) ?_
        rintro _ _ ⟨rfl, rfl⟩
        refine zr_iret hC hr hk dX3_get_32 (by decide) (by decide) ⟨_, rfl, ?_⟩
        exact zp_mk (by unfold zo_get; rw [if_pos ⟨hb_b, hs_s0⟩]; first | done | rfl | simp [h1]) hR
    · refine zr_if_neF (tgt := 21) hC dX3_get_11 (by decide) (by decide) ?_
      refine zr_aload_n 0 hC dX3_get_14 rfl rfl ?_
      refine zr_iconst (v := (1 : Int32)) hC dX3_get_15 rfl ?_
      refine zr_iconst (v := (0 : Int32)) hC dX3_get_16 rfl ?_
      refine zr_cVi 0 hC cv_X3_leave ml_X3_36 (c_X3_leave (a := a) (x := x) (1 : Int32) (0 : Int32)) dX3_get_17 ⟨Nat.le_of_ble_eq_true rfl, Nat.le_of_ble_eq_true rfl⟩ ⟨Nat.le_of_ble_eq_true rfl, Nat.le_of_ble_eq_true rfl⟩ rfl rfl rfl rfl rfl (Nat.le_of_ble_eq_true rfl) ?_
      rintro rr _ ⟨hrr, rfl⟩
      subst rr
      refine zr_iret hC hr hk dX3_get_20 (by decide) (by decide) ⟨_, rfl, ?_⟩
      exact zp_mk (if_neg (fun h => absurd h.2 hs_s0)) hR
  · refine zr_if_eqT (tgt := 14) hC dX3_get_4 (by decide) (by decide) ?_
    refine zr_aload_n 0 hC dX3_get_14 rfl rfl ?_
    refine zr_iconst (v := (1 : Int32)) hC dX3_get_15 rfl ?_
    refine zr_iconst (v := (0 : Int32)) hC dX3_get_16 rfl ?_
    refine zr_cVi 0 hC cv_X3_leave ml_X3_36 (c_X3_leave (a := a) (x := x) (1 : Int32) (0 : Int32)) dX3_get_17 ⟨Nat.le_of_ble_eq_true rfl, Nat.le_of_ble_eq_true rfl⟩ ⟨Nat.le_of_ble_eq_true rfl, Nat.le_of_ble_eq_true rfl⟩ rfl rfl rfl rfl rfl (Nat.le_of_ble_eq_true rfl) ?_
    rintro rr _ ⟨hrr, rfl⟩
    subst rr
    refine zr_iret hC hr hk dX3_get_20 (by decide) (by decide) ⟨_, rfl, ?_⟩
    exact zp_mk (if_neg (fun h => absurd h.1 hb_b)) hR
set_option maxRecDepth 100000 in
set_option maxHeartbeats 4000000 in
theorem c_X3_set (hR : rc_R cI cII a x) (b s0 i v : Int32) : zz_Mi l D (zt cI cII cF) yX3_set cX3_set 6 (some .int) 4 87 0 0 [.ref o, .int b, .int s0, .int i, .int v] (cw_W o rk sp pp fp cII cF a x) (fun r w' => zp_c o rk sp pp fp cI cII cF (zo_set a b s0 i v) r w') := by
  refine zz_mk (by decide) (Nat.le_of_ble_eq_true rfl) ?_
  intro p e s m below meth c A hC hr hk hnm
  have hC : zz_C p s m _ c A D (zt cI cII cF) 6 cX3_set RX3 := hC
  refine zr_iload_n 1 hC dX3_set_0 rfl rfl ?_
  refine zr_cSi hC cs_X3_isBank ml_X3_29 (c_X3_isBank (w := (cw_W o rk sp pp fp cII cF a x)) b) dX3_set_1 ⟨Nat.le_of_ble_eq_true rfl, Nat.le_of_ble_eq_true rfl⟩ ⟨Nat.le_of_ble_eq_true rfl, Nat.le_of_ble_eq_true rfl⟩ rfl rfl (Nat.le_of_ble_eq_true rfl) ?_
  rintro _ _ ⟨rfl, ⟨rfl, hb_b⟩ | ⟨rfl, hb_b⟩⟩
  · refine zr_if_eqF (tgt := 14) hC dX3_set_4 (by decide) (by decide) ?_
    refine zr_iload_n 2 hC dX3_set_7 rfl rfl ?_
    refine zr_cSi hC cs_X3_isStrip ml_X3_33 (c_X3_isStrip (w := (cw_W o rk sp pp fp cII cF a x)) s0) dX3_set_8 ⟨Nat.le_of_ble_eq_true rfl, Nat.le_of_ble_eq_true rfl⟩ ⟨Nat.le_of_ble_eq_true rfl, Nat.le_of_ble_eq_true rfl⟩ rfl rfl (Nat.le_of_ble_eq_true rfl) ?_
    rintro _ _ ⟨rfl, ⟨rfl, hs_s0⟩ | ⟨rfl, hs_s0⟩⟩
    · refine zr_if_neT (tgt := 21) hC dX3_set_11 (by decide) (by decide) ?_
      refine zr_aload_n 0 hC dX3_set_21 rfl rfl ?_
      refine zr_iload_n 1 hC dX3_set_22 rfl rfl ?_
      refine zr_iload_n 2 hC dX3_set_23 rfl rfl ?_
      refine zr_iload_n 3 hC dX3_set_24 rfl rfl ?_
      refine zr_cVi 0 hC cv_X3_look ml_X3_58 (c_X3_look (a := a) (x := x) hR.1 i hb_b hs_s0) dX3_set_25 ⟨Nat.le_of_ble_eq_true rfl, Nat.le_of_ble_eq_true rfl⟩ ⟨Nat.le_of_ble_eq_true rfl, Nat.le_of_ble_eq_true rfl⟩ rfl rfl rfl rfl rfl (Nat.le_of_ble_eq_true rfl) ?_
      rintro _ _ (⟨h1, rfl, rfl⟩ | ⟨h1, rfl, rfl⟩)
      · refine zr_istore (lv' := [(5, .int (0 : Int32)), (0, .ref o), (1, .int b), (2, .int s0), (3, .int i), (4, .int v)]) hC dX3_set_28 (by decide) rfl ?_
        refine zr_iload 0 hC dX3_set_30 rfl ?_
        refine zr_if_neF (tgt := 46) hC dX3_set_32 (by decide) (by decide) ?_
        refine zr_aload_n 1 hC dX3_set_35 rfl rfl ?_
        refine zr_iload_n 2 hC dX3_set_36 rfl rfl ?_
        refine zr_iload_n 3 hC dX3_set_37 rfl rfl ?_
        refine zr_iload_n 4 hC dX3_set_38 rfl rfl ?_
        refine zr_iload 5 hC dX3_set_39 rfl ?_
        refine zr_cVi 0 hC cv_X3_put ml_X3_62 (c_X3_put (a := a) (x := (ck_fnd x (zf_val (aa_st a) (zl b s0) i))) hR.1 i v hb_b hs_s0) dX3_set_41 ⟨Nat.le_of_ble_eq_true rfl, Nat.le_of_ble_eq_true rfl⟩ ⟨Nat.le_of_ble_eq_true rfl, Nat.le_of_ble_eq_true rfl⟩ rfl rfl rfl rfl rfl (Nat.le_of_ble_eq_true rfl) ?_
        rintro _ _ (⟨-, rfl, x2, hFx2, hKx2, rfl, hQx2⟩ | ⟨hno, -, -⟩)
        · refine zr_istore (lv' := [(5, .int (0 : Int32)), (0, .ref o), (1, .int b), (2, .int s0), (3, .int i), (4, .int v)]) hC dX3_set_44 (by decide) rfl ?_
          refine zr_aload_n 1 hC dX3_set_46 rfl rfl ?_
          refine zr_iload 0 hC dX3_set_47 rfl ?_
          refine zr_cVi 0 hC cv_X3_leaveFound ml_X3_55 (c_X3_leaveFound (a := (zf_set a (zl b s0) i (zf_num s0 v))) (x := x2) (0 : Int32)) dX3_set_49 ⟨Nat.le_of_ble_eq_true rfl, Nat.le_of_ble_eq_true rfl⟩ ⟨Nat.le_of_ble_eq_true rfl, Nat.le_of_ble_eq_true rfl⟩ rfl rfl rfl rfl rfl (Nat.le_of_ble_eq_true rfl) ?_
          rintro _ _ ⟨rfl, rfl⟩
          refine zr_iret hC hr hk dX3_set_52 (by decide) (by decide) ⟨_, rfl, ?_⟩
          exact zp_mk (by unfold zo_set; rw [if_pos ⟨hb_b, hs_s0⟩]; first | done | rfl | simp [h1, hFx2]) (hR.of hQx2 hKx2 rfl)
        · exact absurd h1 hno
      · refine zr_istore (lv' := [(5, .int (zf_why (aa_st a) (zl b s0) i)), (0, .ref o), (1, .int b), (2, .int s0), (3, .int i), (4, .int v)]) hC dX3_set_28 (by decide) rfl ?_
        refine zr_iload 0 hC dX3_set_30 rfl ?_
        refine zr_if_neT (tgt := 46) hC dX3_set_32 (by decide) h1 ?_
        refine zr_aload_n 1 hC dX3_set_46 rfl rfl ?_
        refine zr_iload 0 hC dX3_set_47 rfl ?_
        refine zr_cVi 0 hC cv_X3_leaveFound ml_X3_55 (c_X3_leaveFound (a := (zf_cnt (zf_why (aa_st a) (zl b s0) i) a)) (x := x) (zf_why (aa_st a) (zl b s0) i)) dX3_set_49 ⟨Nat.le_of_ble_eq_true rfl, Nat.le_of_ble_eq_true rfl⟩ ⟨Nat.le_of_ble_eq_true rfl, Nat.le_of_ble_eq_true rfl⟩ rfl rfl rfl rfl rfl (Nat.le_of_ble_eq_true rfl) ?_
        rintro _ _ ⟨rfl, rfl⟩
        refine zr_iret hC hr hk dX3_set_52 (by decide) (by decide) ⟨_, rfl, ?_⟩
        exact zp_mk (by unfold zo_set; rw [if_pos ⟨hb_b, hs_s0⟩]; first | done | rfl | simp [h1]) hR
    · refine zr_if_neF (tgt := 21) hC dX3_set_11 (by decide) (by decide) ?_
      refine zr_aload_n 0 hC dX3_set_14 rfl rfl ?_
      refine zr_iconst (v := (1 : Int32)) hC dX3_set_15 rfl ?_
      refine zr_iconst (v := (0 : Int32)) hC dX3_set_16 rfl ?_
      refine zr_cVi 0 hC cv_X3_leave ml_X3_36 (c_X3_leave (a := a) (x := x) (1 : Int32) (0 : Int32)) dX3_set_17 ⟨Nat.le_of_ble_eq_true rfl, Nat.le_of_ble_eq_true rfl⟩ ⟨Nat.le_of_ble_eq_true rfl, Nat.le_of_ble_eq_true rfl⟩ rfl rfl rfl rfl rfl (Nat.le_of_ble_eq_true rfl) ?_
      rintro rr _ ⟨hrr, rfl⟩
      subst rr
      refine zr_iret hC hr hk dX3_set_20 (by decide) (by decide) ⟨_, rfl, ?_⟩
      exact zp_mk (if_neg (fun h => absurd h.2 hs_s0)) hR
  · refine zr_if_eqT (tgt := 14) hC dX3_set_4 (by decide) (by decide) ?_
    refine zr_aload_n 0 hC dX3_set_14 rfl rfl ?_
    refine zr_iconst (v := (1 : Int32)) hC dX3_set_15 rfl ?_
    refine zr_iconst (v := (0 : Int32)) hC dX3_set_16 rfl ?_
    refine zr_cVi 0 hC cv_X3_leave ml_X3_36 (c_X3_leave (a := a) (x := x) (1 : Int32) (0 : Int32)) dX3_set_17 ⟨Nat.le_of_ble_eq_true rfl, Nat.le_of_ble_eq_true rfl⟩ ⟨Nat.le_of_ble_eq_true rfl, Nat.le_of_ble_eq_true rfl⟩ rfl rfl rfl rfl rfl (Nat.le_of_ble_eq_true rfl) ?_
    rintro rr _ ⟨hrr, rfl⟩
    subst rr
    refine zr_iret hC hr hk dX3_set_20 (by decide) (by decide) ⟨_, rfl, ?_⟩
    exact zp_mk (if_neg (fun h => absurd h.1 hb_b)) hR
set_option maxRecDepth 100000 in
set_option maxHeartbeats 4000000 in
theorem c_X3_size (hR : rc_R cI cII a x) (b s0 : Int32) : zz_Mi l D (zt cI cII cF) yX3_size cX3_size 3 (some .int) 2 45 0 0 [.ref o, .int b, .int s0] (cw_W o rk sp pp fp cII cF a x) (fun r w' => zp_c o rk sp pp fp cI cII cF (zo_size a b s0) r w') := by
  refine zz_mk (by decide) (Nat.le_of_ble_eq_true rfl) ?_
  intro p e s m below meth c A hC hr hk hnm
  have hC : zz_C p s m _ c A D (zt cI cII cF) 3 cX3_size RX3 := hC
  refine zr_iload_n 1 hC dX3_size_0 rfl rfl ?_
  refine zr_cSi hC cs_X3_isBank ml_X3_29 (c_X3_isBank (w := (cw_W o rk sp pp fp cII cF a x)) b) dX3_size_1 ⟨Nat.le_of_ble_eq_true rfl, Nat.le_of_ble_eq_true rfl⟩ ⟨Nat.le_of_ble_eq_true rfl, Nat.le_of_ble_eq_true rfl⟩ rfl rfl (Nat.le_of_ble_eq_true rfl) ?_
  rintro _ _ ⟨rfl, ⟨rfl, hb_b⟩ | ⟨rfl, hb_b⟩⟩
  · refine zr_if_eqF (tgt := 14) hC dX3_size_4 (by decide) (by decide) ?_
    refine zr_iload_n 2 hC dX3_size_7 rfl rfl ?_
    refine zr_cSi hC cs_X3_isStrip ml_X3_33 (c_X3_isStrip (w := (cw_W o rk sp pp fp cII cF a x)) s0) dX3_size_8 ⟨Nat.le_of_ble_eq_true rfl, Nat.le_of_ble_eq_true rfl⟩ ⟨Nat.le_of_ble_eq_true rfl, Nat.le_of_ble_eq_true rfl⟩ rfl rfl (Nat.le_of_ble_eq_true rfl) ?_
    rintro _ _ ⟨rfl, ⟨rfl, hs_s0⟩ | ⟨rfl, hs_s0⟩⟩
    · refine zr_if_neT (tgt := 21) hC dX3_size_11 (by decide) (by decide) ?_
      refine zr_aload_n 0 hC dX3_size_21 rfl rfl ?_
      refine zr_aload_n 0 hC dX3_size_22 rfl rfl ?_
      refine zr_iload_n 1 hC dX3_size_23 rfl rfl ?_
      refine zr_iload_n 2 hC dX3_size_24 rfl rfl ?_
      refine zr_cVi 0 hC cv_X3_measure ml_X3_52 (c_X3_measure (a := a) (x := x) hR.1 hb_b hs_s0) dX3_size_25 ⟨Nat.le_of_ble_eq_true rfl, Nat.le_of_ble_eq_true rfl⟩ ⟨Nat.le_of_ble_eq_true rfl, Nat.le_of_ble_eq_true rfl⟩ rfl rfl rfl rfl rfl (Nat.le_of_ble_eq_true rfl) ?_
      rintro _ _ (⟨h2, rfl, rfl⟩ | ⟨n1, k3, h2, rfl, rfl⟩)
      · refine zr_cVi 0 hC cv_X3_leaveFound ml_X3_55 (c_X3_leaveFound (a := (zf_cnt 2 a)) (x := x) (2 : Int32)) dX3_size_28 ⟨Nat.le_of_ble_eq_true rfl, Nat.le_of_ble_eq_true rfl⟩ ⟨Nat.le_of_ble_eq_true rfl, Nat.le_of_ble_eq_true rfl⟩ rfl rfl rfl rfl rfl (Nat.le_of_ble_eq_true rfl) ?_
        rintro _ _ ⟨rfl, rfl⟩
        refine zr_iret hC hr hk dX3_size_31 (by decide) (by decide) ⟨_, rfl, ?_⟩
        exact zp_mk (by unfold zo_size; rw [if_pos ⟨hb_b, hs_s0⟩]; first | done | rfl | simp [h2, zf_len]) hR
      · refine zr_cVi 0 hC cv_X3_leaveFound ml_X3_55 (c_X3_leaveFound (a := a) (x := (ck_fnd x (nI n1))) (0 : Int32)) dX3_size_28 ⟨Nat.le_of_ble_eq_true rfl, Nat.le_of_ble_eq_true rfl⟩ ⟨Nat.le_of_ble_eq_true rfl, Nat.le_of_ble_eq_true rfl⟩ rfl rfl rfl rfl rfl (Nat.le_of_ble_eq_true rfl) ?_
        rintro _ _ ⟨rfl, rfl⟩
        refine zr_iret hC hr hk dX3_size_31 (by decide) (by decide) ⟨_, rfl, ?_⟩
        exact zp_mk (by unfold zo_size; rw [if_pos ⟨hb_b, hs_s0⟩]; first | done | rfl | simp [h2, zf_len]) hR
    · refine zr_if_neF (tgt := 21) hC dX3_size_11 (by decide) (by decide) ?_
      refine zr_aload_n 0 hC dX3_size_14 rfl rfl ?_
      refine zr_iconst (v := (1 : Int32)) hC dX3_size_15 rfl ?_
      refine zr_iconst (v := (0 : Int32)) hC dX3_size_16 rfl ?_
      refine zr_cVi 0 hC cv_X3_leave ml_X3_36 (c_X3_leave (a := a) (x := x) (1 : Int32) (0 : Int32)) dX3_size_17 ⟨Nat.le_of_ble_eq_true rfl, Nat.le_of_ble_eq_true rfl⟩ ⟨Nat.le_of_ble_eq_true rfl, Nat.le_of_ble_eq_true rfl⟩ rfl rfl rfl rfl rfl (Nat.le_of_ble_eq_true rfl) ?_
      rintro rr _ ⟨hrr, rfl⟩
      subst rr
      refine zr_iret hC hr hk dX3_size_20 (by decide) (by decide) ⟨_, rfl, ?_⟩
      exact zp_mk (if_neg (fun h => absurd h.2 hs_s0)) hR
  · refine zr_if_eqT (tgt := 14) hC dX3_size_4 (by decide) (by decide) ?_
    refine zr_aload_n 0 hC dX3_size_14 rfl rfl ?_
    refine zr_iconst (v := (1 : Int32)) hC dX3_size_15 rfl ?_
    refine zr_iconst (v := (0 : Int32)) hC dX3_size_16 rfl ?_
    refine zr_cVi 0 hC cv_X3_leave ml_X3_36 (c_X3_leave (a := a) (x := x) (1 : Int32) (0 : Int32)) dX3_size_17 ⟨Nat.le_of_ble_eq_true rfl, Nat.le_of_ble_eq_true rfl⟩ ⟨Nat.le_of_ble_eq_true rfl, Nat.le_of_ble_eq_true rfl⟩ rfl rfl rfl rfl rfl (Nat.le_of_ble_eq_true rfl) ?_
    rintro rr _ ⟨hrr, rfl⟩
    subst rr
    refine zr_iret hC hr hk dX3_size_20 (by decide) (by decide) ⟨_, rfl, ?_⟩
    exact zp_mk (if_neg (fun h => absurd h.1 hb_b)) hR
set_option maxRecDepth 100000 in
set_option maxHeartbeats 4000000 in
theorem c_X3_shown (hR : rc_R cI cII a x) (b i : Int32) : zz_Mi l D (zt cI cII cF) yX3_shown cX3_shown 3 (some .int) 4 95 0 0 [.ref o, .int b, .int i] (cw_W o rk sp pp fp cII cF a x) (fun r w' => zp_c o rk sp pp fp cI cII cF (zo_shown a b i) r w') := by
  refine zz_mk (by decide) (Nat.le_of_ble_eq_true rfl) ?_
  intro p e s m below meth c A hC hr hk hnm
  have hC : zz_C p s m _ c A D (zt cI cII cF) 3 cX3_shown RX3 := hC
  refine zr_iload_n 1 hC dX3_shown_0 rfl rfl ?_
  refine zr_cSi hC cs_X3_isBank ml_X3_29 (c_X3_isBank (w := (cw_W o rk sp pp fp cII cF a x)) b) dX3_shown_1 ⟨Nat.le_of_ble_eq_true rfl, Nat.le_of_ble_eq_true rfl⟩ ⟨Nat.le_of_ble_eq_true rfl, Nat.le_of_ble_eq_true rfl⟩ rfl rfl (Nat.le_of_ble_eq_true rfl) ?_
  rintro _ _ ⟨rfl, ⟨rfl, hb_b⟩ | ⟨rfl, hb_b⟩⟩
  · refine zr_if_neT (tgt := 14) hC dX3_shown_4 (by decide) (by decide) ?_
    refine zr_aload_n 0 hC dX3_shown_14 rfl rfl ?_
    refine zr_aload_n 0 hC dX3_shown_15 rfl rfl ?_
    refine zr_iload_n 1 hC dX3_shown_16 rfl rfl ?_
    refine zr_iload_n 2 hC dX3_shown_17 rfl rfl ?_
    refine zr_cVi 0 hC cv_X3_findShown ml_X3_76 (c_X3_findShown (a := a) (x := x) hR.1 i hb_b) dX3_shown_18 ⟨Nat.le_of_ble_eq_true rfl, Nat.le_of_ble_eq_true rfl⟩ ⟨Nat.le_of_ble_eq_true rfl, Nat.le_of_ble_eq_true rfl⟩ rfl rfl rfl rfl rfl (Nat.le_of_ble_eq_true rfl) ?_
    rintro _ _ (⟨h1, rfl, rfl⟩ | ⟨h1, rfl, fn2, rfl⟩)
    · refine zr_cVi 0 hC cv_X3_leaveFound ml_X3_55 (c_X3_leaveFound (a := ((zf_show a b i).2.2)) (x := (ck_fnd x ((zf_show a b i).2.1))) (0 : Int32)) dX3_shown_21 ⟨Nat.le_of_ble_eq_true rfl, Nat.le_of_ble_eq_true rfl⟩ ⟨Nat.le_of_ble_eq_true rfl, Nat.le_of_ble_eq_true rfl⟩ rfl rfl rfl rfl rfl (Nat.le_of_ble_eq_true rfl) ?_
      rintro _ _ ⟨rfl, rfl⟩
      refine zr_iret hC hr hk dX3_shown_24 (by decide) (by decide) ⟨_, rfl, ?_⟩
      exact zp_mk (by unfold zo_shown; rw [if_pos hb_b]; simp [h1]) (hR.of (rc_show hR.1 b i _) cx_K.rf (zf_show_st a b i).2.2)
    · refine zr_cVi 0 hC cv_X3_leaveFound ml_X3_55 (c_X3_leaveFound (a := ((zf_show a b i).2.2)) (x := (ck_fnd x fn2)) ((zf_show a b i).1)) dX3_shown_21 ⟨Nat.le_of_ble_eq_true rfl, Nat.le_of_ble_eq_true rfl⟩ ⟨Nat.le_of_ble_eq_true rfl, Nat.le_of_ble_eq_true rfl⟩ rfl rfl rfl rfl rfl (Nat.le_of_ble_eq_true rfl) ?_
      rintro _ _ ⟨rfl, rfl⟩
      refine zr_iret hC hr hk dX3_shown_24 (by decide) (by decide) ⟨_, rfl, ?_⟩
      exact zp_mk (by unfold zo_shown; rw [if_pos hb_b]; simp [h1, zf_show_bad h1]) (hR.of (rc_show hR.1 b i _) cx_K.rf (zf_show_st a b i).2.2)
  · refine zr_if_neF (tgt := 14) hC dX3_shown_4 (by decide) (by decide) ?_
    refine zr_aload_n 0 hC dX3_shown_7 rfl rfl ?_
    refine zr_iconst (v := (1 : Int32)) hC dX3_shown_8 rfl ?_
    refine zr_iconst (v := (0 : Int32)) hC dX3_shown_9 rfl ?_
    refine zr_cVi 0 hC cv_X3_leave ml_X3_36 (c_X3_leave (a := a) (x := x) (1 : Int32) (0 : Int32)) dX3_shown_10 ⟨Nat.le_of_ble_eq_true rfl, Nat.le_of_ble_eq_true rfl⟩ ⟨Nat.le_of_ble_eq_true rfl, Nat.le_of_ble_eq_true rfl⟩ rfl rfl rfl rfl rfl (Nat.le_of_ble_eq_true rfl) ?_
    rintro rr _ ⟨hrr, rfl⟩
    subst rr
    refine zr_iret hC hr hk dX3_shown_13 (by decide) (by decide) ⟨_, rfl, ?_⟩
    exact zp_mk (if_neg (fun h => absurd h hb_b)) hR
set_option maxRecDepth 100000 in
set_option maxHeartbeats 4000000 in
theorem c_X3_strike (hR : rc_R cI cII a x) (b s0 : Int32) : zz_Mi l D (zt cI cII cF) yX3_strike cX3_strike 4 (some .int) 1 23 0 0 [.ref o, .int b, .int s0] (cw_W o rk sp pp fp cII cF a x) (fun r w' => zp_c o rk sp pp fp cI cII cF (zo_strike a b s0) r w') := by
  refine zz_mk (by decide) (Nat.le_of_ble_eq_true rfl) ?_
  intro p e s m below meth c A hC hr hk hnm
  have hC : zz_C p s m _ c A D (zt cI cII cF) 4 cX3_strike RX3 := hC
  refine zr_iload_n 1 hC dX3_strike_0 rfl rfl ?_
  refine zr_cSi hC cs_X3_isBank ml_X3_29 (c_X3_isBank (w := (cw_W o rk sp pp fp cII cF a x)) b) dX3_strike_1 ⟨Nat.le_of_ble_eq_true rfl, Nat.le_of_ble_eq_true rfl⟩ ⟨Nat.le_of_ble_eq_true rfl, Nat.le_of_ble_eq_true rfl⟩ rfl rfl (Nat.le_of_ble_eq_true rfl) ?_
  rintro _ _ ⟨rfl, ⟨rfl, hb_b⟩ | ⟨rfl, hb_b⟩⟩
  · refine zr_if_eqF (tgt := 14) hC dX3_strike_4 (by decide) (by decide) ?_
    refine zr_iload_n 2 hC dX3_strike_7 rfl rfl ?_
    refine zr_cSi hC cs_X3_isStrip ml_X3_33 (c_X3_isStrip (w := (cw_W o rk sp pp fp cII cF a x)) s0) dX3_strike_8 ⟨Nat.le_of_ble_eq_true rfl, Nat.le_of_ble_eq_true rfl⟩ ⟨Nat.le_of_ble_eq_true rfl, Nat.le_of_ble_eq_true rfl⟩ rfl rfl (Nat.le_of_ble_eq_true rfl) ?_
    rintro _ _ ⟨rfl, ⟨rfl, hs_s0⟩ | ⟨rfl, hs_s0⟩⟩
    · refine zr_if_neT (tgt := 21) hC dX3_strike_11 (by decide) (by decide) ?_
      refine zr_aload_n 0 hC dX3_strike_21 rfl rfl ?_
      refine zr_get (v := .ref rk) 0 0 hC iu_X3 rfl dX3_strike_22 fl_X3_10 (by decide) rfl rfl ?_
      refine zr_iload_n 1 hC dX3_strike_25 rfl rfl ?_
      refine zr_iload_n 2 hC dX3_strike_26 rfl rfl ?_
      refine zr_cVr 1 hC cv_X2_stripOf ml_X3_48 (c_X2_stripOf (a := a) (x := x) hb_b hs_s0) dX3_strike_27 ⟨Nat.le_of_ble_eq_true rfl, Nat.le_of_ble_eq_true rfl⟩ ⟨Nat.le_of_ble_eq_true rfl, Nat.le_of_ble_eq_true rfl⟩ rfl rfl rfl rfl rfl (Nat.le_of_ble_eq_true rfl) ?_
      rintro r0 _ ⟨hr0, rfl⟩
      refine zr_rf (fun hq2 => ?_) (fun q1 hq2 => ?_)
      · refine zr_ifnullN (tgt := 37) hC dX3_strike_30 (by decide) ?_
        refine zr_iconst (v := (0 : Int32)) hC dX3_strike_37 rfl ?_
        refine zr_istore_n (lv' := [(3, .int (0 : Int32)), (0, .ref o), (1, .int b), (2, .int s0)]) hC dX3_strike_38 rfl (by decide) rfl ?_
        refine zr_aload_n 1 hC dX3_strike_39 rfl rfl ?_
        refine zr_get (v := .ref rk) 0 0 hC iu_X3 rfl dX3_strike_40 fl_X3_10 (by decide) rfl rfl ?_
        refine zr_iload_n 2 hC dX3_strike_43 rfl rfl ?_
        refine zr_iload_n 3 hC dX3_strike_44 rfl rfl ?_
        refine zr_null hC dX3_strike_45 ?_
        refine zr_cVv 1 hC cv_X2_replace ml_X3_44 (c_X2_replaceN (a := a) (x := x) hb_b hs_s0) dX3_strike_46 ⟨Nat.le_of_ble_eq_true rfl, Nat.le_of_ble_eq_true rfl⟩ ⟨Nat.le_of_ble_eq_true rfl, Nat.le_of_ble_eq_true rfl⟩ rfl rfl rfl rfl rfl (Nat.le_of_ble_eq_true rfl) ?_
        rintro _ rfl
        refine zr_aload_n 1 hC dX3_strike_49 rfl rfl ?_
        refine zr_iconst (v := (0 : Int32)) hC dX3_strike_50 rfl ?_
        refine zr_iload_n 0 hC dX3_strike_51 rfl rfl ?_
        refine zr_if_eqT (tgt := 59) hC dX3_strike_52 (by decide) (by decide) ?_
        refine zr_iconst (v := (0 : Int32)) hC dX3_strike_59 rfl ?_
        refine zr_cVi 0 hC cv_X3_leave ml_X3_36 (c_X3_leave (a := a) (x := (ck_f x (va_up (cx_f x) (zl b s0) none))) (0 : Int32) (0 : Int32)) dX3_strike_60 ⟨Nat.le_of_ble_eq_true rfl, Nat.le_of_ble_eq_true rfl⟩ ⟨Nat.le_of_ble_eq_true rfl, Nat.le_of_ble_eq_true rfl⟩ rfl rfl rfl rfl rfl (Nat.le_of_ble_eq_true rfl) ?_
        rintro rr _ ⟨hrr, rfl⟩
        subst rr
        refine zr_iret hC hr hk dX3_strike_63 (by decide) (by decide) ⟨_, rfl, ?_⟩
        have hh : (aa_st a).1 (zl b s0) = none := (hR.1.1.1 (zl b s0) (zl_lt hb_b hs_s0)).mp (hr0.symm.trans hq2)
        exact zp_mw (a' := as_sta (as_st a (zf_strikeS (aa_st a) (zl b s0))) 0) (x' := (ck_f x (va_up (cx_f x) (zl b s0) none))) (by unfold zo_strike; rw [if_pos ⟨hb_b, hs_s0⟩, if_pos hh]) (hR.of (rc_strike hR.1) ⟨rfl, rfl, fun _ h => h, fun _ _ _ h => h⟩ rfl) rfl
      · refine zr_ifnull hC dX3_strike_30 ?_
        refine zr_iconst (v := (1 : Int32)) hC dX3_strike_33 rfl ?_
        refine zr_goto (tgt := 38) hC dX3_strike_34 (by decide) ?_
        refine zr_istore_n (lv' := [(3, .int (1 : Int32)), (0, .ref o), (1, .int b), (2, .int s0)]) hC dX3_strike_38 rfl (by decide) rfl ?_
        refine zr_aload_n 1 hC dX3_strike_39 rfl rfl ?_
        refine zr_get (v := .ref rk) 0 0 hC iu_X3 rfl dX3_strike_40 fl_X3_10 (by decide) rfl rfl ?_
        refine zr_iload_n 2 hC dX3_strike_43 rfl rfl ?_
        refine zr_iload_n 3 hC dX3_strike_44 rfl rfl ?_
        refine zr_null hC dX3_strike_45 ?_
        refine zr_cVv 1 hC cv_X2_replace ml_X3_44 (c_X2_replaceN (a := a) (x := x) hb_b hs_s0) dX3_strike_46 ⟨Nat.le_of_ble_eq_true rfl, Nat.le_of_ble_eq_true rfl⟩ ⟨Nat.le_of_ble_eq_true rfl, Nat.le_of_ble_eq_true rfl⟩ rfl rfl rfl rfl rfl (Nat.le_of_ble_eq_true rfl) ?_
        rintro _ rfl
        refine zr_aload_n 1 hC dX3_strike_49 rfl rfl ?_
        refine zr_iconst (v := (0 : Int32)) hC dX3_strike_50 rfl ?_
        refine zr_iload_n 0 hC dX3_strike_51 rfl rfl ?_
        refine zr_if_eqF (tgt := 59) hC dX3_strike_52 (by decide) (by decide) ?_
        refine zr_iconst (v := (1 : Int32)) hC dX3_strike_55 rfl ?_
        refine zr_goto (tgt := 60) hC dX3_strike_56 (by decide) ?_
        refine zr_cVi 0 hC cv_X3_leave ml_X3_36 (c_X3_leave (a := a) (x := (ck_f x (va_up (cx_f x) (zl b s0) none))) (0 : Int32) (1 : Int32)) dX3_strike_60 ⟨Nat.le_of_ble_eq_true rfl, Nat.le_of_ble_eq_true rfl⟩ ⟨Nat.le_of_ble_eq_true rfl, Nat.le_of_ble_eq_true rfl⟩ rfl rfl rfl rfl rfl (Nat.le_of_ble_eq_true rfl) ?_
        rintro rr _ ⟨hrr, rfl⟩
        subst rr
        refine zr_iret hC hr hk dX3_strike_63 (by decide) (by decide) ⟨_, rfl, ?_⟩
        have hh : ¬ (aa_st a).1 (zl b s0) = none := fun h => by have := (hR.1.1.1 (zl b s0) (zl_lt hb_b hs_s0)).mpr h; rw [← hr0, hq2] at this; cases this
        exact zp_mw (a' := as_sta (as_st a (zf_strikeS (aa_st a) (zl b s0))) 0) (x' := (ck_f x (va_up (cx_f x) (zl b s0) none))) (by unfold zo_strike; rw [if_pos ⟨hb_b, hs_s0⟩, if_neg hh]) (hR.of (rc_strike hR.1) ⟨rfl, rfl, fun _ h => h, fun _ _ _ h => h⟩ rfl) rfl
    · refine zr_if_neF (tgt := 21) hC dX3_strike_11 (by decide) (by decide) ?_
      refine zr_aload_n 0 hC dX3_strike_14 rfl rfl ?_
      refine zr_iconst (v := (1 : Int32)) hC dX3_strike_15 rfl ?_
      refine zr_iconst (v := (0 : Int32)) hC dX3_strike_16 rfl ?_
      refine zr_cVi 0 hC cv_X3_leave ml_X3_36 (c_X3_leave (a := a) (x := x) (1 : Int32) (0 : Int32)) dX3_strike_17 ⟨Nat.le_of_ble_eq_true rfl, Nat.le_of_ble_eq_true rfl⟩ ⟨Nat.le_of_ble_eq_true rfl, Nat.le_of_ble_eq_true rfl⟩ rfl rfl rfl rfl rfl (Nat.le_of_ble_eq_true rfl) ?_
      rintro rr _ ⟨hrr, rfl⟩
      subst rr
      refine zr_iret hC hr hk dX3_strike_20 (by decide) (by decide) ⟨_, rfl, ?_⟩
      exact zp_mk (if_neg (fun h => absurd h.2 hs_s0)) hR
  · refine zr_if_eqT (tgt := 14) hC dX3_strike_4 (by decide) (by decide) ?_
    refine zr_aload_n 0 hC dX3_strike_14 rfl rfl ?_
    refine zr_iconst (v := (1 : Int32)) hC dX3_strike_15 rfl ?_
    refine zr_iconst (v := (0 : Int32)) hC dX3_strike_16 rfl ?_
    refine zr_cVi 0 hC cv_X3_leave ml_X3_36 (c_X3_leave (a := a) (x := x) (1 : Int32) (0 : Int32)) dX3_strike_17 ⟨Nat.le_of_ble_eq_true rfl, Nat.le_of_ble_eq_true rfl⟩ ⟨Nat.le_of_ble_eq_true rfl, Nat.le_of_ble_eq_true rfl⟩ rfl rfl rfl rfl rfl (Nat.le_of_ble_eq_true rfl) ?_
    rintro rr _ ⟨hrr, rfl⟩
    subst rr
    refine zr_iret hC hr hk dX3_strike_20 (by decide) (by decide) ⟨_, rfl, ?_⟩
    exact zp_mk (if_neg (fun h => absurd h.1 hb_b)) hR
set_option maxRecDepth 100000 in
set_option maxHeartbeats 4000000 in
theorem c_X3_share (hR : rc_R cI cII a x) (b s0 f : Int32) : zz_Mi l D (zt cI cII cF) yX3_share cX3_share 5 (some .int) 1 23 0 0 [.ref o, .int b, .int s0, .int f] (cw_W o rk sp pp fp cII cF a x) (fun r w' => zp_c o rk sp pp fp cI cII cF (zo_share a b s0 f) r w') := by
  refine zz_mk (by decide) (Nat.le_of_ble_eq_true rfl) ?_
  intro p e s m below meth c A hC hr hk hnm
  have hC : zz_C p s m _ c A D (zt cI cII cF) 5 cX3_share RX3 := hC
  refine zr_iload_n 1 hC dX3_share_0 rfl rfl ?_
  refine zr_cSi hC cs_X3_isBank ml_X3_29 (c_X3_isBank (w := (cw_W o rk sp pp fp cII cF a x)) b) dX3_share_1 ⟨Nat.le_of_ble_eq_true rfl, Nat.le_of_ble_eq_true rfl⟩ ⟨Nat.le_of_ble_eq_true rfl, Nat.le_of_ble_eq_true rfl⟩ rfl rfl (Nat.le_of_ble_eq_true rfl) ?_
  rintro _ _ ⟨rfl, ⟨rfl, hb_b⟩ | ⟨rfl, hb_b⟩⟩
  · refine zr_if_eqF (tgt := 21) hC dX3_share_4 (by decide) (by decide) ?_
    refine zr_iload_n 2 hC dX3_share_7 rfl rfl ?_
    refine zr_cSi hC cs_X3_isStrip ml_X3_33 (c_X3_isStrip (w := (cw_W o rk sp pp fp cII cF a x)) s0) dX3_share_8 ⟨Nat.le_of_ble_eq_true rfl, Nat.le_of_ble_eq_true rfl⟩ ⟨Nat.le_of_ble_eq_true rfl, Nat.le_of_ble_eq_true rfl⟩ rfl rfl (Nat.le_of_ble_eq_true rfl) ?_
    rintro _ _ ⟨rfl, ⟨rfl, hs_s0⟩ | ⟨rfl, hs_s0⟩⟩
    · refine zr_if_eqF (tgt := 21) hC dX3_share_11 (by decide) (by decide) ?_
      refine zr_iload_n 3 hC dX3_share_14 rfl rfl ?_
      refine zr_cSi hC cs_X3_isBank ml_X3_29 (c_X3_isBank (w := (cw_W o rk sp pp fp cII cF a x)) f) dX3_share_15 ⟨Nat.le_of_ble_eq_true rfl, Nat.le_of_ble_eq_true rfl⟩ ⟨Nat.le_of_ble_eq_true rfl, Nat.le_of_ble_eq_true rfl⟩ rfl rfl (Nat.le_of_ble_eq_true rfl) ?_
      rintro _ _ ⟨rfl, ⟨rfl, hb_f⟩ | ⟨rfl, hb_f⟩⟩
      · refine zr_if_neT (tgt := 28) hC dX3_share_18 (by decide) (by decide) ?_
        refine zr_aload_n 0 hC dX3_share_28 rfl rfl ?_
        refine zr_get (v := .ref rk) 0 0 hC iu_X3 rfl dX3_share_29 fl_X3_10 (by decide) rfl rfl ?_
        refine zr_iload_n 3 hC dX3_share_32 rfl rfl ?_
        refine zr_iload_n 2 hC dX3_share_33 rfl rfl ?_
        refine zr_cVr 1 hC cv_X2_stripOf ml_X3_48 (c_X2_stripOf (a := a) (x := x) hb_f hs_s0) dX3_share_34 ⟨Nat.le_of_ble_eq_true rfl, Nat.le_of_ble_eq_true rfl⟩ ⟨Nat.le_of_ble_eq_true rfl, Nat.le_of_ble_eq_true rfl⟩ rfl rfl rfl rfl rfl (Nat.le_of_ble_eq_true rfl) ?_
        rintro r0 _ ⟨hr0, rfl⟩
        refine zr_rf (fun hn => ?_) (fun q hn => ?_)
        · subst hn
          refine zr_astoreN (lv' := [(4, .null), (0, .ref o), (1, .int b), (2, .int s0), (3, .int f)]) hC dX3_share_37 (by decide) rfl ?_
          refine zr_aload_n 1 hC dX3_share_39 rfl rfl ?_
          refine zr_get (v := .ref rk) 0 0 hC iu_X3 rfl dX3_share_40 fl_X3_10 (by decide) rfl rfl ?_
          refine zr_iload_n 2 hC dX3_share_43 rfl rfl ?_
          refine zr_iload_n 3 hC dX3_share_44 rfl rfl ?_
          refine zr_aloadN 0 hC dX3_share_45 rfl ?_
          refine zr_cVv 1 hC cv_X2_replace ml_X3_44 (c_X2_replaceN (a := a) (x := x) hb_b hs_s0) dX3_share_47 ⟨Nat.le_of_ble_eq_true rfl, Nat.le_of_ble_eq_true rfl⟩ ⟨Nat.le_of_ble_eq_true rfl, Nat.le_of_ble_eq_true rfl⟩ rfl rfl rfl rfl rfl (Nat.le_of_ble_eq_true rfl) ?_
          rintro _ rfl
          refine zr_aload_n 1 hC dX3_share_50 rfl rfl ?_
          refine zr_iconst (v := (0 : Int32)) hC dX3_share_51 rfl ?_
          refine zr_aloadN 0 hC dX3_share_52 rfl ?_
          refine zr_ifnullN (tgt := 61) hC dX3_share_54 (by decide) ?_
          refine zr_iconst (v := (0 : Int32)) hC dX3_share_61 rfl ?_
          refine zr_cVi 0 hC cv_X3_leave ml_X3_36 (c_X3_leave (a := a) (x := (ck_f x (va_up (cx_f x) (zl b s0) none))) (0 : Int32) (0 : Int32)) dX3_share_62 ⟨Nat.le_of_ble_eq_true rfl, Nat.le_of_ble_eq_true rfl⟩ ⟨Nat.le_of_ble_eq_true rfl, Nat.le_of_ble_eq_true rfl⟩ rfl rfl rfl rfl rfl (Nat.le_of_ble_eq_true rfl) ?_
          rintro rr _ ⟨hrr, rfl⟩
          subst rr
          refine zr_iret hC hr hk dX3_share_65 (by decide) (by decide) ⟨_, rfl, ?_⟩
          have hh : (aa_st a).1 (zl f s0) = none := (hR.1.1.1 (zl f s0) (zl_lt hb_f hs_s0)).mp hr0.symm
          exact zp_mw (a' := as_sta (as_st a (zf_shareS (aa_st a) (zl b s0) (zl f s0))) 0) (x' := (ck_f x (va_up (cx_f x) (zl b s0) none))) (by unfold zo_share; rw [if_pos ⟨hb_b, hs_s0, hb_f⟩, if_pos hh]) (hR.of (by have := rc_share hR.1 (k := zl b s0) (k0 := zl f s0) (zl_lt hb_f hs_s0); rw [← hr0] at this; exact this) ⟨rfl, rfl, fun _ h => h, fun _ _ _ h => h⟩ rfl) rfl
        · subst hn
          obtain ⟨n, z, hL, he, h24, hlen⟩ := rc_len hR.1 (zl_lt hb_f hs_s0) hr0.symm
          refine zr_astore (lv' := [(4, .ref q), (0, .ref o), (1, .int b), (2, .int s0), (3, .int f)]) hC dX3_share_37 (by decide) rfl ?_
          refine zr_aload_n 1 hC dX3_share_39 rfl rfl ?_
          refine zr_get (v := .ref rk) 0 0 hC iu_X3 rfl dX3_share_40 fl_X3_10 (by decide) rfl rfl ?_
          refine zr_iload_n 2 hC dX3_share_43 rfl rfl ?_
          refine zr_iload_n 3 hC dX3_share_44 rfl rfl ?_
          refine zr_aload 0 hC dX3_share_45 rfl ?_
          refine zr_cVv 1 hC cv_X2_replace ml_X3_44 (c_X2_replaceA (a := a) (x := x) hL he hb_b hs_s0) dX3_share_47 ⟨Nat.le_of_ble_eq_true rfl, Nat.le_of_ble_eq_true rfl⟩ ⟨Nat.le_of_ble_eq_true rfl, Nat.le_of_ble_eq_true rfl⟩ rfl rfl rfl rfl rfl (Nat.le_of_ble_eq_true rfl) ?_
          rintro _ rfl
          refine zr_aload_n 1 hC dX3_share_50 rfl rfl ?_
          refine zr_iconst (v := (0 : Int32)) hC dX3_share_51 rfl ?_
          refine zr_aload 0 hC dX3_share_52 rfl ?_
          refine zr_ifnull hC dX3_share_54 ?_
          refine zr_iconst (v := (1 : Int32)) hC dX3_share_57 rfl ?_
          refine zr_goto (tgt := 62) hC dX3_share_58 (by decide) ?_
          refine zr_cVi 0 hC cv_X3_leave ml_X3_36 (c_X3_leave (a := a) (x := (ck_f x (va_up (cx_f x) (zl b s0) (some q)))) (0 : Int32) (1 : Int32)) dX3_share_62 ⟨Nat.le_of_ble_eq_true rfl, Nat.le_of_ble_eq_true rfl⟩ ⟨Nat.le_of_ble_eq_true rfl, Nat.le_of_ble_eq_true rfl⟩ rfl rfl rfl rfl rfl (Nat.le_of_ble_eq_true rfl) ?_
          rintro rr _ ⟨hrr, rfl⟩
          subst rr
          refine zr_iret hC hr hk dX3_share_65 (by decide) (by decide) ⟨_, rfl, ?_⟩
          have hh : ¬ (aa_st a).1 (zl f s0) = none := fun h => by have := (hR.1.1.1 (zl f s0) (zl_lt hb_f hs_s0)).mpr h; rw [← hr0] at this; cases this
          exact zp_mw (a' := as_sta (as_st a (zf_shareS (aa_st a) (zl b s0) (zl f s0))) 0) (x' := (ck_f x (va_up (cx_f x) (zl b s0) (some q)))) (by unfold zo_share; rw [if_pos ⟨hb_b, hs_s0, hb_f⟩, if_neg hh]) (hR.of (by have := rc_share hR.1 (k := zl b s0) (k0 := zl f s0) (zl_lt hb_f hs_s0); rw [← hr0] at this; exact this) ⟨rfl, rfl, fun _ h => h, fun _ _ _ h => h⟩ rfl) rfl
      · refine zr_if_neF (tgt := 28) hC dX3_share_18 (by decide) (by decide) ?_
        refine zr_aload_n 0 hC dX3_share_21 rfl rfl ?_
        refine zr_iconst (v := (1 : Int32)) hC dX3_share_22 rfl ?_
        refine zr_iconst (v := (0 : Int32)) hC dX3_share_23 rfl ?_
        refine zr_cVi 0 hC cv_X3_leave ml_X3_36 (c_X3_leave (a := a) (x := x) (1 : Int32) (0 : Int32)) dX3_share_24 ⟨Nat.le_of_ble_eq_true rfl, Nat.le_of_ble_eq_true rfl⟩ ⟨Nat.le_of_ble_eq_true rfl, Nat.le_of_ble_eq_true rfl⟩ rfl rfl rfl rfl rfl (Nat.le_of_ble_eq_true rfl) ?_
        rintro rr _ ⟨hrr, rfl⟩
        subst rr
        refine zr_iret hC hr hk dX3_share_27 (by decide) (by decide) ⟨_, rfl, ?_⟩
        exact zp_mk (if_neg (fun h => absurd h.2.2 hb_f)) hR
    · refine zr_if_eqT (tgt := 21) hC dX3_share_11 (by decide) (by decide) ?_
      refine zr_aload_n 0 hC dX3_share_21 rfl rfl ?_
      refine zr_iconst (v := (1 : Int32)) hC dX3_share_22 rfl ?_
      refine zr_iconst (v := (0 : Int32)) hC dX3_share_23 rfl ?_
      refine zr_cVi 0 hC cv_X3_leave ml_X3_36 (c_X3_leave (a := a) (x := x) (1 : Int32) (0 : Int32)) dX3_share_24 ⟨Nat.le_of_ble_eq_true rfl, Nat.le_of_ble_eq_true rfl⟩ ⟨Nat.le_of_ble_eq_true rfl, Nat.le_of_ble_eq_true rfl⟩ rfl rfl rfl rfl rfl (Nat.le_of_ble_eq_true rfl) ?_
      rintro rr _ ⟨hrr, rfl⟩
      subst rr
      refine zr_iret hC hr hk dX3_share_27 (by decide) (by decide) ⟨_, rfl, ?_⟩
      exact zp_mk (if_neg (fun h => absurd h.2.1 hs_s0)) hR
  · refine zr_if_eqT (tgt := 21) hC dX3_share_4 (by decide) (by decide) ?_
    refine zr_aload_n 0 hC dX3_share_21 rfl rfl ?_
    refine zr_iconst (v := (1 : Int32)) hC dX3_share_22 rfl ?_
    refine zr_iconst (v := (0 : Int32)) hC dX3_share_23 rfl ?_
    refine zr_cVi 0 hC cv_X3_leave ml_X3_36 (c_X3_leave (a := a) (x := x) (1 : Int32) (0 : Int32)) dX3_share_24 ⟨Nat.le_of_ble_eq_true rfl, Nat.le_of_ble_eq_true rfl⟩ ⟨Nat.le_of_ble_eq_true rfl, Nat.le_of_ble_eq_true rfl⟩ rfl rfl rfl rfl rfl (Nat.le_of_ble_eq_true rfl) ?_
    rintro rr _ ⟨hrr, rfl⟩
    subst rr
    refine zr_iret hC hr hk dX3_share_27 (by decide) (by decide) ⟨_, rfl, ?_⟩
    exact zp_mk (if_neg (fun h => absurd h.1 hb_b)) hR
set_option maxRecDepth 100000 in
set_option maxHeartbeats 4000000 in
theorem c_X3_patch (hR : rc_R cI cII a x) (f i t j q : Int32) : zz_Mi l D (zt cI cII cF) yX3_patch cX3_patch 7 (some .int) 4 87 0 0 [.ref o, .int f, .int i, .int t, .int j, .int q] (cw_W o rk sp pp fp cII cF a x) (fun r w' => zp_c o rk sp pp fp cI cII cF (zo_patch a f i t j q) r w') := by
  refine zz_mk (by decide) (Nat.le_of_ble_eq_true rfl) ?_
  intro p e s m below meth c A hC hr hk hnm
  have hC : zz_C p s m _ c A D (zt cI cII cF) 7 cX3_patch RX3 := hC
  refine zr_iload_n 1 hC dX3_patch_0 rfl rfl ?_
  refine zr_cSi hC cs_X3_isBank ml_X3_29 (c_X3_isBank (w := (cw_W o rk sp pp fp cII cF a x)) f) dX3_patch_1 ⟨Nat.le_of_ble_eq_true rfl, Nat.le_of_ble_eq_true rfl⟩ ⟨Nat.le_of_ble_eq_true rfl, Nat.le_of_ble_eq_true rfl⟩ rfl rfl (Nat.le_of_ble_eq_true rfl) ?_
  rintro _ _ ⟨rfl, ⟨rfl, hb_f⟩ | ⟨rfl, hb_f⟩⟩
  · refine zr_if_eqF (tgt := 26) hC dX3_patch_4 (by decide) (by decide) ?_
    refine zr_iload_n 3 hC dX3_patch_7 rfl rfl ?_
    refine zr_cSi hC cs_X3_isBank ml_X3_29 (c_X3_isBank (w := (cw_W o rk sp pp fp cII cF a x)) t) dX3_patch_8 ⟨Nat.le_of_ble_eq_true rfl, Nat.le_of_ble_eq_true rfl⟩ ⟨Nat.le_of_ble_eq_true rfl, Nat.le_of_ble_eq_true rfl⟩ rfl rfl (Nat.le_of_ble_eq_true rfl) ?_
    rintro _ _ ⟨rfl, ⟨rfl, hb_t⟩ | ⟨rfl, hb_t⟩⟩
    · refine zr_if_eqF (tgt := 26) hC dX3_patch_11 (by decide) (by decide) ?_
      refine zr_iload 5 hC dX3_patch_14 rfl ?_
      refine zr_if_lt (tgt := 26) hC dX3_patch_16 (by decide) (fun c16 => ?_) (fun c16 => ?_)
      · refine zr_aload_n 0 hC dX3_patch_26 rfl rfl ?_
        refine zr_iconst (v := (1 : Int32)) hC dX3_patch_27 rfl ?_
        refine zr_iconst (v := (0 : Int32)) hC dX3_patch_28 rfl ?_
        refine zr_cVi 0 hC cv_X3_leave ml_X3_36 (c_X3_leave (a := a) (x := x) (1 : Int32) (0 : Int32)) dX3_patch_29 ⟨Nat.le_of_ble_eq_true rfl, Nat.le_of_ble_eq_true rfl⟩ ⟨Nat.le_of_ble_eq_true rfl, Nat.le_of_ble_eq_true rfl⟩ rfl rfl rfl rfl rfl (Nat.le_of_ble_eq_true rfl) ?_
        rintro rr _ ⟨hrr, rfl⟩
        subst rr
        refine zr_iret hC hr hk dX3_patch_32 (by decide) (by decide) ⟨_, rfl, ?_⟩
        exact zp_mk (if_neg (fun h => absurd h.2.2.1 (Int32.not_le.mpr c16))) hR
      · refine zr_iload 5 hC dX3_patch_19 rfl ?_
        refine zr_bipush (v := (16 : Int32)) hC dX3_patch_21 rfl ?_
        refine zr_icmp_lt (tgt := 33) hC dX3_patch_23 (by decide) (fun c23 => ?_) (fun c23 => ?_)
        · refine zr_aload_n 0 hC dX3_patch_33 rfl rfl ?_
          refine zr_iload_n 1 hC dX3_patch_34 rfl rfl ?_
          refine zr_iload 5 hC dX3_patch_35 rfl ?_
          refine zr_iconst (v := (4 : Int32)) hC dX3_patch_37 rfl ?_
          refine zr_idiv hC dX3_patch_38 (by decide) ?_
          refine zr_iload_n 2 hC dX3_patch_39 rfl rfl ?_
          have hq : (0 : Int32) ≤ q ∧ q < 16 := ⟨Int32.not_lt.mp c16, c23⟩
          refine zr_cVi 0 hC cv_X3_look ml_X3_58 (c_X3_look (a := a) (x := x) hR.1 i hb_f (zk_div hq)) dX3_patch_40 ⟨Nat.le_of_ble_eq_true rfl, Nat.le_of_ble_eq_true rfl⟩ ⟨Nat.le_of_ble_eq_true rfl, Nat.le_of_ble_eq_true rfl⟩ rfl rfl rfl rfl rfl (Nat.le_of_ble_eq_true rfl) ?_
          rintro _ _ (⟨h1, rfl, rfl⟩ | ⟨h1, rfl, rfl⟩)
          · refine zr_istore (lv' := [(6, .int (0 : Int32)), (0, .ref o), (1, .int f), (2, .int i), (3, .int t), (4, .int j), (5, .int q)]) hC dX3_patch_43 (by decide) rfl ?_
            refine zr_iload 0 hC dX3_patch_45 rfl ?_
            refine zr_if_neF (tgt := 67) hC dX3_patch_47 (by decide) (by decide) ?_
            refine zr_aload_n 1 hC dX3_patch_50 rfl rfl ?_
            refine zr_iload_n 4 hC dX3_patch_51 rfl rfl ?_
            refine zr_iload 6 hC dX3_patch_52 rfl ?_
            refine zr_iconst (v := (4 : Int32)) hC dX3_patch_54 rfl ?_
            refine zr_irem hC dX3_patch_55 (by decide) ?_
            refine zr_iload 5 hC dX3_patch_56 rfl ?_
            refine zr_aload_n 1 hC dX3_patch_58 rfl rfl ?_
            refine zr_get (v := .int (zf_val (aa_st a) (zl f (q / (4 : Int32))) i)) 0 11 hC iu_X3 rfl dX3_patch_59 fl_X3_66 (by decide) rfl rfl ?_
            refine zr_cVi 0 hC cv_X3_put ml_X3_62 (c_X3_put (a := a) (x := (ck_fnd x (zf_val (aa_st a) (zl f (q / (4 : Int32))) i))) hR.1 j (zf_val (aa_st a) (zl f (q / (4 : Int32))) i) hb_t (zk_rem hq)) dX3_patch_62 ⟨Nat.le_of_ble_eq_true rfl, Nat.le_of_ble_eq_true rfl⟩ ⟨Nat.le_of_ble_eq_true rfl, Nat.le_of_ble_eq_true rfl⟩ rfl rfl rfl rfl rfl (Nat.le_of_ble_eq_true rfl) ?_
            rintro _ _ (⟨h3, rfl, x2, hFx2, hKx2, rfl, hQx2⟩ | ⟨h3, rfl, rfl⟩)
            · refine zr_istore (lv' := [(6, .int (0 : Int32)), (0, .ref o), (1, .int f), (2, .int i), (3, .int t), (4, .int j), (5, .int q)]) hC dX3_patch_65 (by decide) rfl ?_
              refine zr_aload_n 1 hC dX3_patch_67 rfl rfl ?_
              refine zr_iload 0 hC dX3_patch_68 rfl ?_
              refine zr_cVi 0 hC cv_X3_leaveFound ml_X3_55 (c_X3_leaveFound (a := (zf_set a (zl t (q - q / (4 : Int32) * (4 : Int32))) j (zf_num (q - q / (4 : Int32) * (4 : Int32)) (zf_val (aa_st a) (zl f (q / (4 : Int32))) i)))) (x := x2) (0 : Int32)) dX3_patch_70 ⟨Nat.le_of_ble_eq_true rfl, Nat.le_of_ble_eq_true rfl⟩ ⟨Nat.le_of_ble_eq_true rfl, Nat.le_of_ble_eq_true rfl⟩ rfl rfl rfl rfl rfl (Nat.le_of_ble_eq_true rfl) ?_
              rintro _ _ ⟨rfl, rfl⟩
              refine zr_iret hC hr hk dX3_patch_73 (by decide) (by decide) ⟨_, rfl, ?_⟩
              exact zp_mk (by unfold zo_patch; rw [if_pos ⟨hb_f, hb_t, hq⟩]; simp [h1, h3, hFx2]) (hR.of hQx2 hKx2 rfl)
            · refine zr_istore (lv' := [(6, .int (zf_why (aa_st a) (zl t (q - q / (4 : Int32) * (4 : Int32))) j)), (0, .ref o), (1, .int f), (2, .int i), (3, .int t), (4, .int j), (5, .int q)]) hC dX3_patch_65 (by decide) rfl ?_
              refine zr_aload_n 1 hC dX3_patch_67 rfl rfl ?_
              refine zr_iload 0 hC dX3_patch_68 rfl ?_
              refine zr_cVi 0 hC cv_X3_leaveFound ml_X3_55 (c_X3_leaveFound (a := (zf_cnt (zf_why (aa_st a) (zl t (q - q / (4 : Int32) * (4 : Int32))) j) a)) (x := (ck_fnd x (zf_val (aa_st a) (zl f (q / (4 : Int32))) i))) (zf_why (aa_st a) (zl t (q - q / (4 : Int32) * (4 : Int32))) j)) dX3_patch_70 ⟨Nat.le_of_ble_eq_true rfl, Nat.le_of_ble_eq_true rfl⟩ ⟨Nat.le_of_ble_eq_true rfl, Nat.le_of_ble_eq_true rfl⟩ rfl rfl rfl rfl rfl (Nat.le_of_ble_eq_true rfl) ?_
              rintro _ _ ⟨rfl, rfl⟩
              refine zr_iret hC hr hk dX3_patch_73 (by decide) (by decide) ⟨_, rfl, ?_⟩
              exact zp_mk (by unfold zo_patch; rw [if_pos ⟨hb_f, hb_t, hq⟩]; simp [h1, h3]) hR
          · refine zr_istore (lv' := [(6, .int (zf_why (aa_st a) (zl f (q / (4 : Int32))) i)), (0, .ref o), (1, .int f), (2, .int i), (3, .int t), (4, .int j), (5, .int q)]) hC dX3_patch_43 (by decide) rfl ?_
            refine zr_iload 0 hC dX3_patch_45 rfl ?_
            refine zr_if_neT (tgt := 67) hC dX3_patch_47 (by decide) h1 ?_
            refine zr_aload_n 1 hC dX3_patch_67 rfl rfl ?_
            refine zr_iload 0 hC dX3_patch_68 rfl ?_
            refine zr_cVi 0 hC cv_X3_leaveFound ml_X3_55 (c_X3_leaveFound (a := (zf_cnt (zf_why (aa_st a) (zl f (q / (4 : Int32))) i) a)) (x := x) (zf_why (aa_st a) (zl f (q / (4 : Int32))) i)) dX3_patch_70 ⟨Nat.le_of_ble_eq_true rfl, Nat.le_of_ble_eq_true rfl⟩ ⟨Nat.le_of_ble_eq_true rfl, Nat.le_of_ble_eq_true rfl⟩ rfl rfl rfl rfl rfl (Nat.le_of_ble_eq_true rfl) ?_
            rintro _ _ ⟨rfl, rfl⟩
            refine zr_iret hC hr hk dX3_patch_73 (by decide) (by decide) ⟨_, rfl, ?_⟩
            exact zp_mk (by unfold zo_patch; rw [if_pos ⟨hb_f, hb_t, hq⟩]; simp [h1]) hR
        · refine zr_aload_n 0 hC dX3_patch_26 rfl rfl ?_
          refine zr_iconst (v := (1 : Int32)) hC dX3_patch_27 rfl ?_
          refine zr_iconst (v := (0 : Int32)) hC dX3_patch_28 rfl ?_
          refine zr_cVi 0 hC cv_X3_leave ml_X3_36 (c_X3_leave (a := a) (x := x) (1 : Int32) (0 : Int32)) dX3_patch_29 ⟨Nat.le_of_ble_eq_true rfl, Nat.le_of_ble_eq_true rfl⟩ ⟨Nat.le_of_ble_eq_true rfl, Nat.le_of_ble_eq_true rfl⟩ rfl rfl rfl rfl rfl (Nat.le_of_ble_eq_true rfl) ?_
          rintro rr _ ⟨hrr, rfl⟩
          subst rr
          refine zr_iret hC hr hk dX3_patch_32 (by decide) (by decide) ⟨_, rfl, ?_⟩
          exact zp_mk (if_neg (fun h => absurd h.2.2.2 c23)) hR
    · refine zr_if_eqT (tgt := 26) hC dX3_patch_11 (by decide) (by decide) ?_
      refine zr_aload_n 0 hC dX3_patch_26 rfl rfl ?_
      refine zr_iconst (v := (1 : Int32)) hC dX3_patch_27 rfl ?_
      refine zr_iconst (v := (0 : Int32)) hC dX3_patch_28 rfl ?_
      refine zr_cVi 0 hC cv_X3_leave ml_X3_36 (c_X3_leave (a := a) (x := x) (1 : Int32) (0 : Int32)) dX3_patch_29 ⟨Nat.le_of_ble_eq_true rfl, Nat.le_of_ble_eq_true rfl⟩ ⟨Nat.le_of_ble_eq_true rfl, Nat.le_of_ble_eq_true rfl⟩ rfl rfl rfl rfl rfl (Nat.le_of_ble_eq_true rfl) ?_
      rintro rr _ ⟨hrr, rfl⟩
      subst rr
      refine zr_iret hC hr hk dX3_patch_32 (by decide) (by decide) ⟨_, rfl, ?_⟩
      exact zp_mk (if_neg (fun h => absurd h.2.1 hb_t)) hR
  · refine zr_if_eqT (tgt := 26) hC dX3_patch_4 (by decide) (by decide) ?_
    refine zr_aload_n 0 hC dX3_patch_26 rfl rfl ?_
    refine zr_iconst (v := (1 : Int32)) hC dX3_patch_27 rfl ?_
    refine zr_iconst (v := (0 : Int32)) hC dX3_patch_28 rfl ?_
    refine zr_cVi 0 hC cv_X3_leave ml_X3_36 (c_X3_leave (a := a) (x := x) (1 : Int32) (0 : Int32)) dX3_patch_29 ⟨Nat.le_of_ble_eq_true rfl, Nat.le_of_ble_eq_true rfl⟩ ⟨Nat.le_of_ble_eq_true rfl, Nat.le_of_ble_eq_true rfl⟩ rfl rfl rfl rfl rfl (Nat.le_of_ble_eq_true rfl) ?_
    rintro rr _ ⟨hrr, rfl⟩
    subst rr
    refine zr_iret hC hr hk dX3_patch_32 (by decide) (by decide) ⟨_, rfl, ?_⟩
    exact zp_mk (if_neg (fun h => absurd h.1 hb_f)) hR
set_option maxRecDepth 100000 in
set_option maxHeartbeats 4000000 in
theorem c_X3_cell (hR : rc_R cI cII a x) (i j0 : Int32) : zz_Mi l D (zt cI cII cF) yX3_cell cX3_cell 4 (some .int) 3 64 0 0 [.ref o, .int i, .int j0] (cw_W o rk sp pp fp cII cF a x) (fun r w' => zp_c o rk sp pp fp cI cII cF (zo_cell a i j0) r w') := by
  refine zz_mk (by decide) (Nat.le_of_ble_eq_true rfl) ?_
  intro p e s m below meth c A hC hr hk hnm
  have hC : zz_C p s m _ c A D (zt cI cII cF) 4 cX3_cell RX3 := hC
  refine zr_aload_n 0 hC dX3_cell_0 rfl rfl ?_
  refine zr_aload_n 0 hC dX3_cell_1 rfl rfl ?_
  refine zr_get (v := .ref pp) 0 1 hC iu_X3 rfl dX3_cell_2 fl_X3_19 (by decide) rfl rfl ?_
  refine zr_iload_n 1 hC dX3_cell_5 rfl rfl ?_
  refine zr_iload_n 2 hC dX3_cell_6 rfl rfl ?_
  refine zr_cVi 3 hC cv_X1_refusalAt ml_X3_98 (c_X1_refusalAt (a := a) (x := x) hR.1 i j0) dX3_cell_7 ⟨Nat.le_of_ble_eq_true rfl, Nat.le_of_ble_eq_true rfl⟩ ⟨Nat.le_of_ble_eq_true rfl, Nat.le_of_ble_eq_true rfl⟩ rfl rfl rfl rfl rfl (Nat.le_of_ble_eq_true rfl) ?_
  rintro _ _ ⟨rfl, rfl⟩
  refine zr_cVi 0 hC cv_X3_counted ml_X3_40 (c_X3_counted (a := a) (x := x) (zf_whyC (aa_sh a) i j0)) dX3_cell_10 ⟨Nat.le_of_ble_eq_true rfl, Nat.le_of_ble_eq_true rfl⟩ ⟨Nat.le_of_ble_eq_true rfl, Nat.le_of_ble_eq_true rfl⟩ rfl rfl rfl rfl rfl (Nat.le_of_ble_eq_true rfl) ?_
  rintro _ _ ⟨rfl, rfl⟩
  refine zr_istore_n (lv' := [(3, .int (zf_whyC (aa_sh a) i j0)), (0, .ref o), (1, .int i), (2, .int j0)]) hC dX3_cell_13 rfl (by decide) rfl ?_
  refine zr_aload_n 1 hC dX3_cell_14 rfl rfl ?_
  refine zr_iload_n 0 hC dX3_cell_15 rfl rfl ?_
  refine zr_iload_n 0 hC dX3_cell_16 rfl rfl ?_
  refine zr_if_ne (tgt := 32) hC dX3_cell_17 (by decide) (fun c17 => ?_) (fun c17 => ?_)
  · refine zr_iconst (v := (0 : Int32)) hC dX3_cell_32 rfl ?_
    refine zr_cVi 0 hC cv_X3_leave ml_X3_36 (c_X3_leave (a := (zf_cnt (zf_whyC (aa_sh a) i j0) a)) (x := x) (zf_whyC (aa_sh a) i j0) (0 : Int32)) dX3_cell_33 ⟨Nat.le_of_ble_eq_true rfl, Nat.le_of_ble_eq_true rfl⟩ ⟨Nat.le_of_ble_eq_true rfl, Nat.le_of_ble_eq_true rfl⟩ rfl rfl rfl rfl rfl (Nat.le_of_ble_eq_true rfl) ?_
    rintro rr _ ⟨hrr, rfl⟩
    subst rr
    refine zr_iret hC hr hk dX3_cell_36 (by decide) (by decide) ⟨_, rfl, ?_⟩
    exact zp_mk (by unfold zo_cell; simp [c17, zf_cnt0]) hR
  · refine zr_aload_n 1 hC dX3_cell_20 rfl rfl ?_
    refine zr_get (v := .ref pp) 0 1 hC iu_X3 rfl dX3_cell_21 fl_X3_19 (by decide) rfl rfl ?_
    refine zr_iload_n 2 hC dX3_cell_24 rfl rfl ?_
    refine zr_iload_n 3 hC dX3_cell_25 rfl rfl ?_
    refine zr_cVi 3 hC cv_X1_numberAt ml_X3_101 (c_X1_numberAt (a := (zf_cnt (zf_whyC (aa_sh a) i j0) a)) (x := x) hR.1 c17) dX3_cell_26 ⟨Nat.le_of_ble_eq_true rfl, Nat.le_of_ble_eq_true rfl⟩ ⟨Nat.le_of_ble_eq_true rfl, Nat.le_of_ble_eq_true rfl⟩ rfl rfl rfl rfl rfl (Nat.le_of_ble_eq_true rfl) ?_
    rintro _ _ ⟨rfl, rfl⟩
    refine zr_goto (tgt := 33) hC dX3_cell_29 (by decide) ?_
    refine zr_cVi 0 hC cv_X3_leave ml_X3_36 (c_X3_leave (a := (zf_cnt (zf_whyC (aa_sh a) i j0) a)) (x := x) (zf_whyC (aa_sh a) i j0) (zf_cell (aa_sh a) i j0)) dX3_cell_33 ⟨Nat.le_of_ble_eq_true rfl, Nat.le_of_ble_eq_true rfl⟩ ⟨Nat.le_of_ble_eq_true rfl, Nat.le_of_ble_eq_true rfl⟩ rfl rfl rfl rfl rfl (Nat.le_of_ble_eq_true rfl) ?_
    rintro rr _ ⟨hrr, rfl⟩
    subst rr
    refine zr_iret hC hr hk dX3_cell_36 (by decide) (by decide) ⟨_, rfl, ?_⟩
    exact zp_mk (by unfold zo_cell; simp [c17, zf_cnt0]) hR
set_option maxRecDepth 100000 in
set_option maxHeartbeats 4000000 in
theorem c_X3_status (hR : rc_R cI cII a x) : zz_Mi l D (zt cI cII cF) yX3_status cX3_status 1 (some .int) 0 0 0 0 [.ref o] (cw_W o rk sp pp fp cII cF a x) (fun r w' => zp_c o rk sp pp fp cI cII cF (zo_status a) r w') := by
  refine zz_mk (by decide) (Nat.le_of_ble_eq_true rfl) ?_
  intro p e s m below meth c A hC hr hk hnm
  have hC : zz_C p s m _ c A D (zt cI cII cF) 1 cX3_status RX3 := hC
  refine zr_aload_n 0 hC dX3_status_0 rfl rfl ?_
  refine zr_get (v := .int (aa_sta a)) 0 10 hC iu_X3 rfl dX3_status_1 fl_X3_122 (by decide) rfl rfl ?_
  refine zr_iret hC hr hk dX3_status_4 (by decide) (by decide) ⟨_, rfl, ?_⟩
  exact zp_mk rfl hR
end ZA5
end
section
section ZA6
variable {l : Launch} {D : va_G} {cI cII cF : ClassId} {o rk sp pp fp mo m1 m2 m3 m4 m5 m6 m7 m8 m9 : Nat}
variable {a : ax_A} {x : cx_X}
set_option maxRecDepth 100000 in
set_option maxHeartbeats 4000000 in
theorem c_X2_stripsThere (hR : rc_Q cI cII a x) : zz_Mi l D (zt cI cII cF) yX2_stripsThere cX2_stripsThere 3 (some .int) 0 0 0 0 [.ref rk] (cw_W o rk sp pp fp cII cF a x) (fun r w' => r = zf_there (aa_st a) 24 ∧ w' = (cw_W o rk sp pp fp cII cF a x)) := by
  refine zz_mk (by decide) (Nat.le_of_ble_eq_true rfl) ?_
  intro p e s m below meth c A hC hr hk hnm
  have hC : zz_C p s m _ c A D (zt cI cII cF) 3 cX2_stripsThere RX2 := hC
  refine zr_iconst (v := (0 : Int32)) hC dX2_stripsThere_0 rfl ?_
  refine zr_istore_n (lv' := [(1, .int (0 : Int32)), (0, .ref rk)]) hC dX2_stripsThere_1 rfl (by decide) rfl ?_
  refine zr_iconst (v := (0 : Int32)) hC dX2_stripsThere_2 rfl ?_
  refine zr_istore_n (lv' := [(2, .int (0 : Int32)), (1, .int (0 : Int32)), (0, .ref rk)]) hC dX2_stripsThere_3 rfl (by decide) rfl ?_
  refine zr_loop (σ := Nat × Int32 × Int32) (fun t => [(2, .int t.2.2), (1, .int t.2.1), (0, .ref rk)]) (fun t => (cw_W o rk sp pp fp cII cF a x)) (fun t => t.1 ≤ 24 ∧ t.2.2 = nI t.1 ∧ t.2.1 = zf_there (aa_st a) t.1) (fun t => 24 - t.1) ?_ (0, 0, 0) ⟨by omega, rfl, rfl⟩
  rintro ⟨k, c0, i⟩ ⟨h1, h2, h3⟩ ih
  try dsimp only at h1
  try dsimp only at h2
  try dsimp only at h3
  show zz_Z _ _ _ _ _ _ _ _ _ _ _ _ _ _ 4 [(2, .int i), (1, .int c0), (0, .ref rk)] [] (cw_W o rk sp pp fp cII cF a x) 0 0
  refine zr_iload_n 0 hC dX2_stripsThere_4 rfl rfl ?_
  refine zr_aload_n 2 hC dX2_stripsThere_5 rfl rfl ?_
  refine zr_get (v := .ref sp) 1 0 hC iu_X2 rfl dX2_stripsThere_6 fl_X2_11 (by decide) rfl rfl ?_
  refine zr_alen 2 1 hC dX2_stripsThere_9 rfl rfl ?_
  refine zr_icmp_ge (tgt := 31) hC dX2_stripsThere_10 (by decide) (fun c10 => ?_) (fun c10 => ?_)
  · have hk24 : k = 24 := by
      rw [h2] at c10
      have := (nI_leI (by omega) (by omega)).mp c10
      omega
    refine zr_iload_n 1 hC dX2_stripsThere_31 rfl rfl ?_
    refine zr_iret hC hr hk dX2_stripsThere_32 (by decide) (by decide) ⟨_, rfl, ?_⟩
    exact ⟨by rw [h3, hk24], rfl⟩
  · have hk24 : k < 24 := by
      rcases Nat.lt_or_ge k 24 with h | h
      · exact h
      · exact absurd (by rw [h2]; exact nI_le h (by omega)) c10
    refine zr_aload_n 2 hC dX2_stripsThere_13 rfl rfl ?_
    refine zr_get (v := .ref sp) 1 0 hC iu_X2 rfl dX2_stripsThere_14 fl_X2_11 (by decide) rfl rfl ?_
    refine zr_iload_n 0 hC dX2_stripsThere_17 rfl rfl ?_
    refine zr_aaj (f := (cx_f x)) (j := k) 2 1 hC dX2_stripsThere_18 rfl rfl rfl hk24 h2 (by decide) ?_
    refine zr_rf (fun hq2 => ?_) (fun q1 hq2 => ?_)
    · have hno : (aa_st a).1 k = none := (hR.1.1 k hk24).mp hq2
      refine zr_ifnullN (tgt := 25) hC dX2_stripsThere_19 (by decide) ?_
      refine zr_iinc (v := (i + 1)) (lv' := [(2, .int (i + 1)), (1, .int c0), (0, .ref rk)]) 0 hC dX2_stripsThere_25 rfl rfl (by decide) rfl ?_
      refine zr_goto (tgt := 4) hC dX2_stripsThere_28 (by decide) ?_
      exact ih (k + 1, c0, (i + 1)) ⟨by show k + 1 ≤ 24; omega, by show i + 1 = nI (k + 1); rw [h2, nI_1], by show c0 = zf_there (aa_st a) (k + 1); rw [zf_there, if_pos hno]; exact h3⟩ (by show 24 - (k + 1) < 24 - k; omega)
    · have hno : ¬ (aa_st a).1 k = none := fun e0 => by
        have := (hR.1.1 k hk24).mpr e0
        rw [hq2] at this
        cases this
      refine zr_ifnull hC dX2_stripsThere_19 ?_
      refine zr_iinc (v := (c0 + 1)) (lv' := [(1, .int (c0 + 1)), (2, .int i), (0, .ref rk)]) 1 hC dX2_stripsThere_22 rfl rfl (by decide) rfl ?_
      refine zr_iinc (v := (i + 1)) (lv' := [(2, .int (i + 1)), (1, .int (c0 + 1)), (0, .ref rk)]) 1 hC dX2_stripsThere_25 rfl rfl (by decide) rfl ?_
      refine zr_goto (tgt := 4) hC dX2_stripsThere_28 (by decide) ?_
      exact ih (k + 1, (c0 + 1), (i + 1)) ⟨by show k + 1 ≤ 24; omega, by show i + 1 = nI (k + 1); rw [h2, nI_1], by show c0 + 1 = zf_there (aa_st a) (k + 1); rw [zf_there, if_neg hno, h3]⟩ (by show 24 - (k + 1) < 24 - k; omega)
set_option maxRecDepth 100000 in
set_option maxHeartbeats 4000000 in
theorem c_X3_count (hR : rc_R cI cII a x) (v : Int32) : zz_Mi l D (zt cI cII cF) yX3_count cX3_count 2 (some .int) 1 22 0 0 [.ref o, .int v] (cw_W o rk sp pp fp cII cF a x) (fun r w' => zp_c o rk sp pp fp cI cII cF (zo_count a v) r w') := by
  refine zz_mk (by decide) (Nat.le_of_ble_eq_true rfl) ?_
  intro p e s m below meth c A hC hr hk hnm
  have hC : zz_C p s m _ c A D (zt cI cII cF) 2 cX3_count RX3 := hC
  refine zr_iload_n 1 hC dX3_count_0 rfl rfl ?_
  by_cases t1_0 : v = (0 : Int32)
  · refine zr_tableIn (tgt := 60) hC dX3_count_1 (by rw [t1_0]; decide) (by rw [t1_0]; decide) (by rw [t1_0]; rfl) (by decide) ?_
    refine zr_aload_n 0 hC dX3_count_60 rfl rfl ?_
    refine zr_get (v := .int (aa_mi a)) 0 7 hC iu_X3 rfl dX3_count_61 fl_X3_125 (by decide) rfl rfl ?_
    refine zr_iret hC hr hk dX3_count_64 (by decide) (by decide) ⟨_, rfl, ?_⟩
    exact zp_mk (by unfold zo_count; simp [t1_0, hR.2.2.1]) hR
  by_cases t1_1 : v = (1 : Int32)
  · refine zr_tableIn (tgt := 65) hC dX3_count_1 (by rw [t1_1]; decide) (by rw [t1_1]; decide) (by rw [t1_1]; rfl) (by decide) ?_
    refine zr_aload_n 0 hC dX3_count_65 rfl rfl ?_
    refine zr_get (v := .int (aa_ou a)) 0 8 hC iu_X3 rfl dX3_count_66 fl_X3_128 (by decide) rfl rfl ?_
    refine zr_iret hC hr hk dX3_count_69 (by decide) (by decide) ⟨_, rfl, ?_⟩
    exact zp_mk (by unfold zo_count; simp [t1_0, t1_1, hR.2.2.1]) hR
  by_cases t1_2 : v = (2 : Int32)
  · refine zr_tableIn (tgt := 70) hC dX3_count_1 (by rw [t1_2]; decide) (by rw [t1_2]; decide) (by rw [t1_2]; rfl) (by decide) ?_
    refine zr_aload_n 0 hC dX3_count_70 rfl rfl ?_
    refine zr_get (v := .int (aa_ne a)) 0 9 hC iu_X3 rfl dX3_count_71 fl_X3_131 (by decide) rfl rfl ?_
    refine zr_iret hC hr hk dX3_count_74 (by decide) (by decide) ⟨_, rfl, ?_⟩
    exact zp_mk (by unfold zo_count; simp [t1_0, t1_1, t1_2, hR.2.2.1]) hR
  by_cases t1_3 : v = (3 : Int32)
  · refine zr_tableIn (tgt := 75) hC dX3_count_1 (by rw [t1_3]; decide) (by rw [t1_3]; decide) (by rw [t1_3]; rfl) (by decide) ?_
    refine zr_aload_n 0 hC dX3_count_75 rfl rfl ?_
    refine zr_get (v := .int (cx_run x)) 0 3 hC iu_X3 rfl dX3_count_76 fl_X3_83 (by decide) rfl rfl ?_
    refine zr_iret hC hr hk dX3_count_79 (by decide) (by decide) ⟨_, rfl, ?_⟩
    exact zp_mk (by unfold zo_count; simp [t1_0, t1_1, t1_2, t1_3, hR.2.2.1]) hR
  by_cases t1_4 : v = (4 : Int32)
  · refine zr_tableIn (tgt := 80) hC dX3_count_1 (by rw [t1_4]; decide) (by rw [t1_4]; decide) (by rw [t1_4]; rfl) (by decide) ?_
    refine zr_aload_n 0 hC dX3_count_80 rfl rfl ?_
    refine zr_get (v := .int (aa_re a)) 0 4 hC iu_X3 rfl dX3_count_81 fl_X3_134 (by decide) rfl rfl ?_
    refine zr_iret hC hr hk dX3_count_84 (by decide) (by decide) ⟨_, rfl, ?_⟩
    exact zp_mk (by unfold zo_count; simp [t1_0, t1_1, t1_2, t1_3, t1_4, hR.2.2.1]) hR
  by_cases t1_5 : v = (5 : Int32)
  · refine zr_tableIn (tgt := 85) hC dX3_count_1 (by rw [t1_5]; decide) (by rw [t1_5]; decide) (by rw [t1_5]; rfl) (by decide) ?_
    refine zr_aload_n 0 hC dX3_count_85 rfl rfl ?_
    refine zr_get (v := .int (aa_dm a)) 0 5 hC iu_X3 rfl dX3_count_86 fl_X3_137 (by decide) rfl rfl ?_
    refine zr_iret hC hr hk dX3_count_89 (by decide) (by decide) ⟨_, rfl, ?_⟩
    exact zp_mk (by unfold zo_count; simp [t1_0, t1_1, t1_2, t1_3, t1_4, t1_5, hR.2.2.1]) hR
  by_cases t1_6 : v = (6 : Int32)
  · refine zr_tableIn (tgt := 90) hC dX3_count_1 (by rw [t1_6]; decide) (by rw [t1_6]; decide) (by rw [t1_6]; rfl) (by decide) ?_
    refine zr_aload_n 0 hC dX3_count_90 rfl rfl ?_
    refine zr_get (v := .int (aa_dO a)) 0 6 hC iu_X3 rfl dX3_count_91 fl_X3_140 (by decide) rfl rfl ?_
    refine zr_iret hC hr hk dX3_count_94 (by decide) (by decide) ⟨_, rfl, ?_⟩
    exact zp_mk (by unfold zo_count; simp [t1_0, t1_1, t1_2, t1_3, t1_4, t1_5, t1_6, hR.2.2.1]) hR
  by_cases t1_7 : v = (7 : Int32)
  · refine zr_tableIn (tgt := 95) hC dX3_count_1 (by rw [t1_7]; decide) (by rw [t1_7]; decide) (by rw [t1_7]; rfl) (by decide) ?_
    refine zr_aload_n 0 hC dX3_count_95 rfl rfl ?_
    refine zr_get (v := .ref rk) 0 0 hC iu_X3 rfl dX3_count_96 fl_X3_10 (by decide) rfl rfl ?_
    refine zr_cVi 1 hC cv_X2_stripsThere ml_X3_143 (c_X2_stripsThere (a := a) (x := x) hR.1) dX3_count_99 ⟨Nat.le_of_ble_eq_true rfl, Nat.le_of_ble_eq_true rfl⟩ ⟨Nat.le_of_ble_eq_true rfl, Nat.le_of_ble_eq_true rfl⟩ rfl rfl rfl rfl rfl (Nat.le_of_ble_eq_true rfl) ?_
    rintro _ _ ⟨rfl, rfl⟩
    refine zr_iret hC hr hk dX3_count_102 (by decide) (by decide) ⟨_, rfl, ?_⟩
    exact zp_mk (by unfold zo_count; simp [t1_0, t1_1, t1_2, t1_3, t1_4, t1_5, t1_6, t1_7, hR.2.2.1]) hR
  by_cases t1_8 : v = (8 : Int32)
  · refine zr_tableIn (tgt := 103) hC dX3_count_1 (by rw [t1_8]; decide) (by rw [t1_8]; decide) (by rw [t1_8]; rfl) (by decide) ?_
    refine zr_aload_n 0 hC dX3_count_103 rfl rfl ?_
    refine zr_get (v := .ref rk) 0 0 hC iu_X3 rfl dX3_count_104 fl_X3_10 (by decide) rfl rfl ?_
    refine zr_cVi 1 hC cv_X2_placesSet ml_X3_147 (c_X2_placesSet (a := a) (x := x)) dX3_count_107 ⟨Nat.le_of_ble_eq_true rfl, Nat.le_of_ble_eq_true rfl⟩ ⟨Nat.le_of_ble_eq_true rfl, Nat.le_of_ble_eq_true rfl⟩ rfl rfl rfl rfl rfl (Nat.le_of_ble_eq_true rfl) ?_
    rintro _ _ ⟨rfl, rfl⟩
    refine zr_iret hC hr hk dX3_count_110 (by decide) (by decide) ⟨_, rfl, ?_⟩
    exact zp_mk (by unfold zo_count; simp [t1_0, t1_1, t1_2, t1_3, t1_4, t1_5, t1_6, t1_7, t1_8, hR.2.2.1]) hR
  by_cases t1_9 : v = (9 : Int32)
  · refine zr_tableIn (tgt := 111) hC dX3_count_1 (by rw [t1_9]; decide) (by rw [t1_9]; decide) (by rw [t1_9]; rfl) (by decide) ?_
    refine zr_aload_n 0 hC dX3_count_111 rfl rfl ?_
    refine zr_get (v := .ref pp) 0 1 hC iu_X3 rfl dX3_count_112 fl_X3_19 (by decide) rfl rfl ?_
    refine zr_cVi 3 hC cv_X1_rowCount ml_X3_150 (c_X1_rowCount (a := a) (x := x) hR.1) dX3_count_115 ⟨Nat.le_of_ble_eq_true rfl, Nat.le_of_ble_eq_true rfl⟩ ⟨Nat.le_of_ble_eq_true rfl, Nat.le_of_ble_eq_true rfl⟩ rfl rfl rfl rfl rfl (Nat.le_of_ble_eq_true rfl) ?_
    rintro _ _ ⟨rfl, rfl⟩
    refine zr_iret hC hr hk dX3_count_118 (by decide) (by decide) ⟨_, rfl, ?_⟩
    exact zp_mk (by unfold zo_count; simp [t1_0, t1_1, t1_2, t1_3, t1_4, t1_5, t1_6, t1_7, t1_8, t1_9, hR.2.2.1]) hR
  by_cases t1_10 : v = (10 : Int32)
  · refine zr_tableIn (tgt := 119) hC dX3_count_1 (by rw [t1_10]; decide) (by rw [t1_10]; decide) (by rw [t1_10]; rfl) (by decide) ?_
    refine zr_aload_n 0 hC dX3_count_119 rfl rfl ?_
    refine zr_get (v := .ref pp) 0 1 hC iu_X3 rfl dX3_count_120 fl_X3_19 (by decide) rfl rfl ?_
    refine zr_cVi 3 hC cv_X1_cellsWritten ml_X3_153 (c_X1_cellsWritten (a := a) (x := x)) dX3_count_123 ⟨Nat.le_of_ble_eq_true rfl, Nat.le_of_ble_eq_true rfl⟩ ⟨Nat.le_of_ble_eq_true rfl, Nat.le_of_ble_eq_true rfl⟩ rfl rfl rfl rfl rfl (Nat.le_of_ble_eq_true rfl) ?_
    rintro _ _ ⟨rfl, rfl⟩
    refine zr_iret hC hr hk dX3_count_126 (by decide) (by decide) ⟨_, rfl, ?_⟩
    exact zp_mk (by unfold zo_count; simp [t1_0, t1_1, t1_2, t1_3, t1_4, t1_5, t1_6, t1_7, t1_8, t1_9, t1_10, hR.2.2.1]) hR
  refine zr_tableOut (tgt := 127) hC dX3_count_1 (by have e0 := lv_neT (a := 0) t1_0 rfl; have e1 := lv_neT (a := 1) t1_1 rfl; have e2 := lv_neT (a := 2) t1_2 rfl; have e3 := lv_neT (a := 3) t1_3 rfl; have e4 := lv_neT (a := 4) t1_4 rfl; have e5 := lv_neT (a := 5) t1_5 rfl; have e6 := lv_neT (a := 6) t1_6 rfl; have e7 := lv_neT (a := 7) t1_7 rfl; have e8 := lv_neT (a := 8) t1_8 rfl; have e9 := lv_neT (a := 9) t1_9 rfl; have e10 := lv_neT (a := 10) t1_10 rfl; omega) (by decide) ?_
  refine zr_iconst (v := (0 : Int32)) hC dX3_count_127 rfl ?_
  refine zr_iret hC hr hk dX3_count_128 (by decide) (by decide) ⟨_, rfl, ?_⟩
  exact zp_mk (by unfold zo_count; simp [t1_0, t1_1, t1_2, t1_3, t1_4, t1_5, t1_6, t1_7, t1_8, t1_9, t1_10, hR.2.2.1]) hR
set_option maxRecDepth 100000 in
set_option maxHeartbeats 4000000 in
theorem c_X3_hang (hR : rc_R cI cII a x) (b s0 n : Int32) : zz_Mi l D (zt cI cII cF) yX3_hang cX3_hang 4 (some .int) 1 23 1 24 [.ref o, .int b, .int s0, .int n] (cw_W o rk sp pp fp cII cF a x) (fun r w' => zp_c o rk sp pp fp cI cII cF (zo_hang a b s0 n) r w') := by
  refine zz_mk (by decide) (Nat.le_of_ble_eq_true rfl) ?_
  intro p e s m below meth c A hC hr hk hnm
  have hC : zz_C p s m _ c A D (zt cI cII cF) 4 cX3_hang RX3 := hC
  refine zr_iload_n 1 hC dX3_hang_0 rfl rfl ?_
  refine zr_cSi hC cs_X3_isBank ml_X3_29 (c_X3_isBank (w := (cw_W o rk sp pp fp cII cF a x)) b) dX3_hang_1 ⟨Nat.le_of_ble_eq_true rfl, Nat.le_of_ble_eq_true rfl⟩ ⟨Nat.le_of_ble_eq_true rfl, Nat.le_of_ble_eq_true rfl⟩ rfl rfl (Nat.le_of_ble_eq_true rfl) ?_
  rintro _ _ ⟨rfl, ⟨rfl, hb_b⟩ | ⟨rfl, hb_b⟩⟩
  · refine zr_if_eqF (tgt := 14) hC dX3_hang_4 (by decide) (by decide) ?_
    refine zr_iload_n 2 hC dX3_hang_7 rfl rfl ?_
    refine zr_cSi hC cs_X3_isStrip ml_X3_33 (c_X3_isStrip (w := (cw_W o rk sp pp fp cII cF a x)) s0) dX3_hang_8 ⟨Nat.le_of_ble_eq_true rfl, Nat.le_of_ble_eq_true rfl⟩ ⟨Nat.le_of_ble_eq_true rfl, Nat.le_of_ble_eq_true rfl⟩ rfl rfl (Nat.le_of_ble_eq_true rfl) ?_
    rintro _ _ ⟨rfl, ⟨rfl, hs_s0⟩ | ⟨rfl, hs_s0⟩⟩
    · refine zr_if_neT (tgt := 21) hC dX3_hang_11 (by decide) (by decide) ?_
      refine zr_iload_n 3 hC dX3_hang_21 rfl rfl ?_
      refine zr_bipush (v := (24 : Int32)) hC dX3_hang_22 rfl ?_
      refine zr_icmp_le (tgt := 34) hC dX3_hang_24 (by decide) (fun c24 => ?_) (fun c24 => ?_)
      · refine zr_iload_n 3 hC dX3_hang_34 rfl rfl ?_
        refine zr_if_ge (tgt := 49) hC dX3_hang_35 (by decide) (fun c35 => ?_) (fun c35 => ?_)
        · refine zr_aload_n 0 hC dX3_hang_49 rfl rfl ?_
          refine zr_get (v := .ref rk) 0 0 hC iu_X3 rfl dX3_hang_50 fl_X3_10 (by decide) rfl rfl ?_
          refine zr_iload_n 1 hC dX3_hang_53 rfl rfl ?_
          refine zr_iload_n 2 hC dX3_hang_54 rfl rfl ?_
          refine zr_iload_n 3 hC dX3_hang_55 rfl rfl ?_
          obtain ⟨nn, hnn, rfl⟩ := zn_of (n := 25) (M := 25) (by decide) ⟨c35, Int32.lt_of_le_of_lt c24 (by decide)⟩
          refine zr_newa (N' := nn) 0 hC dX3_hang_56 ac_int rfl (nI_pos (by omega)) (nI_clamp (by omega)) (by omega) (by decide) (by show 0 + nn ≤ 24; omega) (fun q hDq => ?_)
          obtain ⟨hqL, hpush⟩ := cw_push hDq
          refine zr_eq rfl hpush ?_
          refine zr_wide (k := 1) (n := 24) (by omega) (by omega) ?_
          refine zr_cVv 1 hC cv_X2_replace ml_X3_44 (c_X2_replaceA (a := a) (x := (ck_ent (ck_L x (cx_L x ++ [q])) (va_up (cx_ent x) q (ze_i cI nn (fun _ => 0))))) (n := nn) (z := fun _ => 0) (List.mem_append_right _ (List.mem_singleton.mpr rfl)) (va_up_self _ _ _) hb_b hs_s0) dX3_hang_58 ⟨Nat.le_of_ble_eq_true rfl, Nat.le_of_ble_eq_true rfl⟩ ⟨Nat.le_of_ble_eq_true rfl, Nat.le_of_ble_eq_true rfl⟩ rfl rfl rfl rfl rfl (Nat.le_of_ble_eq_true rfl) ?_
          rintro _ rfl
          refine zr_aload_n 0 hC dX3_hang_61 rfl rfl ?_
          refine zr_iconst (v := (0 : Int32)) hC dX3_hang_62 rfl ?_
          refine zr_iload_n 3 hC dX3_hang_63 rfl rfl ?_
          refine zr_cVi 0 hC cv_X3_leave ml_X3_36 (c_X3_leave (a := a) (x := (ck_f (ck_ent (ck_L x (cx_L x ++ [q])) (va_up (cx_ent x) q (ze_i cI nn (fun _ => 0)))) (va_up (cx_f x) (zl b s0) (some q)))) (0 : Int32) (nI nn)) dX3_hang_64 ⟨Nat.le_of_ble_eq_true rfl, Nat.le_of_ble_eq_true rfl⟩ ⟨Nat.le_of_ble_eq_true rfl, Nat.le_of_ble_eq_true rfl⟩ rfl rfl rfl rfl rfl (Nat.le_of_ble_eq_true rfl) ?_
          rintro rr _ ⟨hrr, rfl⟩
          subst rr
          refine zr_iret hC hr hk dX3_hang_67 (by decide) (by decide) ⟨_, rfl, ?_⟩
          exact zp_mw (a' := as_sta (as_st a (zf_hangS (aa_st a) (zl b s0) nn)) 0) (x' := (ck_f (ck_ent (ck_L x (cx_L x ++ [q])) (va_up (cx_ent x) q (ze_i cI nn (fun _ => 0)))) (va_up (cx_f x) (zl b s0) (some q)))) (by unfold zo_hang; rw [if_pos ⟨hb_b, hs_s0⟩, if_pos c24, if_pos c35, nI_clamp (by omega)]) (hR.of (rc_hang hR.1 (zl_lt hb_b hs_s0) hqL (by omega)) (cx_K.new hqL) rfl) rfl
        · refine zr_aload_n 0 hC dX3_hang_38 rfl rfl ?_
          refine zr_aload_n 0 hC dX3_hang_39 rfl rfl ?_
          refine zr_iconst (v := (4 : Int32)) hC dX3_hang_40 rfl ?_
          refine zr_cVi 0 hC cv_X3_counted ml_X3_40 (c_X3_counted (a := a) (x := x) (4 : Int32)) dX3_hang_41 ⟨Nat.le_of_ble_eq_true rfl, Nat.le_of_ble_eq_true rfl⟩ ⟨Nat.le_of_ble_eq_true rfl, Nat.le_of_ble_eq_true rfl⟩ rfl rfl rfl rfl rfl (Nat.le_of_ble_eq_true rfl) ?_
          rintro _ _ ⟨rfl, rfl⟩
          refine zr_iconst (v := (0 : Int32)) hC dX3_hang_44 rfl ?_
          refine zr_cVi 0 hC cv_X3_leave ml_X3_36 (c_X3_leave (a := (zf_cnt (4 : Int32) a)) (x := x) (4 : Int32) (0 : Int32)) dX3_hang_45 ⟨Nat.le_of_ble_eq_true rfl, Nat.le_of_ble_eq_true rfl⟩ ⟨Nat.le_of_ble_eq_true rfl, Nat.le_of_ble_eq_true rfl⟩ rfl rfl rfl rfl rfl (Nat.le_of_ble_eq_true rfl) ?_
          rintro rr _ ⟨hrr, rfl⟩
          subst rr
          refine zr_iret hC hr hk dX3_hang_48 (by decide) (by decide) ⟨_, rfl, ?_⟩
          exact zp_mk (by unfold zo_hang; rw [if_pos ⟨hb_b, hs_s0⟩, if_pos c24, if_neg c35]) hR
      · refine zr_aload_n 0 hC dX3_hang_27 rfl rfl ?_
        refine zr_iconst (v := (5 : Int32)) hC dX3_hang_28 rfl ?_
        refine zr_iconst (v := (0 : Int32)) hC dX3_hang_29 rfl ?_
        refine zr_cVi 0 hC cv_X3_leave ml_X3_36 (c_X3_leave (a := a) (x := x) (5 : Int32) (0 : Int32)) dX3_hang_30 ⟨Nat.le_of_ble_eq_true rfl, Nat.le_of_ble_eq_true rfl⟩ ⟨Nat.le_of_ble_eq_true rfl, Nat.le_of_ble_eq_true rfl⟩ rfl rfl rfl rfl rfl (Nat.le_of_ble_eq_true rfl) ?_
        rintro rr _ ⟨hrr, rfl⟩
        subst rr
        refine zr_iret hC hr hk dX3_hang_33 (by decide) (by decide) ⟨_, rfl, ?_⟩
        exact zp_mk (by unfold zo_hang; rw [if_pos ⟨hb_b, hs_s0⟩, if_neg c24]) hR
    · refine zr_if_neF (tgt := 21) hC dX3_hang_11 (by decide) (by decide) ?_
      refine zr_aload_n 0 hC dX3_hang_14 rfl rfl ?_
      refine zr_iconst (v := (1 : Int32)) hC dX3_hang_15 rfl ?_
      refine zr_iconst (v := (0 : Int32)) hC dX3_hang_16 rfl ?_
      refine zr_cVi 0 hC cv_X3_leave ml_X3_36 (c_X3_leave (a := a) (x := x) (1 : Int32) (0 : Int32)) dX3_hang_17 ⟨Nat.le_of_ble_eq_true rfl, Nat.le_of_ble_eq_true rfl⟩ ⟨Nat.le_of_ble_eq_true rfl, Nat.le_of_ble_eq_true rfl⟩ rfl rfl rfl rfl rfl (Nat.le_of_ble_eq_true rfl) ?_
      rintro rr _ ⟨hrr, rfl⟩
      subst rr
      refine zr_iret hC hr hk dX3_hang_20 (by decide) (by decide) ⟨_, rfl, ?_⟩
      exact zp_mk (if_neg (fun h => absurd h.2 hs_s0)) hR
  · refine zr_if_eqT (tgt := 14) hC dX3_hang_4 (by decide) (by decide) ?_
    refine zr_aload_n 0 hC dX3_hang_14 rfl rfl ?_
    refine zr_iconst (v := (1 : Int32)) hC dX3_hang_15 rfl ?_
    refine zr_iconst (v := (0 : Int32)) hC dX3_hang_16 rfl ?_
    refine zr_cVi 0 hC cv_X3_leave ml_X3_36 (c_X3_leave (a := a) (x := x) (1 : Int32) (0 : Int32)) dX3_hang_17 ⟨Nat.le_of_ble_eq_true rfl, Nat.le_of_ble_eq_true rfl⟩ ⟨Nat.le_of_ble_eq_true rfl, Nat.le_of_ble_eq_true rfl⟩ rfl rfl rfl rfl rfl (Nat.le_of_ble_eq_true rfl) ?_
    rintro rr _ ⟨hrr, rfl⟩
    subst rr
    refine zr_iret hC hr hk dX3_hang_20 (by decide) (by decide) ⟨_, rfl, ?_⟩
    exact zp_mk (if_neg (fun h => absurd h.1 hb_b)) hR
end ZA6
end
section
/-! ===== fades; cells at the end of a world ===== -/
theorem zl_last (w : va_W) (z : Nat × va_E) : (w ++ [z])[w.length]? = some z := by simp
theorem zl_setlast (w : va_W) (z z' : Nat × va_E) : (w ++ [z]).set w.length z' = w ++ [z'] := by simp
theorem zf_num2 (v : Int32) : zf_num 2 v = zf_lev v := by
  unfold zf_num
  rw [if_neg (by decide), if_neg (by decide), if_pos rfl]
section ZPT
variable {cI cII : ClassId} {a : ax_A} {x : cx_X}
theorem rc_Q.grow (hR : rc_Q cI cII a x) {q : Nat} (e : va_E) (hq : q ∉ cx_L x) : rc_Q cI cII a (ck_ent (ck_L x (cx_L x ++ [q])) (va_up (cx_ent x) q e)) := by
  obtain ⟨⟨s1, s2, s3⟩, ⟨t1, t2⟩⟩ := hR
  have old : ∀ y, y ∈ cx_L x → y ≠ q := fun y hy h => hq (h ▸ hy)
  have inL : ∀ y, y ∈ cx_L x → y ∈ cx_L x ++ [q] := fun y hy => List.mem_append_left _ hy
  refine ⟨⟨s1, fun k' q' hk' hf' => ?_, s3⟩, ⟨t1, fun qr hqr => ?_⟩⟩
  · obtain ⟨g1, n', z', g2, g3, g4, g5⟩ := s2 k' q' hk' hf'
    exact ⟨inL _ g1, n', z', (va_up_ne _ _ (old _ g1)).trans g2, g3, g4, g5⟩
  · obtain ⟨g1, n', m, h, g2, g3, g4, g5, g6, g7, g8⟩ := t2 qr hqr
    refine ⟨inL _ g1, n', m, h, g2, g3, g4, (va_up_ne _ _ (old _ g1)).trans g5, g6, fun i y hi hy => ?_, g8⟩
    obtain ⟨k1, ⟨z1, k2, k3⟩, k4⟩ := g7 i y hi hy
    exact ⟨inL _ k1, ⟨z1, (va_up_ne _ _ (old _ k1)).trans k2, k3⟩, k4⟩
theorem rc_F_tail {q : Int32 × Int32 × Int32 × Int32} {rest : ax_FD} {g : Nat → Option Nat} {L : List Nat} {ent : Nat → va_E} {off : Nat} (h : rc_F (q :: rest) g L ent off) : rc_F rest g L ent (off + 1) := by
  intro j q' hj
  obtain ⟨b1, y, b2, b3⟩ := h (j + 1) q' (by rw [List.getElem?_cons_succ]; exact hj)
  exact ⟨b1, y, by rw [show off + 1 + j = off + (j + 1) by omega]; exact b2, b3⟩
theorem rc_F_head {q : Int32 × Int32 × Int32 × Int32} {rest : ax_FD} {g : Nat → Option Nat} {L : List Nat} {ent : Nat → va_E} {off : Nat} (h : rc_F (q :: rest) g L ent off) : zk_b q.1 ∧ ∃ y, g off = some y ∧ y ∈ L ∧ ent y = .inr (0, [.int q.1, .int q.2.1, .int q.2.2.1, .int q.2.2.2]) := h 0 q rfl
theorem rc_F_nil {g : Nat → Option Nat} {L : List Nat} {ent : Nat → va_E} {off : Nat} : rc_F [] g L ent off := fun j q h => by simp at h
theorem rc_F_snoc {q : Int32 × Int32 × Int32 × Int32} {fd : ax_FD} {g : Nat → Option Nat} {L : List Nat} {ent : Nat → va_E} {y : Nat} (h : rc_F fd g L ent 0) (hb : zk_b q.1) (hy : y ∈ L) (he : ent y = .inr (0, [.int q.1, .int q.2.1, .int q.2.2.1, .int q.2.2.2])) : rc_F (fd ++ [q]) (va_up g fd.length (some y)) L ent 0 := by
  intro j q' hj
  by_cases hl : j < fd.length
  · rw [List.getElem?_append_left hl] at hj
    obtain ⟨b1, y', b2, b3⟩ := h j q' hj
    refine ⟨b1, y', ?_, b3⟩
    rw [va_up_ne _ _ (by omega)]; exact b2
  · rw [List.getElem?_append_right (by omega)] at hj
    have hz : j - fd.length < 1 := (List.getElem?_eq_some_iff.mp hj).1
    have hj0 : j = fd.length := by omega
    subst hj0
    rw [Nat.sub_self] at hj
    cases hj
    exact ⟨hb, y, by rw [Nat.zero_add, va_up_self], hy, he⟩
theorem rc_F_up {fd : ax_FD} {g : Nat → Option Nat} {L : List Nat} {ent : Nat → va_E} {off k : Nat} {v : Option Nat} (h : rc_F fd g L ent off) (hk : k < off) : rc_F fd (va_up g k v) L ent off := by
  intro j q hj
  obtain ⟨b1, y, b2, b3⟩ := h j q hj
  exact ⟨b1, y, by rw [va_up_ne _ _ (by omega)]; exact b2, b3⟩
theorem rc_fade (hR : rc_R cI cII a x) {q : Nat} {b i t s : Int32} (hq : q ∉ cx_L x) (hb : zk_b b) (hl : (aa_fd a).length < 16) {run : Int32} (hrun : run = nI ((aa_fd a).length + 1)) (fn : Int32) : rc_R cI cII (as_fd a (aa_fd a ++ [(b, i, t, s)])) (run, fn, cx_f x, va_up (cx_g x) (aa_fd a).length (some q), cx_rw x, cx_L x ++ [q], va_up (cx_ent x) q (.inr (0, [.int b, .int i, .int t, .int s]))) := by
  have hk : cx_K x (ck_ent (ck_L x (cx_L x ++ [q])) (va_up (cx_ent x) q (.inr (0, [.int b, .int i, .int t, .int s])))) := cx_K.new hq
  refine ⟨hR.1.grow _ hq, ?_, ?_, ?_⟩
  · have h1 := hR.2.1.keep hk
    exact rc_F_snoc (q := (b, i, t, s)) h1 hb (List.mem_append_right _ (List.mem_singleton.mpr rfl)) (va_up_self _ _ _)
  · show run = nI (aa_fd a ++ [(b, i, t, s)]).length
    rw [hrun, List.length_append]; rfl
  · show (aa_fd a ++ [(b, i, t, s)]).length ≤ 16
    rw [List.length_append]
    exact hl
end ZPT
end
section
section ZA7
variable {l : Launch} {D : va_G} {cI cII cF : ClassId} {o rk sp pp fp mo m1 m2 m3 m4 m5 m6 m7 m8 m9 : Nat}
variable {a : ax_A} {x : cx_X}
set_option maxRecDepth 100000 in
set_option maxHeartbeats 4000000 in
theorem c_X0_init {w : va_W} {q : Nat} (b i t0 s0 : Int32) : zz_Mv l D (zt cI cII cF) yX0_init cX0_init 5 none 1 20 0 0 [.ref q, .int b, .int i, .int t0, .int s0] (w ++ [(q, .inr (0, [.int 0, .int 0, .int 0, .int 0]))]) (fun w' => w' = (w ++ [(q, .inr (0, [.int b, .int i, .int t0, .int s0]))])) := by
  refine zz_mk (by decide) (Nat.le_of_ble_eq_true rfl) ?_
  intro p e s m below meth c A hC hr hk hnm
  have hC : zz_C p s m _ c A D (zt cI cII cF) 5 cX0_init RX0 := hC
  refine zr_aload_n 0 hC dX0_init_0 rfl rfl ?_
  refine zr_objInit hC dX0_init_1 ml_X0_1 oi_inst oi_code (by decide) (Nat.le_of_ble_eq_true rfl) ?_
  refine zr_aload_n 0 hC dX0_init_4 rfl rfl ?_
  refine zr_iload_n 1 hC dX0_init_5 rfl rfl ?_
  refine zr_putF (w' := (w ++ [(q, .inr (0, [.int b, .int 0, .int 0, .int 0]))])) w.length 0 hC iu_X0 tyX0_ok nmX0 rfl dX0_init_6 fl_X0_7 (by decide) rfl hnm rfl (zl_last _ _) rfl rfl (Nat.le_of_ble_eq_true rfl) (zl_setlast _ _ _) ?_
  refine zr_aload_n 0 hC dX0_init_9 rfl rfl ?_
  refine zr_iload_n 2 hC dX0_init_10 rfl rfl ?_
  refine zr_putF (w' := (w ++ [(q, .inr (0, [.int b, .int i, .int 0, .int 0]))])) w.length 1 hC iu_X0 tyX0_ok nmX0 rfl dX0_init_11 fl_X0_13 (by decide) rfl hnm rfl (zl_last _ _) rfl rfl (Nat.le_of_ble_eq_true rfl) (zl_setlast _ _ _) ?_
  refine zr_aload_n 0 hC dX0_init_14 rfl rfl ?_
  refine zr_iload_n 3 hC dX0_init_15 rfl rfl ?_
  refine zr_putF (w' := (w ++ [(q, .inr (0, [.int b, .int i, .int t0, .int 0]))])) w.length 2 hC iu_X0 tyX0_ok nmX0 rfl dX0_init_16 fl_X0_16 (by decide) rfl hnm rfl (zl_last _ _) rfl rfl (Nat.le_of_ble_eq_true rfl) (zl_setlast _ _ _) ?_
  refine zr_aload_n 0 hC dX0_init_19 rfl rfl ?_
  refine zr_iload 4 hC dX0_init_20 rfl ?_
  refine zr_putF (w' := (w ++ [(q, .inr (0, [.int b, .int i, .int t0, .int s0]))])) w.length 3 hC iu_X0 tyX0_ok nmX0 rfl dX0_init_22 fl_X0_19 (by decide) rfl hnm rfl (zl_last _ _) rfl rfl (Nat.le_of_ble_eq_true rfl) (zl_setlast _ _ _) ?_
  refine zr_vret hC hr hk dX0_init_25 (by decide) (by decide) ⟨rfl, ?_⟩
  exact rfl
set_option maxRecDepth 100000 in
set_option maxHeartbeats 4000000 in
theorem c_X3_fade (hR : rc_R cI cII a x) (b i t s0 : Int32) : zz_Mi l D (zt cI cII cF) yX3_fade cX3_fade 6 (some .int) 3 70 1 4 [.ref o, .int b, .int i, .int t, .int s0] (cw_W o rk sp pp fp cII cF a x) (fun r w' => zp_c o rk sp pp fp cI cII cF (zo_fade a b i t s0) r w') := by
  refine zz_mk (by decide) (Nat.le_of_ble_eq_true rfl) ?_
  intro p e s m below meth c A hC hr hk hnm
  have hC : zz_C p s m _ c A D (zt cI cII cF) 6 cX3_fade RX3 := hC
  refine zr_iload_n 1 hC dX3_fade_0 rfl rfl ?_
  refine zr_cSi hC cs_X3_isBank ml_X3_29 (c_X3_isBank (w := (cw_W o rk sp pp fp cII cF a x)) b) dX3_fade_1 ⟨Nat.le_of_ble_eq_true rfl, Nat.le_of_ble_eq_true rfl⟩ ⟨Nat.le_of_ble_eq_true rfl, Nat.le_of_ble_eq_true rfl⟩ rfl rfl (Nat.le_of_ble_eq_true rfl) ?_
  rintro _ _ ⟨rfl, ⟨rfl, hb_b⟩ | ⟨rfl, hb_b⟩⟩
  · refine zr_if_eqF (tgt := 21) hC dX3_fade_4 (by decide) (by decide) ?_
    refine zr_iload 4 hC dX3_fade_7 rfl ?_
    refine zr_iconst (v := (1 : Int32)) hC dX3_fade_9 rfl ?_
    refine zr_icmp_lt (tgt := 21) hC dX3_fade_10 (by decide) (fun c10 => ?_) (fun c10 => ?_)
    · refine zr_aload_n 0 hC dX3_fade_21 rfl rfl ?_
      refine zr_iconst (v := (1 : Int32)) hC dX3_fade_22 rfl ?_
      refine zr_iconst (v := (0 : Int32)) hC dX3_fade_23 rfl ?_
      refine zr_cVi 0 hC cv_X3_leave ml_X3_36 (c_X3_leave (a := a) (x := x) (1 : Int32) (0 : Int32)) dX3_fade_24 ⟨Nat.le_of_ble_eq_true rfl, Nat.le_of_ble_eq_true rfl⟩ ⟨Nat.le_of_ble_eq_true rfl, Nat.le_of_ble_eq_true rfl⟩ rfl rfl rfl rfl rfl (Nat.le_of_ble_eq_true rfl) ?_
      rintro rr _ ⟨hrr, rfl⟩
      subst rr
      refine zr_iret hC hr hk dX3_fade_27 (by decide) (by decide) ⟨_, rfl, ?_⟩
      exact zp_mk (if_neg (fun h => absurd h.2.1 (Int32.not_le.mpr c10))) hR
    · refine zr_iload 4 hC dX3_fade_13 rfl ?_
      refine zr_sipush (v := (1000 : Int32)) hC dX3_fade_15 rfl ?_
      refine zr_icmp_le (tgt := 28) hC dX3_fade_18 (by decide) (fun c18 => ?_) (fun c18 => ?_)
      · refine zr_aload_n 0 hC dX3_fade_28 rfl rfl ?_
        refine zr_get (v := .int (cx_run x)) 0 3 hC iu_X3 rfl dX3_fade_29 fl_X3_83 (by decide) rfl rfl ?_
        refine zr_bipush (v := (16 : Int32)) hC dX3_fade_32 rfl ?_
        refine zr_icmp_lt (tgt := 45) hC dX3_fade_34 (by decide) (fun c34 => ?_) (fun c34 => ?_)
        · have hl16 : (aa_fd a).length < 16 := by
            rw [hR.2.2.1] at c34
            exact (nI_ltI (b := 16) (by have := hR.2.2.2; omega) (by omega)).mp c34
          refine zr_aload_n 0 hC dX3_fade_45 rfl rfl ?_
          refine zr_iload_n 1 hC dX3_fade_46 rfl rfl ?_
          refine zr_iconst (v := (2 : Int32)) hC dX3_fade_47 rfl ?_
          refine zr_iload_n 2 hC dX3_fade_48 rfl rfl ?_
          refine zr_cVi 0 hC cv_X3_look ml_X3_58 (c_X3_look (a := a) (x := x) hR.1 i hb_b zk_s2) dX3_fade_49 ⟨Nat.le_of_ble_eq_true rfl, Nat.le_of_ble_eq_true rfl⟩ ⟨Nat.le_of_ble_eq_true rfl, Nat.le_of_ble_eq_true rfl⟩ rfl rfl rfl rfl rfl (Nat.le_of_ble_eq_true rfl) ?_
          rintro _ _ (⟨h1, rfl, rfl⟩ | ⟨h1, rfl, rfl⟩)
          · refine zr_istore (lv' := [(5, .int (0 : Int32)), (0, .ref o), (1, .int b), (2, .int i), (3, .int t), (4, .int s0)]) hC dX3_fade_52 (by decide) rfl ?_
            refine zr_iload 0 hC dX3_fade_54 rfl ?_
            refine zr_if_eqT (tgt := 67) hC dX3_fade_56 (by decide) (by decide) ?_
            refine zr_aload_n 1 hC dX3_fade_67 rfl rfl ?_
            refine zr_get (v := .ref fp) 0 2 hC iu_X3 rfl dX3_fade_68 fl_X3_25 (by decide) rfl rfl ?_
            refine zr_aload_n 1 hC dX3_fade_71 rfl rfl ?_
            refine zr_get (v := .int (cx_run x)) 0 3 hC iu_X3 rfl dX3_fade_72 fl_X3_83 (by decide) rfl rfl ?_
            refine zr_new (ci := 0) (fs := [.int 0, .int 0, .int 0, .int 0]) hC iu_X0 tyX0_ok rfl dX3_fade_75 cl_X3_23 it_X0 in_X0 (fun j hj => by rcases (show j = 0 ∨ j = 1 ∨ j = 2 ∨ j = 3 by omega) with rfl | rfl | rfl | rfl <;> rfl) (by decide) (by decide) (fun q hDq => ?_)
            refine zr_dup hC dX3_fade_78 rfl ?_
            refine zr_iload_n 2 hC dX3_fade_79 rfl rfl ?_
            refine zr_iload_n 3 hC dX3_fade_80 rfl rfl ?_
            refine zr_iload_n 4 hC dX3_fade_81 rfl rfl ?_
            refine zr_cSi hC cs_X3_asLevel ml_X3_70 (c_X3_asLevel (w := ((cw_W o rk sp pp fp cII cF a (ck_fnd x (zf_val (aa_st a) (zl b 2) i))) ++ [(q, .inr (0, [.int 0, .int 0, .int 0, .int 0]))])) t) dX3_fade_82 ⟨Nat.le_of_ble_eq_true rfl, Nat.le_of_ble_eq_true rfl⟩ ⟨Nat.le_of_ble_eq_true rfl, Nat.le_of_ble_eq_true rfl⟩ rfl rfl (Nat.le_of_ble_eq_true rfl) ?_
            rintro _ _ ⟨rfl, rfl⟩
            refine zr_iload 5 hC dX3_fade_85 rfl ?_
            refine zr_cIv hC ci_X0_init ml_X3_86 (c_X0_init (w := (cw_W o rk sp pp fp cII cF a (ck_fnd x (zf_val (aa_st a) (zl b 2) i)))) (q := q) b i (zf_lev t) s0) dX3_fade_87 ⟨Nat.le_of_ble_eq_true rfl, Nat.le_of_ble_eq_true rfl⟩ ⟨Nat.le_of_ble_eq_true rfl, Nat.le_of_ble_eq_true rfl⟩ rfl rfl (Nat.le_of_ble_eq_true rfl) ?_
            rintro _ rfl
            refine zr_apart (fun hD9 => ?_)
            obtain ⟨hqL, hpush⟩ := cw_push hD9
            refine zr_eq (w' := (cw_W o rk sp pp fp cII cF a (ck_ent (ck_L (ck_fnd x (zf_val (aa_st a) (zl b 2) i)) (cx_L (ck_fnd x (zf_val (aa_st a) (zl b 2) i)) ++ [q])) (va_up (cx_ent (ck_fnd x (zf_val (aa_st a) (zl b 2) i))) q (.inr (0, [.int b, .int i, .int (zf_lev t), .int s0])))))) rfl hpush ?_
            obtain ⟨kq, hkq⟩ := cw_get (o := o) (rk := rk) (sp := sp) (pp := pp) (fp := fp) (cII := cII) (cF := cF) (a := a) (x := (ck_ent (ck_L (ck_fnd x (zf_val (aa_st a) (zl b 2) i)) (cx_L (ck_fnd x (zf_val (aa_st a) (zl b 2) i)) ++ [q])) (va_up (cx_ent (ck_fnd x (zf_val (aa_st a) (zl b 2) i))) q (.inr (0, [.int b, .int i, .int (zf_lev t), .int s0]))))) (q := q) (List.mem_append_right _ (List.mem_singleton.mpr rfl)) (va_up_self _ _ _)
            refine zr_asjq (j := (aa_fd a).length) (w' := (cw_W o rk sp pp fp cII cF a (ck_g (ck_ent (ck_L (ck_fnd x (zf_val (aa_st a) (zl b 2) i)) (cx_L (ck_fnd x (zf_val (aa_st a) (zl b 2) i)) ++ [q])) (va_up (cx_ent (ck_fnd x (zf_val (aa_st a) (zl b 2) i))) q (.inr (0, [.int b, .int i, .int (zf_lev t), .int s0])))) (va_up (cx_g x) (aa_fd a).length (some q))))) 4 2 kq hC dX3_fade_90 rfl rfl hkq rfl hl16 hR.2.2.1 (by decide) rfl ?_
            refine zr_aload_n 1 hC dX3_fade_91 rfl rfl ?_
            refine zr_dup hC dX3_fade_92 rfl ?_
            refine zr_get (v := .int (cx_run x)) 0 3 hC iu_X3 rfl dX3_fade_93 fl_X3_83 (by decide) rfl rfl ?_
            refine zr_iconst (v := (1 : Int32)) hC dX3_fade_96 rfl ?_
            refine zr_iadd hC dX3_fade_97 ?_
            refine zr_put (w' := (cw_W o rk sp pp fp cII cF a (ck_run (ck_g (ck_ent (ck_L (ck_fnd x (zf_val (aa_st a) (zl b 2) i)) (cx_L (ck_fnd x (zf_val (aa_st a) (zl b 2) i)) ++ [q])) (va_up (cx_ent (ck_fnd x (zf_val (aa_st a) (zl b 2) i))) q (.inr (0, [.int b, .int i, .int (zf_lev t), .int s0])))) (va_up (cx_g x) (aa_fd a).length (some q))) ((cx_run x) + (1 : Int32))))) 0 3 hC iu_X3 tyX3_ok nmX3 rfl dX3_fade_98 fl_X3_83 (by decide) rfl rfl rfl rfl (Nat.le_of_ble_eq_true rfl) rfl ?_
            refine zr_aload_n 1 hC dX3_fade_101 rfl rfl ?_
            refine zr_iconst (v := (0 : Int32)) hC dX3_fade_102 rfl ?_
            refine zr_aload_n 1 hC dX3_fade_103 rfl rfl ?_
            refine zr_get (v := .int ((cx_run x) + (1 : Int32))) 0 3 hC iu_X3 rfl dX3_fade_104 fl_X3_83 (by decide) rfl rfl ?_
            refine zr_cVi 0 hC cv_X3_leave ml_X3_36 (c_X3_leave (a := a) (x := (ck_run (ck_g (ck_ent (ck_L (ck_fnd x (zf_val (aa_st a) (zl b 2) i)) (cx_L (ck_fnd x (zf_val (aa_st a) (zl b 2) i)) ++ [q])) (va_up (cx_ent (ck_fnd x (zf_val (aa_st a) (zl b 2) i))) q (.inr (0, [.int b, .int i, .int (zf_lev t), .int s0])))) (va_up (cx_g x) (aa_fd a).length (some q))) ((cx_run x) + (1 : Int32)))) (0 : Int32) ((cx_run x) + (1 : Int32))) dX3_fade_107 ⟨Nat.le_of_ble_eq_true rfl, Nat.le_of_ble_eq_true rfl⟩ ⟨Nat.le_of_ble_eq_true rfl, Nat.le_of_ble_eq_true rfl⟩ rfl rfl rfl rfl rfl (Nat.le_of_ble_eq_true rfl) ?_
            rintro rr _ ⟨hrr, rfl⟩
            subst rr
            refine zr_iret hC hr hk dX3_fade_110 (by decide) (by decide) ⟨_, rfl, ?_⟩
            exact zp_mw (a' := as_sta (as_fd a (aa_fd a ++ [(b, i, zf_lev t, s0)])) 0) (x' := (ck_run (ck_g (ck_ent (ck_L (ck_fnd x (zf_val (aa_st a) (zl b 2) i)) (cx_L (ck_fnd x (zf_val (aa_st a) (zl b 2) i)) ++ [q])) (va_up (cx_ent (ck_fnd x (zf_val (aa_st a) (zl b 2) i))) q (.inr (0, [.int b, .int i, .int (zf_lev t), .int s0])))) (va_up (cx_g x) (aa_fd a).length (some q))) ((cx_run x) + (1 : Int32)))) (by unfold zo_fade; rw [if_pos ⟨hb_b, Int32.not_lt.mp c10, c18⟩, if_pos hl16, if_pos h1, hR.2.2.1, nI_1]) (rc_fade hR hqL hb_b hl16 (by rw [hR.2.2.1, nI_1]) _) rfl
          · refine zr_istore (lv' := [(5, .int (zf_why (aa_st a) (zl b 2) i)), (0, .ref o), (1, .int b), (2, .int i), (3, .int t), (4, .int s0)]) hC dX3_fade_52 (by decide) rfl ?_
            refine zr_iload 0 hC dX3_fade_54 rfl ?_
            refine zr_if_eqF (tgt := 67) hC dX3_fade_56 (by decide) h1 ?_
            refine zr_aload_n 1 hC dX3_fade_59 rfl rfl ?_
            refine zr_iload 0 hC dX3_fade_60 rfl ?_
            refine zr_iconst (v := (0 : Int32)) hC dX3_fade_62 rfl ?_
            refine zr_cVi 0 hC cv_X3_leave ml_X3_36 (c_X3_leave (a := (zf_cnt (zf_why (aa_st a) (zl b 2) i) a)) (x := x) (zf_why (aa_st a) (zl b 2) i) (0 : Int32)) dX3_fade_63 ⟨Nat.le_of_ble_eq_true rfl, Nat.le_of_ble_eq_true rfl⟩ ⟨Nat.le_of_ble_eq_true rfl, Nat.le_of_ble_eq_true rfl⟩ rfl rfl rfl rfl rfl (Nat.le_of_ble_eq_true rfl) ?_
            rintro rr _ ⟨hrr, rfl⟩
            subst rr
            refine zr_iret hC hr hk dX3_fade_66 (by decide) (by decide) ⟨_, rfl, ?_⟩
            exact zp_mk (by unfold zo_fade; rw [if_pos ⟨hb_b, Int32.not_lt.mp c10, c18⟩, if_pos hl16, if_neg h1]) hR
        · refine zr_aload_n 0 hC dX3_fade_37 rfl rfl ?_
          refine zr_bipush (v := (6 : Int32)) hC dX3_fade_38 rfl ?_
          refine zr_iconst (v := (0 : Int32)) hC dX3_fade_40 rfl ?_
          refine zr_cVi 0 hC cv_X3_leave ml_X3_36 (c_X3_leave (a := a) (x := x) (6 : Int32) (0 : Int32)) dX3_fade_41 ⟨Nat.le_of_ble_eq_true rfl, Nat.le_of_ble_eq_true rfl⟩ ⟨Nat.le_of_ble_eq_true rfl, Nat.le_of_ble_eq_true rfl⟩ rfl rfl rfl rfl rfl (Nat.le_of_ble_eq_true rfl) ?_
          rintro rr _ ⟨hrr, rfl⟩
          subst rr
          refine zr_iret hC hr hk dX3_fade_44 (by decide) (by decide) ⟨_, rfl, ?_⟩
          exact zp_mk (by unfold zo_fade; rw [if_pos ⟨hb_b, Int32.not_lt.mp c10, c18⟩, if_neg (fun h => c34 (by rw [hR.2.2.1]; exact nI_lt (b := 16) h (by omega)))]) hR
      · refine zr_aload_n 0 hC dX3_fade_21 rfl rfl ?_
        refine zr_iconst (v := (1 : Int32)) hC dX3_fade_22 rfl ?_
        refine zr_iconst (v := (0 : Int32)) hC dX3_fade_23 rfl ?_
        refine zr_cVi 0 hC cv_X3_leave ml_X3_36 (c_X3_leave (a := a) (x := x) (1 : Int32) (0 : Int32)) dX3_fade_24 ⟨Nat.le_of_ble_eq_true rfl, Nat.le_of_ble_eq_true rfl⟩ ⟨Nat.le_of_ble_eq_true rfl, Nat.le_of_ble_eq_true rfl⟩ rfl rfl rfl rfl rfl (Nat.le_of_ble_eq_true rfl) ?_
        rintro rr _ ⟨hrr, rfl⟩
        subst rr
        refine zr_iret hC hr hk dX3_fade_27 (by decide) (by decide) ⟨_, rfl, ?_⟩
        exact zp_mk (if_neg (fun h => absurd h.2.2 c18)) hR
  · refine zr_if_eqT (tgt := 21) hC dX3_fade_4 (by decide) (by decide) ?_
    refine zr_aload_n 0 hC dX3_fade_21 rfl rfl ?_
    refine zr_iconst (v := (1 : Int32)) hC dX3_fade_22 rfl ?_
    refine zr_iconst (v := (0 : Int32)) hC dX3_fade_23 rfl ?_
    refine zr_cVi 0 hC cv_X3_leave ml_X3_36 (c_X3_leave (a := a) (x := x) (1 : Int32) (0 : Int32)) dX3_fade_24 ⟨Nat.le_of_ble_eq_true rfl, Nat.le_of_ble_eq_true rfl⟩ ⟨Nat.le_of_ble_eq_true rfl, Nat.le_of_ble_eq_true rfl⟩ rfl rfl rfl rfl rfl (Nat.le_of_ble_eq_true rfl) ?_
    rintro rr _ ⟨hrr, rfl⟩
    subst rr
    refine zr_iret hC hr hk dX3_fade_27 (by decide) (by decide) ⟨_, rfl, ?_⟩
    exact zp_mk (if_neg (fun h => absurd h.1 hb_b)) hR
set_option maxRecDepth 100000 in
set_option maxHeartbeats 4000000 in
theorem c_X3_tear (hR : rc_R cI cII a x) (i k : Int32) : zz_Mi l D (zt cI cII cF) yX3_tear cX3_tear 5 (some .int) 2 41 0 0 [.ref o, .int i, .int k] (cw_W o rk sp pp fp cII cF a x) (fun r w' => zp_c o rk sp pp fp cI cII cF (zo_tear a i k) r w') := by
  refine zz_mk (by decide) (Nat.le_of_ble_eq_true rfl) ?_
  intro p e s m below meth c A hC hr hk hnm
  have hC : zz_C p s m _ c A D (zt cI cII cF) 5 cX3_tear RX3 := hC
  refine zr_iconst (v := (0 : Int32)) hC dX3_tear_0 rfl ?_
  refine zr_istore_n (lv' := [(3, .int (0 : Int32)), (0, .ref o), (1, .int i), (2, .int k)]) hC dX3_tear_1 rfl (by decide) rfl ?_
  refine zr_aload_n 1 hC dX3_tear_2 rfl rfl ?_
  refine zr_get (v := .ref pp) 0 1 hC iu_X3 rfl dX3_tear_3 fl_X3_19 (by decide) rfl rfl ?_
  refine zr_cVi 3 hC cv_X1_isThere ml_X3_104 (c_X1_isThere (a := a) (x := x) hR.1) dX3_tear_6 ⟨Nat.le_of_ble_eq_true rfl, Nat.le_of_ble_eq_true rfl⟩ ⟨Nat.le_of_ble_eq_true rfl, Nat.le_of_ble_eq_true rfl⟩ rfl rfl rfl rfl rfl (Nat.le_of_ble_eq_true rfl) ?_
  rintro _ _ ⟨rfl, ⟨rfl, hth⟩ | ⟨rfl, hth⟩⟩
  · refine zr_if_neT (tgt := 17) hC dX3_tear_9 (by decide) (by decide) ?_
    refine zr_iload_n 3 hC dX3_tear_17 rfl rfl ?_
    refine zr_iconst (v := (-1 : Int32)) hC dX3_tear_18 rfl ?_
    refine zr_icmp_eq (tgt := 33) hC dX3_tear_19 (by decide) (fun c19 => ?_) (fun c19 => ?_)
    · refine zr_aload_n 1 hC dX3_tear_33 rfl rfl ?_
      refine zr_get (v := .ref pp) 0 1 hC iu_X3 rfl dX3_tear_34 fl_X3_19 (by decide) rfl rfl ?_
      refine zr_iload_n 2 hC dX3_tear_37 rfl rfl ?_
      refine zr_cVi 3 hC cv_X1_hasRow ml_X3_108 (c_X1_hasRow (a := a) (x := x) hR.1 i) dX3_tear_38 ⟨Nat.le_of_ble_eq_true rfl, Nat.le_of_ble_eq_true rfl⟩ ⟨Nat.le_of_ble_eq_true rfl, Nat.le_of_ble_eq_true rfl⟩ rfl rfl rfl rfl rfl (Nat.le_of_ble_eq_true rfl) ?_
      rintro _ _ ⟨rfl, ⟨rfl, hw_i⟩ | ⟨rfl, hw_i⟩⟩
      · refine zr_if_neT (tgt := 46) hC dX3_tear_41 (by decide) (by decide) ?_
        refine zr_iload_n 0 hC dX3_tear_46 rfl rfl ?_
        refine zr_if_eqT (tgt := 61) hC dX3_tear_47 (by decide) (by decide) ?_
        obtain ⟨q, n, m0, hh, hq, hL, hent, hn, hm, hdim, hrows, g6, g7⟩ := rc_dim hR.1 hth
        have hwi := hw_i
        rw [hrows] at hwi
        obtain ⟨ii, hii, rfl⟩ := zn_lt (by omega) hwi
        refine zr_iload_n 3 hC dX3_tear_61 rfl rfl ?_
        refine zr_iconst (v := (-1 : Int32)) hC dX3_tear_62 rfl ?_
        refine zr_icmp_ne (tgt := 70) hC dX3_tear_63 (by decide) (fun h => absurd c19 h) (fun _ => ?_)
        refine zr_null hC dX3_tear_66 ?_
        refine zr_goto (tgt := 78) hC dX3_tear_67 (by decide) ?_
        refine zr_astoreN (lv' := [(4, .null), (3, .int (0 : Int32)), (0, .ref o), (1, .int (nI ii)), (2, .int k)]) hC dX3_tear_78 (by decide) rfl ?_
        refine zr_aload_n 2 hC dX3_tear_80 rfl rfl ?_
        refine zr_get (v := .ref pp) 0 1 hC iu_X3 rfl dX3_tear_81 fl_X3_19 (by decide) rfl rfl ?_
        refine zr_iload_n 3 hC dX3_tear_84 rfl rfl ?_
        refine zr_aloadN 0 hC dX3_tear_85 rfl ?_
        refine zr_cVv 3 hC cv_X1_replaceRow ml_X3_115 (c_X1_replaceRowN (a := a) (x := x) hq hL hent hn hii) dX3_tear_87 ⟨Nat.le_of_ble_eq_true rfl, Nat.le_of_ble_eq_true rfl⟩ ⟨Nat.le_of_ble_eq_true rfl, Nat.le_of_ble_eq_true rfl⟩ rfl rfl rfl rfl rfl (Nat.le_of_ble_eq_true rfl) ?_
        rintro _ rfl
        refine zr_aload_n 2 hC dX3_tear_90 rfl rfl ?_
        refine zr_iconst (v := (0 : Int32)) hC dX3_tear_91 rfl ?_
        refine zr_aloadN 0 hC dX3_tear_92 rfl ?_
        refine zr_ifnullN (tgt := 101) hC dX3_tear_94 (by decide) ?_
        refine zr_iconst (v := (0 : Int32)) hC dX3_tear_101 rfl ?_
        refine zr_cVi 0 hC cv_X3_leave ml_X3_36 (c_X3_leave (a := a) (x := (ck_ent x (va_up (cx_ent x) q (ze_q cII n (va_up hh ii none))))) (0 : Int32) (0 : Int32)) dX3_tear_102 ⟨Nat.le_of_ble_eq_true rfl, Nat.le_of_ble_eq_true rfl⟩ ⟨Nat.le_of_ble_eq_true rfl, Nat.le_of_ble_eq_true rfl⟩ rfl rfl rfl rfl rfl (Nat.le_of_ble_eq_true rfl) ?_
        rintro rr _ ⟨hrr, rfl⟩
        subst rr
        refine zr_iret hC hr hk dX3_tear_105 (by decide) (by decide) ⟨_, rfl, ?_⟩
        exact zp_mw (a' := as_sta (as_sh a (zf_tear0 (aa_sh a) ii)) 0) (x' := (ck_ent x (va_up (cx_ent x) q (ze_q cII n (va_up hh ii none))))) (by unfold zo_tear; rw [if_neg hth, if_pos ⟨Or.inl c19, hw_i⟩, if_pos c19, nI_clamp (by omega)]) (hR.of (rc_tear0 hR.1 hq hent hdim) (cx_K.put hent) rfl) rfl
      · refine zr_if_neF (tgt := 46) hC dX3_tear_41 (by decide) (by decide) ?_
        refine zr_iconst (v := (3 : Int32)) hC dX3_tear_44 rfl ?_
        refine zr_istore_n (lv' := [(3, .int (3 : Int32)), (0, .ref o), (1, .int i), (2, .int k)]) hC dX3_tear_45 rfl (by decide) rfl ?_
        refine zr_iload_n 0 hC dX3_tear_46 rfl rfl ?_
        refine zr_if_eqF (tgt := 61) hC dX3_tear_47 (by decide) (by decide) ?_
        refine zr_aload_n 1 hC dX3_tear_50 rfl rfl ?_
        refine zr_aload_n 1 hC dX3_tear_51 rfl rfl ?_
        refine zr_iload_n 0 hC dX3_tear_52 rfl rfl ?_
        refine zr_cVi 0 hC cv_X3_counted ml_X3_40 (c_X3_counted (a := a) (x := x) (3 : Int32)) dX3_tear_53 ⟨Nat.le_of_ble_eq_true rfl, Nat.le_of_ble_eq_true rfl⟩ ⟨Nat.le_of_ble_eq_true rfl, Nat.le_of_ble_eq_true rfl⟩ rfl rfl rfl rfl rfl (Nat.le_of_ble_eq_true rfl) ?_
        rintro _ _ ⟨rfl, rfl⟩
        refine zr_iconst (v := (0 : Int32)) hC dX3_tear_56 rfl ?_
        refine zr_cVi 0 hC cv_X3_leave ml_X3_36 (c_X3_leave (a := (zf_cnt (3 : Int32) a)) (x := x) (3 : Int32) (0 : Int32)) dX3_tear_57 ⟨Nat.le_of_ble_eq_true rfl, Nat.le_of_ble_eq_true rfl⟩ ⟨Nat.le_of_ble_eq_true rfl, Nat.le_of_ble_eq_true rfl⟩ rfl rfl rfl rfl rfl (Nat.le_of_ble_eq_true rfl) ?_
        rintro rr _ ⟨hrr, rfl⟩
        subst rr
        refine zr_iret hC hr hk dX3_tear_60 (by decide) (by decide) ⟨_, rfl, ?_⟩
        exact zp_mk (by unfold zo_tear; rw [if_neg hth, if_neg (fun h => absurd h.2 hw_i)]) hR
    · refine zr_aload_n 1 hC dX3_tear_22 rfl rfl ?_
      refine zr_get (v := .ref pp) 0 1 hC iu_X3 rfl dX3_tear_23 fl_X3_19 (by decide) rfl rfl ?_
      refine zr_iload_n 3 hC dX3_tear_26 rfl rfl ?_
      refine zr_cVi 3 hC cv_X1_hasRow ml_X3_108 (c_X1_hasRow (a := a) (x := x) hR.1 k) dX3_tear_27 ⟨Nat.le_of_ble_eq_true rfl, Nat.le_of_ble_eq_true rfl⟩ ⟨Nat.le_of_ble_eq_true rfl, Nat.le_of_ble_eq_true rfl⟩ rfl rfl rfl rfl rfl (Nat.le_of_ble_eq_true rfl) ?_
      rintro _ _ ⟨rfl, ⟨rfl, hw_k⟩ | ⟨rfl, hw_k⟩⟩
      · refine zr_if_eqF (tgt := 44) hC dX3_tear_30 (by decide) (by decide) ?_
        refine zr_aload_n 1 hC dX3_tear_33 rfl rfl ?_
        refine zr_get (v := .ref pp) 0 1 hC iu_X3 rfl dX3_tear_34 fl_X3_19 (by decide) rfl rfl ?_
        refine zr_iload_n 2 hC dX3_tear_37 rfl rfl ?_
        refine zr_cVi 3 hC cv_X1_hasRow ml_X3_108 (c_X1_hasRow (a := a) (x := x) hR.1 i) dX3_tear_38 ⟨Nat.le_of_ble_eq_true rfl, Nat.le_of_ble_eq_true rfl⟩ ⟨Nat.le_of_ble_eq_true rfl, Nat.le_of_ble_eq_true rfl⟩ rfl rfl rfl rfl rfl (Nat.le_of_ble_eq_true rfl) ?_
        rintro _ _ ⟨rfl, ⟨rfl, hw_i⟩ | ⟨rfl, hw_i⟩⟩
        · refine zr_if_neT (tgt := 46) hC dX3_tear_41 (by decide) (by decide) ?_
          refine zr_iload_n 0 hC dX3_tear_46 rfl rfl ?_
          refine zr_if_eqT (tgt := 61) hC dX3_tear_47 (by decide) (by decide) ?_
          obtain ⟨q, n, m0, hh, hq, hL, hent, hn, hm, hdim, hrows, g6, g7⟩ := rc_dim hR.1 hth
          have hwi := hw_i
          rw [hrows] at hwi
          obtain ⟨ii, hii, rfl⟩ := zn_lt (by omega) hwi
          have hwk := hw_k
          rw [hrows] at hwk
          obtain ⟨kk, hkk, rfl⟩ := zn_lt (by omega) hwk
          refine zr_iload_n 3 hC dX3_tear_61 rfl rfl ?_
          refine zr_iconst (v := (-1 : Int32)) hC dX3_tear_62 rfl ?_
          refine zr_icmp_ne (tgt := 70) hC dX3_tear_63 (by decide) (fun _ => ?_) (fun h => absurd h c19)
          refine zr_aload_n 1 hC dX3_tear_70 rfl rfl ?_
          refine zr_get (v := .ref pp) 0 1 hC iu_X3 rfl dX3_tear_71 fl_X3_19 (by decide) rfl rfl ?_
          refine zr_iload_n 3 hC dX3_tear_74 rfl rfl ?_
          refine zr_cVr 3 hC cv_X1_rowOf ml_X3_111 (c_X1_rowOf (a := a) (x := x) hq hL hent hn hkk) dX3_tear_75 ⟨Nat.le_of_ble_eq_true rfl, Nat.le_of_ble_eq_true rfl⟩ ⟨Nat.le_of_ble_eq_true rfl, Nat.le_of_ble_eq_true rfl⟩ rfl rfl rfl rfl rfl (Nat.le_of_ble_eq_true rfl) ?_
          rintro r0 _ ⟨hr0, rfl⟩
          refine zr_rf (fun hy => ?_) (fun y hy => ?_)
          · have hy := hr0.symm.trans hy
            refine zr_astoreN (lv' := [(4, .null), (3, .int (0 : Int32)), (0, .ref o), (1, .int (nI ii)), (2, .int (nI kk))]) hC dX3_tear_78 (by decide) rfl ?_
            refine zr_aload_n 2 hC dX3_tear_80 rfl rfl ?_
            refine zr_get (v := .ref pp) 0 1 hC iu_X3 rfl dX3_tear_81 fl_X3_19 (by decide) rfl rfl ?_
            refine zr_iload_n 3 hC dX3_tear_84 rfl rfl ?_
            refine zr_aloadN 0 hC dX3_tear_85 rfl ?_
            refine zr_cVv 3 hC cv_X1_replaceRow ml_X3_115 (c_X1_replaceRowN (a := a) (x := x) hq hL hent hn hii) dX3_tear_87 ⟨Nat.le_of_ble_eq_true rfl, Nat.le_of_ble_eq_true rfl⟩ ⟨Nat.le_of_ble_eq_true rfl, Nat.le_of_ble_eq_true rfl⟩ rfl rfl rfl rfl rfl (Nat.le_of_ble_eq_true rfl) ?_
            rintro _ rfl
            refine zr_aload_n 2 hC dX3_tear_90 rfl rfl ?_
            refine zr_iconst (v := (0 : Int32)) hC dX3_tear_91 rfl ?_
            refine zr_aloadN 0 hC dX3_tear_92 rfl ?_
            refine zr_ifnullN (tgt := 101) hC dX3_tear_94 (by decide) ?_
            refine zr_iconst (v := (0 : Int32)) hC dX3_tear_101 rfl ?_
            refine zr_cVi 0 hC cv_X3_leave ml_X3_36 (c_X3_leave (a := a) (x := (ck_ent x (va_up (cx_ent x) q (ze_q cII n (va_up hh ii none))))) (0 : Int32) (0 : Int32)) dX3_tear_102 ⟨Nat.le_of_ble_eq_true rfl, Nat.le_of_ble_eq_true rfl⟩ ⟨Nat.le_of_ble_eq_true rfl, Nat.le_of_ble_eq_true rfl⟩ rfl rfl rfl rfl rfl (Nat.le_of_ble_eq_true rfl) ?_
            rintro rr _ ⟨hrr, rfl⟩
            subst rr
            refine zr_iret hC hr hk dX3_tear_105 (by decide) (by decide) ⟨_, rfl, ?_⟩
            exact zp_mw (a' := as_sta (as_sh a (zf_tearS (aa_sh a) ii kk)) 0) (x' := (ck_ent x (va_up (cx_ent x) q (ze_q cII n (va_up hh ii none))))) (by unfold zo_tear; rw [if_neg hth, if_pos ⟨Or.inr hw_k, hw_i⟩, if_neg c19, nI_clamp (by omega), nI_clamp (by omega), if_neg (by rw [(g6 kk hkk).mp hy]; decide)]) (hR.of (by have h9 := rc_tearS hR.1 (i := ii) hq hent hdim hkk; rw [hy] at h9; exact h9) (cx_K.put hent) rfl) rfl
          · have hy := hr0.symm.trans hy
            obtain ⟨hyL, z, hey⟩ := g7 kk y hkk hy
            refine zr_astore (lv' := [(4, .ref y), (3, .int (0 : Int32)), (0, .ref o), (1, .int (nI ii)), (2, .int (nI kk))]) hC dX3_tear_78 (by decide) rfl ?_
            refine zr_aload_n 2 hC dX3_tear_80 rfl rfl ?_
            refine zr_get (v := .ref pp) 0 1 hC iu_X3 rfl dX3_tear_81 fl_X3_19 (by decide) rfl rfl ?_
            refine zr_iload_n 3 hC dX3_tear_84 rfl rfl ?_
            refine zr_aload 0 hC dX3_tear_85 rfl ?_
            refine zr_cVv 3 hC cv_X1_replaceRow ml_X3_115 (c_X1_replaceRowA (a := a) (x := x) hq hL hent hn hii hyL hey) dX3_tear_87 ⟨Nat.le_of_ble_eq_true rfl, Nat.le_of_ble_eq_true rfl⟩ ⟨Nat.le_of_ble_eq_true rfl, Nat.le_of_ble_eq_true rfl⟩ rfl rfl rfl rfl rfl (Nat.le_of_ble_eq_true rfl) ?_
            rintro _ rfl
            refine zr_aload_n 2 hC dX3_tear_90 rfl rfl ?_
            refine zr_iconst (v := (0 : Int32)) hC dX3_tear_91 rfl ?_
            refine zr_aload 0 hC dX3_tear_92 rfl ?_
            refine zr_ifnull hC dX3_tear_94 ?_
            refine zr_iconst (v := (1 : Int32)) hC dX3_tear_97 rfl ?_
            refine zr_goto (tgt := 102) hC dX3_tear_98 (by decide) ?_
            refine zr_cVi 0 hC cv_X3_leave ml_X3_36 (c_X3_leave (a := a) (x := (ck_ent x (va_up (cx_ent x) q (ze_q cII n (va_up hh ii (some y)))))) (0 : Int32) (1 : Int32)) dX3_tear_102 ⟨Nat.le_of_ble_eq_true rfl, Nat.le_of_ble_eq_true rfl⟩ ⟨Nat.le_of_ble_eq_true rfl, Nat.le_of_ble_eq_true rfl⟩ rfl rfl rfl rfl rfl (Nat.le_of_ble_eq_true rfl) ?_
            rintro rr _ ⟨hrr, rfl⟩
            subst rr
            refine zr_iret hC hr hk dX3_tear_105 (by decide) (by decide) ⟨_, rfl, ?_⟩
            exact zp_mw (a' := as_sta (as_sh a (zf_tearS (aa_sh a) ii kk)) 0) (x' := (ck_ent x (va_up (cx_ent x) q (ze_q cII n (va_up hh ii (some y)))))) (by unfold zo_tear; rw [if_neg hth, if_pos ⟨Or.inr hw_k, hw_i⟩, if_neg c19, nI_clamp (by omega), nI_clamp (by omega), if_pos (by cases e0 : (aa_sh a).2.1 kk with | true => rfl | false => rw [(g6 kk hkk).mpr e0] at hy; cases hy)]) (hR.of (by have h9 := rc_tearS hR.1 (i := ii) hq hent hdim hkk; rw [hy] at h9; exact h9) (cx_K.put hent) rfl) rfl
        · refine zr_if_neF (tgt := 46) hC dX3_tear_41 (by decide) (by decide) ?_
          refine zr_iconst (v := (3 : Int32)) hC dX3_tear_44 rfl ?_
          refine zr_istore_n (lv' := [(3, .int (3 : Int32)), (0, .ref o), (1, .int i), (2, .int k)]) hC dX3_tear_45 rfl (by decide) rfl ?_
          refine zr_iload_n 0 hC dX3_tear_46 rfl rfl ?_
          refine zr_if_eqF (tgt := 61) hC dX3_tear_47 (by decide) (by decide) ?_
          refine zr_aload_n 1 hC dX3_tear_50 rfl rfl ?_
          refine zr_aload_n 1 hC dX3_tear_51 rfl rfl ?_
          refine zr_iload_n 0 hC dX3_tear_52 rfl rfl ?_
          refine zr_cVi 0 hC cv_X3_counted ml_X3_40 (c_X3_counted (a := a) (x := x) (3 : Int32)) dX3_tear_53 ⟨Nat.le_of_ble_eq_true rfl, Nat.le_of_ble_eq_true rfl⟩ ⟨Nat.le_of_ble_eq_true rfl, Nat.le_of_ble_eq_true rfl⟩ rfl rfl rfl rfl rfl (Nat.le_of_ble_eq_true rfl) ?_
          rintro _ _ ⟨rfl, rfl⟩
          refine zr_iconst (v := (0 : Int32)) hC dX3_tear_56 rfl ?_
          refine zr_cVi 0 hC cv_X3_leave ml_X3_36 (c_X3_leave (a := (zf_cnt (3 : Int32) a)) (x := x) (3 : Int32) (0 : Int32)) dX3_tear_57 ⟨Nat.le_of_ble_eq_true rfl, Nat.le_of_ble_eq_true rfl⟩ ⟨Nat.le_of_ble_eq_true rfl, Nat.le_of_ble_eq_true rfl⟩ rfl rfl rfl rfl rfl (Nat.le_of_ble_eq_true rfl) ?_
          rintro rr _ ⟨hrr, rfl⟩
          subst rr
          refine zr_iret hC hr hk dX3_tear_60 (by decide) (by decide) ⟨_, rfl, ?_⟩
          exact zp_mk (by unfold zo_tear; rw [if_neg hth, if_neg (fun h => absurd h.2 hw_i)]) hR
      · refine zr_if_eqT (tgt := 44) hC dX3_tear_30 (by decide) (by decide) ?_
        refine zr_iconst (v := (3 : Int32)) hC dX3_tear_44 rfl ?_
        refine zr_istore_n (lv' := [(3, .int (3 : Int32)), (0, .ref o), (1, .int i), (2, .int k)]) hC dX3_tear_45 rfl (by decide) rfl ?_
        refine zr_iload_n 0 hC dX3_tear_46 rfl rfl ?_
        refine zr_if_eqF (tgt := 61) hC dX3_tear_47 (by decide) (by decide) ?_
        refine zr_aload_n 1 hC dX3_tear_50 rfl rfl ?_
        refine zr_aload_n 1 hC dX3_tear_51 rfl rfl ?_
        refine zr_iload_n 0 hC dX3_tear_52 rfl rfl ?_
        refine zr_cVi 0 hC cv_X3_counted ml_X3_40 (c_X3_counted (a := a) (x := x) (3 : Int32)) dX3_tear_53 ⟨Nat.le_of_ble_eq_true rfl, Nat.le_of_ble_eq_true rfl⟩ ⟨Nat.le_of_ble_eq_true rfl, Nat.le_of_ble_eq_true rfl⟩ rfl rfl rfl rfl rfl (Nat.le_of_ble_eq_true rfl) ?_
        rintro _ _ ⟨rfl, rfl⟩
        refine zr_iconst (v := (0 : Int32)) hC dX3_tear_56 rfl ?_
        refine zr_cVi 0 hC cv_X3_leave ml_X3_36 (c_X3_leave (a := (zf_cnt (3 : Int32) a)) (x := x) (3 : Int32) (0 : Int32)) dX3_tear_57 ⟨Nat.le_of_ble_eq_true rfl, Nat.le_of_ble_eq_true rfl⟩ ⟨Nat.le_of_ble_eq_true rfl, Nat.le_of_ble_eq_true rfl⟩ rfl rfl rfl rfl rfl (Nat.le_of_ble_eq_true rfl) ?_
        rintro rr _ ⟨hrr, rfl⟩
        subst rr
        refine zr_iret hC hr hk dX3_tear_60 (by decide) (by decide) ⟨_, rfl, ?_⟩
        exact zp_mk (by unfold zo_tear; rw [if_neg hth, if_neg (fun h => h.1.elim c19 hw_k)]) hR
  · refine zr_if_neF (tgt := 17) hC dX3_tear_9 (by decide) (by decide) ?_
    refine zr_iconst (v := (2 : Int32)) hC dX3_tear_12 rfl ?_
    refine zr_istore_n (lv' := [(3, .int (2 : Int32)), (0, .ref o), (1, .int i), (2, .int k)]) hC dX3_tear_13 rfl (by decide) rfl ?_
    refine zr_goto (tgt := 46) hC dX3_tear_14 (by decide) ?_
    refine zr_iload_n 0 hC dX3_tear_46 rfl rfl ?_
    refine zr_if_eqF (tgt := 61) hC dX3_tear_47 (by decide) (by decide) ?_
    refine zr_aload_n 1 hC dX3_tear_50 rfl rfl ?_
    refine zr_aload_n 1 hC dX3_tear_51 rfl rfl ?_
    refine zr_iload_n 0 hC dX3_tear_52 rfl rfl ?_
    refine zr_cVi 0 hC cv_X3_counted ml_X3_40 (c_X3_counted (a := a) (x := x) (2 : Int32)) dX3_tear_53 ⟨Nat.le_of_ble_eq_true rfl, Nat.le_of_ble_eq_true rfl⟩ ⟨Nat.le_of_ble_eq_true rfl, Nat.le_of_ble_eq_true rfl⟩ rfl rfl rfl rfl rfl (Nat.le_of_ble_eq_true rfl) ?_
    rintro _ _ ⟨rfl, rfl⟩
    refine zr_iconst (v := (0 : Int32)) hC dX3_tear_56 rfl ?_
    refine zr_cVi 0 hC cv_X3_leave ml_X3_36 (c_X3_leave (a := (zf_cnt (2 : Int32) a)) (x := x) (2 : Int32) (0 : Int32)) dX3_tear_57 ⟨Nat.le_of_ble_eq_true rfl, Nat.le_of_ble_eq_true rfl⟩ ⟨Nat.le_of_ble_eq_true rfl, Nat.le_of_ble_eq_true rfl⟩ rfl rfl rfl rfl rfl (Nat.le_of_ble_eq_true rfl) ?_
    rintro rr _ ⟨hrr, rfl⟩
    subst rr
    refine zr_iret hC hr hk dX3_tear_60 (by decide) (by decide) ⟨_, rfl, ?_⟩
    exact zp_mk (if_pos hth) hR
end ZA7
end
section
/-! ===== what loops need ===== -/
theorem zi_step (i k d : Int32) : i + k * d + d = i + (k + 1) * d := by
  rw [Int32.add_mul, Int32.one_mul, Int32.add_assoc]
section ZPS
variable {cI cII : ClassId} {a : ax_A} {x : cx_X}
theorem rc_Q.upq (hR : rc_Q cI cII a x) {qa n : Nat} {c : ClassId} {h h' : Nat → Option Nat} (he : cx_ent x qa = ze_q c n h) (hrw : ¬ cx_rw x = some qa) : rc_Q cI cII a (ck_ent x (va_up (cx_ent x) qa (ze_q c n h'))) := by
  obtain ⟨⟨s1, s2, s3⟩, ⟨t1, t2⟩⟩ := hR
  refine ⟨⟨s1, fun k' q' hk' hf' => ?_, s3⟩, ⟨t1, fun qr hqr => ?_⟩⟩
  · obtain ⟨g1, n', z', g2, g3, g4, g5⟩ := s2 k' q' hk' hf'
    have hne : q' ≠ qa := fun e => by rw [e, he] at g2; cases g2
    exact ⟨g1, n', z', (va_up_ne _ _ hne).trans g2, g3, g4, g5⟩
  · obtain ⟨g1, n', m, h, g2, g3, g4, g5, g6, g7, g8⟩ := t2 qr hqr
    have hne : qr ≠ qa := fun e => hrw (by rw [← e]; exact hqr)
    refine ⟨g1, n', m, h, g2, g3, g4, (va_up_ne _ _ hne).trans g5, g6, fun i y hi hy => ?_, g8⟩
    obtain ⟨k1, ⟨z1, k2, k3⟩, k4⟩ := g7 i y hi hy
    have hne : y ≠ qa := fun e => by rw [e, he] at k2; cases k2
    exact ⟨k1, ⟨z1, (va_up_ne _ _ hne).trans k2, k3⟩, k4⟩
/-- a sheet under way: k rows are laid -/
def rc_U (cI cII : ClassId) (x : cx_X) (qa N M k : Nat) (x' : cx_X) (hh : Nat → Option Nat) : Prop :=
  cx_K x x' ∧ cx_f x' = cx_f x ∧ cx_rw x' = cx_rw x ∧ ¬ cx_rw x = some qa ∧ qa ∈ cx_L x' ∧ cx_ent x' qa = ze_q cII N hh ∧
  (∀ j, j < k → ∃ y, hh j = some y ∧ y ∈ cx_L x' ∧ cx_ent x' y = ze_i cI M (fun _ => 0) ∧ ∀ i, i < 24 → ¬ cx_f x i = some y) ∧
  (∀ i j, i < k → j < k → hh i = hh j → i = j)
theorem rc_U.step (hR : rc_Q cI cII a x) {qa N M k q : Nat} {x' : cx_X} {hh : Nat → Option Nat} (hU : rc_U cI cII x qa N M k x' hh) (hQ : rc_Q cI cII a x') (hq : q ∉ cx_L x') :
    rc_U cI cII x qa N M (k + 1) (ck_ent (ck_ent (ck_L x' (cx_L x' ++ [q])) (va_up (cx_ent x') q (ze_i cI M (fun _ => 0)))) (va_up (va_up (cx_ent x') q (ze_i cI M (fun _ => 0))) qa (ze_q cII N (va_up hh k (some q))))) (va_up hh k (some q)) ∧
    rc_Q cI cII a (ck_ent (ck_ent (ck_L x' (cx_L x' ++ [q])) (va_up (cx_ent x') q (ze_i cI M (fun _ => 0)))) (va_up (va_up (cx_ent x') q (ze_i cI M (fun _ => 0))) qa (ze_q cII N (va_up hh k (some q))))) := by
  obtain ⟨u1, u2, u3, u4, u5, u6, u7, u8⟩ := hU
  have hqq : qa ≠ q := fun e => hq (e ▸ u5)
  have e1 : va_up (cx_ent x') q (ze_i cI M (fun _ => 0)) qa = ze_q cII N hh := (va_up_ne _ _ hqq).trans u6
  have hQ1 : rc_Q cI cII a (ck_ent (ck_L x' (cx_L x' ++ [q])) (va_up (cx_ent x') q (ze_i cI M (fun _ => 0)))) := hQ.grow _ hq
  have hQ2 := hQ1.upq (h' := va_up hh k (some q)) e1 (by show ¬ cx_rw x' = some qa; rw [u3]; exact u4)
  have nq : ∀ i, i < 24 → ¬ cx_f x i = some q := fun i hi h => hq ((hQ.1.2.1 i q hi (by rw [u2]; exact h)).1)
  refine ⟨⟨?_, u2, u3, u4, List.mem_append_left _ u5, va_up_self _ _ _, fun j hj => ?_, fun i j hi hj h => ?_⟩, hQ2⟩
  · have k1 : cx_K x' (ck_ent (ck_L x' (cx_L x' ++ [q])) (va_up (cx_ent x') q (ze_i cI M (fun _ => 0)))) := cx_K.new hq
    exact (u1.tr k1).tr (cx_K.put e1)
  · by_cases hjk : j = k
    · subst hjk
      refine ⟨q, va_up_self _ _ _, List.mem_append_right _ (List.mem_singleton.mpr rfl), ?_, nq⟩
      exact (va_up_ne _ _ (Ne.symm hqq)).trans (va_up_self _ _ _)
    · obtain ⟨y, y1, y2, y3, y4⟩ := u7 j (by omega)
      have hy1 : y ≠ q := fun e => hq (e ▸ y2)
      have hy2 : y ≠ qa := fun e => by rw [e, u6] at y3; cases y3
      exact ⟨y, (va_up_ne _ _ hjk).trans y1, List.mem_append_left _ y2, (va_up_ne _ _ hy2).trans ((va_up_ne _ _ hy1).trans y3), y4⟩
  · by_cases hik : i = k <;> by_cases hjk : j = k
    · omega
    · obtain ⟨y, y1, y2, -⟩ := u7 j (by omega)
      rw [hik, va_up_self, va_up_ne _ _ hjk, y1] at h
      exact absurd (Option.some.inj h ▸ y2) hq
    · obtain ⟨y, y1, y2, -⟩ := u7 i (by omega)
      rw [hjk, va_up_self, va_up_ne _ _ hik, y1] at h
      exact absurd ((Option.some.inj h).symm ▸ y2) hq
    · rw [va_up_ne _ _ hik, va_up_ne _ _ hjk] at h
      exact u8 i j (by omega) (by omega) h
theorem rc_sheet {qa N M : Nat} {x' : cx_X} {hh : Nat → Option Nat} (hU : rc_U cI cII x qa N M N x' hh) (hQ : rc_Q cI cII a x') (hN : N ≤ 12) (hM : M ≤ 12) : rc_Q cI cII (as_sh a (zf_sheetS N M)) (ck_rw x' (some qa)) := by
  obtain ⟨u1, u2, u3, u4, u5, u6, u7, u8⟩ := hU
  refine ⟨hQ.1, ⟨fun h => (by cases h), fun h => (by cases h)⟩, fun q hq => ?_⟩
  cases hq
  refine ⟨u5, N, M, hh, rfl, hN, hM, u6, fun i hi => ?_, fun i y hi hy => ?_, fun i j hi hj h1 h2 => ?_⟩
  · obtain ⟨y, y1, -⟩ := u7 i hi
    rw [y1]
    exact ⟨fun h => (by cases h), fun h => (by cases h)⟩
  · obtain ⟨y', y1, y2, y3, y4⟩ := u7 i hi
    cases y1.symm.trans hy
    exact ⟨y2, ⟨_, y3, fun j _ => rfl⟩, fun k hk h => y4 k hk (by rw [← u2]; exact h)⟩
  · show decide (i = j) = true ↔ hh i = hh j
    rw [decide_eq_true_iff]
    exact ⟨fun h => by rw [h], fun h => u8 i j hi hj h⟩
end ZPS
end
section
section ZA8
variable {l : Launch} {D : va_G} {cI cII cF : ClassId} {o rk sp pp fp mo m1 m2 m3 m4 m5 m6 m7 m8 m9 : Nat}
variable {a : ax_A} {x : cx_X}
set_option maxRecDepth 100000 in
set_option maxHeartbeats 4000000 in
theorem c_X3_ripple (hR : rc_R cI cII a x) (b i d n s0 : Int32) : zz_Mi l D (zt cI cII cF) yX3_ripple cX3_ripple 10 (some .int) 4 87 0 0 [.ref o, .int b, .int i, .int d, .int n, .int s0] (cw_W o rk sp pp fp cII cF a x) (fun r w' => zp_c o rk sp pp fp cI cII cF (zo_ripple a b i d n s0) r w') := by
  refine zz_mk (by decide) (Nat.le_of_ble_eq_true rfl) ?_
  intro p e s m below meth c A hC hr hk hnm
  have hC : zz_C p s m _ c A D (zt cI cII cF) 10 cX3_ripple RX3 := hC
  refine zr_iload_n 1 hC dX3_ripple_0 rfl rfl ?_
  refine zr_cSi hC cs_X3_isBank ml_X3_29 (c_X3_isBank (w := (cw_W o rk sp pp fp cII cF a x)) b) dX3_ripple_1 ⟨Nat.le_of_ble_eq_true rfl, Nat.le_of_ble_eq_true rfl⟩ ⟨Nat.le_of_ble_eq_true rfl, Nat.le_of_ble_eq_true rfl⟩ rfl rfl (Nat.le_of_ble_eq_true rfl) ?_
  rintro _ _ ⟨rfl, ⟨rfl, hb_b⟩ | ⟨rfl, hb_b⟩⟩
  · refine zr_if_eqF (tgt := 19) hC dX3_ripple_4 (by decide) (by decide) ?_
    refine zr_iload 4 hC dX3_ripple_7 rfl ?_
    refine zr_if_lt (tgt := 19) hC dX3_ripple_9 (by decide) (fun c9 => ?_) (fun c9 => ?_)
    · refine zr_aload_n 0 hC dX3_ripple_19 rfl rfl ?_
      refine zr_iconst (v := (1 : Int32)) hC dX3_ripple_20 rfl ?_
      refine zr_iconst (v := (0 : Int32)) hC dX3_ripple_21 rfl ?_
      refine zr_cVi 0 hC cv_X3_leave ml_X3_36 (c_X3_leave (a := a) (x := x) (1 : Int32) (0 : Int32)) dX3_ripple_22 ⟨Nat.le_of_ble_eq_true rfl, Nat.le_of_ble_eq_true rfl⟩ ⟨Nat.le_of_ble_eq_true rfl, Nat.le_of_ble_eq_true rfl⟩ rfl rfl rfl rfl rfl (Nat.le_of_ble_eq_true rfl) ?_
      rintro rr _ ⟨hrr, rfl⟩
      subst rr
      refine zr_iret hC hr hk dX3_ripple_25 (by decide) (by decide) ⟨_, rfl, ?_⟩
      exact zp_mk (if_neg (fun h => absurd h.2.1 (Int32.not_le.mpr c9))) hR
    · refine zr_iload 4 hC dX3_ripple_12 rfl ?_
      refine zr_bipush (v := (64 : Int32)) hC dX3_ripple_14 rfl ?_
      refine zr_icmp_le (tgt := 26) hC dX3_ripple_16 (by decide) (fun c16 => ?_) (fun c16 => ?_)
      · refine zr_iload 5 hC dX3_ripple_26 rfl ?_
        refine zr_cSi hC cs_X3_asLevel ml_X3_70 (c_X3_asLevel (w := (cw_W o rk sp pp fp cII cF a x)) s0) dX3_ripple_28 ⟨Nat.le_of_ble_eq_true rfl, Nat.le_of_ble_eq_true rfl⟩ ⟨Nat.le_of_ble_eq_true rfl, Nat.le_of_ble_eq_true rfl⟩ rfl rfl (Nat.le_of_ble_eq_true rfl) ?_
        rintro _ _ ⟨rfl, rfl⟩
        refine zr_istore (lv' := [(6, .int (zf_lev s0)), (0, .ref o), (1, .int b), (2, .int i), (3, .int d), (4, .int n), (5, .int s0)]) hC dX3_ripple_31 (by decide) rfl ?_
        refine zr_iconst (v := (0 : Int32)) hC dX3_ripple_33 rfl ?_
        refine zr_istore (lv' := [(7, .int (0 : Int32)), (6, .int (zf_lev s0)), (0, .ref o), (1, .int b), (2, .int i), (3, .int d), (4, .int n), (5, .int s0)]) hC dX3_ripple_34 (by decide) rfl ?_
        obtain ⟨N, hN, rfl⟩ := zn_of (n := 65) (M := 65) (by decide) ⟨Int32.not_lt.mp c9, Int32.lt_of_le_of_lt c16 (by decide)⟩
        have hspec : zo_ripple a b i d (nI N) s0 = zf_rip (zf_lev s0) b d N i 0 a := by unfold zo_ripple; rw [if_pos ⟨hb_b, Int32.not_lt.mp c9, c16⟩, nI_clamp (by omega)]
        refine zr_sub [0, 2, 3, 4, 5, 6, 1] rfl ?_
        refine zr_loop (σ := Nat × Int32 × ax_A × cx_X) (fun t => [(7, .int t.2.1), (0, .ref o), (1, .int b), (2, .int i), (3, .int d), (4, .int (nI N)), (6, .int (zf_lev s0))]) (fun t => cw_W o rk sp pp fp cII cF t.2.2.1 t.2.2.2) (fun t => t.1 ≤ N ∧ t.2.1 = nI t.1 ∧ rc_R cI cII t.2.2.1 t.2.2.2 ∧ zf_rip (zf_lev s0) b d N i 0 a = zf_rip (zf_lev s0) b d (N - t.1) (i + t.2.1 * d) t.2.1 t.2.2.1) (fun t => N - t.1) ?_ (0, 0, a, x) ⟨Nat.zero_le _, rfl, hR, by show _ = zf_rip _ _ _ (N - 0) (i + 0 * d) 0 _; rw [Int32.zero_mul, Int32.add_zero]; rfl⟩
        rintro ⟨kn, k1, a1, x1⟩ ⟨hk1, hk2, hR1, hsp⟩ ih
        try dsimp only at hk1
        try dsimp only at hk2
        try dsimp only at hR1
        try dsimp only at hsp
        show zz_Z _ _ _ _ _ _ _ _ _ _ _ _ _ _ 36 [(7, .int k1), (0, .ref o), (1, .int b), (2, .int i), (3, .int d), (4, .int (nI N)), (6, .int (zf_lev s0))] [] (cw_W o rk sp pp fp cII cF a1 x1) 0 0
        refine zr_iload 0 hC dX3_ripple_36 rfl ?_
        refine zr_iload 5 hC dX3_ripple_38 rfl ?_
        refine zr_icmp_ge (tgt := 97) hC dX3_ripple_40 (by decide) (fun c40 => ?_) (fun c40 => ?_)
        · have hend : kn = N := by
            rw [hk2] at c40
            have := (nI_leI (a := N) (by omega) (by omega)).mp c40
            omega
          refine zr_aload_n 1 hC dX3_ripple_97 rfl rfl ?_
          refine zr_iconst (v := (0 : Int32)) hC dX3_ripple_98 rfl ?_
          refine zr_iload 5 hC dX3_ripple_99 rfl ?_
          refine zr_cVi 0 hC cv_X3_leave ml_X3_36 (c_X3_leave (a := a1) (x := x1) (0 : Int32) (nI N)) dX3_ripple_101 ⟨Nat.le_of_ble_eq_true rfl, Nat.le_of_ble_eq_true rfl⟩ ⟨Nat.le_of_ble_eq_true rfl, Nat.le_of_ble_eq_true rfl⟩ rfl rfl rfl rfl rfl (Nat.le_of_ble_eq_true rfl) ?_
          rintro rr _ ⟨hrr, rfl⟩
          subst rr
          refine zr_iret hC hr hk dX3_ripple_104 (by decide) (by decide) ⟨_, rfl, ?_⟩
          exact zp_mk (by rw [hspec, hsp, hend, Nat.sub_self, hk2, hend]; rfl) hR1
        · have hlt : kn < N := by
            rcases Nat.lt_or_ge kn N with h0 | h0
            · exact h0
            · exact absurd (by rw [hk2]; exact nI_le h0 (by omega)) c40
          refine zr_iload_n 3 hC dX3_ripple_43 rfl rfl ?_
          refine zr_iload 0 hC dX3_ripple_44 rfl ?_
          refine zr_iload_n 4 hC dX3_ripple_46 rfl rfl ?_
          refine zr_imul hC dX3_ripple_47 ?_
          refine zr_iadd hC dX3_ripple_48 ?_
          refine zr_istore (lv' := [(8, .int (i + (k1 * d))), (7, .int k1), (0, .ref o), (1, .int b), (2, .int i), (3, .int d), (4, .int (nI N)), (6, .int (zf_lev s0))]) hC dX3_ripple_49 (by decide) rfl ?_
          refine zr_aload_n 2 hC dX3_ripple_51 rfl rfl ?_
          refine zr_iload_n 3 hC dX3_ripple_52 rfl rfl ?_
          refine zr_iconst (v := (2 : Int32)) hC dX3_ripple_53 rfl ?_
          refine zr_iload 0 hC dX3_ripple_54 rfl ?_
          refine zr_cVi 0 hC cv_X3_look ml_X3_58 (c_X3_look (a := a1) (x := x1) hR1.1 (i + (k1 * d)) hb_b zk_s2) dX3_ripple_56 ⟨Nat.le_of_ble_eq_true rfl, Nat.le_of_ble_eq_true rfl⟩ ⟨Nat.le_of_ble_eq_true rfl, Nat.le_of_ble_eq_true rfl⟩ rfl rfl rfl rfl rfl (Nat.le_of_ble_eq_true rfl) ?_
          rintro _ _ (⟨h1, rfl, rfl⟩ | ⟨h1, rfl, rfl⟩)
          · refine zr_istore (lv' := [(9, .int (0 : Int32)), (8, .int (i + (k1 * d))), (7, .int k1), (0, .ref o), (1, .int b), (2, .int i), (3, .int d), (4, .int (nI N)), (6, .int (zf_lev s0))]) hC dX3_ripple_59 (by decide) rfl ?_
            refine zr_iload 0 hC dX3_ripple_61 rfl ?_
            refine zr_if_eqT (tgt := 75) hC dX3_ripple_63 (by decide) (by decide) ?_
            refine zr_aload_n 3 hC dX3_ripple_75 rfl rfl ?_
            refine zr_iload_n 4 hC dX3_ripple_76 rfl rfl ?_
            refine zr_iconst (v := (2 : Int32)) hC dX3_ripple_77 rfl ?_
            refine zr_iload 1 hC dX3_ripple_78 rfl ?_
            refine zr_aload_n 3 hC dX3_ripple_80 rfl rfl ?_
            refine zr_get (v := .int (zf_val (aa_st a1) (zl b 2) (i + (k1 * d)))) 0 11 hC iu_X3 rfl dX3_ripple_81 fl_X3_66 (by decide) rfl rfl ?_
            refine zr_iload 8 hC dX3_ripple_84 rfl ?_
            refine zr_iadd hC dX3_ripple_86 ?_
            refine zr_cVi 0 hC cv_X3_put ml_X3_62 (c_X3_put (a := a1) (x := (ck_fnd x1 (zf_val (aa_st a1) (zl b 2) (i + (k1 * d))))) hR1.1 (i + (k1 * d)) ((zf_val (aa_st a1) (zl b 2) (i + (k1 * d))) + (zf_lev s0)) hb_b zk_s2) dX3_ripple_87 ⟨Nat.le_of_ble_eq_true rfl, Nat.le_of_ble_eq_true rfl⟩ ⟨Nat.le_of_ble_eq_true rfl, Nat.le_of_ble_eq_true rfl⟩ rfl rfl rfl rfl rfl (Nat.le_of_ble_eq_true rfl) ?_
            rintro _ _ (⟨-, rfl, x2, hFx2, hKx2, rfl, hQx2⟩ | ⟨hno, -, -⟩)
            · refine zr_pop hC dX3_ripple_90 rfl ?_
              refine zr_iinc (v := (k1 + 1)) (lv' := [(7, .int (k1 + 1)), (9, .int (0 : Int32)), (8, .int (i + (k1 * d))), (0, .ref o), (1, .int b), (2, .int i), (3, .int d), (4, .int (nI N)), (6, .int (zf_lev s0))]) 2 hC dX3_ripple_91 rfl rfl (by decide) rfl ?_
              refine zr_goto (tgt := 36) hC dX3_ripple_94 (by decide) ?_
              refine zr_sub [0, 3, 4, 5, 6, 7, 8] rfl ?_
              exact ih (kn + 1, k1 + 1, (zf_set a1 (zl b 2) (i + (k1 * d)) (zf_num (2 : Int32) ((zf_val (aa_st a1) (zl b 2) (i + (k1 * d))) + (zf_lev s0)))), x2) ⟨by show kn + 1 ≤ N; omega, by show k1 + 1 = nI (kn + 1); rw [hk2, nI_1], (hR1.of hQx2 hKx2 rfl), by rw [hsp, show N - kn = (N - (kn + 1)) + 1 by omega]; show (if _ then _ else _) = _; rw [if_pos h1, zi_step, zf_num2]⟩ (by show N - (kn + 1) < N - kn; omega)
            · exact absurd h1 hno
          · refine zr_istore (lv' := [(9, .int (zf_why (aa_st a1) (zl b 2) (i + (k1 * d)))), (8, .int (i + (k1 * d))), (7, .int k1), (0, .ref o), (1, .int b), (2, .int i), (3, .int d), (4, .int (nI N)), (6, .int (zf_lev s0))]) hC dX3_ripple_59 (by decide) rfl ?_
            refine zr_iload 0 hC dX3_ripple_61 rfl ?_
            refine zr_if_eqF (tgt := 75) hC dX3_ripple_63 (by decide) h1 ?_
            refine zr_aload_n 3 hC dX3_ripple_66 rfl rfl ?_
            refine zr_iload 0 hC dX3_ripple_67 rfl ?_
            refine zr_iload 2 hC dX3_ripple_69 rfl ?_
            refine zr_cVi 0 hC cv_X3_leave ml_X3_36 (c_X3_leave (a := (zf_cnt (zf_why (aa_st a1) (zl b 2) (i + (k1 * d))) a1)) (x := x1) (zf_why (aa_st a1) (zl b 2) (i + (k1 * d))) k1) dX3_ripple_71 ⟨Nat.le_of_ble_eq_true rfl, Nat.le_of_ble_eq_true rfl⟩ ⟨Nat.le_of_ble_eq_true rfl, Nat.le_of_ble_eq_true rfl⟩ rfl rfl rfl rfl rfl (Nat.le_of_ble_eq_true rfl) ?_
            rintro rr _ ⟨hrr, rfl⟩
            subst rr
            refine zr_iret hC hr hk dX3_ripple_74 (by decide) (by decide) ⟨_, rfl, ?_⟩
            exact zp_mk (by rw [hspec, hsp, show N - kn = (N - (kn + 1)) + 1 by omega]; show (if _ then _ else _) = _; rw [if_neg h1]) hR1
      · refine zr_aload_n 0 hC dX3_ripple_19 rfl rfl ?_
        refine zr_iconst (v := (1 : Int32)) hC dX3_ripple_20 rfl ?_
        refine zr_iconst (v := (0 : Int32)) hC dX3_ripple_21 rfl ?_
        refine zr_cVi 0 hC cv_X3_leave ml_X3_36 (c_X3_leave (a := a) (x := x) (1 : Int32) (0 : Int32)) dX3_ripple_22 ⟨Nat.le_of_ble_eq_true rfl, Nat.le_of_ble_eq_true rfl⟩ ⟨Nat.le_of_ble_eq_true rfl, Nat.le_of_ble_eq_true rfl⟩ rfl rfl rfl rfl rfl (Nat.le_of_ble_eq_true rfl) ?_
        rintro rr _ ⟨hrr, rfl⟩
        subst rr
        refine zr_iret hC hr hk dX3_ripple_25 (by decide) (by decide) ⟨_, rfl, ?_⟩
        exact zp_mk (if_neg (fun h => absurd h.2.2 c16)) hR
  · refine zr_if_eqT (tgt := 19) hC dX3_ripple_4 (by decide) (by decide) ?_
    refine zr_aload_n 0 hC dX3_ripple_19 rfl rfl ?_
    refine zr_iconst (v := (1 : Int32)) hC dX3_ripple_20 rfl ?_
    refine zr_iconst (v := (0 : Int32)) hC dX3_ripple_21 rfl ?_
    refine zr_cVi 0 hC cv_X3_leave ml_X3_36 (c_X3_leave (a := a) (x := x) (1 : Int32) (0 : Int32)) dX3_ripple_22 ⟨Nat.le_of_ble_eq_true rfl, Nat.le_of_ble_eq_true rfl⟩ ⟨Nat.le_of_ble_eq_true rfl, Nat.le_of_ble_eq_true rfl⟩ rfl rfl rfl rfl rfl (Nat.le_of_ble_eq_true rfl) ?_
    rintro rr _ ⟨hrr, rfl⟩
    subst rr
    refine zr_iret hC hr hk dX3_ripple_25 (by decide) (by decide) ⟨_, rfl, ?_⟩
    exact zp_mk (if_neg (fun h => absurd h.1 hb_b)) hR
set_option maxRecDepth 100000 in
set_option maxHeartbeats 4000000 in
theorem c_X3_probe (hR : rc_R cI cII a x) (b i : Int32) : zz_Mi l D (zt cI cII cF) yX3_probe cX3_probe 6 (some .int) 3 70 0 0 [.ref o, .int b, .int i] (cw_W o rk sp pp fp cII cF a x) (fun r w' => zp_c o rk sp pp fp cI cII cF (zo_probe a b i) r w') := by
  refine zz_mk (by decide) (Nat.le_of_ble_eq_true rfl) ?_
  intro p e s m below meth c A hC hr hk hnm
  have hC : zz_C p s m _ c A D (zt cI cII cF) 6 cX3_probe RX3 := hC
  refine zr_iload_n 1 hC dX3_probe_0 rfl rfl ?_
  refine zr_cSi hC cs_X3_isBank ml_X3_29 (c_X3_isBank (w := (cw_W o rk sp pp fp cII cF a x)) b) dX3_probe_1 ⟨Nat.le_of_ble_eq_true rfl, Nat.le_of_ble_eq_true rfl⟩ ⟨Nat.le_of_ble_eq_true rfl, Nat.le_of_ble_eq_true rfl⟩ rfl rfl (Nat.le_of_ble_eq_true rfl) ?_
  rintro _ _ ⟨rfl, ⟨rfl, hb_b⟩ | ⟨rfl, hb_b⟩⟩
  · refine zr_if_neT (tgt := 14) hC dX3_probe_4 (by decide) (by decide) ?_
    refine zr_iconst (v := (0 : Int32)) hC dX3_probe_14 rfl ?_
    refine zr_istore_n (lv' := [(3, .int (0 : Int32)), (0, .ref o), (1, .int b), (2, .int i)]) hC dX3_probe_15 rfl (by decide) rfl ?_
    refine zr_iconst (v := (1 : Int32)) hC dX3_probe_16 rfl ?_
    refine zr_istore (lv' := [(4, .int (1 : Int32)), (3, .int (0 : Int32)), (0, .ref o), (1, .int b), (2, .int i)]) hC dX3_probe_17 (by decide) rfl ?_
    refine zr_iconst (v := (0 : Int32)) hC dX3_probe_19 rfl ?_
    refine zr_istore (lv' := [(5, .int (0 : Int32)), (4, .int (1 : Int32)), (3, .int (0 : Int32)), (0, .ref o), (1, .int b), (2, .int i)]) hC dX3_probe_20 (by decide) rfl ?_
    refine zr_sub [2, 1, 0, 3, 4, 5] rfl ?_
    refine zr_loop (σ := Nat × Int32 × Int32 × Int32 × ax_A × cx_X) (fun t => [(3, .int t.2.2.2.1), (4, .int t.2.2.1), (5, .int t.2.1), (0, .ref o), (1, .int b), (2, .int i)]) (fun t => cw_W o rk sp pp fp cII cF t.2.2.2.2.1 t.2.2.2.2.2) (fun t => t.1 ≤ 4 ∧ t.2.1 = nI t.1 ∧ rc_R cI cII t.2.2.2.2.1 t.2.2.2.2.2 ∧ zf_pro b i 4 0 1 0 a = zf_pro b i (4 - t.1) t.2.1 t.2.2.1 t.2.2.2.1 t.2.2.2.2.1) (fun t => 4 - t.1) ?_ (0, 0, 1, 0, a, x) ⟨Nat.zero_le _, rfl, hR, rfl⟩
    rintro ⟨kn, s1, u1, t1, a1, x1⟩ ⟨hk1, hk2, hR1, hsp⟩ ih
    try dsimp only at hk1
    try dsimp only at hk2
    try dsimp only at hR1
    try dsimp only at hsp
    show zz_Z _ _ _ _ _ _ _ _ _ _ _ _ _ _ 22 [(3, .int t1), (4, .int u1), (5, .int s1), (0, .ref o), (1, .int b), (2, .int i)] [] (cw_W o rk sp pp fp cII cF a1 x1) 0 0
    refine zr_iload 2 hC dX3_probe_22 rfl ?_
    refine zr_iconst (v := (4 : Int32)) hC dX3_probe_24 rfl ?_
    refine zr_icmp_ge (tgt := 58) hC dX3_probe_25 (by decide) (fun c25 => ?_) (fun c25 => ?_)
    · have hend : kn = 4 := by
        rw [hk2] at c25
        have := (nI_leI (a := 4) (by omega) (by omega)).mp c25
        omega
      refine zr_aload_n 3 hC dX3_probe_58 rfl rfl ?_
      refine zr_iconst (v := (0 : Int32)) hC dX3_probe_59 rfl ?_
      refine zr_iload_n 0 hC dX3_probe_60 rfl rfl ?_
      refine zr_cVi 0 hC cv_X3_leave ml_X3_36 (c_X3_leave (a := a1) (x := x1) (0 : Int32) t1) dX3_probe_61 ⟨Nat.le_of_ble_eq_true rfl, Nat.le_of_ble_eq_true rfl⟩ ⟨Nat.le_of_ble_eq_true rfl, Nat.le_of_ble_eq_true rfl⟩ rfl rfl rfl rfl rfl (Nat.le_of_ble_eq_true rfl) ?_
      rintro rr _ ⟨hrr, rfl⟩
      subst rr
      refine zr_iret hC hr hk dX3_probe_64 (by decide) (by decide) ⟨_, rfl, ?_⟩
      exact zp_mk (by unfold zo_probe; rw [if_pos hb_b, hsp, hend]; rfl) hR1
    · have hlt : kn < 4 := by
        rcases Nat.lt_or_ge kn 4 with h0 | h0
        · exact h0
        · exact absurd (by rw [hk2]; exact nI_le (a := 4) h0 (by omega)) c25
      have hs_s1 : zk_s s1 := by rw [hk2]; exact ⟨nI_pos' (by omega), nI_lt (b := 4) hlt (by omega)⟩
      refine zr_iload_n 0 hC dX3_probe_28 rfl rfl ?_
      refine zr_iload 1 hC dX3_probe_29 rfl ?_
      refine zr_aload_n 3 hC dX3_probe_31 rfl rfl ?_
      refine zr_iload_n 4 hC dX3_probe_32 rfl rfl ?_
      refine zr_iload 2 hC dX3_probe_33 rfl ?_
      refine zr_iload_n 5 hC dX3_probe_35 rfl rfl ?_
      refine zr_cVi 0 hC cv_X3_look ml_X3_58 (c_X3_look (a := a1) (x := x1) hR1.1 i hb_b hs_s1) dX3_probe_36 ⟨Nat.le_of_ble_eq_true rfl, Nat.le_of_ble_eq_true rfl⟩ ⟨Nat.le_of_ble_eq_true rfl, Nat.le_of_ble_eq_true rfl⟩ rfl rfl rfl rfl rfl (Nat.le_of_ble_eq_true rfl) ?_
      rintro _ _ (⟨h1, rfl, rfl⟩ | ⟨h1, rfl, rfl⟩)
      · refine zr_cSi hC cs_X3_digitOf ml_X3_73 (c_X3_digitOf (w := (cw_W o rk sp pp fp cII cF a1 (ck_fnd x1 (zf_val (aa_st a1) (zl b s1) i)))) (0 : Int32)) dX3_probe_39 ⟨Nat.le_of_ble_eq_true rfl, Nat.le_of_ble_eq_true rfl⟩ ⟨Nat.le_of_ble_eq_true rfl, Nat.le_of_ble_eq_true rfl⟩ rfl rfl (Nat.le_of_ble_eq_true rfl) ?_
        rintro _ _ ⟨rfl, rfl⟩
        refine zr_imul hC dX3_probe_42 ?_
        refine zr_iadd hC dX3_probe_43 ?_
        refine zr_istore_n (lv' := [(3, .int (t1 + (u1 * (zf_dig (0 : Int32))))), (4, .int u1), (5, .int s1), (0, .ref o), (1, .int b), (2, .int i)]) hC dX3_probe_44 rfl (by decide) rfl ?_
        refine zr_iload 1 hC dX3_probe_45 rfl ?_
        refine zr_bipush (v := (10 : Int32)) hC dX3_probe_47 rfl ?_
        refine zr_imul hC dX3_probe_49 ?_
        refine zr_istore (lv' := [(4, .int (u1 * (10 : Int32))), (3, .int (t1 + (u1 * (zf_dig (0 : Int32))))), (5, .int s1), (0, .ref o), (1, .int b), (2, .int i)]) hC dX3_probe_50 (by decide) rfl ?_
        refine zr_iinc (v := (s1 + 1)) (lv' := [(5, .int (s1 + 1)), (4, .int (u1 * (10 : Int32))), (3, .int (t1 + (u1 * (zf_dig (0 : Int32))))), (0, .ref o), (1, .int b), (2, .int i)]) 2 hC dX3_probe_52 rfl rfl (by decide) rfl ?_
        refine zr_goto (tgt := 22) hC dX3_probe_55 (by decide) ?_
        refine zr_sub [2, 1, 0, 3, 4, 5] rfl ?_
        exact ih (kn + 1, s1 + 1, (u1 * (10 : Int32)), (t1 + (u1 * (zf_dig (0 : Int32)))), a1, (ck_fnd x1 (zf_val (aa_st a1) (zl b s1) i))) ⟨by show kn + 1 ≤ 4; omega, by show s1 + 1 = nI (kn + 1); rw [hk2, nI_1], hR1, by rw [hsp, show 4 - kn = (4 - (kn + 1)) + 1 by omega]; show zf_pro _ _ _ _ _ (t1 + u1 * zf_dig (zf_why (aa_st a1) (zl b s1) i)) (zf_cnt (zf_why (aa_st a1) (zl b s1) i) a1) = _; rw [h1, zf_cnt0]⟩ (by show 4 - (kn + 1) < 4 - kn; omega)
      · refine zr_cSi hC cs_X3_digitOf ml_X3_73 (c_X3_digitOf (w := (cw_W o rk sp pp fp cII cF (zf_cnt (zf_why (aa_st a1) (zl b s1) i) a1) x1)) (zf_why (aa_st a1) (zl b s1) i)) dX3_probe_39 ⟨Nat.le_of_ble_eq_true rfl, Nat.le_of_ble_eq_true rfl⟩ ⟨Nat.le_of_ble_eq_true rfl, Nat.le_of_ble_eq_true rfl⟩ rfl rfl (Nat.le_of_ble_eq_true rfl) ?_
        rintro _ _ ⟨rfl, rfl⟩
        refine zr_imul hC dX3_probe_42 ?_
        refine zr_iadd hC dX3_probe_43 ?_
        refine zr_istore_n (lv' := [(3, .int (t1 + (u1 * (zf_dig (zf_why (aa_st a1) (zl b s1) i))))), (4, .int u1), (5, .int s1), (0, .ref o), (1, .int b), (2, .int i)]) hC dX3_probe_44 rfl (by decide) rfl ?_
        refine zr_iload 1 hC dX3_probe_45 rfl ?_
        refine zr_bipush (v := (10 : Int32)) hC dX3_probe_47 rfl ?_
        refine zr_imul hC dX3_probe_49 ?_
        refine zr_istore (lv' := [(4, .int (u1 * (10 : Int32))), (3, .int (t1 + (u1 * (zf_dig (zf_why (aa_st a1) (zl b s1) i))))), (5, .int s1), (0, .ref o), (1, .int b), (2, .int i)]) hC dX3_probe_50 (by decide) rfl ?_
        refine zr_iinc (v := (s1 + 1)) (lv' := [(5, .int (s1 + 1)), (4, .int (u1 * (10 : Int32))), (3, .int (t1 + (u1 * (zf_dig (zf_why (aa_st a1) (zl b s1) i))))), (0, .ref o), (1, .int b), (2, .int i)]) 2 hC dX3_probe_52 rfl rfl (by decide) rfl ?_
        refine zr_goto (tgt := 22) hC dX3_probe_55 (by decide) ?_
        refine zr_sub [2, 1, 0, 3, 4, 5] rfl ?_
        exact ih (kn + 1, s1 + 1, (u1 * (10 : Int32)), (t1 + (u1 * (zf_dig (zf_why (aa_st a1) (zl b s1) i)))), (zf_cnt (zf_why (aa_st a1) (zl b s1) i) a1), x1) ⟨by show kn + 1 ≤ 4; omega, by show s1 + 1 = nI (kn + 1); rw [hk2, nI_1], hR1, by rw [hsp, show 4 - kn = (4 - (kn + 1)) + 1 by omega]; show zf_pro _ _ _ _ _ (t1 + u1 * zf_dig (zf_why (aa_st a1) (zl b s1) i)) (zf_cnt (zf_why (aa_st a1) (zl b s1) i) a1) = _; rfl⟩ (by show 4 - (kn + 1) < 4 - kn; omega)
  · refine zr_if_neF (tgt := 14) hC dX3_probe_4 (by decide) (by decide) ?_
    refine zr_aload_n 0 hC dX3_probe_7 rfl rfl ?_
    refine zr_iconst (v := (1 : Int32)) hC dX3_probe_8 rfl ?_
    refine zr_iconst (v := (0 : Int32)) hC dX3_probe_9 rfl ?_
    refine zr_cVi 0 hC cv_X3_leave ml_X3_36 (c_X3_leave (a := a) (x := x) (1 : Int32) (0 : Int32)) dX3_probe_10 ⟨Nat.le_of_ble_eq_true rfl, Nat.le_of_ble_eq_true rfl⟩ ⟨Nat.le_of_ble_eq_true rfl, Nat.le_of_ble_eq_true rfl⟩ rfl rfl rfl rfl rfl (Nat.le_of_ble_eq_true rfl) ?_
    rintro rr _ ⟨hrr, rfl⟩
    subst rr
    refine zr_iret hC hr hk dX3_probe_13 (by decide) (by decide) ⟨_, rfl, ?_⟩
    exact zp_mk (if_neg (fun h => absurd h hb_b)) hR
set_option maxRecDepth 100000 in
set_option maxHeartbeats 4000000 in
theorem c_X3_poke (hR : rc_R cI cII a x) (b i v : Int32) : zz_Mi l D (zt cI cII cF) yX3_poke cX3_poke 7 (some .int) 4 87 0 0 [.ref o, .int b, .int i, .int v] (cw_W o rk sp pp fp cII cF a x) (fun r w' => zp_c o rk sp pp fp cI cII cF (zo_poke a b i v) r w') := by
  refine zz_mk (by decide) (Nat.le_of_ble_eq_true rfl) ?_
  intro p e s m below meth c A hC hr hk hnm
  have hC : zz_C p s m _ c A D (zt cI cII cF) 7 cX3_poke RX3 := hC
  refine zr_iload_n 1 hC dX3_poke_0 rfl rfl ?_
  refine zr_cSi hC cs_X3_isBank ml_X3_29 (c_X3_isBank (w := (cw_W o rk sp pp fp cII cF a x)) b) dX3_poke_1 ⟨Nat.le_of_ble_eq_true rfl, Nat.le_of_ble_eq_true rfl⟩ ⟨Nat.le_of_ble_eq_true rfl, Nat.le_of_ble_eq_true rfl⟩ rfl rfl (Nat.le_of_ble_eq_true rfl) ?_
  rintro _ _ ⟨rfl, ⟨rfl, hb_b⟩ | ⟨rfl, hb_b⟩⟩
  · refine zr_if_neT (tgt := 14) hC dX3_poke_4 (by decide) (by decide) ?_
    refine zr_iconst (v := (0 : Int32)) hC dX3_poke_14 rfl ?_
    refine zr_istore (lv' := [(4, .int (0 : Int32)), (0, .ref o), (1, .int b), (2, .int i), (3, .int v)]) hC dX3_poke_15 (by decide) rfl ?_
    refine zr_iconst (v := (1 : Int32)) hC dX3_poke_17 rfl ?_
    refine zr_istore (lv' := [(5, .int (1 : Int32)), (4, .int (0 : Int32)), (0, .ref o), (1, .int b), (2, .int i), (3, .int v)]) hC dX3_poke_18 (by decide) rfl ?_
    refine zr_iconst (v := (0 : Int32)) hC dX3_poke_20 rfl ?_
    refine zr_istore (lv' := [(6, .int (0 : Int32)), (5, .int (1 : Int32)), (4, .int (0 : Int32)), (0, .ref o), (1, .int b), (2, .int i), (3, .int v)]) hC dX3_poke_21 (by decide) rfl ?_
    refine zr_sub [2, 1, 0, 3, 4, 5, 6] rfl ?_
    refine zr_loop (σ := Nat × Int32 × Int32 × Int32 × ax_A × cx_X) (fun t => [(4, .int t.2.2.2.1), (5, .int t.2.2.1), (6, .int t.2.1), (0, .ref o), (1, .int b), (2, .int i), (3, .int v)]) (fun t => cw_W o rk sp pp fp cII cF t.2.2.2.2.1 t.2.2.2.2.2) (fun t => t.1 ≤ 4 ∧ t.2.1 = nI t.1 ∧ rc_R cI cII t.2.2.2.2.1 t.2.2.2.2.2 ∧ zf_pok b i v 4 0 1 0 a = zf_pok b i v (4 - t.1) t.2.1 t.2.2.1 t.2.2.2.1 t.2.2.2.2.1) (fun t => 4 - t.1) ?_ (0, 0, 1, 0, a, x) ⟨Nat.zero_le _, rfl, hR, rfl⟩
    rintro ⟨kn, s1, u1, t1, a1, x1⟩ ⟨hk1, hk2, hR1, hsp⟩ ih
    try dsimp only at hk1
    try dsimp only at hk2
    try dsimp only at hR1
    try dsimp only at hsp
    show zz_Z _ _ _ _ _ _ _ _ _ _ _ _ _ _ 23 [(4, .int t1), (5, .int u1), (6, .int s1), (0, .ref o), (1, .int b), (2, .int i), (3, .int v)] [] (cw_W o rk sp pp fp cII cF a1 x1) 0 0
    refine zr_iload 2 hC dX3_poke_23 rfl ?_
    refine zr_iconst (v := (4 : Int32)) hC dX3_poke_25 rfl ?_
    refine zr_icmp_ge (tgt := 62) hC dX3_poke_26 (by decide) (fun c26 => ?_) (fun c26 => ?_)
    · have hend : kn = 4 := by
        rw [hk2] at c26
        have := (nI_leI (a := 4) (by omega) (by omega)).mp c26
        omega
      refine zr_aload_n 3 hC dX3_poke_62 rfl rfl ?_
      refine zr_iconst (v := (0 : Int32)) hC dX3_poke_63 rfl ?_
      refine zr_iload 0 hC dX3_poke_64 rfl ?_
      refine zr_cVi 0 hC cv_X3_leave ml_X3_36 (c_X3_leave (a := a1) (x := x1) (0 : Int32) t1) dX3_poke_66 ⟨Nat.le_of_ble_eq_true rfl, Nat.le_of_ble_eq_true rfl⟩ ⟨Nat.le_of_ble_eq_true rfl, Nat.le_of_ble_eq_true rfl⟩ rfl rfl rfl rfl rfl (Nat.le_of_ble_eq_true rfl) ?_
      rintro rr _ ⟨hrr, rfl⟩
      subst rr
      refine zr_iret hC hr hk dX3_poke_69 (by decide) (by decide) ⟨_, rfl, ?_⟩
      exact zp_mk (by unfold zo_poke; rw [if_pos hb_b, hsp, hend]; rfl) hR1
    · have hlt : kn < 4 := by
        rcases Nat.lt_or_ge kn 4 with h0 | h0
        · exact h0
        · exact absurd (by rw [hk2]; exact nI_le (a := 4) h0 (by omega)) c26
      have hs_s1 : zk_s s1 := by rw [hk2]; exact ⟨nI_pos' (by omega), nI_lt (b := 4) hlt (by omega)⟩
      refine zr_iload 0 hC dX3_poke_29 rfl ?_
      refine zr_iload 1 hC dX3_poke_31 rfl ?_
      refine zr_aload_n 3 hC dX3_poke_33 rfl rfl ?_
      refine zr_iload_n 4 hC dX3_poke_34 rfl rfl ?_
      refine zr_iload 2 hC dX3_poke_35 rfl ?_
      refine zr_iload_n 5 hC dX3_poke_37 rfl rfl ?_
      refine zr_iload_n 6 hC dX3_poke_38 rfl rfl ?_
      refine zr_cVi 0 hC cv_X3_put ml_X3_62 (c_X3_put (a := a1) (x := x1) hR1.1 i v hb_b hs_s1) dX3_poke_39 ⟨Nat.le_of_ble_eq_true rfl, Nat.le_of_ble_eq_true rfl⟩ ⟨Nat.le_of_ble_eq_true rfl, Nat.le_of_ble_eq_true rfl⟩ rfl rfl rfl rfl rfl (Nat.le_of_ble_eq_true rfl) ?_
      rintro _ _ (⟨h2, rfl, x1, hFx1, hKx1, rfl, hQx1⟩ | ⟨h2, rfl, rfl⟩)
      · refine zr_cSi hC cs_X3_digitOf ml_X3_73 (c_X3_digitOf (w := (cw_W o rk sp pp fp cII cF (zf_set a1 (zl b s1) i (zf_num s1 v)) x1)) (0 : Int32)) dX3_poke_42 ⟨Nat.le_of_ble_eq_true rfl, Nat.le_of_ble_eq_true rfl⟩ ⟨Nat.le_of_ble_eq_true rfl, Nat.le_of_ble_eq_true rfl⟩ rfl rfl (Nat.le_of_ble_eq_true rfl) ?_
        rintro _ _ ⟨rfl, rfl⟩
        refine zr_imul hC dX3_poke_45 ?_
        refine zr_iadd hC dX3_poke_46 ?_
        refine zr_istore (lv' := [(4, .int (t1 + (u1 * (zf_dig (0 : Int32))))), (5, .int u1), (6, .int s1), (0, .ref o), (1, .int b), (2, .int i), (3, .int v)]) hC dX3_poke_47 (by decide) rfl ?_
        refine zr_iload 1 hC dX3_poke_49 rfl ?_
        refine zr_bipush (v := (10 : Int32)) hC dX3_poke_51 rfl ?_
        refine zr_imul hC dX3_poke_53 ?_
        refine zr_istore (lv' := [(5, .int (u1 * (10 : Int32))), (4, .int (t1 + (u1 * (zf_dig (0 : Int32))))), (6, .int s1), (0, .ref o), (1, .int b), (2, .int i), (3, .int v)]) hC dX3_poke_54 (by decide) rfl ?_
        refine zr_iinc (v := (s1 + 1)) (lv' := [(6, .int (s1 + 1)), (5, .int (u1 * (10 : Int32))), (4, .int (t1 + (u1 * (zf_dig (0 : Int32))))), (0, .ref o), (1, .int b), (2, .int i), (3, .int v)]) 2 hC dX3_poke_56 rfl rfl (by decide) rfl ?_
        refine zr_goto (tgt := 23) hC dX3_poke_59 (by decide) ?_
        refine zr_sub [2, 1, 0, 3, 4, 5, 6] rfl ?_
        exact ih (kn + 1, s1 + 1, (u1 * (10 : Int32)), (t1 + (u1 * (zf_dig (0 : Int32)))), (zf_set a1 (zl b s1) i (zf_num s1 v)), x1) ⟨by show kn + 1 ≤ 4; omega, by show s1 + 1 = nI (kn + 1); rw [hk2, nI_1], (hR1.of hQx1 hKx1 rfl), by rw [hsp, show 4 - kn = (4 - (kn + 1)) + 1 by omega]; show zf_pok _ _ _ _ _ _ (t1 + u1 * zf_dig (zf_why (aa_st a1) (zl b s1) i)) (if zf_why (aa_st a1) (zl b s1) i = 0 then zf_set a1 (zl b s1) i (zf_num s1 v) else zf_cnt (zf_why (aa_st a1) (zl b s1) i) a1) = _; rw [h2, if_pos rfl]⟩ (by show 4 - (kn + 1) < 4 - kn; omega)
      · refine zr_cSi hC cs_X3_digitOf ml_X3_73 (c_X3_digitOf (w := (cw_W o rk sp pp fp cII cF (zf_cnt (zf_why (aa_st a1) (zl b s1) i) a1) x1)) (zf_why (aa_st a1) (zl b s1) i)) dX3_poke_42 ⟨Nat.le_of_ble_eq_true rfl, Nat.le_of_ble_eq_true rfl⟩ ⟨Nat.le_of_ble_eq_true rfl, Nat.le_of_ble_eq_true rfl⟩ rfl rfl (Nat.le_of_ble_eq_true rfl) ?_
        rintro _ _ ⟨rfl, rfl⟩
        refine zr_imul hC dX3_poke_45 ?_
        refine zr_iadd hC dX3_poke_46 ?_
        refine zr_istore (lv' := [(4, .int (t1 + (u1 * (zf_dig (zf_why (aa_st a1) (zl b s1) i))))), (5, .int u1), (6, .int s1), (0, .ref o), (1, .int b), (2, .int i), (3, .int v)]) hC dX3_poke_47 (by decide) rfl ?_
        refine zr_iload 1 hC dX3_poke_49 rfl ?_
        refine zr_bipush (v := (10 : Int32)) hC dX3_poke_51 rfl ?_
        refine zr_imul hC dX3_poke_53 ?_
        refine zr_istore (lv' := [(5, .int (u1 * (10 : Int32))), (4, .int (t1 + (u1 * (zf_dig (zf_why (aa_st a1) (zl b s1) i))))), (6, .int s1), (0, .ref o), (1, .int b), (2, .int i), (3, .int v)]) hC dX3_poke_54 (by decide) rfl ?_
        refine zr_iinc (v := (s1 + 1)) (lv' := [(6, .int (s1 + 1)), (5, .int (u1 * (10 : Int32))), (4, .int (t1 + (u1 * (zf_dig (zf_why (aa_st a1) (zl b s1) i))))), (0, .ref o), (1, .int b), (2, .int i), (3, .int v)]) 2 hC dX3_poke_56 rfl rfl (by decide) rfl ?_
        refine zr_goto (tgt := 23) hC dX3_poke_59 (by decide) ?_
        refine zr_sub [2, 1, 0, 3, 4, 5, 6] rfl ?_
        exact ih (kn + 1, s1 + 1, (u1 * (10 : Int32)), (t1 + (u1 * (zf_dig (zf_why (aa_st a1) (zl b s1) i)))), (zf_cnt (zf_why (aa_st a1) (zl b s1) i) a1), x1) ⟨by show kn + 1 ≤ 4; omega, by show s1 + 1 = nI (kn + 1); rw [hk2, nI_1], hR1, by rw [hsp, show 4 - kn = (4 - (kn + 1)) + 1 by omega]; show zf_pok _ _ _ _ _ _ (t1 + u1 * zf_dig (zf_why (aa_st a1) (zl b s1) i)) (if zf_why (aa_st a1) (zl b s1) i = 0 then zf_set a1 (zl b s1) i (zf_num s1 v) else zf_cnt (zf_why (aa_st a1) (zl b s1) i) a1) = _; rw [if_neg h2]⟩ (by show 4 - (kn + 1) < 4 - kn; omega)
  · refine zr_if_neF (tgt := 14) hC dX3_poke_4 (by decide) (by decide) ?_
    refine zr_aload_n 0 hC dX3_poke_7 rfl rfl ?_
    refine zr_iconst (v := (1 : Int32)) hC dX3_poke_8 rfl ?_
    refine zr_iconst (v := (0 : Int32)) hC dX3_poke_9 rfl ?_
    refine zr_cVi 0 hC cv_X3_leave ml_X3_36 (c_X3_leave (a := a) (x := x) (1 : Int32) (0 : Int32)) dX3_poke_10 ⟨Nat.le_of_ble_eq_true rfl, Nat.le_of_ble_eq_true rfl⟩ ⟨Nat.le_of_ble_eq_true rfl, Nat.le_of_ble_eq_true rfl⟩ rfl rfl rfl rfl rfl (Nat.le_of_ble_eq_true rfl) ?_
    rintro rr _ ⟨hrr, rfl⟩
    subst rr
    refine zr_iret hC hr hk dX3_poke_13 (by decide) (by decide) ⟨_, rfl, ?_⟩
    exact zp_mk (if_neg (fun h => absurd h hb_b)) hR
set_option maxRecDepth 100000 in
set_option maxHeartbeats 4000000 in
theorem c_X3_lit (hR : rc_R cI cII a x) (b : Int32) : zz_Mi l D (zt cI cII cF) yX3_lit cX3_lit 6 (some .int) 4 92 0 0 [.ref o, .int b] (cw_W o rk sp pp fp cII cF a x) (fun r w' => zp_c o rk sp pp fp cI cII cF (zo_lit a b) r w') := by
  refine zz_mk (by decide) (Nat.le_of_ble_eq_true rfl) ?_
  intro p e s m below meth c A hC hr hk hnm
  have hC : zz_C p s m _ c A D (zt cI cII cF) 6 cX3_lit RX3 := hC
  refine zr_iload_n 1 hC dX3_lit_0 rfl rfl ?_
  refine zr_cSi hC cs_X3_isBank ml_X3_29 (c_X3_isBank (w := (cw_W o rk sp pp fp cII cF a x)) b) dX3_lit_1 ⟨Nat.le_of_ble_eq_true rfl, Nat.le_of_ble_eq_true rfl⟩ ⟨Nat.le_of_ble_eq_true rfl, Nat.le_of_ble_eq_true rfl⟩ rfl rfl (Nat.le_of_ble_eq_true rfl) ?_
  rintro _ _ ⟨rfl, ⟨rfl, hb_b⟩ | ⟨rfl, hb_b⟩⟩
  · refine zr_if_neT (tgt := 14) hC dX3_lit_4 (by decide) (by decide) ?_
    refine zr_aload_n 0 hC dX3_lit_14 rfl rfl ?_
    refine zr_iload_n 1 hC dX3_lit_15 rfl rfl ?_
    refine zr_iconst (v := (2 : Int32)) hC dX3_lit_16 rfl ?_
    refine zr_cVi 0 hC cv_X3_measure ml_X3_52 (c_X3_measure (a := a) (x := x) hR.1 hb_b zk_s2) dX3_lit_17 ⟨Nat.le_of_ble_eq_true rfl, Nat.le_of_ble_eq_true rfl⟩ ⟨Nat.le_of_ble_eq_true rfl, Nat.le_of_ble_eq_true rfl⟩ rfl rfl rfl rfl rfl (Nat.le_of_ble_eq_true rfl) ?_
    rintro _ _ (⟨hlen, rfl, rfl⟩ | ⟨n, hn24, hlen, rfl, rfl⟩)
    · refine zr_istore_n (lv' := [(2, .int (2 : Int32)), (0, .ref o), (1, .int b)]) hC dX3_lit_20 rfl (by decide) rfl ?_
      refine zr_iload_n 0 hC dX3_lit_21 rfl rfl ?_
      refine zr_if_eqF (tgt := 32) hC dX3_lit_22 (by decide) (by decide) ?_
      refine zr_aload_n 1 hC dX3_lit_25 rfl rfl ?_
      refine zr_iload_n 0 hC dX3_lit_26 rfl rfl ?_
      refine zr_iconst (v := (0 : Int32)) hC dX3_lit_27 rfl ?_
      refine zr_cVi 0 hC cv_X3_leave ml_X3_36 (c_X3_leave (a := (zf_cnt 2 a)) (x := x) (2 : Int32) (0 : Int32)) dX3_lit_28 ⟨Nat.le_of_ble_eq_true rfl, Nat.le_of_ble_eq_true rfl⟩ ⟨Nat.le_of_ble_eq_true rfl, Nat.le_of_ble_eq_true rfl⟩ rfl rfl rfl rfl rfl (Nat.le_of_ble_eq_true rfl) ?_
      rintro rr _ ⟨hrr, rfl⟩
      subst rr
      refine zr_iret hC hr hk dX3_lit_31 (by decide) (by decide) ⟨_, rfl, ?_⟩
      exact zp_mk (by unfold zo_lit; rw [if_pos hb_b, hlen]) hR
    · refine zr_istore_n (lv' := [(2, .int (0 : Int32)), (0, .ref o), (1, .int b)]) hC dX3_lit_20 rfl (by decide) rfl ?_
      refine zr_iload_n 0 hC dX3_lit_21 rfl rfl ?_
      refine zr_if_eqT (tgt := 32) hC dX3_lit_22 (by decide) (by decide) ?_
      refine zr_aload_n 1 hC dX3_lit_32 rfl rfl ?_
      refine zr_get (v := .int (nI n)) 0 11 hC iu_X3 rfl dX3_lit_33 fl_X3_66 (by decide) rfl rfl ?_
      refine zr_istore_n (lv' := [(3, .int (nI n)), (2, .int (0 : Int32)), (0, .ref o), (1, .int b)]) hC dX3_lit_36 rfl (by decide) rfl ?_
      refine zr_iconst (v := (0 : Int32)) hC dX3_lit_37 rfl ?_
      refine zr_istore (lv' := [(4, .int (0 : Int32)), (3, .int (nI n)), (2, .int (0 : Int32)), (0, .ref o), (1, .int b)]) hC dX3_lit_38 (by decide) rfl ?_
      refine zr_iconst (v := (0 : Int32)) hC dX3_lit_40 rfl ?_
      refine zr_istore (lv' := [(5, .int (0 : Int32)), (4, .int (0 : Int32)), (3, .int (nI n)), (2, .int (0 : Int32)), (0, .ref o), (1, .int b)]) hC dX3_lit_41 (by decide) rfl ?_
      refine zr_sub [0, 1, 2, 4, 5] rfl ?_
      refine zr_loop (σ := Nat × Int32 × Int32 × ax_A × Int32) (fun t => [(5, .int t.2.1), (4, .int t.2.2.1), (3, .int (nI n)), (0, .ref o), (1, .int b)]) (fun t => cw_W o rk sp pp fp cII cF t.2.2.2.1 (ck_fnd x t.2.2.2.2)) (fun t => t.1 ≤ n ∧ t.2.1 = nI t.1 ∧ rc_R cI cII t.2.2.2.1 (ck_fnd x t.2.2.2.2) ∧ aa_st t.2.2.2.1 = aa_st a ∧ zf_lit b n 0 0 a = zf_lit b (n - t.1) t.2.1 t.2.2.1 t.2.2.2.1) (fun t => n - t.1) ?_ (0, 0, 0, a, (nI n)) ⟨Nat.zero_le _, rfl, hR, rfl, rfl⟩
      rintro ⟨kn, i1, k1, a1, fn1⟩ ⟨hk1, hk2, hR1, hst, hsp⟩ ih
      try dsimp only at hk1
      try dsimp only at hk2
      try dsimp only at hR1
      try dsimp only at hst
      try dsimp only at hsp
      show zz_Z _ _ _ _ _ _ _ _ _ _ _ _ _ _ 43 [(5, .int i1), (4, .int k1), (3, .int (nI n)), (0, .ref o), (1, .int b)] [] (cw_W o rk sp pp fp cII cF a1 (ck_fnd x fn1)) 0 0
      refine zr_iload 0 hC dX3_lit_43 rfl ?_
      refine zr_iload_n 2 hC dX3_lit_45 rfl rfl ?_
      refine zr_icmp_ge (tgt := 68) hC dX3_lit_46 (by decide) (fun c46 => ?_) (fun c46 => ?_)
      · have hend : kn = n := by
          rw [hk2] at c46
          have := (nI_leI (a := n) (by omega) (by omega)).mp c46
          omega
        refine zr_aload_n 3 hC dX3_lit_68 rfl rfl ?_
        refine zr_iconst (v := (0 : Int32)) hC dX3_lit_69 rfl ?_
        refine zr_iload 1 hC dX3_lit_70 rfl ?_
        refine zr_cVi 0 hC cv_X3_leave ml_X3_36 (c_X3_leave (a := a1) (x := (ck_fnd x fn1)) (0 : Int32) k1) dX3_lit_72 ⟨Nat.le_of_ble_eq_true rfl, Nat.le_of_ble_eq_true rfl⟩ ⟨Nat.le_of_ble_eq_true rfl, Nat.le_of_ble_eq_true rfl⟩ rfl rfl rfl rfl rfl (Nat.le_of_ble_eq_true rfl) ?_
        rintro rr _ ⟨hrr, rfl⟩
        subst rr
        refine zr_iret hC hr hk dX3_lit_75 (by decide) (by decide) ⟨_, rfl, ?_⟩
        exact zp_mk (by unfold zo_lit; rw [if_pos hb_b, hlen]; show zf_lit b n 0 0 a = _; rw [hsp, hend, Nat.sub_self]; rfl) hR1
      · have hlt : kn < n := by
          rcases Nat.lt_or_ge kn n with h0 | h0
          · exact h0
          · exact absurd (by rw [hk2]; exact nI_le h0 (by omega)) c46
        refine zr_aload_n 3 hC dX3_lit_49 rfl rfl ?_
        refine zr_iload_n 4 hC dX3_lit_50 rfl rfl ?_
        refine zr_iload 0 hC dX3_lit_51 rfl ?_
        have hlv : zf_why (aa_st a1) (zl b 2) i1 = 0 := by
          rw [zf_why_some (n := n) (by rw [hst]; exact hlen), hk2]
          exact if_pos ⟨nI_pos' (by omega), nI_lt hlt (by omega)⟩
        refine zr_cVi 0 hC cv_X3_isLit ml_X3_79 (c_X3_isLit (a := a1) (x := (ck_fnd x fn1)) hR1.1 i1 hb_b hlv) dX3_lit_53 ⟨Nat.le_of_ble_eq_true rfl, Nat.le_of_ble_eq_true rfl⟩ ⟨Nat.le_of_ble_eq_true rfl, Nat.le_of_ble_eq_true rfl⟩ rfl rfl rfl rfl rfl (Nat.le_of_ble_eq_true rfl) ?_
        rintro _ _ ⟨fn1, rfl, ⟨rfl, h2⟩ | ⟨rfl, h2⟩⟩
        · refine zr_if_eqF (tgt := 62) hC dX3_lit_56 (by decide) (by decide) ?_
          refine zr_iinc (v := (k1 + 1)) (lv' := [(4, .int (k1 + 1)), (5, .int i1), (3, .int (nI n)), (0, .ref o), (1, .int b)]) 1 hC dX3_lit_59 rfl rfl (by decide) rfl ?_
          refine zr_iinc (v := (i1 + 1)) (lv' := [(5, .int (i1 + 1)), (4, .int (k1 + 1)), (3, .int (nI n)), (0, .ref o), (1, .int b)]) 1 hC dX3_lit_62 rfl rfl (by decide) rfl ?_
          refine zr_goto (tgt := 43) hC dX3_lit_65 (by decide) ?_
          exact ih (kn + 1, i1 + 1, (k1 + 1), (zf_cnt (zf_why (aa_st a1) (zl b 3) i1) a1), fn1) ⟨by show kn + 1 ≤ n; omega, by show i1 + 1 = nI (kn + 1); rw [hk2, nI_1], hR1, hst, by rw [hsp, show n - kn = (n - (kn + 1)) + 1 by omega]; show zf_lit _ _ _ (if zf_why (aa_st a1) (zl b 3) i1 = 0 ∧ ¬ zf_val (aa_st a1) (zl b 3) i1 = 0 ∧ 0 < zf_val (aa_st a1) (zl b 2) i1 then _ else _) _ = _; rw [if_pos h2]⟩ (by show n - (kn + 1) < n - kn; omega)
        · refine zr_if_eqT (tgt := 62) hC dX3_lit_56 (by decide) (by decide) ?_
          refine zr_iinc (v := (i1 + 1)) (lv' := [(5, .int (i1 + 1)), (4, .int k1), (3, .int (nI n)), (0, .ref o), (1, .int b)]) 0 hC dX3_lit_62 rfl rfl (by decide) rfl ?_
          refine zr_goto (tgt := 43) hC dX3_lit_65 (by decide) ?_
          exact ih (kn + 1, i1 + 1, k1, (zf_cnt (zf_why (aa_st a1) (zl b 3) i1) a1), fn1) ⟨by show kn + 1 ≤ n; omega, by show i1 + 1 = nI (kn + 1); rw [hk2, nI_1], hR1, hst, by rw [hsp, show n - kn = (n - (kn + 1)) + 1 by omega]; show zf_lit _ _ _ (if zf_why (aa_st a1) (zl b 3) i1 = 0 ∧ ¬ zf_val (aa_st a1) (zl b 3) i1 = 0 ∧ 0 < zf_val (aa_st a1) (zl b 2) i1 then _ else _) _ = _; rw [if_neg h2]⟩ (by show n - (kn + 1) < n - kn; omega)
  · refine zr_if_neF (tgt := 14) hC dX3_lit_4 (by decide) (by decide) ?_
    refine zr_aload_n 0 hC dX3_lit_7 rfl rfl ?_
    refine zr_iconst (v := (1 : Int32)) hC dX3_lit_8 rfl ?_
    refine zr_iconst (v := (0 : Int32)) hC dX3_lit_9 rfl ?_
    refine zr_cVi 0 hC cv_X3_leave ml_X3_36 (c_X3_leave (a := a) (x := x) (1 : Int32) (0 : Int32)) dX3_lit_10 ⟨Nat.le_of_ble_eq_true rfl, Nat.le_of_ble_eq_true rfl⟩ ⟨Nat.le_of_ble_eq_true rfl, Nat.le_of_ble_eq_true rfl⟩ rfl rfl rfl rfl rfl (Nat.le_of_ble_eq_true rfl) ?_
    rintro rr _ ⟨hrr, rfl⟩
    subst rr
    refine zr_iret hC hr hk dX3_lit_13 (by decide) (by decide) ⟨_, rfl, ?_⟩
    exact zp_mk (if_neg (fun h => absurd h hb_b)) hR
set_option maxRecDepth 100000 in
set_option maxHeartbeats 4000000 in
theorem c_X3_draw (hR : rc_R cI cII a x) (b i : Int32) : zz_Mi l D (zt cI cII cF) yX3_draw cX3_draw 5 (some .int) 5 119 0 0 [.ref o, .int b, .int i] (cw_W o rk sp pp fp cII cF a x) (fun r w' => zp_c o rk sp pp fp cI cII cF (zo_draw a b i) r w') := by
  refine zz_mk (by decide) (Nat.le_of_ble_eq_true rfl) ?_
  intro p e s m below meth c A hC hr hk hnm
  have hC : zz_C p s m _ c A D (zt cI cII cF) 5 cX3_draw RX3 := hC
  refine zr_iload_n 1 hC dX3_draw_0 rfl rfl ?_
  refine zr_cSi hC cs_X3_isBank ml_X3_29 (c_X3_isBank (w := (cw_W o rk sp pp fp cII cF a x)) b) dX3_draw_1 ⟨Nat.le_of_ble_eq_true rfl, Nat.le_of_ble_eq_true rfl⟩ ⟨Nat.le_of_ble_eq_true rfl, Nat.le_of_ble_eq_true rfl⟩ rfl rfl (Nat.le_of_ble_eq_true rfl) ?_
  rintro _ _ ⟨rfl, ⟨rfl, hb_b⟩ | ⟨rfl, hb_b⟩⟩
  · refine zr_if_neT (tgt := 14) hC dX3_draw_4 (by decide) (by decide) ?_
    refine zr_iconst (v := (0 : Int32)) hC dX3_draw_14 rfl ?_
    refine zr_istore_n (lv' := [(3, .int (0 : Int32)), (0, .ref o), (1, .int b), (2, .int i)]) hC dX3_draw_15 rfl (by decide) rfl ?_
    refine zr_loop (σ := Nat × Int32 × ax_A × cx_X) (fun t => [(3, .int t.2.1), (0, .ref o), (1, .int b), (2, .int i)]) (fun t => cw_W o rk sp pp fp cII cF t.2.2.1 t.2.2.2) (fun t => t.1 ≤ 25 ∧ t.2.1 = nI t.1 ∧ rc_R cI cII t.2.2.1 t.2.2.2 ∧ zf_draw b i 25 0 a = zf_draw b i (25 - t.1) t.2.1 t.2.2.1) (fun t => 25 - t.1) ?_ (0, 0, a, x) ⟨Nat.zero_le _, rfl, hR, rfl⟩
    rintro ⟨kn, j1, a1, x1⟩ ⟨hk1, hk2, hR1, hsp⟩ ih
    try dsimp only at hk1
    try dsimp only at hk2
    try dsimp only at hR1
    try dsimp only at hsp
    show zz_Z _ _ _ _ _ _ _ _ _ _ _ _ _ _ 16 [(3, .int j1), (0, .ref o), (1, .int b), (2, .int i)] [] (cw_W o rk sp pp fp cII cF a1 x1) 0 0
    refine zr_iload_n 0 hC dX3_draw_16 rfl rfl ?_
    refine zr_bipush (v := (24 : Int32)) hC dX3_draw_17 rfl ?_
    refine zr_icmp_gt (tgt := 50) hC dX3_draw_19 (by decide) (fun c19 => ?_) (fun c19 => ?_)
    · have hend : kn = 25 := by
        rw [hk2] at c19
        have := (nI_ltI (a := 24) (by omega) (by omega)).mp c19
        omega
      refine zr_aload_n 1 hC dX3_draw_50 rfl rfl ?_
      refine zr_iconst (v := (0 : Int32)) hC dX3_draw_51 rfl ?_
      refine zr_bipush (v := (24 : Int32)) hC dX3_draw_52 rfl ?_
      refine zr_cVi 0 hC cv_X3_leave ml_X3_36 (c_X3_leave (a := a1) (x := x1) (0 : Int32) (24 : Int32)) dX3_draw_54 ⟨Nat.le_of_ble_eq_true rfl, Nat.le_of_ble_eq_true rfl⟩ ⟨Nat.le_of_ble_eq_true rfl, Nat.le_of_ble_eq_true rfl⟩ rfl rfl rfl rfl rfl (Nat.le_of_ble_eq_true rfl) ?_
      rintro rr _ ⟨hrr, rfl⟩
      subst rr
      refine zr_iret hC hr hk dX3_draw_57 (by decide) (by decide) ⟨_, rfl, ?_⟩
      exact zp_mk (by unfold zo_draw; rw [if_pos hb_b, hsp, hend]; rfl) hR1
    · have hlt : kn < 25 := by
        rcases Nat.lt_or_ge kn 25 with h0 | h0
        · exact h0
        · exact absurd (by rw [hk2]; exact nI_lt (a := 24) (by omega) (by omega)) c19
      refine zr_aload_n 1 hC dX3_draw_22 rfl rfl ?_
      refine zr_iload_n 2 hC dX3_draw_23 rfl rfl ?_
      refine zr_iload_n 3 hC dX3_draw_24 rfl rfl ?_
      refine zr_iload_n 0 hC dX3_draw_25 rfl rfl ?_
      refine zr_cVi 0 hC cv_X3_drawLamp ml_X3_119 (c_X3_drawLamp (a := a1) (x := x1) hR1.1 i j1 hb_b) dX3_draw_26 ⟨Nat.le_of_ble_eq_true rfl, Nat.le_of_ble_eq_true rfl⟩ ⟨Nat.le_of_ble_eq_true rfl, Nat.le_of_ble_eq_true rfl⟩ rfl rfl rfl rfl rfl (Nat.le_of_ble_eq_true rfl) ?_
      rintro _ _ (⟨hs2, hw2, rfl, x2, hK2, rfl, hQ2⟩ | ⟨hs2, hw2, rfl, fn2, rfl⟩ | ⟨hs2, rfl, fn2, rfl⟩)
      · refine zr_istore (lv' := [(4, .int (0 : Int32)), (3, .int j1), (0, .ref o), (1, .int b), (2, .int i)]) hC dX3_draw_29 (by decide) rfl ?_
        refine zr_iload 0 hC dX3_draw_31 rfl ?_
        refine zr_if_eqT (tgt := 44) hC dX3_draw_33 (by decide) (by decide) ?_
        refine zr_iinc (v := (j1 + 1)) (lv' := [(3, .int (j1 + 1)), (4, .int (0 : Int32)), (0, .ref o), (1, .int b), (2, .int i)]) 1 hC dX3_draw_44 rfl rfl (by decide) rfl ?_
        refine zr_goto (tgt := 16) hC dX3_draw_47 (by decide) ?_
        refine zr_sub [0, 2, 3, 4] rfl ?_
        exact ih (kn + 1, j1 + 1, (zf_wri (zf_show a1 b j1).2.2 i j1 (zf_show a1 b j1).2.1), x2) ⟨by show kn + 1 ≤ 25; omega, by show j1 + 1 = nI (kn + 1); rw [hk2, nI_1], hR1.of hQ2 hK2 (zf_show_st a1 b j1).2.2, by rw [hsp, show 25 - kn = (25 - (kn + 1)) + 1 by omega]; show (if _ then (if _ then _ else _) else _) = _; rw [if_pos hs2, if_pos hw2]⟩ (by show 25 - (kn + 1) < 25 - kn; omega)
      · refine zr_istore (lv' := [(4, .int (zf_whyC (aa_sh (zf_show a1 b j1).2.2) i j1)), (3, .int j1), (0, .ref o), (1, .int b), (2, .int i)]) hC dX3_draw_29 (by decide) rfl ?_
        refine zr_iload 0 hC dX3_draw_31 rfl ?_
        refine zr_if_eqF (tgt := 44) hC dX3_draw_33 (by decide) hw2 ?_
        refine zr_aload_n 2 hC dX3_draw_36 rfl rfl ?_
        refine zr_iload 0 hC dX3_draw_37 rfl ?_
        refine zr_iload_n 1 hC dX3_draw_39 rfl rfl ?_
        refine zr_cVi 0 hC cv_X3_leave ml_X3_36 (c_X3_leave (a := (zf_cnt (zf_whyC (aa_sh (zf_show a1 b j1).2.2) i j1) (zf_show a1 b j1).2.2)) (x := (ck_fnd x1 fn2)) (zf_whyC (aa_sh (zf_show a1 b j1).2.2) i j1) j1) dX3_draw_40 ⟨Nat.le_of_ble_eq_true rfl, Nat.le_of_ble_eq_true rfl⟩ ⟨Nat.le_of_ble_eq_true rfl, Nat.le_of_ble_eq_true rfl⟩ rfl rfl rfl rfl rfl (Nat.le_of_ble_eq_true rfl) ?_
        rintro rr _ ⟨hrr, rfl⟩
        subst rr
        refine zr_iret hC hr hk dX3_draw_43 (by decide) (by decide) ⟨_, rfl, ?_⟩
        exact zp_mk (by unfold zo_draw; rw [if_pos hb_b, hsp, show 25 - kn = (25 - (kn + 1)) + 1 by omega]; show (if _ then (if _ then _ else _) else _) = _; rw [if_pos hs2, if_neg hw2]) (hR1.of (rc_show hR1.1 b j1 _) cx_K.rf (zf_show_st a1 b j1).2.2)
      · refine zr_istore (lv' := [(4, .int ((zf_show a1 b j1).1)), (3, .int j1), (0, .ref o), (1, .int b), (2, .int i)]) hC dX3_draw_29 (by decide) rfl ?_
        refine zr_iload 0 hC dX3_draw_31 rfl ?_
        refine zr_if_eqF (tgt := 44) hC dX3_draw_33 (by decide) hs2 ?_
        refine zr_aload_n 2 hC dX3_draw_36 rfl rfl ?_
        refine zr_iload 0 hC dX3_draw_37 rfl ?_
        refine zr_iload_n 1 hC dX3_draw_39 rfl rfl ?_
        refine zr_cVi 0 hC cv_X3_leave ml_X3_36 (c_X3_leave (a := ((zf_show a1 b j1).2.2)) (x := (ck_fnd x1 fn2)) ((zf_show a1 b j1).1) j1) dX3_draw_40 ⟨Nat.le_of_ble_eq_true rfl, Nat.le_of_ble_eq_true rfl⟩ ⟨Nat.le_of_ble_eq_true rfl, Nat.le_of_ble_eq_true rfl⟩ rfl rfl rfl rfl rfl (Nat.le_of_ble_eq_true rfl) ?_
        rintro rr _ ⟨hrr, rfl⟩
        subst rr
        refine zr_iret hC hr hk dX3_draw_43 (by decide) (by decide) ⟨_, rfl, ?_⟩
        exact zp_mk (by unfold zo_draw; rw [if_pos hb_b, hsp, show 25 - kn = (25 - (kn + 1)) + 1 by omega]; show (if _ then (if _ then _ else _) else _) = _; rw [if_neg hs2]) (hR1.of (rc_show hR1.1 b j1 _) cx_K.rf (zf_show_st a1 b j1).2.2)
  · refine zr_if_neF (tgt := 14) hC dX3_draw_4 (by decide) (by decide) ?_
    refine zr_aload_n 0 hC dX3_draw_7 rfl rfl ?_
    refine zr_iconst (v := (1 : Int32)) hC dX3_draw_8 rfl ?_
    refine zr_iconst (v := (0 : Int32)) hC dX3_draw_9 rfl ?_
    refine zr_cVi 0 hC cv_X3_leave ml_X3_36 (c_X3_leave (a := a) (x := x) (1 : Int32) (0 : Int32)) dX3_draw_10 ⟨Nat.le_of_ble_eq_true rfl, Nat.le_of_ble_eq_true rfl⟩ ⟨Nat.le_of_ble_eq_true rfl, Nat.le_of_ble_eq_true rfl⟩ rfl rfl rfl rfl rfl (Nat.le_of_ble_eq_true rfl) ?_
    rintro rr _ ⟨hrr, rfl⟩
    subst rr
    refine zr_iret hC hr hk dX3_draw_13 (by decide) (by decide) ⟨_, rfl, ?_⟩
    exact zp_mk (if_neg (fun h => absurd h hb_b)) hR
end ZA8
end
section
section ZA9
variable {l : Launch} {D : va_G} {cI cII cF : ClassId} {o rk sp pp fp mo m1 m2 m3 m4 m5 m6 m7 m8 m9 : Nat}
variable {a : ax_A} {x : cx_X}
set_option maxRecDepth 100000 in
set_option maxHeartbeats 4000000 in
theorem c_X3_runsOn (hR : rc_Q cI cII a x) {y : Nat} {b p0 t0 s0 : Int32} (hy : y ∈ cx_L x) (hey : cx_ent x y = .inr (0, [.int b, .int p0, .int t0, .int s0])) (hb_b : zk_b b) : zz_Mi l D (zt cI cII cF) yX3_runsOn cX3_runsOn 4 (some .boolean) 4 87 0 0 [.ref o, .ref y] (cw_W o rk sp pp fp cII cF a x) (fun r w' => (¬ zf_why (aa_st a) (zl b 2) p0 = 0 ∧ r = 0 ∧ w' = (cw_W o rk sp pp fp cII cF (if zf_why (aa_st a) (zl b 2) p0 = 2 then as_dm (zf_cnt (zf_why (aa_st a) (zl b 2) p0) a) (aa_dm a + 1) else as_dO (zf_cnt (zf_why (aa_st a) (zl b 2) p0) a) (aa_dO a + 1)) x)) ∨ (zf_why (aa_st a) (zl b 2) p0 = 0 ∧ ∃ x', cx_K x x' ∧ ((zf_next t0 s0 (zf_val (aa_st a) (zl b 2) p0) = t0 ∧ r = 0 ∧ w' = (cw_W o rk sp pp fp cII cF (as_re (zf_set a (zl b 2) p0 (zf_num 2 (zf_next t0 s0 (zf_val (aa_st a) (zl b 2) p0)))) (aa_re a + 1)) x') ∧ rc_Q cI cII (zf_set a (zl b 2) p0 (zf_num 2 (zf_next t0 s0 (zf_val (aa_st a) (zl b 2) p0)))) x') ∨ (¬ zf_next t0 s0 (zf_val (aa_st a) (zl b 2) p0) = t0 ∧ r = 1 ∧ w' = (cw_W o rk sp pp fp cII cF (zf_set a (zl b 2) p0 (zf_num 2 (zf_next t0 s0 (zf_val (aa_st a) (zl b 2) p0)))) x') ∧ rc_Q cI cII (zf_set a (zl b 2) p0 (zf_num 2 (zf_next t0 s0 (zf_val (aa_st a) (zl b 2) p0)))) x')))) := by
  refine zz_mk (by decide) (Nat.le_of_ble_eq_true rfl) ?_
  intro p e s m below meth c A hC hr hk hnm
  have hC : zz_C p s m _ c A D (zt cI cII cF) 4 cX3_runsOn RX3 := hC
  refine zr_aload_n 0 hC dX3_runsOn_0 rfl rfl ?_
  refine zr_aload_n 1 hC dX3_runsOn_1 rfl rfl ?_
  obtain ⟨k0, hk0⟩ := cw_get (o := o) (rk := rk) (sp := sp) (pp := pp) (fp := fp) (cII := cII) (cF := cF) (a := a) (x := x) hy hey
  refine zr_getN (host := RX3) (v := .int b) k0 0 hC iu_X0 rfl dX3_runsOn_2 hC.2.2.2.2.2.2.2.1 (by decide) hk0 rfl ?_
  refine zr_iconst (v := (2 : Int32)) hC dX3_runsOn_5 rfl ?_
  refine zr_aload_n 1 hC dX3_runsOn_6 rfl rfl ?_
  refine zr_getN (host := RX3) (v := .int p0) k0 1 hC iu_X0 rfl dX3_runsOn_7 hC.2.2.2.2.2.2.2.2.1 (by decide) hk0 rfl ?_
  refine zr_cVi 0 hC cv_X3_look ml_X3_58 (c_X3_look (a := a) (x := x) hR p0 hb_b zk_s2) dX3_runsOn_10 ⟨Nat.le_of_ble_eq_true rfl, Nat.le_of_ble_eq_true rfl⟩ ⟨Nat.le_of_ble_eq_true rfl, Nat.le_of_ble_eq_true rfl⟩ rfl rfl rfl rfl rfl (Nat.le_of_ble_eq_true rfl) ?_
  rintro _ _ (⟨h1, rfl, rfl⟩ | ⟨h1, rfl, rfl⟩)
  · refine zr_istore_n (lv' := [(2, .int (0 : Int32)), (0, .ref o), (1, .ref y)]) hC dX3_runsOn_13 rfl (by decide) rfl ?_
    refine zr_iload_n 0 hC dX3_runsOn_14 rfl rfl ?_
    refine zr_if_eqT (tgt := 25) hC dX3_runsOn_15 (by decide) (by decide) ?_
    obtain ⟨k1, hk1⟩ := cw_get (o := o) (rk := rk) (sp := sp) (pp := pp) (fp := fp) (cII := cII) (cF := cF) (a := a) (x := (ck_fnd x (zf_val (aa_st a) (zl b 2) p0))) hy hey
    refine zr_aload_n 2 hC dX3_runsOn_25 rfl rfl ?_
    refine zr_aload_n 1 hC dX3_runsOn_26 rfl rfl ?_
    refine zr_get (v := .int (zf_val (aa_st a) (zl b 2) p0)) 0 11 hC iu_X3 rfl dX3_runsOn_27 fl_X3_66 (by decide) rfl rfl ?_
    refine zr_cVi k1 hC cv_X0_nextLevel ml_X3_180 (c_X0_nextLevel hk1 (zf_val (aa_st a) (zl b 2) p0)) dX3_runsOn_30 ⟨Nat.le_of_ble_eq_true rfl, Nat.le_of_ble_eq_true rfl⟩ ⟨Nat.le_of_ble_eq_true rfl, Nat.le_of_ble_eq_true rfl⟩ rfl rfl hk1 rfl rfl (Nat.le_of_ble_eq_true rfl) ?_
    rintro _ _ ⟨rfl, rfl⟩
    refine zr_istore_n (lv' := [(3, .int (zf_next t0 s0 (zf_val (aa_st a) (zl b 2) p0))), (2, .int (0 : Int32)), (0, .ref o), (1, .ref y)]) hC dX3_runsOn_33 rfl (by decide) rfl ?_
    refine zr_aload_n 2 hC dX3_runsOn_34 rfl rfl ?_
    refine zr_aload_n 3 hC dX3_runsOn_35 rfl rfl ?_
    refine zr_getN (host := RX3) (v := .int b) k1 0 hC iu_X0 rfl dX3_runsOn_36 hC.2.2.2.2.2.2.2.1 (by decide) hk1 rfl ?_
    refine zr_iconst (v := (2 : Int32)) hC dX3_runsOn_39 rfl ?_
    refine zr_aload_n 3 hC dX3_runsOn_40 rfl rfl ?_
    refine zr_getN (host := RX3) (v := .int p0) k1 1 hC iu_X0 rfl dX3_runsOn_41 hC.2.2.2.2.2.2.2.2.1 (by decide) hk1 rfl ?_
    refine zr_iload_n 0 hC dX3_runsOn_44 rfl rfl ?_
    refine zr_cVi 0 hC cv_X3_put ml_X3_62 (c_X3_put (a := a) (x := (ck_fnd x (zf_val (aa_st a) (zl b 2) p0))) hR p0 (zf_next t0 s0 (zf_val (aa_st a) (zl b 2) p0)) hb_b zk_s2) dX3_runsOn_45 ⟨Nat.le_of_ble_eq_true rfl, Nat.le_of_ble_eq_true rfl⟩ ⟨Nat.le_of_ble_eq_true rfl, Nat.le_of_ble_eq_true rfl⟩ rfl rfl rfl rfl rfl (Nat.le_of_ble_eq_true rfl) ?_
    rintro _ _ (⟨-, rfl, x2, hFx2, hKx2, rfl, hQx2⟩ | ⟨hno, -, -⟩)
    · refine zr_pop hC dX3_runsOn_48 rfl ?_
      refine zr_iload_n 0 hC dX3_runsOn_49 rfl rfl ?_
      refine zr_aload_n 3 hC dX3_runsOn_50 rfl rfl ?_
      obtain ⟨k2, hk2⟩ := cw_get (o := o) (rk := rk) (sp := sp) (pp := pp) (fp := fp) (cII := cII) (cF := cF) (a := (zf_set a (zl b 2) p0 (zf_num (2 : Int32) (zf_next t0 s0 (zf_val (aa_st a) (zl b 2) p0))))) (x := x2) (hKx2.2.2.1 y hy) (hKx2.2.2.2 y _ hy hey)
      refine zr_getN (host := RX3) (v := .int t0) k2 2 hC iu_X0 rfl dX3_runsOn_51 hC.2.2.2.2.2.2.2.2.2.1 (by decide) hk2 rfl ?_
      refine zr_icmp_ne (tgt := 69) hC dX3_runsOn_54 (by decide) (fun c54 => ?_) (fun c54 => ?_)
      · refine zr_iconst (v := (1 : Int32)) hC dX3_runsOn_69 rfl ?_
        refine zr_zret hC hr hk dX3_runsOn_70 rfl (by decide) (by decide) ⟨_, rfl, ?_⟩
        exact Or.inr ⟨h1, x2, hKx2, Or.inr ⟨c54, rfl, rfl, hQx2⟩⟩
      · refine zr_aload_n 2 hC dX3_runsOn_57 rfl rfl ?_
        refine zr_dup hC dX3_runsOn_58 rfl ?_
        refine zr_get (v := .int (aa_re a)) 0 4 hC iu_X3 rfl dX3_runsOn_59 fl_X3_134 (by decide) rfl rfl ?_
        refine zr_iconst (v := (1 : Int32)) hC dX3_runsOn_62 rfl ?_
        refine zr_iadd hC dX3_runsOn_63 ?_
        refine zr_put (w' := (cw_W o rk sp pp fp cII cF (as_re (zf_set a (zl b 2) p0 (zf_num (2 : Int32) (zf_next t0 s0 (zf_val (aa_st a) (zl b 2) p0)))) ((aa_re a) + (1 : Int32))) x2)) 0 4 hC iu_X3 tyX3_ok nmX3 rfl dX3_runsOn_64 fl_X3_134 (by decide) rfl rfl rfl rfl (Nat.le_of_ble_eq_true rfl) rfl ?_
        refine zr_iconst (v := (0 : Int32)) hC dX3_runsOn_67 rfl ?_
        refine zr_zret hC hr hk dX3_runsOn_68 rfl (by decide) (by decide) ⟨_, rfl, ?_⟩
        exact Or.inr ⟨h1, x2, hKx2, Or.inl ⟨c54, rfl, rfl, hQx2⟩⟩
    · exact absurd h1 hno
  · refine zr_istore_n (lv' := [(2, .int (zf_why (aa_st a) (zl b 2) p0)), (0, .ref o), (1, .ref y)]) hC dX3_runsOn_13 rfl (by decide) rfl ?_
    refine zr_iload_n 0 hC dX3_runsOn_14 rfl rfl ?_
    refine zr_if_eqF (tgt := 25) hC dX3_runsOn_15 (by decide) h1 ?_
    refine zr_aload_n 1 hC dX3_runsOn_18 rfl rfl ?_
    refine zr_iload_n 0 hC dX3_runsOn_19 rfl rfl ?_
    refine zr_cVv 0 hC cv_X3_countDropped ml_X3_176 (c_X3_countDropped (a := (zf_cnt (zf_why (aa_st a) (zl b 2) p0) a)) (x := x) (zf_why (aa_st a) (zl b 2) p0)) dX3_runsOn_20 ⟨Nat.le_of_ble_eq_true rfl, Nat.le_of_ble_eq_true rfl⟩ ⟨Nat.le_of_ble_eq_true rfl, Nat.le_of_ble_eq_true rfl⟩ rfl rfl rfl rfl rfl (Nat.le_of_ble_eq_true rfl) ?_
    rintro _ rfl
    refine zr_iconst (v := (0 : Int32)) hC dX3_runsOn_23 rfl ?_
    refine zr_zret hC hr hk dX3_runsOn_24 rfl (by decide) (by decide) ⟨_, rfl, ?_⟩
    exact Or.inl ⟨h1, rfl, rfl⟩
set_option maxRecDepth 100000 in
set_option maxHeartbeats 4000000 in
theorem c_X3_tick (hR : rc_R cI cII a x) : zz_Mi l D (zt cI cII cF) yX3_tick cX3_tick 4 (some .int) 5 110 0 0 [.ref o] (cw_W o rk sp pp fp cII cF a x) (fun r w' => zp_c o rk sp pp fp cI cII cF (zo_tick a) r w') := by
  refine zz_mk (by decide) (Nat.le_of_ble_eq_true rfl) ?_
  intro p e s m below meth c A hC hr hk hnm
  have hC : zz_C p s m _ c A D (zt cI cII cF) 4 cX3_tick RX3 := hC
  refine zr_iconst (v := (0 : Int32)) hC dX3_tick_0 rfl ?_
  refine zr_istore_n (lv' := [(1, .int (0 : Int32)), (0, .ref o)]) hC dX3_tick_1 rfl (by decide) rfl ?_
  refine zr_iconst (v := (0 : Int32)) hC dX3_tick_2 rfl ?_
  refine zr_istore_n (lv' := [(2, .int (0 : Int32)), (1, .int (0 : Int32)), (0, .ref o)]) hC dX3_tick_3 rfl (by decide) rfl ?_
  refine zr_sub [1, 0, 2] rfl ?_
  refine zr_loop (σ := Nat × Int32 × Int32 × ax_FD × ax_FD × ax_A × cx_X) (fun t => [(1, .int t.2.1), (2, .int t.2.2.1), (0, .ref o)]) (fun t => cw_W o rk sp pp fp cII cF t.2.2.2.2.2.1 t.2.2.2.2.2.2) (fun t => t.2.1 = nI t.2.2.2.2.1.length ∧ t.2.2.1 = nI t.1 ∧ t.2.2.2.2.1.length ≤ t.1 ∧ t.1 + t.2.2.2.1.length = (aa_fd a).length ∧ cx_run t.2.2.2.2.2.2 = nI (aa_fd a).length ∧ rc_Q cI cII t.2.2.2.2.2.1 t.2.2.2.2.2.2 ∧ rc_F t.2.2.2.1 (cx_g t.2.2.2.2.2.2) (cx_L t.2.2.2.2.2.2) (cx_ent t.2.2.2.2.2.2) t.1 ∧ rc_F t.2.2.2.2.1 (cx_g t.2.2.2.2.2.2) (cx_L t.2.2.2.2.2.2) (cx_ent t.2.2.2.2.2.2) 0 ∧ zf_tick (aa_fd a) [] a = zf_tick t.2.2.2.1 t.2.2.2.2.1 t.2.2.2.2.2.1) (fun t => t.2.2.2.1.length) ?_ (0, 0, 0, aa_fd a, [], a, x) ⟨rfl, rfl, Nat.le_refl _, Nat.zero_add _, hR.2.2.1, hR.1, hR.2.1, rc_F_nil, rfl⟩
  rintro ⟨j, i1, i2, rest, kept, a1, x1⟩ ⟨hi1, hi2, hkj, hN, hrun, hQ1, hFr, hFk, hsp⟩ ih
  try dsimp only at hi1
  try dsimp only at hi2
  try dsimp only at hkj
  try dsimp only at hN
  try dsimp only at hrun
  try dsimp only at hQ1
  try dsimp only at hFr
  try dsimp only at hFk
  try dsimp only at hsp
  show zz_Z _ _ _ _ _ _ _ _ _ _ _ _ _ _ 4 [(1, .int i1), (2, .int i2), (0, .ref o)] [] (cw_W o rk sp pp fp cII cF a1 x1) 0 0
  refine zr_iload_n 1 hC dX3_tick_4 rfl rfl ?_
  refine zr_aload_n 2 hC dX3_tick_5 rfl rfl ?_
  refine zr_get (v := .int (cx_run x1)) 0 3 hC iu_X3 rfl dX3_tick_6 fl_X3_83 (by decide) rfl rfl ?_
  refine zr_icmp_ge (tgt := 47) hC dX3_tick_9 (by decide) (fun c9 => ?_) (fun c9 => ?_)
  · have hend : rest = [] := by
      rw [hi2, hrun] at c9
      have := (nI_leI (by have := hR.2.2.2; omega) (by have := hR.2.2.2; omega)).mp c9
      exact List.eq_nil_of_length_eq_zero (by omega)
    subst hend
    refine zr_aload_n 2 hC dX3_tick_47 rfl rfl ?_
    refine zr_iload_n 0 hC dX3_tick_48 rfl rfl ?_
    refine zr_put (w' := (cw_W o rk sp pp fp cII cF a1 (ck_run x1 i1))) 0 3 hC iu_X3 tyX3_ok nmX3 rfl dX3_tick_49 fl_X3_83 (by decide) rfl rfl rfl rfl (Nat.le_of_ble_eq_true rfl) rfl ?_
    refine zr_aload_n 2 hC dX3_tick_52 rfl rfl ?_
    refine zr_iconst (v := (0 : Int32)) hC dX3_tick_53 rfl ?_
    refine zr_aload_n 2 hC dX3_tick_54 rfl rfl ?_
    refine zr_get (v := .int i1) 0 3 hC iu_X3 rfl dX3_tick_55 fl_X3_83 (by decide) rfl rfl ?_
    refine zr_cVi 0 hC cv_X3_leave ml_X3_36 (c_X3_leave (a := a1) (x := (ck_run x1 i1)) (0 : Int32) i1) dX3_tick_58 ⟨Nat.le_of_ble_eq_true rfl, Nat.le_of_ble_eq_true rfl⟩ ⟨Nat.le_of_ble_eq_true rfl, Nat.le_of_ble_eq_true rfl⟩ rfl rfl rfl rfl rfl (Nat.le_of_ble_eq_true rfl) ?_
    rintro rr _ ⟨hrr, rfl⟩
    subst rr
    refine zr_iret hC hr hk dX3_tick_61 (by decide) (by decide) ⟨_, rfl, ?_⟩
    exact zp_mw (a' := as_sta (as_fd a1 kept) 0) (x' := ck_run x1 i1) (by show (nI (zf_tick (aa_fd a) [] a).1.length, as_sta (as_fd (zf_tick (aa_fd a) [] a).2 (zf_tick (aa_fd a) [] a).1) 0) = _; rw [hsp, hi1]; rfl) ⟨hQ1, hFk, hi1, by show kept.length ≤ 16; have := hR.2.2.2; omega⟩ rfl
  · obtain ⟨⟨b, p0, t0, s0⟩, rest, rfl⟩ : ∃ q r, rest = q :: r := by
      cases rest with
      | nil =>
        refine absurd ?_ c9
        rw [hi2, hrun, ← hN]
        exact nI_le (by simp) (by have := hR.2.2.2; simp at hN; omega)
      | cons q r => exact ⟨q, r, rfl⟩
    obtain ⟨hb, y, hgy, hyL, hey⟩ := rc_F_head hFr
    have hj16 : j < 16 := by
      have := hR.2.2.2
      simp at hN
      omega
    refine zr_aload_n 2 hC dX3_tick_12 rfl rfl ?_
    refine zr_get (v := .ref fp) 0 2 hC iu_X3 rfl dX3_tick_13 fl_X3_25 (by decide) rfl rfl ?_
    refine zr_iload_n 1 hC dX3_tick_16 rfl rfl ?_
    refine zr_aaj (f := cx_g x1) (j := j) 4 2 hC dX3_tick_17 rfl rfl rfl hj16 hi2 (by decide) ?_
    refine zr_rfs hgy ?_
    refine zr_astore_n (lv' := [(3, .ref y), (1, .int i1), (2, .int i2), (0, .ref o)]) hC dX3_tick_18 rfl (by decide) rfl ?_
    refine zr_aload_n 0 hC dX3_tick_19 rfl rfl ?_
    refine zr_ifnull hC dX3_tick_20 ?_
    refine zr_aload_n 3 hC dX3_tick_23 rfl rfl ?_
    refine zr_aload_n 0 hC dX3_tick_24 rfl rfl ?_
    refine zr_cVi 0 hC cv_X3_runsOn ml_X3_89 (c_X3_runsOn (a := a1) (x := x1) hQ1 hyL hey hb) dX3_tick_25 ⟨Nat.le_of_ble_eq_true rfl, Nat.le_of_ble_eq_true rfl⟩ ⟨Nat.le_of_ble_eq_true rfl, Nat.le_of_ble_eq_true rfl⟩ rfl rfl rfl rfl rfl (Nat.le_of_ble_eq_true rfl) ?_
    rintro _ _ (⟨hw, rfl, rfl⟩ | ⟨hw, x2, hK2, ⟨hl2, rfl, rfl, hQ2⟩ | ⟨hl2, rfl, rfl, hQ2⟩⟩)
    · refine zr_if_eqT (tgt := 41) hC dX3_tick_28 (by decide) (by decide) ?_
      have hQd : rc_Q cI cII (if zf_why (aa_st a1) (zl b 2) p0 = 2 then as_dm (zf_cnt (zf_why (aa_st a1) (zl b 2) p0) a1) (aa_dm a1 + 1) else as_dO (zf_cnt (zf_why (aa_st a1) (zl b 2) p0) a1) (aa_dO a1 + 1)) x1 := by
        by_cases h2 : zf_why (aa_st a1) (zl b 2) p0 = 2
        · rw [if_pos h2]; exact hQ1
        · rw [if_neg h2]; exact hQ1
      have hspd : zf_tick (aa_fd a) [] a = zf_tick rest kept (if zf_why (aa_st a1) (zl b 2) p0 = 2 then as_dm (zf_cnt (zf_why (aa_st a1) (zl b 2) p0) a1) (aa_dm a1 + 1) else as_dO (zf_cnt (zf_why (aa_st a1) (zl b 2) p0) a1) (aa_dO a1 + 1)) := by
        rw [hsp]; show (if _ then (if _ then _ else _) else if _ then _ else _) = _; rw [if_neg hw]
        by_cases h2 : zf_why (aa_st a1) (zl b 2) p0 = 2
        · rw [if_pos h2, if_pos h2, h2]
        · rw [if_neg h2, if_neg h2]
      refine zr_iinc (v := (i2 + 1)) (lv' := [(2, .int (i2 + 1)), (3, .ref y), (1, .int i1), (0, .ref o)]) 2 hC dX3_tick_41 rfl rfl (by decide) rfl ?_
      refine zr_goto (tgt := 4) hC dX3_tick_44 (by decide) ?_
      refine zr_sub [2, 0, 3] rfl ?_
      exact ih (j + 1, i1, i2 + 1, rest, kept, (if zf_why (aa_st a1) (zl b 2) p0 = 2 then as_dm (zf_cnt (zf_why (aa_st a1) (zl b 2) p0) a1) (aa_dm a1 + 1) else as_dO (zf_cnt (zf_why (aa_st a1) (zl b 2) p0) a1) (aa_dO a1 + 1)), x1) ⟨hi1, by show i2 + 1 = nI (j + 1); rw [hi2, nI_1], by show kept.length ≤ j + 1; omega, by show j + 1 + rest.length = _; simp at hN; omega, hrun, hQd, rc_F_tail hFr, hFk, hspd⟩ (by show rest.length < ((b, p0, t0, s0) :: rest).length; simp)
    · refine zr_if_eqT (tgt := 41) hC dX3_tick_28 (by decide) (by decide) ?_
      refine zr_iinc (v := (i2 + 1)) (lv' := [(2, .int (i2 + 1)), (3, .ref y), (1, .int i1), (0, .ref o)]) 2 hC dX3_tick_41 rfl rfl (by decide) rfl ?_
      refine zr_goto (tgt := 4) hC dX3_tick_44 (by decide) ?_
      refine zr_sub [2, 0, 3] rfl ?_
      exact ih (j + 1, i1, i2 + 1, rest, kept, as_re (zf_set a1 (zl b 2) p0 (zf_num 2 (zf_next t0 s0 (zf_val (aa_st a1) (zl b 2) p0)))) (aa_re a1 + 1), x2) ⟨hi1, by show i2 + 1 = nI (j + 1); rw [hi2, nI_1], by show kept.length ≤ j + 1; omega, by show j + 1 + rest.length = _; simp at hN; omega, hK2.1.trans hrun, hQ2, by show rc_F _ (cx_g x2) _ _ _; rw [hK2.2.1]; exact (rc_F_tail hFr).keep hK2, by show rc_F _ (cx_g x2) _ _ _; rw [hK2.2.1]; exact hFk.keep hK2, by rw [hsp]; show (if _ then (if _ then _ else _) else if _ then _ else _) = _; rw [if_pos hw, if_pos hl2, zf_num2]⟩ (by show rest.length < ((b, p0, t0, s0) :: rest).length; simp)
    · refine zr_if_eqF (tgt := 41) hC dX3_tick_28 (by decide) (by decide) ?_
      refine zr_aload_n 3 hC dX3_tick_31 rfl rfl ?_
      refine zr_get (v := .ref fp) 0 2 hC iu_X3 rfl dX3_tick_32 fl_X3_25 (by decide) rfl rfl ?_
      refine zr_iload_n 1 hC dX3_tick_35 rfl rfl ?_
      refine zr_aload_n 0 hC dX3_tick_36 rfl rfl ?_
      obtain ⟨kq, hkq⟩ := cw_get (o := o) (rk := rk) (sp := sp) (pp := pp) (fp := fp) (cII := cII) (cF := cF) (a := (zf_set a1 (zl b 2) p0 (zf_num 2 (zf_next t0 s0 (zf_val (aa_st a1) (zl b 2) p0))))) (x := x2) (hK2.2.2.1 y hyL) (hK2.2.2.2 y _ hyL hey)
      refine zr_asjq (f := cx_g x2) (j := kept.length) (w' := (cw_W o rk sp pp fp cII cF (zf_set a1 (zl b 2) p0 (zf_num 2 (zf_next t0 s0 (zf_val (aa_st a1) (zl b 2) p0)))) (ck_g x2 (va_up (cx_g x2) kept.length (some y))))) 4 2 kq hC dX3_tick_37 rfl rfl hkq rfl (by omega) hi1 (by decide) rfl ?_
      have hr2 : rc_F rest (cx_g x2) (cx_L x2) (cx_ent x2) (j + 1) := by rw [hK2.2.1]; exact (rc_F_tail hFr).keep hK2
      have hk2F : rc_F kept (cx_g x2) (cx_L x2) (cx_ent x2) 0 := by rw [hK2.2.1]; exact hFk.keep hK2
      refine zr_iinc (v := (i1 + 1)) (lv' := [(1, .int (i1 + 1)), (3, .ref y), (2, .int i2), (0, .ref o)]) 1 hC dX3_tick_38 rfl rfl (by decide) rfl ?_
      refine zr_iinc (v := (i2 + 1)) (lv' := [(2, .int (i2 + 1)), (1, .int (i1 + 1)), (3, .ref y), (0, .ref o)]) 2 hC dX3_tick_41 rfl rfl (by decide) rfl ?_
      refine zr_goto (tgt := 4) hC dX3_tick_44 (by decide) ?_
      refine zr_sub [1, 0, 3] rfl ?_
      exact ih (j + 1, i1 + 1, i2 + 1, rest, kept ++ [(b, p0, t0, s0)], (zf_set a1 (zl b 2) p0 (zf_num 2 (zf_next t0 s0 (zf_val (aa_st a1) (zl b 2) p0)))), (ck_g x2 (va_up (cx_g x2) kept.length (some y)))) ⟨by show i1 + 1 = nI (kept ++ [(b, p0, t0, s0)]).length; rw [hi1, nI_1, List.length_append]; rfl, by show i2 + 1 = nI (j + 1); rw [hi2, nI_1], by show (kept ++ [(b, p0, t0, s0)]).length ≤ j + 1; rw [List.length_append]; show kept.length + 1 ≤ j + 1; omega, by show j + 1 + rest.length = _; simp at hN; omega, hK2.1.trans hrun, hQ2, rc_F_up hr2 (by omega), rc_F_snoc hk2F hb (hK2.2.2.1 y hyL) (hK2.2.2.2 y _ hyL hey), by rw [hsp]; show (if _ then (if _ then _ else _) else if _ then _ else _) = _; rw [if_pos hw, if_neg hl2, zf_num2]⟩ (by show rest.length < ((b, p0, t0, s0) :: rest).length; simp)
set_option maxRecDepth 100000 in
set_option maxHeartbeats 4000000 in
theorem c_X3_sheet (hR : rc_R cI cII a x) (n m0 : Int32) : zz_Mi l D (zt cI cII cF) yX3_sheet cX3_sheet 5 (some .int) 1 22 13 156 [.ref o, .int n, .int m0] (cw_W o rk sp pp fp cII cF a x) (fun r w' => zp_c o rk sp pp fp cI cII cF (zo_sheet a n m0) r w') := by
  refine zz_mk (by decide) (Nat.le_of_ble_eq_true rfl) ?_
  intro p e s m below meth c A hC hr hk hnm
  have hC : zz_C p s m _ c A D (zt cI cII cF) 5 cX3_sheet RX3 := hC
  refine zr_iload_n 1 hC dX3_sheet_0 rfl rfl ?_
  refine zr_bipush (v := (12 : Int32)) hC dX3_sheet_1 rfl ?_
  refine zr_icmp_gt (tgt := 12) hC dX3_sheet_3 (by decide) (fun c3 => ?_) (fun c3 => ?_)
  · refine zr_aload_n 0 hC dX3_sheet_12 rfl rfl ?_
    refine zr_iconst (v := (5 : Int32)) hC dX3_sheet_13 rfl ?_
    refine zr_iconst (v := (0 : Int32)) hC dX3_sheet_14 rfl ?_
    refine zr_cVi 0 hC cv_X3_leave ml_X3_36 (c_X3_leave (a := a) (x := x) (5 : Int32) (0 : Int32)) dX3_sheet_15 ⟨Nat.le_of_ble_eq_true rfl, Nat.le_of_ble_eq_true rfl⟩ ⟨Nat.le_of_ble_eq_true rfl, Nat.le_of_ble_eq_true rfl⟩ rfl rfl rfl rfl rfl (Nat.le_of_ble_eq_true rfl) ?_
    rintro rr _ ⟨hrr, rfl⟩
    subst rr
    refine zr_iret hC hr hk dX3_sheet_18 (by decide) (by decide) ⟨_, rfl, ?_⟩
    exact zp_mk (if_neg (fun h => absurd h.1 (Int32.not_le.mpr c3))) hR
  · refine zr_iload_n 2 hC dX3_sheet_6 rfl rfl ?_
    refine zr_bipush (v := (12 : Int32)) hC dX3_sheet_7 rfl ?_
    refine zr_icmp_le (tgt := 19) hC dX3_sheet_9 (by decide) (fun c9 => ?_) (fun c9 => ?_)
    · refine zr_iload_n 1 hC dX3_sheet_19 rfl rfl ?_
      refine zr_if_lt (tgt := 27) hC dX3_sheet_20 (by decide) (fun c20 => ?_) (fun c20 => ?_)
      · refine zr_aload_n 0 hC dX3_sheet_27 rfl rfl ?_
        refine zr_aload_n 0 hC dX3_sheet_28 rfl rfl ?_
        refine zr_iconst (v := (4 : Int32)) hC dX3_sheet_29 rfl ?_
        refine zr_cVi 0 hC cv_X3_counted ml_X3_40 (c_X3_counted (a := a) (x := x) (4 : Int32)) dX3_sheet_30 ⟨Nat.le_of_ble_eq_true rfl, Nat.le_of_ble_eq_true rfl⟩ ⟨Nat.le_of_ble_eq_true rfl, Nat.le_of_ble_eq_true rfl⟩ rfl rfl rfl rfl rfl (Nat.le_of_ble_eq_true rfl) ?_
        rintro _ _ ⟨rfl, rfl⟩
        refine zr_iconst (v := (0 : Int32)) hC dX3_sheet_33 rfl ?_
        refine zr_cVi 0 hC cv_X3_leave ml_X3_36 (c_X3_leave (a := (zf_cnt (4 : Int32) a)) (x := x) (4 : Int32) (0 : Int32)) dX3_sheet_34 ⟨Nat.le_of_ble_eq_true rfl, Nat.le_of_ble_eq_true rfl⟩ ⟨Nat.le_of_ble_eq_true rfl, Nat.le_of_ble_eq_true rfl⟩ rfl rfl rfl rfl rfl (Nat.le_of_ble_eq_true rfl) ?_
        rintro rr _ ⟨hrr, rfl⟩
        subst rr
        refine zr_iret hC hr hk dX3_sheet_37 (by decide) (by decide) ⟨_, rfl, ?_⟩
        exact zp_mk (by unfold zo_sheet; rw [if_pos ⟨Int32.not_lt.mp c3, c9⟩, if_neg (fun h => absurd h.1 (Int32.not_le.mpr c20))]) hR
      · refine zr_iload_n 2 hC dX3_sheet_23 rfl rfl ?_
        refine zr_if_ge (tgt := 38) hC dX3_sheet_24 (by decide) (fun c24 => ?_) (fun c24 => ?_)
        · refine zr_iload_n 1 hC dX3_sheet_38 rfl rfl ?_
          obtain ⟨N, hN, rfl⟩ := zn_of (n := 13) (M := 13) (by decide) ⟨Int32.not_lt.mp c20, Int32.lt_of_le_of_lt (Int32.not_lt.mp c3) (by decide)⟩
          obtain ⟨M, hM, rfl⟩ := zn_of (n := 13) (M := 13) (by decide) ⟨c24, Int32.lt_of_le_of_lt c9 (by decide)⟩
          refine zr_newA (N' := N) 1 hC dX3_sheet_39 cl_X3_93 rfl (nI_pos (by omega)) (nI_clamp (by omega)) (by omega) (by decide) (by show 0 + N ≤ 156; omega) (fun qa hDq => ?_)
          obtain ⟨hqaL, hpush⟩ := cw_push hDq
          refine zr_eq rfl hpush ?_
          refine zr_astore_n (lv' := [(3, .ref qa), (0, .ref o), (1, .int (nI N)), (2, .int (nI M))]) hC dX3_sheet_42 rfl (by decide) rfl ?_
          refine zr_iconst (v := (0 : Int32)) hC dX3_sheet_43 rfl ?_
          refine zr_istore (lv' := [(4, .int (0 : Int32)), (3, .ref qa), (0, .ref o), (1, .int (nI N)), (2, .int (nI M))]) hC dX3_sheet_44 (by decide) rfl ?_
          refine zr_wide (k := 1 + 0) (n := N + 0 * M) (by omega) (by omega) ?_
          have hrw0 : ¬ cx_rw x = some qa := fun h => hqaL (hR.1.2.2 qa h).1
          refine zr_loopC (σ := Nat × Int32 × cx_X × (Nat → Option Nat)) (fun t => [(4, .int t.2.1), (3, .ref qa), (0, .ref o), (1, .int (nI N)), (2, .int (nI M))]) (fun t => cw_W o rk sp pp fp cII cF a t.2.2.1) (fun t => 1 + t.1) (fun t => N + t.1 * M) (fun t => t.1 ≤ N ∧ t.2.1 = nI t.1 ∧ rc_U cI cII x qa N M t.1 t.2.2.1 t.2.2.2 ∧ rc_Q cI cII a t.2.2.1) (fun t => N - t.1) ?_ (0, 0, ck_ent (ck_L x (cx_L x ++ [qa])) (va_up (cx_ent x) qa (ze_q cII N (fun _ => none))), fun _ => none) ⟨Nat.zero_le _, rfl, ⟨cx_K.new hqaL, rfl, rfl, hrw0, List.mem_append_right _ (List.mem_singleton.mpr rfl), va_up_self _ _ _, fun j h => absurd h (Nat.not_lt_zero _), fun i j h => absurd h (Nat.not_lt_zero _)⟩, hR.1.grow _ hqaL⟩
          rintro ⟨k, i1, x1, hh⟩ ⟨hk1, hk2, hU, hQ1⟩ ih
          try dsimp only at hk1
          try dsimp only at hk2
          try dsimp only at hU
          try dsimp only at hQ1
          show zz_Z _ _ _ _ _ _ _ _ _ _ _ _ _ _ 46 [(4, .int i1), (3, .ref qa), (0, .ref o), (1, .int (nI N)), (2, .int (nI M))] [] (cw_W o rk sp pp fp cII cF a x1) (1 + k) (N + k * M)
          refine zr_iload 0 hC dX3_sheet_46 rfl ?_
          refine zr_iload_n 3 hC dX3_sheet_48 rfl rfl ?_
          refine zr_icmp_ge (tgt := 65) hC dX3_sheet_49 (by decide) (fun c49 => ?_) (fun c49 => ?_)
          · have hend : k = N := by
              rw [hk2] at c49
              have := (nI_leI (a := N) (by omega) (by omega)).mp c49
              omega
            refine zr_wide (k := 13) (n := 156) (by omega) (by have h1 : k * M ≤ 12 * 12 := Nat.mul_le_mul (by omega) (by omega); omega) ?_
            refine zr_aload_n 2 hC dX3_sheet_65 rfl rfl ?_
            refine zr_get (v := .ref pp) 0 1 hC iu_X3 rfl dX3_sheet_66 fl_X3_19 (by decide) rfl rfl ?_
            refine zr_aload_n 1 hC dX3_sheet_69 rfl rfl ?_
            refine zr_cVv 3 hC cv_X1_replace ml_X3_95 (c_X1_replace (a := a) (x := x1) (q := qa)) dX3_sheet_70 ⟨Nat.le_of_ble_eq_true rfl, Nat.le_of_ble_eq_true rfl⟩ ⟨Nat.le_of_ble_eq_true rfl, Nat.le_of_ble_eq_true rfl⟩ rfl rfl rfl rfl rfl (Nat.le_of_ble_eq_true rfl) ?_
            rintro _ rfl
            refine zr_aload_n 2 hC dX3_sheet_73 rfl rfl ?_
            refine zr_iconst (v := (0 : Int32)) hC dX3_sheet_74 rfl ?_
            refine zr_iload_n 3 hC dX3_sheet_75 rfl rfl ?_
            refine zr_iload_n 4 hC dX3_sheet_76 rfl rfl ?_
            refine zr_imul hC dX3_sheet_77 ?_
            refine zr_cVi 0 hC cv_X3_leave ml_X3_36 (c_X3_leave (a := a) (x := (ck_rw x1 (some qa))) (0 : Int32) ((nI N) * (nI M))) dX3_sheet_78 ⟨Nat.le_of_ble_eq_true rfl, Nat.le_of_ble_eq_true rfl⟩ ⟨Nat.le_of_ble_eq_true rfl, Nat.le_of_ble_eq_true rfl⟩ rfl rfl rfl rfl rfl (Nat.le_of_ble_eq_true rfl) ?_
            rintro rr _ ⟨hrr, rfl⟩
            subst rr
            refine zr_iret hC hr hk dX3_sheet_81 (by decide) (by decide) ⟨_, rfl, ?_⟩
            exact zp_mw (a' := as_sta (as_sh a (zf_sheetS N M)) 0) (x' := (ck_rw x1 (some qa))) (by unfold zo_sheet; rw [if_pos ⟨Int32.not_lt.mp c3, c9⟩, if_pos ⟨Int32.not_lt.mp c20, c24⟩, nI_clamp (by omega), nI_clamp (by omega)]) (hR.of (rc_sheet (a := a) (by rw [hend] at hU; exact hU) hQ1 (by omega) (by omega)) hU.1 rfl) rfl
          · have hlt : k < N := by
              rcases Nat.lt_or_ge k N with h0 | h0
              · exact h0
              · exact absurd (by rw [hk2]; exact nI_le h0 (by omega)) c49
            refine zr_aload_n 1 hC dX3_sheet_52 rfl rfl ?_
            refine zr_iload 0 hC dX3_sheet_53 rfl ?_
            refine zr_iload_n 4 hC dX3_sheet_55 rfl rfl ?_
            have hslot : N + k * M + M ≤ 156 := by
              have h1 : (k + 1) * M ≤ 12 * 12 := Nat.mul_le_mul (by omega) (by omega)
              rw [Nat.succ_mul] at h1
              omega
            refine zr_newa (N' := M) 0 hC dX3_sheet_56 ac_int rfl (nI_pos (by omega)) (nI_clamp (by omega)) (by omega) (by show 1 + k + 1 ≤ 13; omega) hslot (fun q hDq => ?_)
            obtain ⟨hqL, hpush⟩ := cw_push hDq
            refine zr_eq rfl hpush ?_
            have hqq : qa ≠ q := fun e0 => hqL (e0 ▸ hU.2.2.2.2.1)
            have hea : va_up (cx_ent x1) q (ze_i cI M (fun _ => 0)) qa = ze_q cII N hh := (va_up_ne _ _ hqq).trans hU.2.2.2.2.2.1
            obtain ⟨ka, hka⟩ := cw_get (o := o) (rk := rk) (sp := sp) (pp := pp) (fp := fp) (cII := cII) (cF := cF) (a := a) (x := (ck_ent (ck_L x1 (cx_L x1 ++ [q])) (va_up (cx_ent x1) q (ze_i cI M (fun _ => 0))))) (q := qa) (E := ze_q cII N hh) (List.mem_append_left _ hU.2.2.2.2.1) hea
            obtain ⟨kq, hkq⟩ := cw_get (o := o) (rk := rk) (sp := sp) (pp := pp) (fp := fp) (cII := cII) (cF := cF) (a := a) (x := (ck_ent (ck_L x1 (cx_L x1 ++ [q])) (va_up (cx_ent x1) q (ze_i cI M (fun _ => 0))))) (q := q) (E := ze_i cI M (fun _ => 0)) (List.mem_append_right _ (List.mem_singleton.mpr rfl)) (va_up_self _ _ _)
            refine zr_apart (fun hD9 => ?_)
            refine zr_asjA (j := k) (w' := (cw_W o rk sp pp fp cII cF a (ck_ent (ck_ent (ck_L x1 (cx_L x1 ++ [q])) (va_up (cx_ent x1) q (ze_i cI M (fun _ => 0)))) (va_up (va_up (cx_ent x1) q (ze_i cI M (fun _ => 0))) qa (ze_q cII N (va_up hh k (some q))))))) ka 1 0 kq hC dX3_sheet_58 hka rfl hkq rfl hlt hk2 (by omega) (cw_set (List.mem_append_left _ hU.2.2.2.2.1) hea hka hD9) ?_
            refine zr_iinc (v := (i1 + 1)) (lv' := [(4, .int (i1 + 1)), (3, .ref qa), (0, .ref o), (1, .int (nI N)), (2, .int (nI M))]) 0 hC dX3_sheet_59 rfl rfl (by decide) rfl ?_
            refine zr_goto (tgt := 46) hC dX3_sheet_62 (by decide) ?_
            refine zr_wide (k := 1 + (k + 1)) (n := N + (k + 1) * M) (by omega) (by rw [Nat.succ_mul]; omega) ?_
            exact ih (k + 1, i1 + 1, (ck_ent (ck_ent (ck_L x1 (cx_L x1 ++ [q])) (va_up (cx_ent x1) q (ze_i cI M (fun _ => 0)))) (va_up (va_up (cx_ent x1) q (ze_i cI M (fun _ => 0))) qa (ze_q cII N (va_up hh k (some q))))), va_up hh k (some q)) ⟨by show k + 1 ≤ N; omega, by show i1 + 1 = nI (k + 1); rw [hk2, nI_1], (rc_U.step hR.1 hU hQ1 hqL).1, (rc_U.step hR.1 hU hQ1 hqL).2⟩ (by show N - (k + 1) < N - k; omega)
        · refine zr_aload_n 0 hC dX3_sheet_27 rfl rfl ?_
          refine zr_aload_n 0 hC dX3_sheet_28 rfl rfl ?_
          refine zr_iconst (v := (4 : Int32)) hC dX3_sheet_29 rfl ?_
          refine zr_cVi 0 hC cv_X3_counted ml_X3_40 (c_X3_counted (a := a) (x := x) (4 : Int32)) dX3_sheet_30 ⟨Nat.le_of_ble_eq_true rfl, Nat.le_of_ble_eq_true rfl⟩ ⟨Nat.le_of_ble_eq_true rfl, Nat.le_of_ble_eq_true rfl⟩ rfl rfl rfl rfl rfl (Nat.le_of_ble_eq_true rfl) ?_
          rintro _ _ ⟨rfl, rfl⟩
          refine zr_iconst (v := (0 : Int32)) hC dX3_sheet_33 rfl ?_
          refine zr_cVi 0 hC cv_X3_leave ml_X3_36 (c_X3_leave (a := (zf_cnt (4 : Int32) a)) (x := x) (4 : Int32) (0 : Int32)) dX3_sheet_34 ⟨Nat.le_of_ble_eq_true rfl, Nat.le_of_ble_eq_true rfl⟩ ⟨Nat.le_of_ble_eq_true rfl, Nat.le_of_ble_eq_true rfl⟩ rfl rfl rfl rfl rfl (Nat.le_of_ble_eq_true rfl) ?_
          rintro rr _ ⟨hrr, rfl⟩
          subst rr
          refine zr_iret hC hr hk dX3_sheet_37 (by decide) (by decide) ⟨_, rfl, ?_⟩
          exact zp_mk (by unfold zo_sheet; rw [if_pos ⟨Int32.not_lt.mp c3, c9⟩, if_neg (fun h => absurd h.2 c24)]) hR
    · refine zr_aload_n 0 hC dX3_sheet_12 rfl rfl ?_
      refine zr_iconst (v := (5 : Int32)) hC dX3_sheet_13 rfl ?_
      refine zr_iconst (v := (0 : Int32)) hC dX3_sheet_14 rfl ?_
      refine zr_cVi 0 hC cv_X3_leave ml_X3_36 (c_X3_leave (a := a) (x := x) (5 : Int32) (0 : Int32)) dX3_sheet_15 ⟨Nat.le_of_ble_eq_true rfl, Nat.le_of_ble_eq_true rfl⟩ ⟨Nat.le_of_ble_eq_true rfl, Nat.le_of_ble_eq_true rfl⟩ rfl rfl rfl rfl rfl (Nat.le_of_ble_eq_true rfl) ?_
      rintro rr _ ⟨hrr, rfl⟩
      subst rr
      refine zr_iret hC hr hk dX3_sheet_18 (by decide) (by decide) ⟨_, rfl, ?_⟩
      exact zp_mk (if_neg (fun h => absurd h.2 c9)) hR
end ZA9
end
section
section ZA10
variable {l : Launch} {D : va_G} {cI cII cF : ClassId} {o rk sp pp fp mo m1 m2 m3 m4 m5 m6 m7 m8 m9 : Nat}
/-- the state of a new object -/
def ax_0 : ax_A := ((fun _ => none, fun _ _ => 0, fun _ _ => false), (none, fun _ => false, fun _ _ => 0, fun _ _ => false), [], 0, 0, 0, 0, 0, 0, 0, 0, 0)
def cx_0 : cx_X := (0, 0, fun _ => none, fun _ => none, none, [], fun _ => .inr (0, []))
theorem rc_0 (cI cII : ClassId) : rc_R cI cII ax_0 cx_0 := by
  refine ⟨⟨⟨fun k _ => ⟨fun _ => rfl, fun _ => rfl⟩, fun k q _ h => (by cases h), fun j k _ _ h => absurd rfl h⟩, ⟨fun _ => rfl, fun _ => rfl⟩, fun q h => (by cases h)⟩, fun j q h => (by cases h), rfl, Nat.zero_le _⟩
set_option maxRecDepth 100000 in
set_option maxHeartbeats 4000000 in
theorem c_X1_init {w : va_W} {q : Nat} : zz_Mv l D (zt cI cII cF) yX1_init cX1_init 1 none 1 20 0 0 [.ref q] w (fun w' => w' = w) := by
  refine zz_mk (by decide) (Nat.le_of_ble_eq_true rfl) ?_
  intro p e s m below meth c A hC hr hk hnm
  have hC : zz_C p s m _ c A D (zt cI cII cF) 1 cX1_init RX1 := hC
  refine zr_aload_n 0 hC dX1_init_0 rfl rfl ?_
  refine zr_objInit hC dX1_init_1 ml_X1_3 oi_inst oi_code (by decide) (Nat.le_of_ble_eq_true rfl) ?_
  refine zr_vret hC hr hk dX1_init_4 (by decide) (by decide) ⟨rfl, ?_⟩
  exact rfl
set_option maxRecDepth 100000 in
set_option maxHeartbeats 4000000 in
theorem c_X2_init {o q : Nat} {E0 : va_E} : zz_Mv l D (zt cI cII cF) yX2_init cX2_init 1 none 1 20 1 24 [.ref q] [(o, E0), (q, .inr (2, [.null, .int 0]))] (fun w' => ∃ sp, w' = [(o, E0), (q, .inr (2, [.ref sp, .int 0])), (sp, ze_q cII 24 (fun _ => none))]) := by
  refine zz_mk (by decide) (Nat.le_of_ble_eq_true rfl) ?_
  intro p e s m below meth c A hC hr hk hnm
  have hC : zz_C p s m _ c A D (zt cI cII cF) 1 cX2_init RX2 := hC
  refine zr_aload_n 0 hC dX2_init_0 rfl rfl ?_
  refine zr_objInit hC dX2_init_1 ml_X2_3 oi_inst oi_code (by decide) (Nat.le_of_ble_eq_true rfl) ?_
  refine zr_aload_n 0 hC dX2_init_4 rfl rfl ?_
  refine zr_bipush (v := (24 : Int32)) hC dX2_init_5 rfl ?_
  refine zr_newA (N' := 24) 1 hC dX2_init_7 cl_X2_9 rfl (by decide) (by decide) (by decide) (by decide) (by decide) (fun sp hDq => ?_)
  refine zr_putF (w' := [(o, E0), (q, .inr (2, [.ref sp, .int 0])), (sp, ze_q cII 24 (fun _ => none))]) 1 0 hC iu_X2 tyX2_ok nmX2 rfl dX2_init_10 fl_X2_11 (by decide) rfl hnm rfl rfl rfl rfl (Nat.le_of_ble_eq_true rfl) rfl ?_
  refine zr_vret hC hr hk dX2_init_13 (by decide) (by decide) ⟨rfl, ?_⟩
  exact ⟨sp, rfl⟩
set_option maxRecDepth 100000 in
set_option maxHeartbeats 4000000 in
theorem c_X3_init {o : Nat} : zz_Mv l D (zt cI cII cF) yX3_init cX3_init 1 none 2 40 4 44 [.ref o] [(o, .inr (3, [.null, .null, .null, .int 0, .int 0, .int 0, .int 0, .int 0, .int 0, .int 0, .int 0, .int 0]))] (fun w' => ∃ rk sp pp fp, w' = cw_W o rk sp pp fp cII cF ax_0 cx_0) := by
  refine zz_mk (by decide) (Nat.le_of_ble_eq_true rfl) ?_
  intro p e s m below meth c A hC hr hk hnm
  have hC : zz_C p s m _ c A D (zt cI cII cF) 1 cX3_init RX3 := hC
  refine zr_aload_n 0 hC dX3_init_0 rfl rfl ?_
  refine zr_objInit hC dX3_init_1 ml_X3_1 oi_inst oi_code (by decide) (Nat.le_of_ble_eq_true rfl) ?_
  refine zr_aload_n 0 hC dX3_init_4 rfl rfl ?_
  refine zr_new (ci := 2) (fs := [.null, .int 0]) hC iu_X2 tyX2_ok rfl dX3_init_5 cl_X3_7 it_X2 in_X2 (fun j hj => by rcases (show j = 0 ∨ j = 1 by omega) with rfl | rfl <;> rfl) (by decide) (by decide) (fun rk hDrk => ?_)
  refine zr_dup hC dX3_init_8 rfl ?_
  refine zr_cIv hC ci_X2_init ml_X3_9 (c_X2_init (o := o) (q := rk) (E0 := .inr (3, [.null, .null, .null, .int 0, .int 0, .int 0, .int 0, .int 0, .int 0, .int 0, .int 0, .int 0]))) dX3_init_9 ⟨Nat.le_of_ble_eq_true rfl, Nat.le_of_ble_eq_true rfl⟩ ⟨Nat.le_of_ble_eq_true rfl, Nat.le_of_ble_eq_true rfl⟩ rfl rfl (Nat.le_of_ble_eq_true rfl) ?_
  rintro _ ⟨sp, rfl⟩
  refine zr_putF (w' := [(o, .inr (3, [.ref rk, .null, .null, .int 0, .int 0, .int 0, .int 0, .int 0, .int 0, .int 0, .int 0, .int 0])), (rk, .inr (2, [.ref sp, .int 0])), (sp, ze_q cII 24 (fun _ => none))]) 0 0 hC iu_X3 tyX3_ok nmX3 rfl dX3_init_12 fl_X3_10 (by decide) rfl hnm rfl rfl rfl rfl (Nat.le_of_ble_eq_true rfl) rfl ?_
  refine zr_aload_n 0 hC dX3_init_15 rfl rfl ?_
  refine zr_new (ci := 1) (fs := [.null, .int 0]) hC iu_X1 tyX1_ok rfl dX3_init_16 cl_X3_16 it_X1 in_X1 (fun j hj => by rcases (show j = 0 ∨ j = 1 by omega) with rfl | rfl <;> rfl) (by decide) (by decide) (fun pp hDpp => ?_)
  refine zr_dup hC dX3_init_19 rfl ?_
  refine zr_cINv hC ci_X1_init hC.2.2.2.2.2.2.2.2.2.2.1 (c_X1_init (w := [(o, .inr (3, [.ref rk, .null, .null, .int 0, .int 0, .int 0, .int 0, .int 0, .int 0, .int 0, .int 0, .int 0])), (rk, .inr (2, [.ref sp, .int 0])), (sp, ze_q cII 24 (fun _ => none)), (pp, .inr (1, [.null, .int 0]))]) (q := pp)) dX3_init_20 ⟨Nat.le_of_ble_eq_true rfl, Nat.le_of_ble_eq_true rfl⟩ ⟨Nat.le_of_ble_eq_true rfl, Nat.le_of_ble_eq_true rfl⟩ rfl rfl (Nat.le_of_ble_eq_true rfl) ?_
  rintro _ rfl
  refine zr_putF (w' := [(o, .inr (3, [.ref rk, .ref pp, .null, .int 0, .int 0, .int 0, .int 0, .int 0, .int 0, .int 0, .int 0, .int 0])), (rk, .inr (2, [.ref sp, .int 0])), (sp, ze_q cII 24 (fun _ => none)), (pp, .inr (1, [.null, .int 0]))]) 0 1 hC iu_X3 tyX3_ok nmX3 rfl dX3_init_23 fl_X3_19 (by decide) rfl hnm rfl rfl rfl rfl (Nat.le_of_ble_eq_true rfl) rfl ?_
  refine zr_aload_n 0 hC dX3_init_26 rfl rfl ?_
  refine zr_bipush (v := (16 : Int32)) hC dX3_init_27 rfl ?_
  refine zr_newq (N' := 16) 2 hC dX3_init_29 cl_X3_23 rfl (by decide) (by decide) (by decide) (by decide) (by decide) (fun fp hDq => ?_)
  refine zr_putF (w' := [(o, .inr (3, [.ref rk, .ref pp, .ref fp, .int 0, .int 0, .int 0, .int 0, .int 0, .int 0, .int 0, .int 0, .int 0])), (rk, .inr (2, [.ref sp, .int 0])), (sp, ze_q cII 24 (fun _ => none)), (pp, .inr (1, [.null, .int 0])), (fp, ze_q cF 16 (fun _ => none))]) 0 2 hC iu_X3 tyX3_ok nmX3 rfl dX3_init_32 fl_X3_25 (by decide) rfl hnm rfl rfl rfl rfl (Nat.le_of_ble_eq_true rfl) rfl ?_
  refine zr_vret hC hr hk dX3_init_35 (by decide) (by decide) ⟨rfl, ?_⟩
  exact ⟨rk, sp, pp, fp, rfl⟩
end ZA10
end
section
/-! ===== the reference's relation: numbers ===== -/
theorem zn_le {i : Int32} {n : Nat} (hn : n < 2 ^ 31) : (0 ≤ i ∧ i ≤ nI n - 1) ↔ (0 ≤ i ∧ i < nI n) := by
  constructor
  · rintro ⟨h0, h1⟩
    refine ⟨h0, ?_⟩
    obtain ⟨j, hj, rfl⟩ := nI_of (Int32.not_lt.mpr h0)
    cases n with
    | zero =>
      have h2 := Int32.le_iff_toInt_le.mp h1
      rw [nI_toInt hj] at h2
      exact absurd h2 (by rw [show (nI 0 - 1).toInt = -1 from rfl]; omega)
    | succ n =>
      rw [nI_pred] at h1
      have := (nI_leI hj (by omega)).mp h1
      exact nI_lt (by omega) hn
  · rintro ⟨h0, h1⟩
    refine ⟨h0, ?_⟩
    obtain ⟨j, hj, rfl⟩ := nI_of (Int32.not_lt.mpr h0)
    have h2 := (nI_ltI hj hn).mp h1
    cases n with
    | zero => omega
    | succ n =>
      rw [nI_pred]
      exact nI_le (by omega) (by omega)
theorem zk_b5 {b : Int32} : (0 ≤ b ∧ b ≤ 5) ↔ zk_b b := (zn_le (n := 6) (by decide))
theorem zk_s3' {s : Int32} : (0 ≤ s ∧ s ≤ 3) ↔ zk_s s := (zn_le (n := 4) (by decide))
theorem zn_m1 {z : Nat} (h : z < 2 ^ 31) : ¬ nI z = -1 := fun e => by
  have := congrArg Int32.toInt e
  rw [nI_toInt h] at this
  rw [show ((-1 : Int32)).toInt = -1 from rfl] at this
  omega
theorem zf_lev_lo {v : Int32} (h : v < -8000000) : zf_lev v = -8000000 := by
  have h1 : v < 8000000 := Int32.lt_trans h (by decide)
  unfold zf_lev
  rw [if_pos h1, if_neg (fun q => Int32.lt_irrefl (Int32.lt_trans q h))]
theorem zf_lev_hi {v : Int32} (h : 8000000 < v) : zf_lev v = 8000000 := by
  unfold zf_lev
  rw [if_neg (fun q => Int32.lt_irrefl (Int32.lt_trans q h)), if_pos (by decide)]
theorem zf_lev_in {v : Int32} (h1 : -8000000 ≤ v) (h2 : v ≤ 8000000) : zf_lev v = v := by
  have a1 := Int32.le_iff_toInt_le.mp h1
  have a2 := Int32.le_iff_toInt_le.mp h2
  have k1 : ((-8000000 : Int32)).toInt = -8000000 := rfl
  have k2 : ((8000000 : Int32)).toInt = 8000000 := rfl
  unfold zf_lev
  by_cases h3 : v < 8000000
  · rw [if_pos h3]
    by_cases h4 : -8000000 < v
    · rw [if_pos h4]
    · rw [if_neg h4]
      have a4 : ¬ (-8000000 : Int32).toInt < v.toInt := fun q => h4 (Int32.lt_iff_toInt_lt.mpr q)
      exact (Int32.toInt_inj.mp (by omega)).symm
  · rw [if_neg h3, if_pos (by decide)]
    have a3 : ¬ v.toInt < (8000000 : Int32).toInt := fun q => h3 (Int32.lt_iff_toInt_lt.mpr q)
    exact (Int32.toInt_inj.mp (by omega)).symm
theorem zf_lev_rg (v : Int32) : -8000000 ≤ zf_lev v ∧ zf_lev v ≤ 8000000 := by
  by_cases h1 : v < -8000000
  · rw [zf_lev_lo h1]; decide
  · by_cases h2 : 8000000 < v
    · rw [zf_lev_hi h2]; decide
    · rw [zf_lev_in (Int32.not_lt.mp h1) (Int32.not_lt.mp h2)]
      exact ⟨Int32.not_lt.mp h1, Int32.not_lt.mp h2⟩
theorem zf_and16 (v : Int32) : v &&& 65535 = nI (v.toBitVec.toNat % 65536) := pk_and v (m := 65535) 16 (by decide)
theorem zf_and1 (v : Int32) : v &&& 1 = nI (v.toBitVec.toNat % 2) := pk_and v (m := 1) 1 (by decide)
theorem zf_short_lo {v : Int32} (h : v &&& 65535 ≤ 32767) : v.toInt16.toInt32 = v &&& 65535 := by
  rw [zf_and16] at h ⊢
  have hm : v.toBitVec.toNat % 65536 < 65536 := Nat.mod_lt _ (by decide)
  have h2 := (nI_leI (b := 32767) (by omega) (by omega)).mp h
  apply Int32.toInt_inj.mp
  rw [nI_toInt (by omega), Int16.toInt_toInt32, Int32.toInt_toInt16]
  have e : v.toInt = v.toBitVec.toInt := rfl
  rw [e, BitVec.toInt_eq_toNat_bmod, Int.bmod_bmod_of_dvd (by decide)]
  have h16 : ((2 ^ 16 : Nat) : Int) = 65536 := by decide
  rw [Int.bmod_def, h16]
  have hl := v.toBitVec.isLt
  split <;> omega
theorem zf_short_hi {v : Int32} (h : ¬ v &&& 65535 ≤ 32767) : v.toInt16.toInt32 = (v &&& 65535) - 65536 := by
  rw [zf_and16] at h ⊢
  have hm : v.toBitVec.toNat % 65536 < 65536 := Nat.mod_lt _ (by decide)
  have h2 : ¬ v.toBitVec.toNat % 65536 ≤ 32767 := fun q => h (nI_le (b := 32767) q (by omega))
  apply Int32.toInt_inj.mp
  rw [show (65536 : Int32) = nI 65536 from rfl, pk_sub_toInt (by omega) (by omega), Int16.toInt_toInt32, Int32.toInt_toInt16]
  have e : v.toInt = v.toBitVec.toInt := rfl
  rw [e, BitVec.toInt_eq_toNat_bmod, Int.bmod_bmod_of_dvd (by decide)]
  have h16 : ((2 ^ 16 : Nat) : Int) = 65536 := by decide
  rw [Int.bmod_def, h16]
  have hl := v.toBitVec.isLt
  split <;> omega
theorem zk_num {b s : Int32} (v : Int32) (hb : zk_b b) (hs : zk_s s) : zk_n (zl b s) (zf_num s v) := by
  have hm := zl_mod hb hs
  obtain ⟨j, hj, rfl⟩ := zn_s hs
  rw [nI_clamp (by omega)] at hm
  unfold zk_n
  rw [hm]
  refine ⟨fun h => ?_, fun h => ?_, fun h => ?_⟩
  · subst h
    have e : zf_num (nI 0) v = v &&& 65535 := by
      unfold zf_num
      rw [if_pos nI_0]
    rw [e, zf_and16]
    have hm : v.toBitVec.toNat % 65536 < 65536 := Nat.mod_lt _ (by decide)
    exact ⟨nI_pos' (by omega), nI_le (b := 65535) (by omega) (by omega)⟩
  · subst h
    rw [show zf_num (nI 2) v = zf_lev v from zf_num2 v]
    exact zf_lev_rg v
  · subst h
    have e : zf_num (nI 3) v = v &&& 1 := by
      unfold zf_num
      rw [if_neg (by decide), if_neg (by decide), if_neg (by decide)]
    rw [e, zf_and1]
    have hm : v.toBitVec.toNat % 2 < 2 := Nat.mod_lt _ (by decide)
    rcases (show v.toBitVec.toNat % 2 = 0 ∨ v.toBitVec.toNat % 2 = 1 by omega) with h | h
    · rw [h]; exact Or.inl rfl
    · rw [h]; exact Or.inr rfl
theorem zk_n_mod {k k' : Nat} {v : Int32} (h : zk_n k v) (e : k % 4 = k' % 4) : zk_n k' v := by
  unfold zk_n at h ⊢
  rw [← e]
  exact h
theorem zk_odd {k : Nat} {v : Int32} (h : zk_n k v) (e : k % 4 = 0) : v - v / 2 * 2 = 0 ∨ v - v / 2 * 2 = 1 := by
  obtain ⟨h1, h2⟩ := h.1 e
  obtain ⟨j, hj, rfl⟩ := zn_of (n := 65536) (M := 65536) (by decide) ⟨h1, Int32.lt_of_le_of_lt h2 (by decide)⟩
  rw [show (2 : Int32) = nI 2 from rfl, pk_rem (by omega) (by omega) (by omega)]
  rcases (show j % 2 = 0 ∨ j % 2 = 1 by omega) with h | h
  · rw [h]; exact Or.inl rfl
  · rw [h]; exact Or.inr rfl
section ZPM
variable {a : ax_A} {x : mx_X}
theorem rm_none (hR : rm_Q a x) {k : Nat} (hk : k < 24) (h : mx_sp x k = -1) : (aa_st a).1 k = none := (hR.1.1 k hk).mp h
theorem rm_some (hR : rm_Q a x) {k : Nat} (hk : k < 24) (h : ¬ mx_sp x k = -1) : ∃ z n, z < 24 ∧ mx_sp x k = nI z ∧ n ≤ 24 ∧ mx_ln x z = nI n ∧ (aa_st a).1 k = some n ∧ ∀ i, i < n → mx_pl x (25 * z + i) = (aa_st a).2.1 k i ∧ zk_n k ((aa_st a).2.1 k i) := hR.1.2.1 k hk h
theorem rm_why0 (hR : rm_Q a x) {k : Nat} {i : Int32} (hk : k < 24) (h : zf_why (aa_st a) k i = 0) : ∃ z n j, z < 24 ∧ mx_sp x k = nI z ∧ n ≤ 24 ∧ mx_ln x z = nI n ∧ (aa_st a).1 k = some n ∧ j < n ∧ i = nI j ∧ mx_pl x (25 * z + j) = zf_val (aa_st a) k i ∧ zk_n k (zf_val (aa_st a) k i) := by
  obtain ⟨n, h1, h2⟩ := zf_why_in h
  by_cases e : mx_sp x k = -1
  · rw [rm_none hR hk e] at h1; cases h1
  · obtain ⟨z, n', g1, g2, g3, g4, g5, g6⟩ := rm_some hR hk e
    cases h1.symm.trans g5
    obtain ⟨j, hj, rfl⟩ := zn_lt (by omega) h2
    have e1 : (nI j).toNatClampNeg = j := nI_clamp (by omega)
    refine ⟨z, n, j, g1, g2, g3, g4, h1, hj, rfl, ?_, ?_⟩
    · rw [(g6 j hj).1, zf_val, e1]
    · rw [zf_val, e1]; exact (g6 j hj).2
theorem rm_put (hR : rm_Q a x) {k z n j : Nat} {v : Int32} (hk : k < 24) (hz : z < 24) (hsp : mx_sp x k = nI z) (hn : n ≤ 24) (hln : mx_ln x z = nI n) (hj : j < n) (hv : zk_n k v) : rm_Q (zf_set a k (nI j) v) (mk_pl x (upd (mx_pl x) (25 * z + j) v)) := by
  obtain ⟨⟨s1, s2, s3, s4⟩, t⟩ := hR
  have hjj : (nI j).toNatClampNeg = j := nI_clamp (by omega)
  have hk1 : ¬ mx_sp x k = -1 := by rw [hsp]; exact zn_m1 (by omega)
  refine ⟨⟨s1, fun k' hk' hf' => ?_, s3, s4⟩, t⟩
  obtain ⟨z', n', g1, g2, g3, g4, g5, g6⟩ := s2 k' hk' hf'
  refine ⟨z', n', g1, g2, g3, g4, g5, fun i hi => ?_⟩
  have hsame : (aa_st a).2.2 k k' = true ↔ mx_sp x k = mx_sp x k' := s3 k k' hk hk' hk1 hf'
  show upd (mx_pl x) (25 * z + j) v (25 * z' + i) = (if (aa_st a).2.2 k k' = true ∧ i = (nI j).toNatClampNeg then v else (aa_st a).2.1 k' i) ∧ zk_n k' (if (aa_st a).2.2 k k' = true ∧ i = (nI j).toNatClampNeg then v else (aa_st a).2.1 k' i)
  rw [hjj]
  by_cases hzz : z' = z
  · subst hzz
    have hs : (aa_st a).2.2 k k' = true := hsame.mpr (hsp.trans g2.symm)
    have hm : k % 4 = k' % 4 := s4 k k' hk hk' hk1 (hsp.trans g2.symm)
    by_cases hij : i = j
    · subst hij
      rw [pk_us, if_pos ⟨hs, rfl⟩]
      exact ⟨rfl, zk_n_mod hv hm⟩
    · rw [pk_un (by omega), if_neg (fun h => hij h.2)]
      exact g6 i hi
  · rw [pk_un (by omega), if_neg]
    · exact g6 i hi
    · intro h
      have h2 := hsame.mp h.1
      rw [hsp, g2] at h2
      exact hzz ((nI_eq (by omega) (by omega)).mp h2).symm
theorem rm_hang (hR : rm_Q a x) {k z n : Nat} {sp ln pl : Nat → Int32} (hk : k < 24) (hz : z < 24) (hn : n ≤ 24) (hsk : sp k = nI z) (hso : ∀ j, j ≠ k → sp j = mx_sp x j) (hfree : ∀ j, j < 24 → j ≠ k → ¬ mx_sp x j = nI z) (hlz : ln z = nI n) (hlo : ∀ j, j ≠ z → ln j = mx_ln x j) (hp0 : ∀ i, i < n → pl (25 * z + i) = 0) (hpo : ∀ p, p < 25 * z ∨ 25 * z + 25 ≤ p → pl p = mx_pl x p) : rm_Q (as_st a (zf_hangS (aa_st a) k n)) (mk_pl (mk_ln (mk_sp x sp) ln) pl) := by
  obtain ⟨⟨s1, s2, s3, s4⟩, t⟩ := hR
  have hnk : ¬ sp k = -1 := by rw [hsk]; exact zn_m1 (by omega)
  refine ⟨⟨fun j hj => ?_, fun k' hk' hf' => ?_, fun i j hi hj hfi hfj => ?_, fun i j hi hj hfi hij => ?_⟩, t⟩
  · show sp j = -1 ↔ (if j = k then some n else (aa_st a).1 j) = none
    by_cases hjk : j = k
    · subst hjk
      rw [if_pos rfl]
      exact ⟨fun h => absurd h hnk, fun h => (by cases h)⟩
    · rw [if_neg hjk, hso j hjk]; exact s1 j hj
  · by_cases hjk : k' = k
    · subst hjk
      refine ⟨z, n, hz, hsk, hn, hlz, ?_, fun i hi => ?_⟩
      · show (if k' = k' then some n else (aa_st a).1 k') = some n
        rw [if_pos rfl]
      · show pl (25 * z + i) = (if k' = k' then 0 else (aa_st a).2.1 k' i) ∧ zk_n k' (if k' = k' then 0 else (aa_st a).2.1 k' i)
        rw [if_pos rfl]
        exact ⟨hp0 i hi, ⟨fun _ => by decide, fun _ => by decide, fun _ => Or.inl rfl⟩⟩
    · have hf2 : ¬ mx_sp x k' = -1 := fun h => hf' ((hso k' hjk).trans h)
      obtain ⟨z', n', g1, g2, g3, g4, g5, g6⟩ := s2 k' hk' hf2
      have hzz : z' ≠ z := fun e => hfree k' hk' hjk (by rw [g2, e])
      refine ⟨z', n', g1, (hso k' hjk).trans g2, g3, (hlo z' hzz).trans g4, ?_, fun i hi => ?_⟩
      · show (if k' = k then some n else (aa_st a).1 k') = some n'
        rw [if_neg hjk]; exact g5
      · show pl (25 * z' + i) = (if k' = k then 0 else (aa_st a).2.1 k' i) ∧ zk_n k' (if k' = k then 0 else (aa_st a).2.1 k' i)
        rw [if_neg hjk, hpo _ (by omega)]
        exact g6 i hi
  · show (if i = k ∨ j = k then decide (i = j) else (aa_st a).2.2 i j) = true ↔ sp i = sp j
    by_cases hik : i = k <;> by_cases hjk : j = k
    · subst hik; subst hjk; simp
    · subst hik
      rw [if_pos (Or.inl rfl), hsk, hso j hjk, decide_eq_true_iff]
      exact ⟨fun h => absurd h.symm hjk, fun h => absurd h.symm (hfree j hj hjk)⟩
    · subst hjk
      rw [if_pos (Or.inr rfl), hsk, hso i hik, decide_eq_true_iff]
      exact ⟨fun h => absurd h hik, fun h => absurd h (hfree i hi hik)⟩
    · rw [if_neg (by rintro (h | h); exact hik h; exact hjk h), hso i hik, hso j hjk]
      exact s3 i j hi hj (fun h => hfi ((hso i hik).trans h)) (fun h => hfj ((hso j hjk).trans h))
  · have hij : sp i = sp j := hij
    by_cases hik : i = k <;> by_cases hjk : j = k
    · rw [hik, hjk]
    · subst hik
      rw [hsk, hso j hjk] at hij
      exact absurd hij.symm (hfree j hj hjk)
    · subst hjk
      rw [hsk, hso i hik] at hij
      exact absurd hij (hfree i hi hik)
    · rw [hso i hik, hso j hjk] at hij
      exact s4 i j hi hj (fun h => hfi ((hso i hik).trans h)) hij
theorem rm_strike (hR : rm_Q a x) {k : Nat} : rm_Q (as_st a (zf_strikeS (aa_st a) k)) (mk_sp x (upd (mx_sp x) k (-1))) := by
  obtain ⟨⟨s1, s2, s3, s4⟩, t⟩ := hR
  have key : ∀ j, ¬ upd (mx_sp x) k (-1) j = -1 → j ≠ k ∧ upd (mx_sp x) k (-1) j = mx_sp x j := by
    intro j h
    by_cases hjk : j = k
    · subst hjk; exact absurd pk_us h
    · exact ⟨hjk, pk_un hjk⟩
  refine ⟨⟨fun j hj => ?_, fun k' hk' hf' => ?_, fun i j hi hj hfi hfj => ?_, fun i j hi hj hfi hij => ?_⟩, t⟩
  · show upd (mx_sp x) k (-1) j = -1 ↔ (if j = k then none else (aa_st a).1 j) = none
    by_cases hjk : j = k
    · subst hjk
      rw [pk_us, if_pos rfl]; exact ⟨fun _ => rfl, fun _ => rfl⟩
    · rw [pk_un hjk, if_neg hjk]; exact s1 j hj
  · obtain ⟨h1, h2⟩ := key k' hf'
    obtain ⟨z', n', g1, g2, g3, g4, g5, g6⟩ := s2 k' hk' (fun h => hf' (h2.trans h))
    refine ⟨z', n', g1, h2.trans g2, g3, g4, ?_, g6⟩
    show (if k' = k then none else (aa_st a).1 k') = some n'
    rw [if_neg h1]; exact g5
  · obtain ⟨h1, h2⟩ := key i hfi
    obtain ⟨h3, h4⟩ := key j hfj
    show (aa_st a).2.2 i j = true ↔ upd (mx_sp x) k (-1) i = upd (mx_sp x) k (-1) j
    rw [h2, h4]
    exact s3 i j hi hj (fun h => hfi (h2.trans h)) (fun h => hfj (h4.trans h))
  · have hij : upd (mx_sp x) k (-1) i = upd (mx_sp x) k (-1) j := hij
    obtain ⟨h1, h2⟩ := key i hfi
    obtain ⟨h3, h4⟩ := key j (fun h => hfi (hij.trans h))
    rw [h2, h4] at hij
    exact s4 i j hi hj (fun h => hfi (h2.trans h)) hij
theorem rm_share (hR : rm_Q a x) {k k0 : Nat} (hk0 : k0 < 24) (hm : k % 4 = k0 % 4) : rm_Q (as_st a (zf_shareS (aa_st a) k k0)) (mk_sp x (upd (mx_sp x) k (mx_sp x k0))) := by
  obtain ⟨⟨s1, s2, s3, s4⟩, t⟩ := hR
  have key : ∀ j, upd (mx_sp x) k (mx_sp x k0) j = mx_sp x (zf_rho k k0 j) := by
    intro j
    by_cases hjk : j = k
    · subst hjk; rw [pk_us, zf_rho, if_pos rfl]
    · rw [pk_un hjk, zf_rho, if_neg hjk]
  have lt : ∀ j, j < 24 → zf_rho k k0 j < 24 := by
    intro j hj
    unfold zf_rho
    by_cases hjk : j = k
    · rw [if_pos hjk]; exact hk0
    · rw [if_neg hjk]; exact hj
  have md : ∀ j, zf_rho k k0 j % 4 = j % 4 := by
    intro j
    unfold zf_rho
    by_cases hjk : j = k
    · rw [if_pos hjk, hjk]; exact hm.symm
    · rw [if_neg hjk]
  refine ⟨⟨fun j hj => ?_, fun k' hk' hf' => ?_, fun i j hi hj hfi hfj => ?_, fun i j hi hj hfi hij => ?_⟩, t⟩
  · show upd (mx_sp x) k (mx_sp x k0) j = -1 ↔ (aa_st a).1 (zf_rho k k0 j) = none
    rw [key]; exact s1 _ (lt j hj)
  · have hf' : ¬ upd (mx_sp x) k (mx_sp x k0) k' = -1 := hf'
    rw [key] at hf'
    obtain ⟨z', n', g1, g2, g3, g4, g5, g6⟩ := s2 _ (lt k' hk') hf'
    exact ⟨z', n', g1, (key k').trans g2, g3, g4, g5, fun i hi => ⟨(g6 i hi).1, zk_n_mod (g6 i hi).2 (md k')⟩⟩
  · have hfi : ¬ upd (mx_sp x) k (mx_sp x k0) i = -1 := hfi
    have hfj : ¬ upd (mx_sp x) k (mx_sp x k0) j = -1 := hfj
    show (aa_st a).2.2 (zf_rho k k0 i) (zf_rho k k0 j) = true ↔ upd (mx_sp x) k (mx_sp x k0) i = upd (mx_sp x) k (mx_sp x k0) j
    rw [key] at hfi hfj
    rw [key, key]
    exact s3 _ _ (lt i hi) (lt j hj) hfi hfj
  · have hfi : ¬ upd (mx_sp x) k (mx_sp x k0) i = -1 := hfi
    have hij : upd (mx_sp x) k (mx_sp x k0) i = upd (mx_sp x) k (mx_sp x k0) j := hij
    rw [key] at hfi
    rw [key, key] at hij
    have := s4 _ _ (lt i hi) (lt j hj) hfi hij
    rw [md, md] at this
    exact this
end ZPM
end
section
/-! ===== the reference's relation: the sheet; a free place ===== -/
theorem zn_all : ∀ (m : Nat) (l : List Nat), (∀ v, v < m → v ∈ l) → m ≤ l.length
  | 0, _, _ => Nat.zero_le _
  | m + 1, l, h => by
    have h1 : m ∈ l := h m (Nat.lt_succ_self m)
    have h2 := zn_all m (l.erase m) (fun v hv => (List.mem_erase_of_ne (by omega)).mpr (h v (by omega)))
    rw [List.length_erase_of_mem h1] at h2
    have h3 : 0 < l.length := List.length_pos_of_mem h1
    omega
theorem zn_23 : ∀ k, k < 24 → ((List.range 24).filter (fun j => !(j == k))).length = 23 := by decide
theorem zn_hole {g : Nat → Int32} {k m : Nat} (hk : k < 24) (hm : m < 2 ^ 31) (h : ∀ v, v < m → ∃ j, j < 24 ∧ j ≠ k ∧ g j = nI v) : m ≤ 23 := by
  have h2 := zn_all m (((List.range 24).filter (fun j => !(j == k))).map (fun j => (g j).toNatClampNeg)) (fun v hv => by
    obtain ⟨j, h1, h2, h3⟩ := h v hv
    refine List.mem_map.mpr ⟨j, List.mem_filter.mpr ⟨List.mem_range.mpr h1, by simp [h2]⟩, ?_⟩
    rw [h3, nI_clamp (by omega)])
  rw [List.length_map, zn_23 k hk] at h2
  exact h2
section ZPN
variable {a : ax_A} {x : mx_X}
theorem rm_dim (hR : rm_Q a x) (h : ¬ (aa_sh a).1 = none) : mx_hs x = 1 ∧ ∃ n m, (aa_sh a).1 = some (n, m) ∧ n ≤ 12 ∧ m ≤ 12 ∧ mx_rm x = nI n ∧ mx_cm x = nI m ∧
    (∀ i, i < n → (mx_rw x i = -1 ↔ (aa_sh a).2.1 i = false)) ∧
    (∀ i, i < n → ¬ mx_rw x i = -1 → ∃ z, z < 12 ∧ mx_rw x i = nI z ∧ ∀ j, j < m → mx_ce x (12 * z + j) = (aa_sh a).2.2.1 i j) ∧
    (∀ i j, i < n → j < n → ¬ mx_rw x i = -1 → ¬ mx_rw x j = -1 → ((aa_sh a).2.2.2 i j = true ↔ mx_rw x i = mx_rw x j)) := by
  rcases hR.2 with ⟨-, h2⟩ | h2
  · exact absurd h2 h
  · exact h2
theorem rm_no (hR : rm_Q a x) (h : mx_hs x = 0) : (aa_sh a).1 = none := by
  rcases hR.2 with ⟨-, h2⟩ | ⟨h2, -⟩
  · exact h2
  · rw [h] at h2; exact absurd h2 (by decide)
theorem rm_yes (hR : rm_Q a x) (h : ¬ mx_hs x = 0) : ¬ (aa_sh a).1 = none := by
  rcases hR.2 with ⟨h2, -⟩ | ⟨h2, n, m, h3, -⟩
  · exact absurd h2 h
  · rw [h3]; exact fun h => by cases h
theorem rm_cell0 (hR : rm_Q a x) {i j : Int32} (h : zf_whyC (aa_sh a) i j = 0) : ∃ n m ii jj z, (aa_sh a).1 = some (n, m) ∧ n ≤ 12 ∧ m ≤ 12 ∧ ii < n ∧ i = nI ii ∧ jj < m ∧ j = nI jj ∧ z < 12 ∧ mx_rw x ii = nI z ∧ mx_ce x (12 * z + jj) = zf_cell (aa_sh a) i j := by
  obtain ⟨n, m, h1, h2, h3, h4⟩ := zf_whyC_in h
  obtain ⟨-, n', m', g1, g2, g3, g4, g5, g6, g7, g8⟩ := rm_dim hR (by rw [h1]; exact fun h => by cases h)
  cases h1.symm.trans g1
  obtain ⟨ii, hii, rfl⟩ := zn_lt (by omega) h2
  obtain ⟨jj, hjj, rfl⟩ := zn_lt (by omega) h4
  have e1 : (nI ii).toNatClampNeg = ii := nI_clamp (by omega)
  have e2 : (nI jj).toNatClampNeg = jj := nI_clamp (by omega)
  rw [e1] at h3
  have hr : ¬ mx_rw x ii = -1 := fun e => by rw [(g6 ii hii).mp e] at h3; cases h3
  obtain ⟨z, k1, k2, k3⟩ := g7 ii hii hr
  refine ⟨n, m, ii, jj, z, h1, g2, g3, hii, rfl, hjj, rfl, k1, k2, ?_⟩
  rw [k3 jj hjj, zf_cell, e1, e2]
theorem rm_write (hR : rm_Q a x) {n m ii jj z : Nat} (hd : (aa_sh a).1 = some (n, m)) (hii : ii < n) (hjj : jj < m) (hz : z < 12) (hrz : mx_rw x ii = nI z) (v : Int32) : rm_Q (zf_wri a (nI ii) (nI jj) v) (mk_ce x (upd (mx_ce x) (12 * z + jj) v)) := by
  obtain ⟨e0, n', m', g1, g2, g3, g4, g5, g6, g7, g8⟩ := rm_dim hR (by rw [hd]; exact fun h => by cases h)
  cases hd.symm.trans g1
  have hi1 : (nI ii).toNatClampNeg = ii := nI_clamp (by omega)
  have hj1 : (nI jj).toNatClampNeg = jj := nI_clamp (by omega)
  have hri : ¬ mx_rw x ii = -1 := by rw [hrz]; exact zn_m1 (by omega)
  refine ⟨hR.1, Or.inr ⟨e0, n, m, g1, g2, g3, g4, g5, g6, fun i hi hri' => ?_, g8⟩⟩
  obtain ⟨z', k1, k2, k3⟩ := g7 i hi hri'
  refine ⟨z', k1, k2, fun j hj => ?_⟩
  have hs := g8 ii i hii hi hri hri'
  show upd (mx_ce x) (12 * z + jj) v (12 * z' + j) = if (aa_sh a).2.2.2 (nI ii).toNatClampNeg i = true ∧ j = (nI jj).toNatClampNeg then v else (aa_sh a).2.2.1 i j
  rw [hi1, hj1]
  by_cases hzz : z' = z
  · subst hzz
    have h2 : (aa_sh a).2.2.2 ii i = true := hs.mpr (hrz.trans k2.symm)
    by_cases hij : j = jj
    · subst hij
      rw [pk_us, if_pos ⟨h2, rfl⟩]
    · rw [pk_un (by omega), if_neg (fun h => hij h.2)]
      exact k3 j hj
  · rw [pk_un (by omega), if_neg]
    · exact k3 j hj
    · intro h
      have h2 := hs.mp h.1
      rw [hrz, k2] at h2
      exact hzz ((nI_eq (by omega) (by omega)).mp h2).symm
theorem rm_tear0 (hR : rm_Q a x) {n m i : Nat} (hd : (aa_sh a).1 = some (n, m)) : rm_Q (as_sh a (zf_tear0 (aa_sh a) i)) (mk_rw x (upd (mx_rw x) i (-1))) := by
  obtain ⟨e0, n', m', g1, g2, g3, g4, g5, g6, g7, g8⟩ := rm_dim hR (by rw [hd]; exact fun h => by cases h)
  cases hd.symm.trans g1
  have key : ∀ r, ¬ upd (mx_rw x) i (-1) r = -1 → r ≠ i ∧ upd (mx_rw x) i (-1) r = mx_rw x r := by
    intro r h
    by_cases hri : r = i
    · subst hri; exact absurd pk_us h
    · exact ⟨hri, pk_un hri⟩
  refine ⟨hR.1, Or.inr ⟨e0, n, m, g1, g2, g3, g4, g5, fun r hr => ?_, fun r hr h => ?_, fun r r' hr hr' h1 h2 => ?_⟩⟩
  · show upd (mx_rw x) i (-1) r = -1 ↔ (if r = i then false else (aa_sh a).2.1 r) = false
    by_cases hri : r = i
    · subst hri
      rw [pk_us, if_pos rfl]; exact ⟨fun _ => rfl, fun _ => rfl⟩
    · rw [pk_un hri, if_neg hri]; exact g6 r hr
  · obtain ⟨h1, h2⟩ := key r h
    obtain ⟨z, k1, k2, k3⟩ := g7 r hr (fun e => h (h2.trans e))
    exact ⟨z, k1, h2.trans k2, k3⟩
  · obtain ⟨b1, b2⟩ := key r h1
    obtain ⟨b3, b4⟩ := key r' h2
    show (aa_sh a).2.2.2 r r' = true ↔ upd (mx_rw x) i (-1) r = upd (mx_rw x) i (-1) r'
    rw [b2, b4]
    exact g8 r r' hr hr' (fun e => h1 (b2.trans e)) (fun e => h2 (b4.trans e))
theorem rm_tearS (hR : rm_Q a x) {n m i k : Nat} (hd : (aa_sh a).1 = some (n, m)) (hk : k < n) : rm_Q (as_sh a (zf_tearS (aa_sh a) i k)) (mk_rw x (upd (mx_rw x) i (mx_rw x k))) := by
  obtain ⟨e0, n', m', g1, g2, g3, g4, g5, g6, g7, g8⟩ := rm_dim hR (by rw [hd]; exact fun h => by cases h)
  cases hd.symm.trans g1
  have key : ∀ r, upd (mx_rw x) i (mx_rw x k) r = mx_rw x (zf_rho i k r) := by
    intro r
    by_cases hri : r = i
    · subst hri; rw [pk_us, zf_rho, if_pos rfl]
    · rw [pk_un hri, zf_rho, if_neg hri]
  have lt : ∀ r, r < n → zf_rho i k r < n := by
    intro r hr
    unfold zf_rho
    by_cases hri : r = i
    · rw [if_pos hri]; exact hk
    · rw [if_neg hri]; exact hr
  refine ⟨hR.1, Or.inr ⟨e0, n, m, g1, g2, g3, g4, g5, fun r hr => ?_, fun r hr h => ?_, fun r r' hr hr' h1 h2 => ?_⟩⟩
  · show upd (mx_rw x) i (mx_rw x k) r = -1 ↔ _
    rw [key]; exact g6 _ (lt r hr)
  · have h : ¬ upd (mx_rw x) i (mx_rw x k) r = -1 := h
    rw [key] at h
    obtain ⟨z, k1, k2, k3⟩ := g7 _ (lt r hr) h
    exact ⟨z, k1, (key r).trans k2, k3⟩
  · have h1 : ¬ upd (mx_rw x) i (mx_rw x k) r = -1 := h1
    have h2 : ¬ upd (mx_rw x) i (mx_rw x k) r' = -1 := h2
    show (aa_sh a).2.2.2 (zf_rho i k r) (zf_rho i k r') = true ↔ upd (mx_rw x) i (mx_rw x k) r = upd (mx_rw x) i (mx_rw x k) r'
    rw [key] at h1 h2
    rw [key, key]
    exact g8 _ _ (lt r hr) (lt r' hr') h1 h2
theorem rm_sheet (hR : rm_Q a x) {n m : Nat} {rw ce : Nat → Int32} (hn : n ≤ 12) (hm : m ≤ 12) (hr : ∀ i, i < 12 → rw i = nI i) (hc : ∀ i, i < 144 → ce i = 0) : rm_Q (as_sh a (zf_sheetS n m)) (mk_ce (mk_rw (mk_cm (mk_rm (mk_hs x 1) (nI n)) (nI m)) rw) ce) := by
  refine ⟨hR.1, Or.inr ⟨rfl, n, m, rfl, hn, hm, rfl, rfl, fun i hi => ?_, fun i hi _ => ?_, fun i j hi hj _ _ => ?_⟩⟩
  · show rw i = -1 ↔ true = false
    rw [hr i (by omega)]
    exact ⟨fun h => absurd h (zn_m1 (by omega)), fun h => (by cases h)⟩
  · exact ⟨i, by omega, hr i (by omega), fun j hj => hc _ (by omega)⟩
  · show decide (i = j) = true ↔ rw i = rw j
    rw [hr i (by omega), hr j (by omega), nI_eq (by omega) (by omega), decide_eq_true_iff]
end ZPN
def zp_m (mo m1 m2 m3 m4 m5 m6 m7 m8 m9 : Nat) (cI : ClassId) (q : Int32 × ax_A) (r : Int32) (w' : va_W) : Prop := ∃ x', r = q.1 ∧ w' = mw_W mo m1 m2 m3 m4 m5 m6 m7 m8 m9 cI q.2 x' ∧ rm_R q.2 x'
theorem zq_mw {mo m1 m2 m3 m4 m5 m6 m7 m8 m9 : Nat} {cI : ClassId} {q : Int32 × ax_A} {r : Int32} {a' : ax_A} {x' : mx_X} {w' : va_W} (e : q = (r, a')) (hR : rm_R a' x') (hw : w' = mw_W mo m1 m2 m3 m4 m5 m6 m7 m8 m9 cI a' x') : zp_m mo m1 m2 m3 m4 m5 m6 m7 m8 m9 cI q r w' := by
  subst e
  exact ⟨x', rfl, hw, hR⟩
theorem zq_mk {mo m1 m2 m3 m4 m5 m6 m7 m8 m9 : Nat} {cI : ClassId} {q : Int32 × ax_A} {r : Int32} {a' : ax_A} {x' : mx_X} (e : q = (r, a')) (hR : rm_R a' x') : zp_m mo m1 m2 m3 m4 m5 m6 m7 m8 m9 cI q r (mw_W mo m1 m2 m3 m4 m5 m6 m7 m8 m9 cI a' x') := zq_mw e hR rfl
end
section
section ZB1
variable {l : Launch} {D : va_G} {cI cII cF : ClassId} {o rk sp pp fp mo m1 m2 m3 m4 m5 m6 m7 m8 m9 : Nat}
variable {a : ax_A} {x : mx_X}
set_option maxRecDepth 100000 in
set_option maxHeartbeats 4000000 in
theorem c_X4_in {w : va_W} (v lo hi : Int32) : zz_Mi l D (zt cI cII cF) yX4_in cX4_in 3 (some .boolean) 0 0 0 0 [.int v, .int lo, .int hi] w (fun r w' => w' = w ∧ ((r = 1 ∧ (lo ≤ v ∧ v ≤ hi)) ∨ (r = 0 ∧ ¬ (lo ≤ v ∧ v ≤ hi)))) := by
  refine zz_mk (by decide) (Nat.le_of_ble_eq_true rfl) ?_
  intro p e s m below meth c A hC hr hk hnm
  have hC : zz_C p s m _ c A D (zt cI cII cF) 3 cX4_in RX4 := hC
  refine zr_iload_n 0 hC dX4_in_0 rfl rfl ?_
  refine zr_iload_n 1 hC dX4_in_1 rfl rfl ?_
  refine zr_icmp_lt (tgt := 14) hC dX4_in_2 (by decide) (fun c2 => ?_) (fun c2 => ?_)
  · refine zr_iconst (v := (0 : Int32)) hC dX4_in_14 rfl ?_
    refine zr_zret hC hr hk dX4_in_15 rfl (by decide) (by decide) ⟨_, rfl, ?_⟩
    exact ⟨rfl, Or.inr ⟨rfl, fun h => absurd h.1 (Int32.not_le.mpr c2)⟩⟩
  · refine zr_iload_n 0 hC dX4_in_5 rfl rfl ?_
    refine zr_iload_n 2 hC dX4_in_6 rfl rfl ?_
    refine zr_icmp_gt (tgt := 14) hC dX4_in_7 (by decide) (fun c7 => ?_) (fun c7 => ?_)
    · refine zr_iconst (v := (0 : Int32)) hC dX4_in_14 rfl ?_
      refine zr_zret hC hr hk dX4_in_15 rfl (by decide) (by decide) ⟨_, rfl, ?_⟩
      exact ⟨rfl, Or.inr ⟨rfl, fun h => absurd h.2 (Int32.not_le.mpr c7)⟩⟩
    · refine zr_iconst (v := (1 : Int32)) hC dX4_in_10 rfl ?_
      refine zr_goto (tgt := 15) hC dX4_in_11 (by decide) ?_
      refine zr_zret hC hr hk dX4_in_15 rfl (by decide) (by decide) ⟨_, rfl, ?_⟩
      exact ⟨rfl, Or.inl ⟨rfl, Int32.not_lt.mp c2, Int32.not_lt.mp c7⟩⟩
set_option maxRecDepth 100000 in
set_option maxHeartbeats 4000000 in
theorem c_X4_isBank {w : va_W} (b : Int32) : zz_Mi l D (zt cI cII cF) yX4_isBank cX4_isBank 1 (some .boolean) 1 22 0 0 [.int b] w (fun r w' => w' = w ∧ ((r = 1 ∧ zk_b b) ∨ (r = 0 ∧ ¬ zk_b b))) := by
  refine zz_mk (by decide) (Nat.le_of_ble_eq_true rfl) ?_
  intro p e s m below meth c A hC hr hk hnm
  have hC : zz_C p s m _ c A D (zt cI cII cF) 1 cX4_isBank RX4 := hC
  refine zr_iload_n 0 hC dX4_isBank_0 rfl rfl ?_
  refine zr_iconst (v := (0 : Int32)) hC dX4_isBank_1 rfl ?_
  refine zr_iconst (v := (5 : Int32)) hC dX4_isBank_2 rfl ?_
  refine zr_cSi hC cs_X4_in ml_X4_37 (c_X4_in (w := w) b (0 : Int32) (5 : Int32)) dX4_isBank_3 ⟨Nat.le_of_ble_eq_true rfl, Nat.le_of_ble_eq_true rfl⟩ ⟨Nat.le_of_ble_eq_true rfl, Nat.le_of_ble_eq_true rfl⟩ rfl rfl (Nat.le_of_ble_eq_true rfl) ?_
  rintro _ _ ⟨rfl, ⟨rfl, hi1⟩ | ⟨rfl, hi1⟩⟩
  · refine zr_zret hC hr hk dX4_isBank_6 rfl (by decide) (by decide) ⟨_, rfl, ?_⟩
    exact ⟨rfl, Or.inl ⟨rfl, zk_b5.mp hi1⟩⟩
  · refine zr_zret hC hr hk dX4_isBank_6 rfl (by decide) (by decide) ⟨_, rfl, ?_⟩
    exact ⟨rfl, Or.inr ⟨rfl, fun h => hi1 (zk_b5.mpr h)⟩⟩
set_option maxRecDepth 100000 in
set_option maxHeartbeats 4000000 in
theorem c_X4_isStrip {w : va_W} (b : Int32) : zz_Mi l D (zt cI cII cF) yX4_isStrip cX4_isStrip 1 (some .boolean) 1 22 0 0 [.int b] w (fun r w' => w' = w ∧ ((r = 1 ∧ zk_s b) ∨ (r = 0 ∧ ¬ zk_s b))) := by
  refine zz_mk (by decide) (Nat.le_of_ble_eq_true rfl) ?_
  intro p e s m below meth c A hC hr hk hnm
  have hC : zz_C p s m _ c A D (zt cI cII cF) 1 cX4_isStrip RX4 := hC
  refine zr_iload_n 0 hC dX4_isStrip_0 rfl rfl ?_
  refine zr_iconst (v := (0 : Int32)) hC dX4_isStrip_1 rfl ?_
  refine zr_iconst (v := (3 : Int32)) hC dX4_isStrip_2 rfl ?_
  refine zr_cSi hC cs_X4_in ml_X4_37 (c_X4_in (w := w) b (0 : Int32) (3 : Int32)) dX4_isStrip_3 ⟨Nat.le_of_ble_eq_true rfl, Nat.le_of_ble_eq_true rfl⟩ ⟨Nat.le_of_ble_eq_true rfl, Nat.le_of_ble_eq_true rfl⟩ rfl rfl (Nat.le_of_ble_eq_true rfl) ?_
  rintro _ _ ⟨rfl, ⟨rfl, hi1⟩ | ⟨rfl, hi1⟩⟩
  · refine zr_zret hC hr hk dX4_isStrip_6 rfl (by decide) (by decide) ⟨_, rfl, ?_⟩
    exact ⟨rfl, Or.inl ⟨rfl, zk_s3'.mp hi1⟩⟩
  · refine zr_zret hC hr hk dX4_isStrip_6 rfl (by decide) (by decide) ⟨_, rfl, ?_⟩
    exact ⟨rfl, Or.inr ⟨rfl, fun h => hi1 (zk_s3'.mpr h)⟩⟩
set_option maxRecDepth 100000 in
set_option maxHeartbeats 4000000 in
theorem c_X4_begins0  : zz_Mi l D (zt cI cII cF) yX4_begins cX4_begins 2 (some .boolean) 0 0 0 0 [.ref mo, .int (0 : Int32)] (mw_W mo m1 m2 m3 m4 m5 m6 m7 m8 m9 cI a x) (fun r w' => r = 0 ∧ w' = (mw_W mo m1 m2 m3 m4 m5 m6 m7 m8 m9 cI (as_sta a 1) x)) := by
  refine zz_mk (by decide) (Nat.le_of_ble_eq_true rfl) ?_
  intro p e s m below meth c A hC hr hk hnm
  have hC : zz_C p s m _ c A D (zt cI cII cF) 2 cX4_begins RX4 := hC
  refine zr_aload_n 0 hC dX4_begins_0 rfl rfl ?_
  refine zr_iload_n 1 hC dX4_begins_1 rfl rfl ?_
  refine zr_if_eqT (tgt := 9) hC dX4_begins_2 (by decide) (by decide) ?_
  refine zr_iconst (v := (1 : Int32)) hC dX4_begins_9 rfl ?_
  refine zr_put (w' := (mw_W mo m1 m2 m3 m4 m5 m6 m7 m8 m9 cI (as_sta a (1 : Int32)) x)) 0 13 hC iu_X4 tyX4_ok nmX4 rfl dX4_begins_10 fl_X4_41 (by decide) rfl rfl rfl rfl (Nat.le_of_ble_eq_true rfl) rfl ?_
  refine zr_iload_n 1 hC dX4_begins_13 rfl rfl ?_
  refine zr_zret hC hr hk dX4_begins_14 rfl (by decide) (by decide) ⟨_, rfl, ?_⟩
  exact ⟨rfl, rfl⟩
set_option maxRecDepth 100000 in
set_option maxHeartbeats 4000000 in
theorem c_X4_begins1  : zz_Mi l D (zt cI cII cF) yX4_begins cX4_begins 2 (some .boolean) 0 0 0 0 [.ref mo, .int (1 : Int32)] (mw_W mo m1 m2 m3 m4 m5 m6 m7 m8 m9 cI a x) (fun r w' => r = 1 ∧ w' = (mw_W mo m1 m2 m3 m4 m5 m6 m7 m8 m9 cI (as_sta a 0) x)) := by
  refine zz_mk (by decide) (Nat.le_of_ble_eq_true rfl) ?_
  intro p e s m below meth c A hC hr hk hnm
  have hC : zz_C p s m _ c A D (zt cI cII cF) 2 cX4_begins RX4 := hC
  refine zr_aload_n 0 hC dX4_begins_0 rfl rfl ?_
  refine zr_iload_n 1 hC dX4_begins_1 rfl rfl ?_
  refine zr_if_eqF (tgt := 9) hC dX4_begins_2 (by decide) (by decide) ?_
  refine zr_iconst (v := (0 : Int32)) hC dX4_begins_5 rfl ?_
  refine zr_goto (tgt := 10) hC dX4_begins_6 (by decide) ?_
  refine zr_put (w' := (mw_W mo m1 m2 m3 m4 m5 m6 m7 m8 m9 cI (as_sta a (0 : Int32)) x)) 0 13 hC iu_X4 tyX4_ok nmX4 rfl dX4_begins_10 fl_X4_41 (by decide) rfl rfl rfl rfl (Nat.le_of_ble_eq_true rfl) rfl ?_
  refine zr_iload_n 1 hC dX4_begins_13 rfl rfl ?_
  refine zr_zret hC hr hk dX4_begins_14 rfl (by decide) (by decide) ⟨_, rfl, ?_⟩
  exact ⟨rfl, rfl⟩
set_option maxRecDepth 100000 in
set_option maxHeartbeats 4000000 in
theorem c_X4_nearest {w : va_W} (v : Int32) : zz_Mi l D (zt cI cII cF) yX4_nearest cX4_nearest 1 (some .int) 0 0 0 0 [.int v] w (fun r w' => r = zf_lev v ∧ w' = w) := by
  refine zz_mk (by decide) (Nat.le_of_ble_eq_true rfl) ?_
  intro p e s m below meth c A hC hr hk hnm
  have hC : zz_C p s m _ c A D (zt cI cII cF) 1 cX4_nearest RX4 := hC
  refine zr_iload_n 0 hC dX4_nearest_0 rfl rfl ?_
  refine zr_ldc hC dX4_nearest_1 kc_X4_45 ?_
  refine zr_icmp_ge (tgt := 11) hC dX4_nearest_3 (by decide) (fun c3 => ?_) (fun c3 => ?_)
  · refine zr_iload_n 0 hC dX4_nearest_11 rfl rfl ?_
    refine zr_ldc hC dX4_nearest_12 kc_X4_46 ?_
    refine zr_icmp_le (tgt := 22) hC dX4_nearest_14 (by decide) (fun c14 => ?_) (fun c14 => ?_)
    · refine zr_iload_n 0 hC dX4_nearest_22 rfl rfl ?_
      refine zr_iret hC hr hk dX4_nearest_23 (by decide) (by decide) ⟨_, rfl, ?_⟩
      exact ⟨(zf_lev_in c3 c14).symm, rfl⟩
    · refine zr_ldc hC dX4_nearest_17 kc_X4_46 ?_
      refine zr_goto (tgt := 23) hC dX4_nearest_19 (by decide) ?_
      refine zr_iret hC hr hk dX4_nearest_23 (by decide) (by decide) ⟨_, rfl, ?_⟩
      exact ⟨(zf_lev_hi (Int32.not_le.mp c14)).symm, rfl⟩
  · refine zr_ldc hC dX4_nearest_6 kc_X4_45 ?_
    refine zr_goto (tgt := 23) hC dX4_nearest_8 (by decide) ?_
    refine zr_iret hC hr hk dX4_nearest_23 (by decide) (by decide) ⟨_, rfl, ?_⟩
    exact ⟨(zf_lev_lo (Int32.not_le.mp c3)).symm, rfl⟩
set_option maxRecDepth 100000 in
set_option maxHeartbeats 4000000 in
theorem c_X4_kept {w : va_W} (s0 v : Int32) : zz_Mi l D (zt cI cII cF) yX4_kept cX4_kept 3 (some .int) 1 20 0 0 [.int s0, .int v] w (fun r w' => r = zf_num s0 v ∧ w' = w) := by
  refine zz_mk (by decide) (Nat.le_of_ble_eq_true rfl) ?_
  intro p e s m below meth c A hC hr hk hnm
  have hC : zz_C p s m _ c A D (zt cI cII cF) 3 cX4_kept RX4 := hC
  refine zr_iload_n 0 hC dX4_kept_0 rfl rfl ?_
  refine zr_if_ne (tgt := 9) hC dX4_kept_1 (by decide) (fun c1 => ?_) (fun c1 => ?_)
  · refine zr_iload_n 0 hC dX4_kept_9 rfl rfl ?_
    refine zr_iconst (v := (1 : Int32)) hC dX4_kept_10 rfl ?_
    refine zr_icmp_ne (tgt := 35) hC dX4_kept_11 (by decide) (fun c11 => ?_) (fun c11 => ?_)
    · refine zr_iload_n 0 hC dX4_kept_35 rfl rfl ?_
      refine zr_iconst (v := (2 : Int32)) hC dX4_kept_36 rfl ?_
      refine zr_icmp_ne (tgt := 47) hC dX4_kept_37 (by decide) (fun c37 => ?_) (fun c37 => ?_)
      · refine zr_iload_n 1 hC dX4_kept_47 rfl rfl ?_
        refine zr_iconst (v := (1 : Int32)) hC dX4_kept_48 rfl ?_
        refine zr_iand hC dX4_kept_49 ?_
        refine zr_iret hC hr hk dX4_kept_50 (by decide) (by decide) ⟨_, rfl, ?_⟩
        exact ⟨by unfold zf_num; rw [if_neg c1, if_neg c11, if_neg c37], rfl⟩
      · refine zr_iload_n 1 hC dX4_kept_40 rfl rfl ?_
        refine zr_cSi hC cs_X4_nearest ml_X4_49 (c_X4_nearest (w := w) v) dX4_kept_41 ⟨Nat.le_of_ble_eq_true rfl, Nat.le_of_ble_eq_true rfl⟩ ⟨Nat.le_of_ble_eq_true rfl, Nat.le_of_ble_eq_true rfl⟩ rfl rfl (Nat.le_of_ble_eq_true rfl) ?_
        rintro _ _ ⟨rfl, rfl⟩
        refine zr_goto (tgt := 50) hC dX4_kept_44 (by decide) ?_
        refine zr_iret hC hr hk dX4_kept_50 (by decide) (by decide) ⟨_, rfl, ?_⟩
        exact ⟨by unfold zf_num; rw [if_neg c1, if_neg c11, if_pos c37], rfl⟩
    · refine zr_iload_n 1 hC dX4_kept_14 rfl rfl ?_
      refine zr_ldc hC dX4_kept_15 kc_X4_47 ?_
      refine zr_iand hC dX4_kept_17 ?_
      refine zr_istore_n (lv' := [(2, .int (v &&& (65535 : Int32))), (0, .int s0), (1, .int v)]) hC dX4_kept_18 rfl (by decide) rfl ?_
      refine zr_iload_n 0 hC dX4_kept_19 rfl rfl ?_
      refine zr_sipush (v := (32767 : Int32)) hC dX4_kept_20 rfl ?_
      refine zr_icmp_le (tgt := 33) hC dX4_kept_23 (by decide) (fun c23 => ?_) (fun c23 => ?_)
      · refine zr_iload_n 0 hC dX4_kept_33 rfl rfl ?_
        refine zr_iret hC hr hk dX4_kept_34 (by decide) (by decide) ⟨_, rfl, ?_⟩
        exact ⟨by unfold zf_num; rw [if_neg c1, if_pos c11]; exact (zf_short_lo c23).symm, rfl⟩
      · refine zr_iload_n 0 hC dX4_kept_26 rfl rfl ?_
        refine zr_ldc hC dX4_kept_27 kc_X4_48 ?_
        refine zr_isub hC dX4_kept_29 ?_
        refine zr_goto (tgt := 34) hC dX4_kept_30 (by decide) ?_
        refine zr_iret hC hr hk dX4_kept_34 (by decide) (by decide) ⟨_, rfl, ?_⟩
        exact ⟨by unfold zf_num; rw [if_neg c1, if_pos c11]; exact (zf_short_hi c23).symm, rfl⟩
  · refine zr_iload_n 1 hC dX4_kept_4 rfl rfl ?_
    refine zr_ldc hC dX4_kept_5 kc_X4_47 ?_
    refine zr_iand hC dX4_kept_7 ?_
    refine zr_iret hC hr hk dX4_kept_8 (by decide) (by decide) ⟨_, rfl, ?_⟩
    exact ⟨by unfold zf_num; rw [if_pos c1], rfl⟩
set_option maxRecDepth 100000 in
set_option maxHeartbeats 4000000 in
theorem c_X4_digit {w : va_W} (r0 : Int32) : zz_Mi l D (zt cI cII cF) yX4_digit cX4_digit 1 (some .int) 0 0 0 0 [.int r0] w (fun r w' => r = zf_dig r0 ∧ w' = w) := by
  refine zz_mk (by decide) (Nat.le_of_ble_eq_true rfl) ?_
  intro p e s m below meth c A hC hr hk hnm
  have hC : zz_C p s m _ c A D (zt cI cII cF) 1 cX4_digit RX4 := hC
  refine zr_iload_n 0 hC dX4_digit_0 rfl rfl ?_
  refine zr_iconst (v := (2 : Int32)) hC dX4_digit_1 rfl ?_
  refine zr_icmp_ne (tgt := 9) hC dX4_digit_2 (by decide) (fun c2 => ?_) (fun c2 => ?_)
  · refine zr_iload_n 0 hC dX4_digit_9 rfl rfl ?_
    refine zr_iconst (v := (3 : Int32)) hC dX4_digit_10 rfl ?_
    refine zr_icmp_ne (tgt := 18) hC dX4_digit_11 (by decide) (fun c11 => ?_) (fun c11 => ?_)
    · refine zr_iconst (v := (0 : Int32)) hC dX4_digit_18 rfl ?_
      refine zr_iret hC hr hk dX4_digit_19 (by decide) (by decide) ⟨_, rfl, ?_⟩
      exact ⟨by simp [zf_dig, c2, c11], rfl⟩
    · refine zr_iconst (v := (2 : Int32)) hC dX4_digit_14 rfl ?_
      refine zr_goto (tgt := 19) hC dX4_digit_15 (by decide) ?_
      refine zr_iret hC hr hk dX4_digit_19 (by decide) (by decide) ⟨_, rfl, ?_⟩
      exact ⟨by simp [zf_dig, c2, c11], rfl⟩
  · refine zr_iconst (v := (1 : Int32)) hC dX4_digit_5 rfl ?_
    refine zr_goto (tgt := 19) hC dX4_digit_6 (by decide) ?_
    refine zr_iret hC hr hk dX4_digit_19 (by decide) (by decide) ⟨_, rfl, ?_⟩
    exact ⟨by simp [zf_dig, c2], rfl⟩
set_option maxRecDepth 100000 in
set_option maxHeartbeats 4000000 in
theorem c_X4_counted (r0 : Int32) (hw4 : ¬ r0 = 4) : zz_Mi l D (zt cI cII cF) yX4_counted cX4_counted 2 (some .int) 0 0 0 0 [.ref mo, .int r0] (mw_W mo m1 m2 m3 m4 m5 m6 m7 m8 m9 cI a x) (fun r w' => r = r0 ∧ w' = (mw_W mo m1 m2 m3 m4 m5 m6 m7 m8 m9 cI (zf_cnt r0 a) x)) := by
  refine zz_mk (by decide) (Nat.le_of_ble_eq_true rfl) ?_
  intro p e s m below meth c A hC hr hk hnm
  have hC : zz_C p s m _ c A D (zt cI cII cF) 2 cX4_counted RX4 := hC
  refine zr_aload_n 0 hC dX4_counted_0 rfl rfl ?_
  refine zr_dup hC dX4_counted_1 rfl ?_
  refine zr_get (v := .int (aa_mi a)) 0 14 hC iu_X4 rfl dX4_counted_2 fl_X4_60 (by decide) rfl rfl ?_
  refine zr_iload_n 1 hC dX4_counted_5 rfl rfl ?_
  refine zr_iconst (v := (2 : Int32)) hC dX4_counted_6 rfl ?_
  refine zr_icmp_ne (tgt := 14) hC dX4_counted_7 (by decide) (fun c7 => ?_) (fun c7 => ?_)
  · refine zr_iconst (v := (0 : Int32)) hC dX4_counted_14 rfl ?_
    refine zr_iadd hC dX4_counted_15 ?_
    refine zr_put (w' := (mw_W mo m1 m2 m3 m4 m5 m6 m7 m8 m9 cI (as_mi a ((aa_mi a) + (0 : Int32))) x)) 0 14 hC iu_X4 tyX4_ok nmX4 rfl dX4_counted_16 fl_X4_60 (by decide) rfl rfl rfl rfl (Nat.le_of_ble_eq_true rfl) rfl ?_
    refine zr_aload_n 0 hC dX4_counted_19 rfl rfl ?_
    refine zr_dup hC dX4_counted_20 rfl ?_
    refine zr_get (v := .int (aa_ou a)) 0 15 hC iu_X4 rfl dX4_counted_21 fl_X4_63 (by decide) rfl rfl ?_
    refine zr_iload_n 1 hC dX4_counted_24 rfl rfl ?_
    refine zr_iconst (v := (3 : Int32)) hC dX4_counted_25 rfl ?_
    refine zr_icmp_ne (tgt := 33) hC dX4_counted_26 (by decide) (fun c26 => ?_) (fun c26 => ?_)
    · refine zr_iconst (v := (0 : Int32)) hC dX4_counted_33 rfl ?_
      refine zr_iadd hC dX4_counted_34 ?_
      refine zr_put (w' := (mw_W mo m1 m2 m3 m4 m5 m6 m7 m8 m9 cI (as_ou (as_mi a ((aa_mi a) + (0 : Int32))) ((aa_ou a) + (0 : Int32))) x)) 0 15 hC iu_X4 tyX4_ok nmX4 rfl dX4_counted_35 fl_X4_63 (by decide) rfl rfl rfl rfl (Nat.le_of_ble_eq_true rfl) rfl ?_
      refine zr_iload_n 1 hC dX4_counted_38 rfl rfl ?_
      refine zr_iret hC hr hk dX4_counted_39 (by decide) (by decide) ⟨_, rfl, ?_⟩
      exact ⟨rfl, by simp [zf_cnt, hw4, c7, c26]⟩
    · refine zr_iconst (v := (1 : Int32)) hC dX4_counted_29 rfl ?_
      refine zr_goto (tgt := 34) hC dX4_counted_30 (by decide) ?_
      refine zr_iadd hC dX4_counted_34 ?_
      refine zr_put (w' := (mw_W mo m1 m2 m3 m4 m5 m6 m7 m8 m9 cI (as_ou (as_mi a ((aa_mi a) + (0 : Int32))) ((aa_ou a) + (1 : Int32))) x)) 0 15 hC iu_X4 tyX4_ok nmX4 rfl dX4_counted_35 fl_X4_63 (by decide) rfl rfl rfl rfl (Nat.le_of_ble_eq_true rfl) rfl ?_
      refine zr_iload_n 1 hC dX4_counted_38 rfl rfl ?_
      refine zr_iret hC hr hk dX4_counted_39 (by decide) (by decide) ⟨_, rfl, ?_⟩
      exact ⟨rfl, by simp [zf_cnt, hw4, c7, c26]⟩
  · refine zr_iconst (v := (1 : Int32)) hC dX4_counted_10 rfl ?_
    refine zr_goto (tgt := 15) hC dX4_counted_11 (by decide) ?_
    refine zr_iadd hC dX4_counted_15 ?_
    refine zr_put (w' := (mw_W mo m1 m2 m3 m4 m5 m6 m7 m8 m9 cI (as_mi a ((aa_mi a) + (1 : Int32))) x)) 0 14 hC iu_X4 tyX4_ok nmX4 rfl dX4_counted_16 fl_X4_60 (by decide) rfl rfl rfl rfl (Nat.le_of_ble_eq_true rfl) rfl ?_
    refine zr_aload_n 0 hC dX4_counted_19 rfl rfl ?_
    refine zr_dup hC dX4_counted_20 rfl ?_
    refine zr_get (v := .int (aa_ou a)) 0 15 hC iu_X4 rfl dX4_counted_21 fl_X4_63 (by decide) rfl rfl ?_
    refine zr_iload_n 1 hC dX4_counted_24 rfl rfl ?_
    refine zr_iconst (v := (3 : Int32)) hC dX4_counted_25 rfl ?_
    refine zr_icmp_ne (tgt := 33) hC dX4_counted_26 (by decide) (fun c26 => ?_) (fun c26 => ?_)
    · refine zr_iconst (v := (0 : Int32)) hC dX4_counted_33 rfl ?_
      refine zr_iadd hC dX4_counted_34 ?_
      refine zr_put (w' := (mw_W mo m1 m2 m3 m4 m5 m6 m7 m8 m9 cI (as_ou (as_mi a ((aa_mi a) + (1 : Int32))) ((aa_ou a) + (0 : Int32))) x)) 0 15 hC iu_X4 tyX4_ok nmX4 rfl dX4_counted_35 fl_X4_63 (by decide) rfl rfl rfl rfl (Nat.le_of_ble_eq_true rfl) rfl ?_
      refine zr_iload_n 1 hC dX4_counted_38 rfl rfl ?_
      refine zr_iret hC hr hk dX4_counted_39 (by decide) (by decide) ⟨_, rfl, ?_⟩
      exact ⟨rfl, by simp [zf_cnt, hw4, c7, c26]⟩
    · refine zr_iconst (v := (1 : Int32)) hC dX4_counted_29 rfl ?_
      refine zr_goto (tgt := 34) hC dX4_counted_30 (by decide) ?_
      refine zr_iadd hC dX4_counted_34 ?_
      refine zr_put (w' := (mw_W mo m1 m2 m3 m4 m5 m6 m7 m8 m9 cI (as_ou (as_mi a ((aa_mi a) + (1 : Int32))) ((aa_ou a) + (1 : Int32))) x)) 0 15 hC iu_X4 tyX4_ok nmX4 rfl dX4_counted_35 fl_X4_63 (by decide) rfl rfl rfl rfl (Nat.le_of_ble_eq_true rfl) rfl ?_
      refine zr_iload_n 1 hC dX4_counted_38 rfl rfl ?_
      refine zr_iret hC hr hk dX4_counted_39 (by decide) (by decide) ⟨_, rfl, ?_⟩
      exact absurd (c7.symm.trans c26) (by decide)
set_option maxRecDepth 100000 in
set_option maxHeartbeats 4000000 in
theorem c_X4_why (hR : rm_Q a x) {b s0 : Int32} (i : Int32) (hb_b : zk_b b) (hs_s0 : zk_s s0) : zz_Mi l D (zt cI cII cF) yX4_why cX4_why 5 (some .int) 1 22 0 0 [.ref mo, .int b, .int s0, .int i] (mw_W mo m1 m2 m3 m4 m5 m6 m7 m8 m9 cI a x) (fun r w' => r = zf_why (aa_st a) (zl b s0) i ∧ w' = (mw_W mo m1 m2 m3 m4 m5 m6 m7 m8 m9 cI a x)) := by
  refine zz_mk (by decide) (Nat.le_of_ble_eq_true rfl) ?_
  intro p e s m below meth c A hC hr hk hnm
  have hC : zz_C p s m _ c A D (zt cI cII cF) 5 cX4_why RX4 := hC
  refine zr_aload_n 0 hC dX4_why_0 rfl rfl ?_
  refine zr_get (v := .ref m1) 0 0 hC iu_X4 rfl dX4_why_1 fl_X4_7 (by decide) rfl rfl ?_
  refine zr_iconst (v := (4 : Int32)) hC dX4_why_4 rfl ?_
  refine zr_iload_n 1 hC dX4_why_5 rfl rfl ?_
  refine zr_imul hC dX4_why_6 ?_
  refine zr_iload_n 2 hC dX4_why_7 rfl rfl ?_
  refine zr_iadd hC dX4_why_8 ?_
  refine zr_iaj (f := (mx_sp x)) (j := zl b s0) 1 0 hC dX4_why_9 rfl rfl (zl_lt hb_b hs_s0) (zl_m hb_b hs_s0) (by decide) ?_
  refine zr_istore (lv' := [(4, .int ((mx_sp x) (zl b s0))), (0, .ref mo), (1, .int b), (2, .int s0), (3, .int i)]) hC dX4_why_10 (by decide) rfl ?_
  refine zr_iload 0 hC dX4_why_12 rfl ?_
  refine zr_iconst (v := (-1 : Int32)) hC dX4_why_14 rfl ?_
  refine zr_icmp_ne (tgt := 20) hC dX4_why_15 (by decide) (fun c15 => ?_) (fun c15 => ?_)
  · obtain ⟨z, n, hz, hsz, hn, hln, hlen, -⟩ := rm_some hR (zl_lt hb_b hs_s0) c15
    refine zr_iload_n 4 hC dX4_why_20 rfl rfl ?_
    refine zr_iconst (v := (0 : Int32)) hC dX4_why_21 rfl ?_
    refine zr_aload_n 1 hC dX4_why_22 rfl rfl ?_
    refine zr_get (v := .ref m2) 0 1 hC iu_X4 rfl dX4_why_23 fl_X4_13 (by decide) rfl rfl ?_
    refine zr_iload 0 hC dX4_why_26 rfl ?_
    refine zr_iaj (f := (mx_ln x)) (j := z) 2 0 hC dX4_why_28 rfl rfl hz hsz (by decide) ?_
    refine zr_iconst (v := (1 : Int32)) hC dX4_why_29 rfl ?_
    refine zr_isub hC dX4_why_30 ?_
    refine zr_cSi hC cs_X4_in ml_X4_37 (c_X4_in (w := (mw_W mo m1 m2 m3 m4 m5 m6 m7 m8 m9 cI a x)) i (0 : Int32) (((mx_ln x) z) - (1 : Int32))) dX4_why_31 ⟨Nat.le_of_ble_eq_true rfl, Nat.le_of_ble_eq_true rfl⟩ ⟨Nat.le_of_ble_eq_true rfl, Nat.le_of_ble_eq_true rfl⟩ rfl rfl (Nat.le_of_ble_eq_true rfl) ?_
    rintro _ _ ⟨rfl, ⟨rfl, hi1⟩ | ⟨rfl, hi1⟩⟩
    · refine zr_if_eqF (tgt := 41) hC dX4_why_34 (by decide) (by decide) ?_
      refine zr_iconst (v := (0 : Int32)) hC dX4_why_37 rfl ?_
      refine zr_goto (tgt := 42) hC dX4_why_38 (by decide) ?_
      refine zr_iret hC hr hk dX4_why_42 (by decide) (by decide) ⟨_, rfl, ?_⟩
      rw [hln, zn_le (by omega)] at hi1
      exact ⟨by rw [zf_why_some hlen, if_pos hi1], rfl⟩
    · refine zr_if_eqT (tgt := 41) hC dX4_why_34 (by decide) (by decide) ?_
      refine zr_iconst (v := (3 : Int32)) hC dX4_why_41 rfl ?_
      refine zr_iret hC hr hk dX4_why_42 (by decide) (by decide) ⟨_, rfl, ?_⟩
      rw [hln, zn_le (by omega)] at hi1
      exact ⟨by rw [zf_why_some hlen, if_neg hi1], rfl⟩
  · refine zr_iconst (v := (2 : Int32)) hC dX4_why_18 rfl ?_
    refine zr_iret hC hr hk dX4_why_19 (by decide) (by decide) ⟨_, rfl, ?_⟩
    exact ⟨(zf_why_none (rm_none hR (zl_lt hb_b hs_s0) c15)).symm, rfl⟩
set_option maxRecDepth 100000 in
set_option maxHeartbeats 4000000 in
theorem c_X4_refused (hR : rm_Q a x) {b s0 : Int32} (i : Int32) (hb_b : zk_b b) (hs_s0 : zk_s s0) : zz_Mi l D (zt cI cII cF) yX4_refused cX4_refused 4 (some .int) 2 46 0 0 [.ref mo, .int b, .int s0, .int i] (mw_W mo m1 m2 m3 m4 m5 m6 m7 m8 m9 cI a x) (fun r w' => (zf_why (aa_st a) (zl b s0) i = 0 ∧ r = 0 ∧ w' = (mw_W mo m1 m2 m3 m4 m5 m6 m7 m8 m9 cI a x)) ∨ (¬ zf_why (aa_st a) (zl b s0) i = 0 ∧ r = zf_why (aa_st a) (zl b s0) i ∧ w' = (mw_W mo m1 m2 m3 m4 m5 m6 m7 m8 m9 cI (zf_cnt (zf_why (aa_st a) (zl b s0) i) a) x))) := by
  refine zz_mk (by decide) (Nat.le_of_ble_eq_true rfl) ?_
  intro p e s m below meth c A hC hr hk hnm
  have hC : zz_C p s m _ c A D (zt cI cII cF) 4 cX4_refused RX4 := hC
  refine zr_aload_n 0 hC dX4_refused_0 rfl rfl ?_
  refine zr_aload_n 0 hC dX4_refused_1 rfl rfl ?_
  refine zr_iload_n 1 hC dX4_refused_2 rfl rfl ?_
  refine zr_iload_n 2 hC dX4_refused_3 rfl rfl ?_
  refine zr_iload_n 3 hC dX4_refused_4 rfl rfl ?_
  refine zr_cVi 0 hC cv_X4_why ml_X4_53 (c_X4_why (a := a) (x := x) hR i hb_b hs_s0) dX4_refused_5 ⟨Nat.le_of_ble_eq_true rfl, Nat.le_of_ble_eq_true rfl⟩ ⟨Nat.le_of_ble_eq_true rfl, Nat.le_of_ble_eq_true rfl⟩ rfl rfl rfl rfl rfl (Nat.le_of_ble_eq_true rfl) ?_
  rintro _ _ ⟨rfl, rfl⟩
  refine zr_cVi 0 hC cv_X4_counted ml_X4_57 (c_X4_counted (a := a) (x := x) (zf_why (aa_st a) (zl b s0) i) (by rcases zf_why_or (aa_st a) (zl b s0) i with h | h | h <;> rw [h] <;> decide)) dX4_refused_8 ⟨Nat.le_of_ble_eq_true rfl, Nat.le_of_ble_eq_true rfl⟩ ⟨Nat.le_of_ble_eq_true rfl, Nat.le_of_ble_eq_true rfl⟩ rfl rfl rfl rfl rfl (Nat.le_of_ble_eq_true rfl) ?_
  rintro rr _ ⟨hrr, rfl⟩
  subst rr
  refine zr_iret hC hr hk dX4_refused_11 (by decide) (by decide) ⟨_, rfl, ?_⟩
  by_cases h0 : zf_why (aa_st a) (zl b s0) i = 0
  · exact Or.inl ⟨h0, h0, by rw [h0, zf_cnt0]⟩
  · exact Or.inr ⟨h0, rfl, rfl⟩
set_option maxRecDepth 100000 in
set_option maxHeartbeats 4000000 in
theorem c_X4_at (hR : rm_Q a x) {b s0 i : Int32} (hb_b : zk_b b) (hs_s0 : zk_s s0) (h0 : zf_why (aa_st a) (zl b s0) i = 0) : zz_Mi l D (zt cI cII cF) yX4_at cX4_at 4 (some .int) 0 0 0 0 [.ref mo, .int b, .int s0, .int i] (mw_W mo m1 m2 m3 m4 m5 m6 m7 m8 m9 cI a x) (fun r w' => r = zf_val (aa_st a) (zl b s0) i ∧ w' = (mw_W mo m1 m2 m3 m4 m5 m6 m7 m8 m9 cI a x)) := by
  refine zz_mk (by decide) (Nat.le_of_ble_eq_true rfl) ?_
  intro p e s m below meth c A hC hr hk hnm
  have hC : zz_C p s m _ c A D (zt cI cII cF) 4 cX4_at RX4 := hC
  obtain ⟨z, n, j, hz, hsz, hn, hln, hlen, hj, rfl, hval, hzk⟩ := rm_why0 hR (zl_lt hb_b hs_s0) h0
  refine zr_aload_n 0 hC dX4_at_0 rfl rfl ?_
  refine zr_get (v := .ref m3) 0 2 hC iu_X4 rfl dX4_at_1 fl_X4_16 (by decide) rfl rfl ?_
  refine zr_bipush (v := (25 : Int32)) hC dX4_at_4 rfl ?_
  refine zr_aload_n 0 hC dX4_at_6 rfl rfl ?_
  refine zr_get (v := .ref m1) 0 0 hC iu_X4 rfl dX4_at_7 fl_X4_7 (by decide) rfl rfl ?_
  refine zr_iconst (v := (4 : Int32)) hC dX4_at_10 rfl ?_
  refine zr_iload_n 1 hC dX4_at_11 rfl rfl ?_
  refine zr_imul hC dX4_at_12 ?_
  refine zr_iload_n 2 hC dX4_at_13 rfl rfl ?_
  refine zr_iadd hC dX4_at_14 ?_
  refine zr_iaj (f := (mx_sp x)) (j := zl b s0) 1 0 hC dX4_at_15 rfl rfl (zl_lt hb_b hs_s0) (zl_m hb_b hs_s0) (by decide) ?_
  refine zr_imul hC dX4_at_16 ?_
  refine zr_iload_n 3 hC dX4_at_17 rfl rfl ?_
  refine zr_iadd hC dX4_at_18 ?_
  refine zr_iaj (f := (mx_pl x)) (j := 25 * z + j) 3 0 hC dX4_at_19 rfl rfl (by omega) (by rw [hsz, show (25 : Int32) = nI 25 from rfl, pk_mul, nI_add]) (by decide) ?_
  refine zr_iret hC hr hk dX4_at_20 (by decide) (by decide) ⟨_, rfl, ?_⟩
  exact ⟨hval, rfl⟩
set_option maxRecDepth 100000 in
set_option maxHeartbeats 4000000 in
theorem c_X4_put (hR : rm_Q a x) {b s0 i : Int32} (v : Int32) (hb_b : zk_b b) (hs_s0 : zk_s s0) (h0 : zf_why (aa_st a) (zl b s0) i = 0) : zz_Mv l D (zt cI cII cF) yX4_put cX4_put 5 none 2 42 0 0 [.ref mo, .int b, .int s0, .int i, .int v] (mw_W mo m1 m2 m3 m4 m5 m6 m7 m8 m9 cI a x) (fun w' => ∃ p', w' = (mw_W mo m1 m2 m3 m4 m5 m6 m7 m8 m9 cI (zf_set a (zl b s0) i (zf_num s0 v)) (mk_pl x p')) ∧ rm_Q (zf_set a (zl b s0) i (zf_num s0 v)) (mk_pl x p')) := by
  refine zz_mk (by decide) (Nat.le_of_ble_eq_true rfl) ?_
  intro p e s m below meth c A hC hr hk hnm
  have hC : zz_C p s m _ c A D (zt cI cII cF) 5 cX4_put RX4 := hC
  obtain ⟨z, n, j, hz, hsz, hn, hln, hlen, hj, rfl, hval, hzk⟩ := rm_why0 hR (zl_lt hb_b hs_s0) h0
  refine zr_aload_n 0 hC dX4_put_0 rfl rfl ?_
  refine zr_get (v := .ref m3) 0 2 hC iu_X4 rfl dX4_put_1 fl_X4_16 (by decide) rfl rfl ?_
  refine zr_bipush (v := (25 : Int32)) hC dX4_put_4 rfl ?_
  refine zr_aload_n 0 hC dX4_put_6 rfl rfl ?_
  refine zr_get (v := .ref m1) 0 0 hC iu_X4 rfl dX4_put_7 fl_X4_7 (by decide) rfl rfl ?_
  refine zr_iconst (v := (4 : Int32)) hC dX4_put_10 rfl ?_
  refine zr_iload_n 1 hC dX4_put_11 rfl rfl ?_
  refine zr_imul hC dX4_put_12 ?_
  refine zr_iload_n 2 hC dX4_put_13 rfl rfl ?_
  refine zr_iadd hC dX4_put_14 ?_
  refine zr_iaj (f := (mx_sp x)) (j := zl b s0) 1 0 hC dX4_put_15 rfl rfl (zl_lt hb_b hs_s0) (zl_m hb_b hs_s0) (by decide) ?_
  refine zr_imul hC dX4_put_16 ?_
  refine zr_iload_n 3 hC dX4_put_17 rfl rfl ?_
  refine zr_iadd hC dX4_put_18 ?_
  refine zr_iload_n 2 hC dX4_put_19 rfl rfl ?_
  refine zr_iload 4 hC dX4_put_20 rfl ?_
  refine zr_cSi hC cs_X4_kept ml_X4_66 (c_X4_kept (w := (mw_W mo m1 m2 m3 m4 m5 m6 m7 m8 m9 cI a x)) s0 v) dX4_put_22 ⟨Nat.le_of_ble_eq_true rfl, Nat.le_of_ble_eq_true rfl⟩ ⟨Nat.le_of_ble_eq_true rfl, Nat.le_of_ble_eq_true rfl⟩ rfl rfl (Nat.le_of_ble_eq_true rfl) ?_
  rintro _ _ ⟨rfl, rfl⟩
  refine zr_iasj (f := (mx_pl x)) (j := 25 * z + j) (w' := (mw_W mo m1 m2 m3 m4 m5 m6 m7 m8 m9 cI a (mk_pl x (upd (mx_pl x) (25 * z + j) (zf_num s0 v))))) 3 0 hC dX4_put_25 rfl rfl (by omega) (by rw [hsz, show (25 : Int32) = nI 25 from rfl, pk_mul, nI_add]) (by decide) rfl ?_
  refine zr_aload_n 0 hC dX4_put_26 rfl rfl ?_
  refine zr_dup hC dX4_put_27 rfl ?_
  refine zr_get (v := .int (aa_se a)) 0 20 hC iu_X4 rfl dX4_put_28 fl_X4_70 (by decide) rfl rfl ?_
  refine zr_iconst (v := (1 : Int32)) hC dX4_put_31 rfl ?_
  refine zr_iadd hC dX4_put_32 ?_
  refine zr_put (w' := (mw_W mo m1 m2 m3 m4 m5 m6 m7 m8 m9 cI (as_se a ((aa_se a) + (1 : Int32))) (mk_pl x (upd (mx_pl x) (25 * z + j) (zf_num s0 v))))) 0 20 hC iu_X4 tyX4_ok nmX4 rfl dX4_put_33 fl_X4_70 (by decide) rfl rfl rfl rfl (Nat.le_of_ble_eq_true rfl) rfl ?_
  refine zr_vret hC hr hk dX4_put_36 (by decide) (by decide) ⟨rfl, ?_⟩
  exact ⟨_, rfl, rm_put hR (zl_lt hb_b hs_s0) hz hsz hn hln hj (zk_num v hb_b hs_s0)⟩
end ZB1
end
section
section ZB2
variable {l : Launch} {D : va_G} {cI cII cF : ClassId} {o rk sp pp fp mo m1 m2 m3 m4 m5 m6 m7 m8 m9 : Nat}
variable {a : ax_A} {x : mx_X}
set_option maxRecDepth 100000 in
set_option maxHeartbeats 4000000 in
theorem c_X4_light (hR : rm_Q a x) {b : Int32} (i : Int32) (hb_b : zk_b b) : zz_Mi l D (zt cI cII cF) yX4_light cX4_light 4 (some .int) 3 69 0 0 [.ref mo, .int b, .int i] (mw_W mo m1 m2 m3 m4 m5 m6 m7 m8 m9 cI a x) (fun r w' => r = (zf_show a b i).2.1 ∧ w' = (mw_W mo m1 m2 m3 m4 m5 m6 m7 m8 m9 cI (zf_show a b i).2.2 (mk_dk x (zf_show a b i).1))) := by
  refine zz_mk (by decide) (Nat.le_of_ble_eq_true rfl) ?_
  intro p e s m below meth c A hC hr hk hnm
  have hC : zz_C p s m _ c A D (zt cI cII cF) 4 cX4_light RX4 := hC
  refine zr_aload_n 0 hC dX4_light_0 rfl rfl ?_
  refine zr_aload_n 0 hC dX4_light_1 rfl rfl ?_
  refine zr_iload_n 1 hC dX4_light_2 rfl rfl ?_
  refine zr_iconst (v := (3 : Int32)) hC dX4_light_3 rfl ?_
  refine zr_iload_n 2 hC dX4_light_4 rfl rfl ?_
  refine zr_cVi 0 hC cv_X4_refused ml_X4_87 (c_X4_refused (a := a) (x := x) hR i hb_b zk_s3) dX4_light_5 ⟨Nat.le_of_ble_eq_true rfl, Nat.le_of_ble_eq_true rfl⟩ ⟨Nat.le_of_ble_eq_true rfl, Nat.le_of_ble_eq_true rfl⟩ rfl rfl rfl rfl rfl (Nat.le_of_ble_eq_true rfl) ?_
  rintro _ _ (⟨h1, rfl, rfl⟩ | ⟨h1, rfl, rfl⟩)
  · have h1 : (zf_why (aa_st a) (zl b 3) i) = 0 := h1
    refine zr_put (w' := (mw_W mo m1 m2 m3 m4 m5 m6 m7 m8 m9 cI a (mk_dk x (0 : Int32)))) 0 22 hC iu_X4 tyX4_ok nmX4 rfl dX4_light_8 fl_X4_100 (by decide) rfl rfl rfl rfl (Nat.le_of_ble_eq_true rfl) rfl ?_
    refine zr_aload_n 0 hC dX4_light_11 rfl rfl ?_
    refine zr_get (v := .int (0 : Int32)) 0 22 hC iu_X4 rfl dX4_light_12 fl_X4_100 (by decide) rfl rfl ?_
    refine zr_if_neF (tgt := 28) hC dX4_light_15 (by decide) (by decide) ?_
    refine zr_aload_n 0 hC dX4_light_18 rfl rfl ?_
    refine zr_iload_n 1 hC dX4_light_19 rfl rfl ?_
    refine zr_iconst (v := (3 : Int32)) hC dX4_light_20 rfl ?_
    refine zr_iload_n 2 hC dX4_light_21 rfl rfl ?_
    refine zr_cVi 0 hC cv_X4_at ml_X4_90 (c_X4_at (a := a) (x := (mk_dk x (0 : Int32))) hR hb_b zk_s3 (by assumption)) dX4_light_22 ⟨Nat.le_of_ble_eq_true rfl, Nat.le_of_ble_eq_true rfl⟩ ⟨Nat.le_of_ble_eq_true rfl, Nat.le_of_ble_eq_true rfl⟩ rfl rfl rfl rfl rfl (Nat.le_of_ble_eq_true rfl) ?_
    rintro _ _ ⟨rfl, rfl⟩
    refine zr_if_ne (tgt := 30) hC dX4_light_25 (by decide) (fun c25 => ?_) (fun c25 => ?_)
    · refine zr_aload_n 0 hC dX4_light_30 rfl rfl ?_
      refine zr_aload_n 0 hC dX4_light_31 rfl rfl ?_
      refine zr_iload_n 1 hC dX4_light_32 rfl rfl ?_
      refine zr_iconst (v := (2 : Int32)) hC dX4_light_33 rfl ?_
      refine zr_iload_n 2 hC dX4_light_34 rfl rfl ?_
      refine zr_cVi 0 hC cv_X4_refused ml_X4_87 (c_X4_refused (a := a) (x := (mk_dk x (0 : Int32))) hR i hb_b zk_s2) dX4_light_35 ⟨Nat.le_of_ble_eq_true rfl, Nat.le_of_ble_eq_true rfl⟩ ⟨Nat.le_of_ble_eq_true rfl, Nat.le_of_ble_eq_true rfl⟩ rfl rfl rfl rfl rfl (Nat.le_of_ble_eq_true rfl) ?_
      rintro _ _ (⟨h2, rfl, rfl⟩ | ⟨h2, rfl, rfl⟩)
      · have h2 : (zf_why (aa_st a) (zl b 2) i) = 0 := h2
        refine zr_put (w' := (mw_W mo m1 m2 m3 m4 m5 m6 m7 m8 m9 cI a (mk_dk (mk_dk x (0 : Int32)) (0 : Int32)))) 0 22 hC iu_X4 tyX4_ok nmX4 rfl dX4_light_38 fl_X4_100 (by decide) rfl rfl rfl rfl (Nat.le_of_ble_eq_true rfl) rfl ?_
        refine zr_aload_n 0 hC dX4_light_41 rfl rfl ?_
        refine zr_get (v := .int (0 : Int32)) 0 22 hC iu_X4 rfl dX4_light_42 fl_X4_100 (by decide) rfl rfl ?_
        refine zr_if_eqT (tgt := 50) hC dX4_light_45 (by decide) (by decide) ?_
        refine zr_aload_n 0 hC dX4_light_50 rfl rfl ?_
        refine zr_aload_n 0 hC dX4_light_51 rfl rfl ?_
        refine zr_iload_n 1 hC dX4_light_52 rfl rfl ?_
        refine zr_iconst (v := (1 : Int32)) hC dX4_light_53 rfl ?_
        refine zr_iload_n 2 hC dX4_light_54 rfl rfl ?_
        refine zr_cVi 0 hC cv_X4_refused ml_X4_87 (c_X4_refused (a := a) (x := (mk_dk (mk_dk x (0 : Int32)) (0 : Int32))) hR i hb_b zk_s1) dX4_light_55 ⟨Nat.le_of_ble_eq_true rfl, Nat.le_of_ble_eq_true rfl⟩ ⟨Nat.le_of_ble_eq_true rfl, Nat.le_of_ble_eq_true rfl⟩ rfl rfl rfl rfl rfl (Nat.le_of_ble_eq_true rfl) ?_
        rintro _ _ (⟨h3, rfl, rfl⟩ | ⟨h3, rfl, rfl⟩)
        · have h3 : (zf_why (aa_st a) (zl b 1) i) = 0 := h3
          refine zr_put (w' := (mw_W mo m1 m2 m3 m4 m5 m6 m7 m8 m9 cI a (mk_dk (mk_dk (mk_dk x (0 : Int32)) (0 : Int32)) (0 : Int32)))) 0 22 hC iu_X4 tyX4_ok nmX4 rfl dX4_light_58 fl_X4_100 (by decide) rfl rfl rfl rfl (Nat.le_of_ble_eq_true rfl) rfl ?_
          refine zr_aload_n 0 hC dX4_light_61 rfl rfl ?_
          refine zr_get (v := .int (0 : Int32)) 0 22 hC iu_X4 rfl dX4_light_62 fl_X4_100 (by decide) rfl rfl ?_
          refine zr_if_eqT (tgt := 70) hC dX4_light_65 (by decide) (by decide) ?_
          refine zr_aload_n 0 hC dX4_light_70 rfl rfl ?_
          refine zr_aload_n 0 hC dX4_light_71 rfl rfl ?_
          refine zr_iload_n 1 hC dX4_light_72 rfl rfl ?_
          refine zr_iconst (v := (0 : Int32)) hC dX4_light_73 rfl ?_
          refine zr_iload_n 2 hC dX4_light_74 rfl rfl ?_
          refine zr_cVi 0 hC cv_X4_refused ml_X4_87 (c_X4_refused (a := a) (x := (mk_dk (mk_dk (mk_dk x (0 : Int32)) (0 : Int32)) (0 : Int32))) hR i hb_b zk_s0) dX4_light_75 ⟨Nat.le_of_ble_eq_true rfl, Nat.le_of_ble_eq_true rfl⟩ ⟨Nat.le_of_ble_eq_true rfl, Nat.le_of_ble_eq_true rfl⟩ rfl rfl rfl rfl rfl (Nat.le_of_ble_eq_true rfl) ?_
          rintro _ _ (⟨h4, rfl, rfl⟩ | ⟨h4, rfl, rfl⟩)
          · have h4 : (zf_why (aa_st a) (zl b 0) i) = 0 := h4
            refine zr_put (w' := (mw_W mo m1 m2 m3 m4 m5 m6 m7 m8 m9 cI a (mk_dk (mk_dk (mk_dk (mk_dk x (0 : Int32)) (0 : Int32)) (0 : Int32)) (0 : Int32)))) 0 22 hC iu_X4 tyX4_ok nmX4 rfl dX4_light_78 fl_X4_100 (by decide) rfl rfl rfl rfl (Nat.le_of_ble_eq_true rfl) rfl ?_
            refine zr_aload_n 0 hC dX4_light_81 rfl rfl ?_
            refine zr_get (v := .int (0 : Int32)) 0 22 hC iu_X4 rfl dX4_light_82 fl_X4_100 (by decide) rfl rfl ?_
            refine zr_if_eqT (tgt := 90) hC dX4_light_85 (by decide) (by decide) ?_
            refine zr_aload_n 0 hC dX4_light_90 rfl rfl ?_
            refine zr_iload_n 1 hC dX4_light_91 rfl rfl ?_
            refine zr_iconst (v := (2 : Int32)) hC dX4_light_92 rfl ?_
            refine zr_iload_n 2 hC dX4_light_93 rfl rfl ?_
            refine zr_cVi 0 hC cv_X4_at ml_X4_90 (c_X4_at (a := a) (x := (mk_dk (mk_dk (mk_dk (mk_dk x (0 : Int32)) (0 : Int32)) (0 : Int32)) (0 : Int32))) hR hb_b zk_s2 (by assumption)) dX4_light_94 ⟨Nat.le_of_ble_eq_true rfl, Nat.le_of_ble_eq_true rfl⟩ ⟨Nat.le_of_ble_eq_true rfl, Nat.le_of_ble_eq_true rfl⟩ rfl rfl rfl rfl rfl (Nat.le_of_ble_eq_true rfl) ?_
            rintro _ _ ⟨rfl, rfl⟩
            refine zr_aload_n 0 hC dX4_light_97 rfl rfl ?_
            refine zr_iload_n 1 hC dX4_light_98 rfl rfl ?_
            refine zr_iconst (v := (1 : Int32)) hC dX4_light_99 rfl ?_
            refine zr_iload_n 2 hC dX4_light_100 rfl rfl ?_
            refine zr_cVi 0 hC cv_X4_at ml_X4_90 (c_X4_at (a := a) (x := (mk_dk (mk_dk (mk_dk (mk_dk x (0 : Int32)) (0 : Int32)) (0 : Int32)) (0 : Int32))) hR hb_b zk_s1 (by assumption)) dX4_light_101 ⟨Nat.le_of_ble_eq_true rfl, Nat.le_of_ble_eq_true rfl⟩ ⟨Nat.le_of_ble_eq_true rfl, Nat.le_of_ble_eq_true rfl⟩ rfl rfl rfl rfl rfl (Nat.le_of_ble_eq_true rfl) ?_
            rintro _ _ ⟨rfl, rfl⟩
            refine zr_iadd hC dX4_light_104 ?_
            refine zr_istore_n (lv' := [(3, .int ((zf_val (aa_st a) (zl b 2) i) + (zf_val (aa_st a) (zl b 1) i))), (0, .ref mo), (1, .int b), (2, .int i)]) hC dX4_light_105 rfl (by decide) rfl ?_
            refine zr_aload_n 1 hC dX4_light_106 rfl rfl ?_
            refine zr_iload_n 2 hC dX4_light_107 rfl rfl ?_
            refine zr_iconst (v := (0 : Int32)) hC dX4_light_108 rfl ?_
            refine zr_iload_n 3 hC dX4_light_109 rfl rfl ?_
            refine zr_cVi 0 hC cv_X4_at ml_X4_90 (c_X4_at (a := a) (x := (mk_dk (mk_dk (mk_dk (mk_dk x (0 : Int32)) (0 : Int32)) (0 : Int32)) (0 : Int32))) hR hb_b zk_s0 (by assumption)) dX4_light_110 ⟨Nat.le_of_ble_eq_true rfl, Nat.le_of_ble_eq_true rfl⟩ ⟨Nat.le_of_ble_eq_true rfl, Nat.le_of_ble_eq_true rfl⟩ rfl rfl rfl rfl rfl (Nat.le_of_ble_eq_true rfl) ?_
            rintro _ _ ⟨rfl, rfl⟩
            refine zr_iconst (v := (2 : Int32)) hC dX4_light_113 rfl ?_
            refine zr_irem hC dX4_light_114 (by decide) ?_
            refine zr_iconst (v := (1 : Int32)) hC dX4_light_115 rfl ?_
            refine zr_icmp_ne (tgt := 124) hC dX4_light_116 (by decide) (fun c116 => ?_) (fun c116 => ?_)
            · refine zr_iload_n 0 hC dX4_light_124 rfl rfl ?_
              refine zr_iret hC hr hk dX4_light_125 (by decide) (by decide) ⟨_, rfl, ?_⟩
              obtain ⟨-, -, -, -, -, -, -, -, -, -, -, hzk⟩ := rm_why0 hR (zl_lt hb_b zk_s0) h4
              have ht : zf_val (aa_st a) (zl b 0) i - zf_val (aa_st a) (zl b 0) i / 2 * 2 = 0 := (zk_odd hzk (zl_mod hb_b zk_s0)).resolve_right c116
              have e0 : (zf_show a b i) = (0, ((zf_val (aa_st a) (zl b 2) i) + (zf_val (aa_st a) (zl b 1) i)), a) := by simp [zf_show, h1, c25, h2, h3, h4, ht]
              exact ⟨by rw [e0], by rw [e0]; first | done | rfl⟩
            · refine zr_iload_n 0 hC dX4_light_119 rfl rfl ?_
              refine zr_ineg hC dX4_light_120 ?_
              refine zr_goto (tgt := 125) hC dX4_light_121 (by decide) ?_
              refine zr_iret hC hr hk dX4_light_125 (by decide) (by decide) ⟨_, rfl, ?_⟩
              obtain ⟨-, -, -, -, -, -, -, -, -, -, -, hzk⟩ := rm_why0 hR (zl_lt hb_b zk_s0) h4
              have ht : ¬ zf_val (aa_st a) (zl b 0) i - zf_val (aa_st a) (zl b 0) i / 2 * 2 = 0 := fun h => by rw [c116] at h; exact absurd h (by decide)
              have e0 : (zf_show a b i) = (0, (0 - ((zf_val (aa_st a) (zl b 2) i) + (zf_val (aa_st a) (zl b 1) i))), a) := by simp [zf_show, h1, c25, h2, h3, h4, ht]
              exact ⟨by rw [e0], by rw [e0]; first | done | rfl⟩
          · have h4 : ¬ (zf_why (aa_st a) (zl b 0) i) = 0 := h4
            refine zr_put (w' := (mw_W mo m1 m2 m3 m4 m5 m6 m7 m8 m9 cI (zf_cnt (zf_why (aa_st a) (zl b 0) i) a) (mk_dk (mk_dk (mk_dk (mk_dk x (0 : Int32)) (0 : Int32)) (0 : Int32)) (zf_why (aa_st a) (zl b 0) i)))) 0 22 hC iu_X4 tyX4_ok nmX4 rfl dX4_light_78 fl_X4_100 (by decide) rfl rfl rfl rfl (Nat.le_of_ble_eq_true rfl) rfl ?_
            refine zr_aload_n 0 hC dX4_light_81 rfl rfl ?_
            refine zr_get (v := .int (zf_why (aa_st a) (zl b 0) i)) 0 22 hC iu_X4 rfl dX4_light_82 fl_X4_100 (by decide) rfl rfl ?_
            refine zr_if_eqF (tgt := 90) hC dX4_light_85 (by decide) h4 ?_
            refine zr_iconst (v := (0 : Int32)) hC dX4_light_88 rfl ?_
            refine zr_iret hC hr hk dX4_light_89 (by decide) (by decide) ⟨_, rfl, ?_⟩
            have e0 : (zf_show a b i) = ((zf_why (aa_st a) (zl b 0) i), (0 : Int32), (zf_cnt (zf_why (aa_st a) (zl b 0) i) a)) := by simp [zf_show, h1, c25, h2, h3, h4]
            exact ⟨by rw [e0], by rw [e0]; first | done | rfl⟩
        · have h3 : ¬ (zf_why (aa_st a) (zl b 1) i) = 0 := h3
          refine zr_put (w' := (mw_W mo m1 m2 m3 m4 m5 m6 m7 m8 m9 cI (zf_cnt (zf_why (aa_st a) (zl b 1) i) a) (mk_dk (mk_dk (mk_dk x (0 : Int32)) (0 : Int32)) (zf_why (aa_st a) (zl b 1) i)))) 0 22 hC iu_X4 tyX4_ok nmX4 rfl dX4_light_58 fl_X4_100 (by decide) rfl rfl rfl rfl (Nat.le_of_ble_eq_true rfl) rfl ?_
          refine zr_aload_n 0 hC dX4_light_61 rfl rfl ?_
          refine zr_get (v := .int (zf_why (aa_st a) (zl b 1) i)) 0 22 hC iu_X4 rfl dX4_light_62 fl_X4_100 (by decide) rfl rfl ?_
          refine zr_if_eqF (tgt := 70) hC dX4_light_65 (by decide) h3 ?_
          refine zr_iconst (v := (0 : Int32)) hC dX4_light_68 rfl ?_
          refine zr_iret hC hr hk dX4_light_69 (by decide) (by decide) ⟨_, rfl, ?_⟩
          have e0 : (zf_show a b i) = ((zf_why (aa_st a) (zl b 1) i), (0 : Int32), (zf_cnt (zf_why (aa_st a) (zl b 1) i) a)) := by simp [zf_show, h1, c25, h2, h3]
          exact ⟨by rw [e0], by rw [e0]; first | done | rfl⟩
      · have h2 : ¬ (zf_why (aa_st a) (zl b 2) i) = 0 := h2
        refine zr_put (w' := (mw_W mo m1 m2 m3 m4 m5 m6 m7 m8 m9 cI (zf_cnt (zf_why (aa_st a) (zl b 2) i) a) (mk_dk (mk_dk x (0 : Int32)) (zf_why (aa_st a) (zl b 2) i)))) 0 22 hC iu_X4 tyX4_ok nmX4 rfl dX4_light_38 fl_X4_100 (by decide) rfl rfl rfl rfl (Nat.le_of_ble_eq_true rfl) rfl ?_
        refine zr_aload_n 0 hC dX4_light_41 rfl rfl ?_
        refine zr_get (v := .int (zf_why (aa_st a) (zl b 2) i)) 0 22 hC iu_X4 rfl dX4_light_42 fl_X4_100 (by decide) rfl rfl ?_
        refine zr_if_eqF (tgt := 50) hC dX4_light_45 (by decide) h2 ?_
        refine zr_iconst (v := (0 : Int32)) hC dX4_light_48 rfl ?_
        refine zr_iret hC hr hk dX4_light_49 (by decide) (by decide) ⟨_, rfl, ?_⟩
        have e0 : (zf_show a b i) = ((zf_why (aa_st a) (zl b 2) i), (0 : Int32), (zf_cnt (zf_why (aa_st a) (zl b 2) i) a)) := by simp [zf_show, h1, c25, h2]
        exact ⟨by rw [e0], by rw [e0]; first | done | rfl⟩
    · refine zr_iconst (v := (0 : Int32)) hC dX4_light_28 rfl ?_
      refine zr_iret hC hr hk dX4_light_29 (by decide) (by decide) ⟨_, rfl, ?_⟩
      have e0 : (zf_show a b i) = ((0 : Int32), (0 : Int32), a) := by simp [zf_show, h1, c25]
      exact ⟨by rw [e0], by rw [e0]; first | done | rfl⟩
  · have h1 : ¬ (zf_why (aa_st a) (zl b 3) i) = 0 := h1
    refine zr_put (w' := (mw_W mo m1 m2 m3 m4 m5 m6 m7 m8 m9 cI (zf_cnt (zf_why (aa_st a) (zl b 3) i) a) (mk_dk x (zf_why (aa_st a) (zl b 3) i)))) 0 22 hC iu_X4 tyX4_ok nmX4 rfl dX4_light_8 fl_X4_100 (by decide) rfl rfl rfl rfl (Nat.le_of_ble_eq_true rfl) rfl ?_
    refine zr_aload_n 0 hC dX4_light_11 rfl rfl ?_
    refine zr_get (v := .int (zf_why (aa_st a) (zl b 3) i)) 0 22 hC iu_X4 rfl dX4_light_12 fl_X4_100 (by decide) rfl rfl ?_
    refine zr_if_neT (tgt := 28) hC dX4_light_15 (by decide) h1 ?_
    refine zr_iconst (v := (0 : Int32)) hC dX4_light_28 rfl ?_
    refine zr_iret hC hr hk dX4_light_29 (by decide) (by decide) ⟨_, rfl, ?_⟩
    have e0 : (zf_show a b i) = ((zf_why (aa_st a) (zl b 3) i), (0 : Int32), (zf_cnt (zf_why (aa_st a) (zl b 3) i) a)) := by simp [zf_show, h1]
    exact ⟨by rw [e0], by rw [e0]; first | done | rfl⟩
set_option maxRecDepth 100000 in
set_option maxHeartbeats 4000000 in
theorem c_X4_get (hR : rm_R a x) (b s0 i : Int32) : zz_Mi l D (zt cI cII cF) yX4_get cX4_get 4 (some .int) 3 69 0 0 [.ref mo, .int b, .int s0, .int i] (mw_W mo m1 m2 m3 m4 m5 m6 m7 m8 m9 cI a x) (fun r w' => zp_m mo m1 m2 m3 m4 m5 m6 m7 m8 m9 cI (zo_get a b s0 i) r w') := by
  refine zz_mk (by decide) (Nat.le_of_ble_eq_true rfl) ?_
  intro p e s m below meth c A hC hr hk hnm
  have hC : zz_C p s m _ c A D (zt cI cII cF) 4 cX4_get RX4 := hC
  refine zr_aload_n 0 hC dX4_get_0 rfl rfl ?_
  refine zr_iload_n 1 hC dX4_get_1 rfl rfl ?_
  refine zr_cSi hC cs_X4_isBank ml_X4_73 (c_X4_isBank (w := (mw_W mo m1 m2 m3 m4 m5 m6 m7 m8 m9 cI a x)) b) dX4_get_2 ⟨Nat.le_of_ble_eq_true rfl, Nat.le_of_ble_eq_true rfl⟩ ⟨Nat.le_of_ble_eq_true rfl, Nat.le_of_ble_eq_true rfl⟩ rfl rfl (Nat.le_of_ble_eq_true rfl) ?_
  rintro _ _ ⟨rfl, ⟨rfl, hb_b⟩ | ⟨rfl, hb_b⟩⟩
  · refine zr_if_eqF (tgt := 19) hC dX4_get_5 (by decide) (by decide) ?_
    refine zr_iload_n 2 hC dX4_get_8 rfl rfl ?_
    refine zr_cSi hC cs_X4_isStrip ml_X4_77 (c_X4_isStrip (w := (mw_W mo m1 m2 m3 m4 m5 m6 m7 m8 m9 cI a x)) s0) dX4_get_9 ⟨Nat.le_of_ble_eq_true rfl, Nat.le_of_ble_eq_true rfl⟩ ⟨Nat.le_of_ble_eq_true rfl, Nat.le_of_ble_eq_true rfl⟩ rfl rfl (Nat.le_of_ble_eq_true rfl) ?_
    rintro _ _ ⟨rfl, ⟨rfl, hs_s0⟩ | ⟨rfl, hs_s0⟩⟩
    · refine zr_if_eqF (tgt := 19) hC dX4_get_12 (by decide) (by decide) ?_
      refine zr_iconst (v := (1 : Int32)) hC dX4_get_15 rfl ?_
      refine zr_goto (tgt := 20) hC dX4_get_16 (by decide) ?_
      refine zr_cVi 0 hC cv_X4_begins ml_X4_80 (c_X4_begins1 (a := a) (x := x)) dX4_get_20 ⟨Nat.le_of_ble_eq_true rfl, Nat.le_of_ble_eq_true rfl⟩ ⟨Nat.le_of_ble_eq_true rfl, Nat.le_of_ble_eq_true rfl⟩ rfl rfl rfl rfl rfl (Nat.le_of_ble_eq_true rfl) ?_
      rintro _ _ ⟨rfl, rfl⟩
      refine zr_if_neT (tgt := 28) hC dX4_get_23 (by decide) (by decide) ?_
      refine zr_aload_n 0 hC dX4_get_28 rfl rfl ?_
      refine zr_aload_n 0 hC dX4_get_29 rfl rfl ?_
      refine zr_iload_n 1 hC dX4_get_30 rfl rfl ?_
      refine zr_iload_n 2 hC dX4_get_31 rfl rfl ?_
      refine zr_iload_n 3 hC dX4_get_32 rfl rfl ?_
      refine zr_cVi 0 hC cv_X4_refused ml_X4_87 (c_X4_refused (a := (as_sta a 0)) (x := x) hR.1 i hb_b hs_s0) dX4_get_33 ⟨Nat.le_of_ble_eq_true rfl, Nat.le_of_ble_eq_true rfl⟩ ⟨Nat.le_of_ble_eq_true rfl, Nat.le_of_ble_eq_true rfl⟩ rfl rfl rfl rfl rfl (Nat.le_of_ble_eq_true rfl) ?_
      rintro _ _ (⟨h1, rfl, rfl⟩ | ⟨h1, rfl, rfl⟩)
      · have h1 : (zf_why (aa_st a) (zl b s0) i) = 0 := h1
        refine zr_put (w' := (mw_W mo m1 m2 m3 m4 m5 m6 m7 m8 m9 cI (as_sta (as_sta a 0) (0 : Int32)) x)) 0 13 hC iu_X4 tyX4_ok nmX4 rfl dX4_get_36 fl_X4_41 (by decide) rfl rfl rfl rfl (Nat.le_of_ble_eq_true rfl) rfl ?_
        refine zr_aload_n 0 hC dX4_get_39 rfl rfl ?_
        refine zr_get (v := .int (0 : Int32)) 0 13 hC iu_X4 rfl dX4_get_40 fl_X4_41 (by decide) rfl rfl ?_
        refine zr_if_neF (tgt := 56) hC dX4_get_43 (by decide) (by decide) ?_
        refine zr_aload_n 0 hC dX4_get_46 rfl rfl ?_
        refine zr_iload_n 1 hC dX4_get_47 rfl rfl ?_
        refine zr_iload_n 2 hC dX4_get_48 rfl rfl ?_
        refine zr_iload_n 3 hC dX4_get_49 rfl rfl ?_
        refine zr_cVi 0 hC cv_X4_at ml_X4_90 (c_X4_at (a := (as_sta (as_sta a 0) (0 : Int32))) (x := x) hR.1 hb_b hs_s0 (by assumption)) dX4_get_50 ⟨Nat.le_of_ble_eq_true rfl, Nat.le_of_ble_eq_true rfl⟩ ⟨Nat.le_of_ble_eq_true rfl, Nat.le_of_ble_eq_true rfl⟩ rfl rfl rfl rfl rfl (Nat.le_of_ble_eq_true rfl) ?_
        rintro _ _ ⟨rfl, rfl⟩
        refine zr_goto (tgt := 57) hC dX4_get_53 (by decide) ?_
        refine zr_iret hC hr hk dX4_get_57 (by decide) (by decide) ⟨_, rfl, ?_⟩
        exact zq_mk (by unfold zo_get; rw [if_pos ⟨hb_b, hs_s0⟩]; first | done | rfl | simp [h1]) hR
      · have h1 : ¬ (zf_why (aa_st a) (zl b s0) i) = 0 := h1
        refine zr_put (w' := (mw_W mo m1 m2 m3 m4 m5 m6 m7 m8 m9 cI (as_sta (zf_cnt (zf_why (aa_st a) (zl b s0) i) (as_sta a 0)) (zf_why (aa_st a) (zl b s0) i)) x)) 0 13 hC iu_X4 tyX4_ok nmX4 rfl dX4_get_36 fl_X4_41 (by decide) rfl rfl rfl rfl (Nat.le_of_ble_eq_true rfl) rfl ?_
        refine zr_aload_n 0 hC dX4_get_39 rfl rfl ?_
        refine zr_get (v := .int (zf_why (aa_st a) (zl b s0) i)) 0 13 hC iu_X4 rfl dX4_get_40 fl_X4_41 (by decide) rfl rfl ?_
        refine zr_if_neT (tgt := 56) hC dX4_get_43 (by decide) h1 ?_
        refine zr_iconst (v := (0 : Int32)) hC dX4_get_56 rfl ?_
        refine zr_iret hC hr hk dX4_get_57 (by decide) (by decide) ⟨_, rfl, ?_⟩
        exact zq_mk (by unfold zo_get; rw [if_pos ⟨hb_b, hs_s0⟩]; first | done | rfl | simp [h1]) hR
    · refine zr_if_eqT (tgt := 19) hC dX4_get_12 (by decide) (by decide) ?_
      refine zr_iconst (v := (0 : Int32)) hC dX4_get_19 rfl ?_
      refine zr_cVi 0 hC cv_X4_begins ml_X4_80 (c_X4_begins0 (a := a) (x := x)) dX4_get_20 ⟨Nat.le_of_ble_eq_true rfl, Nat.le_of_ble_eq_true rfl⟩ ⟨Nat.le_of_ble_eq_true rfl, Nat.le_of_ble_eq_true rfl⟩ rfl rfl rfl rfl rfl (Nat.le_of_ble_eq_true rfl) ?_
      rintro _ _ ⟨rfl, rfl⟩
      refine zr_if_neF (tgt := 28) hC dX4_get_23 (by decide) (by decide) ?_
      refine zr_iconst (v := (0 : Int32)) hC dX4_get_26 rfl ?_
      refine zr_iret hC hr hk dX4_get_27 (by decide) (by decide) ⟨_, rfl, ?_⟩
      exact zq_mk (if_neg (fun h => absurd h.2 hs_s0)) hR
  · refine zr_if_eqT (tgt := 19) hC dX4_get_5 (by decide) (by decide) ?_
    refine zr_iconst (v := (0 : Int32)) hC dX4_get_19 rfl ?_
    refine zr_cVi 0 hC cv_X4_begins ml_X4_80 (c_X4_begins0 (a := a) (x := x)) dX4_get_20 ⟨Nat.le_of_ble_eq_true rfl, Nat.le_of_ble_eq_true rfl⟩ ⟨Nat.le_of_ble_eq_true rfl, Nat.le_of_ble_eq_true rfl⟩ rfl rfl rfl rfl rfl (Nat.le_of_ble_eq_true rfl) ?_
    rintro _ _ ⟨rfl, rfl⟩
    refine zr_if_neF (tgt := 28) hC dX4_get_23 (by decide) (by decide) ?_
    refine zr_iconst (v := (0 : Int32)) hC dX4_get_26 rfl ?_
    refine zr_iret hC hr hk dX4_get_27 (by decide) (by decide) ⟨_, rfl, ?_⟩
    exact zq_mk (if_neg (fun h => absurd h.1 hb_b)) hR
set_option maxRecDepth 100000 in
set_option maxHeartbeats 4000000 in
theorem c_X4_set (hR : rm_R a x) (b s0 i v : Int32) : zz_Mi l D (zt cI cII cF) yX4_set cX4_set 6 (some .int) 3 69 0 0 [.ref mo, .int b, .int s0, .int i, .int v] (mw_W mo m1 m2 m3 m4 m5 m6 m7 m8 m9 cI a x) (fun r w' => zp_m mo m1 m2 m3 m4 m5 m6 m7 m8 m9 cI (zo_set a b s0 i v) r w') := by
  refine zz_mk (by decide) (Nat.le_of_ble_eq_true rfl) ?_
  intro p e s m below meth c A hC hr hk hnm
  have hC : zz_C p s m _ c A D (zt cI cII cF) 6 cX4_set RX4 := hC
  refine zr_aload_n 0 hC dX4_set_0 rfl rfl ?_
  refine zr_iload_n 1 hC dX4_set_1 rfl rfl ?_
  refine zr_cSi hC cs_X4_isBank ml_X4_73 (c_X4_isBank (w := (mw_W mo m1 m2 m3 m4 m5 m6 m7 m8 m9 cI a x)) b) dX4_set_2 ⟨Nat.le_of_ble_eq_true rfl, Nat.le_of_ble_eq_true rfl⟩ ⟨Nat.le_of_ble_eq_true rfl, Nat.le_of_ble_eq_true rfl⟩ rfl rfl (Nat.le_of_ble_eq_true rfl) ?_
  rintro _ _ ⟨rfl, ⟨rfl, hb_b⟩ | ⟨rfl, hb_b⟩⟩
  · refine zr_if_eqF (tgt := 19) hC dX4_set_5 (by decide) (by decide) ?_
    refine zr_iload_n 2 hC dX4_set_8 rfl rfl ?_
    refine zr_cSi hC cs_X4_isStrip ml_X4_77 (c_X4_isStrip (w := (mw_W mo m1 m2 m3 m4 m5 m6 m7 m8 m9 cI a x)) s0) dX4_set_9 ⟨Nat.le_of_ble_eq_true rfl, Nat.le_of_ble_eq_true rfl⟩ ⟨Nat.le_of_ble_eq_true rfl, Nat.le_of_ble_eq_true rfl⟩ rfl rfl (Nat.le_of_ble_eq_true rfl) ?_
    rintro _ _ ⟨rfl, ⟨rfl, hs_s0⟩ | ⟨rfl, hs_s0⟩⟩
    · refine zr_if_eqF (tgt := 19) hC dX4_set_12 (by decide) (by decide) ?_
      refine zr_iconst (v := (1 : Int32)) hC dX4_set_15 rfl ?_
      refine zr_goto (tgt := 20) hC dX4_set_16 (by decide) ?_
      refine zr_cVi 0 hC cv_X4_begins ml_X4_80 (c_X4_begins1 (a := a) (x := x)) dX4_set_20 ⟨Nat.le_of_ble_eq_true rfl, Nat.le_of_ble_eq_true rfl⟩ ⟨Nat.le_of_ble_eq_true rfl, Nat.le_of_ble_eq_true rfl⟩ rfl rfl rfl rfl rfl (Nat.le_of_ble_eq_true rfl) ?_
      rintro _ _ ⟨rfl, rfl⟩
      refine zr_if_neT (tgt := 28) hC dX4_set_23 (by decide) (by decide) ?_
      refine zr_aload_n 0 hC dX4_set_28 rfl rfl ?_
      refine zr_aload_n 0 hC dX4_set_29 rfl rfl ?_
      refine zr_iload_n 1 hC dX4_set_30 rfl rfl ?_
      refine zr_iload_n 2 hC dX4_set_31 rfl rfl ?_
      refine zr_iload_n 3 hC dX4_set_32 rfl rfl ?_
      refine zr_cVi 0 hC cv_X4_refused ml_X4_87 (c_X4_refused (a := (as_sta a 0)) (x := x) hR.1 i hb_b hs_s0) dX4_set_33 ⟨Nat.le_of_ble_eq_true rfl, Nat.le_of_ble_eq_true rfl⟩ ⟨Nat.le_of_ble_eq_true rfl, Nat.le_of_ble_eq_true rfl⟩ rfl rfl rfl rfl rfl (Nat.le_of_ble_eq_true rfl) ?_
      rintro _ _ (⟨h1, rfl, rfl⟩ | ⟨h1, rfl, rfl⟩)
      · have h1 : (zf_why (aa_st a) (zl b s0) i) = 0 := h1
        refine zr_put (w' := (mw_W mo m1 m2 m3 m4 m5 m6 m7 m8 m9 cI (as_sta (as_sta a 0) (0 : Int32)) x)) 0 13 hC iu_X4 tyX4_ok nmX4 rfl dX4_set_36 fl_X4_41 (by decide) rfl rfl rfl rfl (Nat.le_of_ble_eq_true rfl) rfl ?_
        refine zr_aload_n 0 hC dX4_set_39 rfl rfl ?_
        refine zr_get (v := .int (0 : Int32)) 0 13 hC iu_X4 rfl dX4_set_40 fl_X4_41 (by decide) rfl rfl ?_
        refine zr_if_eqT (tgt := 48) hC dX4_set_43 (by decide) (by decide) ?_
        refine zr_aload_n 0 hC dX4_set_48 rfl rfl ?_
        refine zr_iload_n 1 hC dX4_set_49 rfl rfl ?_
        refine zr_iload_n 2 hC dX4_set_50 rfl rfl ?_
        refine zr_iload_n 3 hC dX4_set_51 rfl rfl ?_
        refine zr_cVi 0 hC cv_X4_at ml_X4_90 (c_X4_at (a := (as_sta (as_sta a 0) (0 : Int32))) (x := x) hR.1 hb_b hs_s0 (by assumption)) dX4_set_52 ⟨Nat.le_of_ble_eq_true rfl, Nat.le_of_ble_eq_true rfl⟩ ⟨Nat.le_of_ble_eq_true rfl, Nat.le_of_ble_eq_true rfl⟩ rfl rfl rfl rfl rfl (Nat.le_of_ble_eq_true rfl) ?_
        rintro _ _ ⟨rfl, rfl⟩
        refine zr_istore (lv' := [(5, .int (zf_val (aa_st a) (zl b s0) i)), (0, .ref mo), (1, .int b), (2, .int s0), (3, .int i), (4, .int v)]) hC dX4_set_55 (by decide) rfl ?_
        refine zr_aload_n 1 hC dX4_set_57 rfl rfl ?_
        refine zr_iload_n 2 hC dX4_set_58 rfl rfl ?_
        refine zr_iload_n 3 hC dX4_set_59 rfl rfl ?_
        refine zr_iload_n 4 hC dX4_set_60 rfl rfl ?_
        refine zr_iload 5 hC dX4_set_61 rfl ?_
        refine zr_cVv 0 hC cv_X4_put ml_X4_93 (c_X4_put (a := (as_sta (as_sta a 0) (0 : Int32))) (x := x) hR.1 v hb_b hs_s0 (by assumption)) dX4_set_63 ⟨Nat.le_of_ble_eq_true rfl, Nat.le_of_ble_eq_true rfl⟩ ⟨Nat.le_of_ble_eq_true rfl, Nat.le_of_ble_eq_true rfl⟩ rfl rfl rfl rfl rfl (Nat.le_of_ble_eq_true rfl) ?_
        rintro _ ⟨p2, rfl, hQp2⟩
        refine zr_iload 0 hC dX4_set_66 rfl ?_
        refine zr_iret hC hr hk dX4_set_68 (by decide) (by decide) ⟨_, rfl, ?_⟩
        exact zq_mk (by unfold zo_set; rw [if_pos ⟨hb_b, hs_s0⟩]; first | done | rfl | simp [h1]) ⟨hQp2, hR.2⟩
      · have h1 : ¬ (zf_why (aa_st a) (zl b s0) i) = 0 := h1
        refine zr_put (w' := (mw_W mo m1 m2 m3 m4 m5 m6 m7 m8 m9 cI (as_sta (zf_cnt (zf_why (aa_st a) (zl b s0) i) (as_sta a 0)) (zf_why (aa_st a) (zl b s0) i)) x)) 0 13 hC iu_X4 tyX4_ok nmX4 rfl dX4_set_36 fl_X4_41 (by decide) rfl rfl rfl rfl (Nat.le_of_ble_eq_true rfl) rfl ?_
        refine zr_aload_n 0 hC dX4_set_39 rfl rfl ?_
        refine zr_get (v := .int (zf_why (aa_st a) (zl b s0) i)) 0 13 hC iu_X4 rfl dX4_set_40 fl_X4_41 (by decide) rfl rfl ?_
        refine zr_if_eqF (tgt := 48) hC dX4_set_43 (by decide) h1 ?_
        refine zr_iconst (v := (0 : Int32)) hC dX4_set_46 rfl ?_
        refine zr_iret hC hr hk dX4_set_47 (by decide) (by decide) ⟨_, rfl, ?_⟩
        exact zq_mk (by unfold zo_set; rw [if_pos ⟨hb_b, hs_s0⟩]; first | done | rfl | simp [h1]) hR
    · refine zr_if_eqT (tgt := 19) hC dX4_set_12 (by decide) (by decide) ?_
      refine zr_iconst (v := (0 : Int32)) hC dX4_set_19 rfl ?_
      refine zr_cVi 0 hC cv_X4_begins ml_X4_80 (c_X4_begins0 (a := a) (x := x)) dX4_set_20 ⟨Nat.le_of_ble_eq_true rfl, Nat.le_of_ble_eq_true rfl⟩ ⟨Nat.le_of_ble_eq_true rfl, Nat.le_of_ble_eq_true rfl⟩ rfl rfl rfl rfl rfl (Nat.le_of_ble_eq_true rfl) ?_
      rintro _ _ ⟨rfl, rfl⟩
      refine zr_if_neF (tgt := 28) hC dX4_set_23 (by decide) (by decide) ?_
      refine zr_iconst (v := (0 : Int32)) hC dX4_set_26 rfl ?_
      refine zr_iret hC hr hk dX4_set_27 (by decide) (by decide) ⟨_, rfl, ?_⟩
      exact zq_mk (if_neg (fun h => absurd h.2 hs_s0)) hR
  · refine zr_if_eqT (tgt := 19) hC dX4_set_5 (by decide) (by decide) ?_
    refine zr_iconst (v := (0 : Int32)) hC dX4_set_19 rfl ?_
    refine zr_cVi 0 hC cv_X4_begins ml_X4_80 (c_X4_begins0 (a := a) (x := x)) dX4_set_20 ⟨Nat.le_of_ble_eq_true rfl, Nat.le_of_ble_eq_true rfl⟩ ⟨Nat.le_of_ble_eq_true rfl, Nat.le_of_ble_eq_true rfl⟩ rfl rfl rfl rfl rfl (Nat.le_of_ble_eq_true rfl) ?_
    rintro _ _ ⟨rfl, rfl⟩
    refine zr_if_neF (tgt := 28) hC dX4_set_23 (by decide) (by decide) ?_
    refine zr_iconst (v := (0 : Int32)) hC dX4_set_26 rfl ?_
    refine zr_iret hC hr hk dX4_set_27 (by decide) (by decide) ⟨_, rfl, ?_⟩
    exact zq_mk (if_neg (fun h => absurd h.1 hb_b)) hR
set_option maxRecDepth 100000 in
set_option maxHeartbeats 4000000 in
theorem c_X4_size (hR : rm_R a x) (b s0 : Int32) : zz_Mi l D (zt cI cII cF) yX4_size cX4_size 4 (some .int) 2 42 0 0 [.ref mo, .int b, .int s0] (mw_W mo m1 m2 m3 m4 m5 m6 m7 m8 m9 cI a x) (fun r w' => zp_m mo m1 m2 m3 m4 m5 m6 m7 m8 m9 cI (zo_size a b s0) r w') := by
  refine zz_mk (by decide) (Nat.le_of_ble_eq_true rfl) ?_
  intro p e s m below meth c A hC hr hk hnm
  have hC : zz_C p s m _ c A D (zt cI cII cF) 4 cX4_size RX4 := hC
  refine zr_aload_n 0 hC dX4_size_0 rfl rfl ?_
  refine zr_iload_n 1 hC dX4_size_1 rfl rfl ?_
  refine zr_cSi hC cs_X4_isBank ml_X4_73 (c_X4_isBank (w := (mw_W mo m1 m2 m3 m4 m5 m6 m7 m8 m9 cI a x)) b) dX4_size_2 ⟨Nat.le_of_ble_eq_true rfl, Nat.le_of_ble_eq_true rfl⟩ ⟨Nat.le_of_ble_eq_true rfl, Nat.le_of_ble_eq_true rfl⟩ rfl rfl (Nat.le_of_ble_eq_true rfl) ?_
  rintro _ _ ⟨rfl, ⟨rfl, hb_b⟩ | ⟨rfl, hb_b⟩⟩
  · refine zr_if_eqF (tgt := 19) hC dX4_size_5 (by decide) (by decide) ?_
    refine zr_iload_n 2 hC dX4_size_8 rfl rfl ?_
    refine zr_cSi hC cs_X4_isStrip ml_X4_77 (c_X4_isStrip (w := (mw_W mo m1 m2 m3 m4 m5 m6 m7 m8 m9 cI a x)) s0) dX4_size_9 ⟨Nat.le_of_ble_eq_true rfl, Nat.le_of_ble_eq_true rfl⟩ ⟨Nat.le_of_ble_eq_true rfl, Nat.le_of_ble_eq_true rfl⟩ rfl rfl (Nat.le_of_ble_eq_true rfl) ?_
    rintro _ _ ⟨rfl, ⟨rfl, hs_s0⟩ | ⟨rfl, hs_s0⟩⟩
    · refine zr_if_eqF (tgt := 19) hC dX4_size_12 (by decide) (by decide) ?_
      refine zr_iconst (v := (1 : Int32)) hC dX4_size_15 rfl ?_
      refine zr_goto (tgt := 20) hC dX4_size_16 (by decide) ?_
      refine zr_cVi 0 hC cv_X4_begins ml_X4_80 (c_X4_begins1 (a := a) (x := x)) dX4_size_20 ⟨Nat.le_of_ble_eq_true rfl, Nat.le_of_ble_eq_true rfl⟩ ⟨Nat.le_of_ble_eq_true rfl, Nat.le_of_ble_eq_true rfl⟩ rfl rfl rfl rfl rfl (Nat.le_of_ble_eq_true rfl) ?_
      rintro _ _ ⟨rfl, rfl⟩
      refine zr_if_neT (tgt := 28) hC dX4_size_23 (by decide) (by decide) ?_
      refine zr_aload_n 0 hC dX4_size_28 rfl rfl ?_
      refine zr_get (v := .ref m1) 0 0 hC iu_X4 rfl dX4_size_29 fl_X4_7 (by decide) rfl rfl ?_
      refine zr_iconst (v := (4 : Int32)) hC dX4_size_32 rfl ?_
      refine zr_iload_n 1 hC dX4_size_33 rfl rfl ?_
      refine zr_imul hC dX4_size_34 ?_
      refine zr_iload_n 2 hC dX4_size_35 rfl rfl ?_
      refine zr_iadd hC dX4_size_36 ?_
      refine zr_iaj (f := (mx_sp x)) (j := zl b s0) 1 0 hC dX4_size_37 rfl rfl (zl_lt hb_b hs_s0) (zl_m hb_b hs_s0) (by decide) ?_
      refine zr_istore_n (lv' := [(3, .int ((mx_sp x) (zl b s0))), (0, .ref mo), (1, .int b), (2, .int s0)]) hC dX4_size_38 rfl (by decide) rfl ?_
      refine zr_iload_n 0 hC dX4_size_39 rfl rfl ?_
      refine zr_iconst (v := (-1 : Int32)) hC dX4_size_40 rfl ?_
      refine zr_icmp_ne (tgt := 55) hC dX4_size_41 (by decide) (fun c41 => ?_) (fun c41 => ?_)
      · obtain ⟨z, n, hz, hsz, hn, hln, hlen, -⟩ := rm_some hR.1 (zl_lt hb_b hs_s0) c41
        refine zr_aload_n 1 hC dX4_size_55 rfl rfl ?_
        refine zr_get (v := .ref m2) 0 1 hC iu_X4 rfl dX4_size_56 fl_X4_13 (by decide) rfl rfl ?_
        refine zr_iload_n 0 hC dX4_size_59 rfl rfl ?_
        refine zr_iaj (f := (mx_ln x)) (j := z) 2 0 hC dX4_size_60 rfl rfl hz hsz (by decide) ?_
        refine zr_iret hC hr hk dX4_size_61 (by decide) (by decide) ⟨_, rfl, ?_⟩
        exact zq_mk (by unfold zo_size; rw [if_pos ⟨hb_b, hs_s0⟩, if_neg (by rw [hlen]; exact fun h => by cases h)]; unfold zf_len; rw [hlen, hln]) hR
      · refine zr_aload_n 1 hC dX4_size_44 rfl rfl ?_
        refine zr_aload_n 1 hC dX4_size_45 rfl rfl ?_
        refine zr_iconst (v := (2 : Int32)) hC dX4_size_46 rfl ?_
        refine zr_cVi 0 hC cv_X4_counted ml_X4_57 (c_X4_counted (a := (as_sta a 0)) (x := x) (2 : Int32) (by decide)) dX4_size_47 ⟨Nat.le_of_ble_eq_true rfl, Nat.le_of_ble_eq_true rfl⟩ ⟨Nat.le_of_ble_eq_true rfl, Nat.le_of_ble_eq_true rfl⟩ rfl rfl rfl rfl rfl (Nat.le_of_ble_eq_true rfl) ?_
        rintro rr _ ⟨hrr, rfl⟩
        subst rr
        refine zr_put (w' := (mw_W mo m1 m2 m3 m4 m5 m6 m7 m8 m9 cI (as_sta (zf_cnt (2 : Int32) (as_sta a 0)) (2 : Int32)) x)) 0 13 hC iu_X4 tyX4_ok nmX4 rfl dX4_size_50 fl_X4_41 (by decide) rfl rfl rfl rfl (Nat.le_of_ble_eq_true rfl) rfl ?_
        refine zr_iconst (v := (0 : Int32)) hC dX4_size_53 rfl ?_
        refine zr_iret hC hr hk dX4_size_54 (by decide) (by decide) ⟨_, rfl, ?_⟩
        exact zq_mk (by unfold zo_size; rw [if_pos ⟨hb_b, hs_s0⟩, if_pos (rm_none hR.1 (zl_lt hb_b hs_s0) c41)]) hR
    · refine zr_if_eqT (tgt := 19) hC dX4_size_12 (by decide) (by decide) ?_
      refine zr_iconst (v := (0 : Int32)) hC dX4_size_19 rfl ?_
      refine zr_cVi 0 hC cv_X4_begins ml_X4_80 (c_X4_begins0 (a := a) (x := x)) dX4_size_20 ⟨Nat.le_of_ble_eq_true rfl, Nat.le_of_ble_eq_true rfl⟩ ⟨Nat.le_of_ble_eq_true rfl, Nat.le_of_ble_eq_true rfl⟩ rfl rfl rfl rfl rfl (Nat.le_of_ble_eq_true rfl) ?_
      rintro _ _ ⟨rfl, rfl⟩
      refine zr_if_neF (tgt := 28) hC dX4_size_23 (by decide) (by decide) ?_
      refine zr_iconst (v := (0 : Int32)) hC dX4_size_26 rfl ?_
      refine zr_iret hC hr hk dX4_size_27 (by decide) (by decide) ⟨_, rfl, ?_⟩
      exact zq_mk (if_neg (fun h => absurd h.2 hs_s0)) hR
  · refine zr_if_eqT (tgt := 19) hC dX4_size_5 (by decide) (by decide) ?_
    refine zr_iconst (v := (0 : Int32)) hC dX4_size_19 rfl ?_
    refine zr_cVi 0 hC cv_X4_begins ml_X4_80 (c_X4_begins0 (a := a) (x := x)) dX4_size_20 ⟨Nat.le_of_ble_eq_true rfl, Nat.le_of_ble_eq_true rfl⟩ ⟨Nat.le_of_ble_eq_true rfl, Nat.le_of_ble_eq_true rfl⟩ rfl rfl rfl rfl rfl (Nat.le_of_ble_eq_true rfl) ?_
    rintro _ _ ⟨rfl, rfl⟩
    refine zr_if_neF (tgt := 28) hC dX4_size_23 (by decide) (by decide) ?_
    refine zr_iconst (v := (0 : Int32)) hC dX4_size_26 rfl ?_
    refine zr_iret hC hr hk dX4_size_27 (by decide) (by decide) ⟨_, rfl, ?_⟩
    exact zq_mk (if_neg (fun h => absurd h.1 hb_b)) hR
set_option maxRecDepth 100000 in
set_option maxHeartbeats 4000000 in
theorem c_X4_strike (hR : rm_R a x) (b s0 : Int32) : zz_Mi l D (zt cI cII cF) yX4_strike cX4_strike 4 (some .int) 2 42 0 0 [.ref mo, .int b, .int s0] (mw_W mo m1 m2 m3 m4 m5 m6 m7 m8 m9 cI a x) (fun r w' => zp_m mo m1 m2 m3 m4 m5 m6 m7 m8 m9 cI (zo_strike a b s0) r w') := by
  refine zz_mk (by decide) (Nat.le_of_ble_eq_true rfl) ?_
  intro p e s m below meth c A hC hr hk hnm
  have hC : zz_C p s m _ c A D (zt cI cII cF) 4 cX4_strike RX4 := hC
  refine zr_aload_n 0 hC dX4_strike_0 rfl rfl ?_
  refine zr_iload_n 1 hC dX4_strike_1 rfl rfl ?_
  refine zr_cSi hC cs_X4_isBank ml_X4_73 (c_X4_isBank (w := (mw_W mo m1 m2 m3 m4 m5 m6 m7 m8 m9 cI a x)) b) dX4_strike_2 ⟨Nat.le_of_ble_eq_true rfl, Nat.le_of_ble_eq_true rfl⟩ ⟨Nat.le_of_ble_eq_true rfl, Nat.le_of_ble_eq_true rfl⟩ rfl rfl (Nat.le_of_ble_eq_true rfl) ?_
  rintro _ _ ⟨rfl, ⟨rfl, hb_b⟩ | ⟨rfl, hb_b⟩⟩
  · refine zr_if_eqF (tgt := 19) hC dX4_strike_5 (by decide) (by decide) ?_
    refine zr_iload_n 2 hC dX4_strike_8 rfl rfl ?_
    refine zr_cSi hC cs_X4_isStrip ml_X4_77 (c_X4_isStrip (w := (mw_W mo m1 m2 m3 m4 m5 m6 m7 m8 m9 cI a x)) s0) dX4_strike_9 ⟨Nat.le_of_ble_eq_true rfl, Nat.le_of_ble_eq_true rfl⟩ ⟨Nat.le_of_ble_eq_true rfl, Nat.le_of_ble_eq_true rfl⟩ rfl rfl (Nat.le_of_ble_eq_true rfl) ?_
    rintro _ _ ⟨rfl, ⟨rfl, hs_s0⟩ | ⟨rfl, hs_s0⟩⟩
    · refine zr_if_eqF (tgt := 19) hC dX4_strike_12 (by decide) (by decide) ?_
      refine zr_iconst (v := (1 : Int32)) hC dX4_strike_15 rfl ?_
      refine zr_goto (tgt := 20) hC dX4_strike_16 (by decide) ?_
      refine zr_cVi 0 hC cv_X4_begins ml_X4_80 (c_X4_begins1 (a := a) (x := x)) dX4_strike_20 ⟨Nat.le_of_ble_eq_true rfl, Nat.le_of_ble_eq_true rfl⟩ ⟨Nat.le_of_ble_eq_true rfl, Nat.le_of_ble_eq_true rfl⟩ rfl rfl rfl rfl rfl (Nat.le_of_ble_eq_true rfl) ?_
      rintro _ _ ⟨rfl, rfl⟩
      refine zr_if_neT (tgt := 28) hC dX4_strike_23 (by decide) (by decide) ?_
      refine zr_aload_n 0 hC dX4_strike_28 rfl rfl ?_
      refine zr_get (v := .ref m1) 0 0 hC iu_X4 rfl dX4_strike_29 fl_X4_7 (by decide) rfl rfl ?_
      refine zr_iconst (v := (4 : Int32)) hC dX4_strike_32 rfl ?_
      refine zr_iload_n 1 hC dX4_strike_33 rfl rfl ?_
      refine zr_imul hC dX4_strike_34 ?_
      refine zr_iload_n 2 hC dX4_strike_35 rfl rfl ?_
      refine zr_iadd hC dX4_strike_36 ?_
      refine zr_iaj (f := (mx_sp x)) (j := zl b s0) 1 0 hC dX4_strike_37 rfl rfl (zl_lt hb_b hs_s0) (zl_m hb_b hs_s0) (by decide) ?_
      refine zr_istore_n (lv' := [(3, .int ((mx_sp x) (zl b s0))), (0, .ref mo), (1, .int b), (2, .int s0)]) hC dX4_strike_38 rfl (by decide) rfl ?_
      refine zr_aload_n 1 hC dX4_strike_39 rfl rfl ?_
      refine zr_get (v := .ref m1) 0 0 hC iu_X4 rfl dX4_strike_40 fl_X4_7 (by decide) rfl rfl ?_
      refine zr_iconst (v := (4 : Int32)) hC dX4_strike_43 rfl ?_
      refine zr_iload_n 2 hC dX4_strike_44 rfl rfl ?_
      refine zr_imul hC dX4_strike_45 ?_
      refine zr_iload_n 3 hC dX4_strike_46 rfl rfl ?_
      refine zr_iadd hC dX4_strike_47 ?_
      refine zr_iconst (v := (-1 : Int32)) hC dX4_strike_48 rfl ?_
      refine zr_iasj (f := (mx_sp x)) (j := zl b s0) (w' := (mw_W mo m1 m2 m3 m4 m5 m6 m7 m8 m9 cI (as_sta a 0) (mk_sp x (upd (mx_sp x) (zl b s0) (-1 : Int32))))) 1 0 hC dX4_strike_49 rfl rfl (zl_lt hb_b hs_s0) (zl_m hb_b hs_s0) (by decide) rfl ?_
      refine zr_iload_n 0 hC dX4_strike_50 rfl rfl ?_
      refine zr_iconst (v := (-1 : Int32)) hC dX4_strike_51 rfl ?_
      refine zr_icmp_ne (tgt := 59) hC dX4_strike_52 (by decide) (fun c52 => ?_) (fun c52 => ?_)
      · refine zr_iconst (v := (1 : Int32)) hC dX4_strike_59 rfl ?_
        refine zr_iret hC hr hk dX4_strike_60 (by decide) (by decide) ⟨_, rfl, ?_⟩
        exact zq_mw (a' := as_sta (as_st a (zf_strikeS (aa_st a) (zl b s0))) 0) (x' := (mk_sp x (upd (mx_sp x) (zl b s0) (-1 : Int32)))) (by unfold zo_strike; rw [if_pos ⟨hb_b, hs_s0⟩, if_neg (fun h => c52 ((hR.1.1.1 _ (zl_lt hb_b hs_s0)).mpr h))]) ⟨rm_strike hR.1, hR.2⟩ rfl
      · refine zr_iconst (v := (0 : Int32)) hC dX4_strike_55 rfl ?_
        refine zr_goto (tgt := 60) hC dX4_strike_56 (by decide) ?_
        refine zr_iret hC hr hk dX4_strike_60 (by decide) (by decide) ⟨_, rfl, ?_⟩
        exact zq_mw (a' := as_sta (as_st a (zf_strikeS (aa_st a) (zl b s0))) 0) (x' := (mk_sp x (upd (mx_sp x) (zl b s0) (-1 : Int32)))) (by unfold zo_strike; rw [if_pos ⟨hb_b, hs_s0⟩, if_pos ((hR.1.1.1 _ (zl_lt hb_b hs_s0)).mp c52)]) ⟨rm_strike hR.1, hR.2⟩ rfl
    · refine zr_if_eqT (tgt := 19) hC dX4_strike_12 (by decide) (by decide) ?_
      refine zr_iconst (v := (0 : Int32)) hC dX4_strike_19 rfl ?_
      refine zr_cVi 0 hC cv_X4_begins ml_X4_80 (c_X4_begins0 (a := a) (x := x)) dX4_strike_20 ⟨Nat.le_of_ble_eq_true rfl, Nat.le_of_ble_eq_true rfl⟩ ⟨Nat.le_of_ble_eq_true rfl, Nat.le_of_ble_eq_true rfl⟩ rfl rfl rfl rfl rfl (Nat.le_of_ble_eq_true rfl) ?_
      rintro _ _ ⟨rfl, rfl⟩
      refine zr_if_neF (tgt := 28) hC dX4_strike_23 (by decide) (by decide) ?_
      refine zr_iconst (v := (0 : Int32)) hC dX4_strike_26 rfl ?_
      refine zr_iret hC hr hk dX4_strike_27 (by decide) (by decide) ⟨_, rfl, ?_⟩
      exact zq_mk (if_neg (fun h => absurd h.2 hs_s0)) hR
  · refine zr_if_eqT (tgt := 19) hC dX4_strike_5 (by decide) (by decide) ?_
    refine zr_iconst (v := (0 : Int32)) hC dX4_strike_19 rfl ?_
    refine zr_cVi 0 hC cv_X4_begins ml_X4_80 (c_X4_begins0 (a := a) (x := x)) dX4_strike_20 ⟨Nat.le_of_ble_eq_true rfl, Nat.le_of_ble_eq_true rfl⟩ ⟨Nat.le_of_ble_eq_true rfl, Nat.le_of_ble_eq_true rfl⟩ rfl rfl rfl rfl rfl (Nat.le_of_ble_eq_true rfl) ?_
    rintro _ _ ⟨rfl, rfl⟩
    refine zr_if_neF (tgt := 28) hC dX4_strike_23 (by decide) (by decide) ?_
    refine zr_iconst (v := (0 : Int32)) hC dX4_strike_26 rfl ?_
    refine zr_iret hC hr hk dX4_strike_27 (by decide) (by decide) ⟨_, rfl, ?_⟩
    exact zq_mk (if_neg (fun h => absurd h.1 hb_b)) hR
set_option maxRecDepth 100000 in
set_option maxHeartbeats 4000000 in
theorem c_X4_share (hR : rm_R a x) (b s0 f : Int32) : zz_Mi l D (zt cI cII cF) yX4_share cX4_share 4 (some .int) 2 42 0 0 [.ref mo, .int b, .int s0, .int f] (mw_W mo m1 m2 m3 m4 m5 m6 m7 m8 m9 cI a x) (fun r w' => zp_m mo m1 m2 m3 m4 m5 m6 m7 m8 m9 cI (zo_share a b s0 f) r w') := by
  refine zz_mk (by decide) (Nat.le_of_ble_eq_true rfl) ?_
  intro p e s m below meth c A hC hr hk hnm
  have hC : zz_C p s m _ c A D (zt cI cII cF) 4 cX4_share RX4 := hC
  refine zr_aload_n 0 hC dX4_share_0 rfl rfl ?_
  refine zr_iload_n 1 hC dX4_share_1 rfl rfl ?_
  refine zr_cSi hC cs_X4_isBank ml_X4_73 (c_X4_isBank (w := (mw_W mo m1 m2 m3 m4 m5 m6 m7 m8 m9 cI a x)) b) dX4_share_2 ⟨Nat.le_of_ble_eq_true rfl, Nat.le_of_ble_eq_true rfl⟩ ⟨Nat.le_of_ble_eq_true rfl, Nat.le_of_ble_eq_true rfl⟩ rfl rfl (Nat.le_of_ble_eq_true rfl) ?_
  rintro _ _ ⟨rfl, ⟨rfl, hb_b⟩ | ⟨rfl, hb_b⟩⟩
  · refine zr_if_eqF (tgt := 26) hC dX4_share_5 (by decide) (by decide) ?_
    refine zr_iload_n 2 hC dX4_share_8 rfl rfl ?_
    refine zr_cSi hC cs_X4_isStrip ml_X4_77 (c_X4_isStrip (w := (mw_W mo m1 m2 m3 m4 m5 m6 m7 m8 m9 cI a x)) s0) dX4_share_9 ⟨Nat.le_of_ble_eq_true rfl, Nat.le_of_ble_eq_true rfl⟩ ⟨Nat.le_of_ble_eq_true rfl, Nat.le_of_ble_eq_true rfl⟩ rfl rfl (Nat.le_of_ble_eq_true rfl) ?_
    rintro _ _ ⟨rfl, ⟨rfl, hs_s0⟩ | ⟨rfl, hs_s0⟩⟩
    · refine zr_if_eqF (tgt := 26) hC dX4_share_12 (by decide) (by decide) ?_
      refine zr_iload_n 3 hC dX4_share_15 rfl rfl ?_
      refine zr_cSi hC cs_X4_isBank ml_X4_73 (c_X4_isBank (w := (mw_W mo m1 m2 m3 m4 m5 m6 m7 m8 m9 cI a x)) f) dX4_share_16 ⟨Nat.le_of_ble_eq_true rfl, Nat.le_of_ble_eq_true rfl⟩ ⟨Nat.le_of_ble_eq_true rfl, Nat.le_of_ble_eq_true rfl⟩ rfl rfl (Nat.le_of_ble_eq_true rfl) ?_
      rintro _ _ ⟨rfl, ⟨rfl, hb_f⟩ | ⟨rfl, hb_f⟩⟩
      · refine zr_if_eqF (tgt := 26) hC dX4_share_19 (by decide) (by decide) ?_
        refine zr_iconst (v := (1 : Int32)) hC dX4_share_22 rfl ?_
        refine zr_goto (tgt := 27) hC dX4_share_23 (by decide) ?_
        refine zr_cVi 0 hC cv_X4_begins ml_X4_80 (c_X4_begins1 (a := a) (x := x)) dX4_share_27 ⟨Nat.le_of_ble_eq_true rfl, Nat.le_of_ble_eq_true rfl⟩ ⟨Nat.le_of_ble_eq_true rfl, Nat.le_of_ble_eq_true rfl⟩ rfl rfl rfl rfl rfl (Nat.le_of_ble_eq_true rfl) ?_
        rintro _ _ ⟨rfl, rfl⟩
        refine zr_if_neT (tgt := 35) hC dX4_share_30 (by decide) (by decide) ?_
        refine zr_aload_n 0 hC dX4_share_35 rfl rfl ?_
        refine zr_get (v := .ref m1) 0 0 hC iu_X4 rfl dX4_share_36 fl_X4_7 (by decide) rfl rfl ?_
        refine zr_iconst (v := (4 : Int32)) hC dX4_share_39 rfl ?_
        refine zr_iload_n 1 hC dX4_share_40 rfl rfl ?_
        refine zr_imul hC dX4_share_41 ?_
        refine zr_iload_n 2 hC dX4_share_42 rfl rfl ?_
        refine zr_iadd hC dX4_share_43 ?_
        refine zr_aload_n 0 hC dX4_share_44 rfl rfl ?_
        refine zr_get (v := .ref m1) 0 0 hC iu_X4 rfl dX4_share_45 fl_X4_7 (by decide) rfl rfl ?_
        refine zr_iconst (v := (4 : Int32)) hC dX4_share_48 rfl ?_
        refine zr_iload_n 3 hC dX4_share_49 rfl rfl ?_
        refine zr_imul hC dX4_share_50 ?_
        refine zr_iload_n 2 hC dX4_share_51 rfl rfl ?_
        refine zr_iadd hC dX4_share_52 ?_
        refine zr_iaj (f := (mx_sp x)) (j := zl f s0) 1 0 hC dX4_share_53 rfl rfl (zl_lt hb_f hs_s0) (zl_m hb_f hs_s0) (by decide) ?_
        refine zr_iasj (f := (mx_sp x)) (j := zl b s0) (w' := (mw_W mo m1 m2 m3 m4 m5 m6 m7 m8 m9 cI (as_sta a 0) (mk_sp x (upd (mx_sp x) (zl b s0) ((mx_sp x) (zl f s0)))))) 1 0 hC dX4_share_54 rfl rfl (zl_lt hb_b hs_s0) (zl_m hb_b hs_s0) (by decide) rfl ?_
        refine zr_aload_n 0 hC dX4_share_55 rfl rfl ?_
        refine zr_get (v := .ref m1) 0 0 hC iu_X4 rfl dX4_share_56 fl_X4_7 (by decide) rfl rfl ?_
        refine zr_iconst (v := (4 : Int32)) hC dX4_share_59 rfl ?_
        refine zr_iload_n 1 hC dX4_share_60 rfl rfl ?_
        refine zr_imul hC dX4_share_61 ?_
        refine zr_iload_n 2 hC dX4_share_62 rfl rfl ?_
        refine zr_iadd hC dX4_share_63 ?_
        refine zr_iaj (f := (upd (mx_sp x) (zl b s0) ((mx_sp x) (zl f s0)))) (j := zl b s0) 1 0 hC dX4_share_64 rfl rfl (zl_lt hb_b hs_s0) (zl_m hb_b hs_s0) (by decide) ?_
        refine zr_iconst (v := (-1 : Int32)) hC dX4_share_65 rfl ?_
        refine zr_icmp_ne (tgt := 73) hC dX4_share_66 (by decide) (fun c66 => ?_) (fun c66 => ?_)
        · refine zr_iconst (v := (1 : Int32)) hC dX4_share_73 rfl ?_
          refine zr_iret hC hr hk dX4_share_74 (by decide) (by decide) ⟨_, rfl, ?_⟩
          rw [pk_us] at c66
          exact zq_mw (a' := as_sta (as_st a (zf_shareS (aa_st a) (zl b s0) (zl f s0))) 0) (x' := (mk_sp x (upd (mx_sp x) (zl b s0) ((mx_sp x) (zl f s0))))) (by unfold zo_share; rw [if_pos ⟨hb_b, hs_s0, hb_f⟩, if_neg (fun h => c66 ((hR.1.1.1 _ (zl_lt hb_f hs_s0)).mpr h))]) ⟨rm_share hR.1 (zl_lt hb_f hs_s0) (by rw [zl_mod hb_b hs_s0, zl_mod hb_f hs_s0]), hR.2⟩ rfl
        · refine zr_iconst (v := (0 : Int32)) hC dX4_share_69 rfl ?_
          refine zr_goto (tgt := 74) hC dX4_share_70 (by decide) ?_
          refine zr_iret hC hr hk dX4_share_74 (by decide) (by decide) ⟨_, rfl, ?_⟩
          rw [pk_us] at c66
          exact zq_mw (a' := as_sta (as_st a (zf_shareS (aa_st a) (zl b s0) (zl f s0))) 0) (x' := (mk_sp x (upd (mx_sp x) (zl b s0) ((mx_sp x) (zl f s0))))) (by unfold zo_share; rw [if_pos ⟨hb_b, hs_s0, hb_f⟩, if_pos ((hR.1.1.1 _ (zl_lt hb_f hs_s0)).mp c66)]) ⟨rm_share hR.1 (zl_lt hb_f hs_s0) (by rw [zl_mod hb_b hs_s0, zl_mod hb_f hs_s0]), hR.2⟩ rfl
      · refine zr_if_eqT (tgt := 26) hC dX4_share_19 (by decide) (by decide) ?_
        refine zr_iconst (v := (0 : Int32)) hC dX4_share_26 rfl ?_
        refine zr_cVi 0 hC cv_X4_begins ml_X4_80 (c_X4_begins0 (a := a) (x := x)) dX4_share_27 ⟨Nat.le_of_ble_eq_true rfl, Nat.le_of_ble_eq_true rfl⟩ ⟨Nat.le_of_ble_eq_true rfl, Nat.le_of_ble_eq_true rfl⟩ rfl rfl rfl rfl rfl (Nat.le_of_ble_eq_true rfl) ?_
        rintro _ _ ⟨rfl, rfl⟩
        refine zr_if_neF (tgt := 35) hC dX4_share_30 (by decide) (by decide) ?_
        refine zr_iconst (v := (0 : Int32)) hC dX4_share_33 rfl ?_
        refine zr_iret hC hr hk dX4_share_34 (by decide) (by decide) ⟨_, rfl, ?_⟩
        exact zq_mk (if_neg (fun h => absurd h.2.2 hb_f)) hR
    · refine zr_if_eqT (tgt := 26) hC dX4_share_12 (by decide) (by decide) ?_
      refine zr_iconst (v := (0 : Int32)) hC dX4_share_26 rfl ?_
      refine zr_cVi 0 hC cv_X4_begins ml_X4_80 (c_X4_begins0 (a := a) (x := x)) dX4_share_27 ⟨Nat.le_of_ble_eq_true rfl, Nat.le_of_ble_eq_true rfl⟩ ⟨Nat.le_of_ble_eq_true rfl, Nat.le_of_ble_eq_true rfl⟩ rfl rfl rfl rfl rfl (Nat.le_of_ble_eq_true rfl) ?_
      rintro _ _ ⟨rfl, rfl⟩
      refine zr_if_neF (tgt := 35) hC dX4_share_30 (by decide) (by decide) ?_
      refine zr_iconst (v := (0 : Int32)) hC dX4_share_33 rfl ?_
      refine zr_iret hC hr hk dX4_share_34 (by decide) (by decide) ⟨_, rfl, ?_⟩
      exact zq_mk (if_neg (fun h => absurd h.2.1 hs_s0)) hR
  · refine zr_if_eqT (tgt := 26) hC dX4_share_5 (by decide) (by decide) ?_
    refine zr_iconst (v := (0 : Int32)) hC dX4_share_26 rfl ?_
    refine zr_cVi 0 hC cv_X4_begins ml_X4_80 (c_X4_begins0 (a := a) (x := x)) dX4_share_27 ⟨Nat.le_of_ble_eq_true rfl, Nat.le_of_ble_eq_true rfl⟩ ⟨Nat.le_of_ble_eq_true rfl, Nat.le_of_ble_eq_true rfl⟩ rfl rfl rfl rfl rfl (Nat.le_of_ble_eq_true rfl) ?_
    rintro _ _ ⟨rfl, rfl⟩
    refine zr_if_neF (tgt := 35) hC dX4_share_30 (by decide) (by decide) ?_
    refine zr_iconst (v := (0 : Int32)) hC dX4_share_33 rfl ?_
    refine zr_iret hC hr hk dX4_share_34 (by decide) (by decide) ⟨_, rfl, ?_⟩
    exact zq_mk (if_neg (fun h => absurd h.1 hb_b)) hR
set_option maxRecDepth 100000 in
set_option maxHeartbeats 4000000 in
theorem c_X4_patch (hR : rm_R a x) (f i t j q : Int32) : zz_Mi l D (zt cI cII cF) yX4_patch cX4_patch 7 (some .int) 3 69 0 0 [.ref mo, .int f, .int i, .int t, .int j, .int q] (mw_W mo m1 m2 m3 m4 m5 m6 m7 m8 m9 cI a x) (fun r w' => zp_m mo m1 m2 m3 m4 m5 m6 m7 m8 m9 cI (zo_patch a f i t j q) r w') := by
  refine zz_mk (by decide) (Nat.le_of_ble_eq_true rfl) ?_
  intro p e s m below meth c A hC hr hk hnm
  have hC : zz_C p s m _ c A D (zt cI cII cF) 7 cX4_patch RX4 := hC
  refine zr_aload_n 0 hC dX4_patch_0 rfl rfl ?_
  refine zr_iload_n 1 hC dX4_patch_1 rfl rfl ?_
  refine zr_cSi hC cs_X4_isBank ml_X4_73 (c_X4_isBank (w := (mw_W mo m1 m2 m3 m4 m5 m6 m7 m8 m9 cI a x)) f) dX4_patch_2 ⟨Nat.le_of_ble_eq_true rfl, Nat.le_of_ble_eq_true rfl⟩ ⟨Nat.le_of_ble_eq_true rfl, Nat.le_of_ble_eq_true rfl⟩ rfl rfl (Nat.le_of_ble_eq_true rfl) ?_
  rintro _ _ ⟨rfl, ⟨rfl, hb_f⟩ | ⟨rfl, hb_f⟩⟩
  · refine zr_if_eqF (tgt := 30) hC dX4_patch_5 (by decide) (by decide) ?_
    refine zr_iload_n 3 hC dX4_patch_8 rfl rfl ?_
    refine zr_cSi hC cs_X4_isBank ml_X4_73 (c_X4_isBank (w := (mw_W mo m1 m2 m3 m4 m5 m6 m7 m8 m9 cI a x)) t) dX4_patch_9 ⟨Nat.le_of_ble_eq_true rfl, Nat.le_of_ble_eq_true rfl⟩ ⟨Nat.le_of_ble_eq_true rfl, Nat.le_of_ble_eq_true rfl⟩ rfl rfl (Nat.le_of_ble_eq_true rfl) ?_
    rintro _ _ ⟨rfl, ⟨rfl, hb_t⟩ | ⟨rfl, hb_t⟩⟩
    · refine zr_if_eqF (tgt := 30) hC dX4_patch_12 (by decide) (by decide) ?_
      refine zr_iload 5 hC dX4_patch_15 rfl ?_
      refine zr_iconst (v := (0 : Int32)) hC dX4_patch_17 rfl ?_
      refine zr_bipush (v := (15 : Int32)) hC dX4_patch_18 rfl ?_
      refine zr_cSi hC cs_X4_in ml_X4_37 (c_X4_in (w := (mw_W mo m1 m2 m3 m4 m5 m6 m7 m8 m9 cI a x)) q (0 : Int32) (15 : Int32)) dX4_patch_20 ⟨Nat.le_of_ble_eq_true rfl, Nat.le_of_ble_eq_true rfl⟩ ⟨Nat.le_of_ble_eq_true rfl, Nat.le_of_ble_eq_true rfl⟩ rfl rfl (Nat.le_of_ble_eq_true rfl) ?_
      rintro _ _ ⟨rfl, ⟨rfl, hi1⟩ | ⟨rfl, hi1⟩⟩
      · refine zr_if_eqF (tgt := 30) hC dX4_patch_23 (by decide) (by decide) ?_
        refine zr_iconst (v := (1 : Int32)) hC dX4_patch_26 rfl ?_
        refine zr_goto (tgt := 31) hC dX4_patch_27 (by decide) ?_
        refine zr_cVi 0 hC cv_X4_begins ml_X4_80 (c_X4_begins1 (a := a) (x := x)) dX4_patch_31 ⟨Nat.le_of_ble_eq_true rfl, Nat.le_of_ble_eq_true rfl⟩ ⟨Nat.le_of_ble_eq_true rfl, Nat.le_of_ble_eq_true rfl⟩ rfl rfl rfl rfl rfl (Nat.le_of_ble_eq_true rfl) ?_
        rintro _ _ ⟨rfl, rfl⟩
        refine zr_if_neT (tgt := 39) hC dX4_patch_34 (by decide) (by decide) ?_
        have hq : (0 : Int32) ≤ q ∧ q < 16 := (zn_le (n := 16) (by decide)).mp hi1
        refine zr_aload_n 0 hC dX4_patch_39 rfl rfl ?_
        refine zr_aload_n 0 hC dX4_patch_40 rfl rfl ?_
        refine zr_iload_n 1 hC dX4_patch_41 rfl rfl ?_
        refine zr_iload 5 hC dX4_patch_42 rfl ?_
        refine zr_iconst (v := (4 : Int32)) hC dX4_patch_44 rfl ?_
        refine zr_idiv hC dX4_patch_45 (by decide) ?_
        refine zr_iload_n 2 hC dX4_patch_46 rfl rfl ?_
        refine zr_cVi 0 hC cv_X4_refused ml_X4_87 (c_X4_refused (a := (as_sta a 0)) (x := x) hR.1 i hb_f (zk_div hq)) dX4_patch_47 ⟨Nat.le_of_ble_eq_true rfl, Nat.le_of_ble_eq_true rfl⟩ ⟨Nat.le_of_ble_eq_true rfl, Nat.le_of_ble_eq_true rfl⟩ rfl rfl rfl rfl rfl (Nat.le_of_ble_eq_true rfl) ?_
        rintro _ _ (⟨h2, rfl, rfl⟩ | ⟨h2, rfl, rfl⟩)
        · have h2 : (zf_why (aa_st a) (zl f (q / (4 : Int32))) i) = 0 := h2
          refine zr_put (w' := (mw_W mo m1 m2 m3 m4 m5 m6 m7 m8 m9 cI (as_sta (as_sta a 0) (0 : Int32)) x)) 0 13 hC iu_X4 tyX4_ok nmX4 rfl dX4_patch_50 fl_X4_41 (by decide) rfl rfl rfl rfl (Nat.le_of_ble_eq_true rfl) rfl ?_
          refine zr_aload_n 0 hC dX4_patch_53 rfl rfl ?_
          refine zr_get (v := .int (0 : Int32)) 0 13 hC iu_X4 rfl dX4_patch_54 fl_X4_41 (by decide) rfl rfl ?_
          refine zr_if_eqT (tgt := 62) hC dX4_patch_57 (by decide) (by decide) ?_
          refine zr_aload_n 0 hC dX4_patch_62 rfl rfl ?_
          refine zr_iload_n 1 hC dX4_patch_63 rfl rfl ?_
          refine zr_iload 5 hC dX4_patch_64 rfl ?_
          refine zr_iconst (v := (4 : Int32)) hC dX4_patch_66 rfl ?_
          refine zr_idiv hC dX4_patch_67 (by decide) ?_
          refine zr_iload_n 2 hC dX4_patch_68 rfl rfl ?_
          refine zr_cVi 0 hC cv_X4_at ml_X4_90 (c_X4_at (a := (as_sta (as_sta a 0) (0 : Int32))) (x := x) hR.1 hb_f (zk_div hq) (by assumption)) dX4_patch_69 ⟨Nat.le_of_ble_eq_true rfl, Nat.le_of_ble_eq_true rfl⟩ ⟨Nat.le_of_ble_eq_true rfl, Nat.le_of_ble_eq_true rfl⟩ rfl rfl rfl rfl rfl (Nat.le_of_ble_eq_true rfl) ?_
          rintro _ _ ⟨rfl, rfl⟩
          refine zr_istore (lv' := [(6, .int (zf_val (aa_st a) (zl f (q / (4 : Int32))) i)), (0, .ref mo), (1, .int f), (2, .int i), (3, .int t), (4, .int j), (5, .int q)]) hC dX4_patch_72 (by decide) rfl ?_
          refine zr_aload_n 1 hC dX4_patch_74 rfl rfl ?_
          refine zr_aload_n 1 hC dX4_patch_75 rfl rfl ?_
          refine zr_iload_n 4 hC dX4_patch_76 rfl rfl ?_
          refine zr_iload 6 hC dX4_patch_77 rfl ?_
          refine zr_iconst (v := (4 : Int32)) hC dX4_patch_79 rfl ?_
          refine zr_irem hC dX4_patch_80 (by decide) ?_
          refine zr_iload 5 hC dX4_patch_81 rfl ?_
          refine zr_cVi 0 hC cv_X4_refused ml_X4_87 (c_X4_refused (a := (as_sta (as_sta a 0) (0 : Int32))) (x := x) hR.1 j hb_t (zk_rem hq)) dX4_patch_83 ⟨Nat.le_of_ble_eq_true rfl, Nat.le_of_ble_eq_true rfl⟩ ⟨Nat.le_of_ble_eq_true rfl, Nat.le_of_ble_eq_true rfl⟩ rfl rfl rfl rfl rfl (Nat.le_of_ble_eq_true rfl) ?_
          rintro _ _ (⟨h3, rfl, rfl⟩ | ⟨h3, rfl, rfl⟩)
          · have h3 : (zf_why (aa_st a) (zl t (q - q / (4 : Int32) * (4 : Int32))) j) = 0 := h3
            refine zr_put (w' := (mw_W mo m1 m2 m3 m4 m5 m6 m7 m8 m9 cI (as_sta (as_sta (as_sta a 0) (0 : Int32)) (0 : Int32)) x)) 0 13 hC iu_X4 tyX4_ok nmX4 rfl dX4_patch_86 fl_X4_41 (by decide) rfl rfl rfl rfl (Nat.le_of_ble_eq_true rfl) rfl ?_
            refine zr_aload_n 1 hC dX4_patch_89 rfl rfl ?_
            refine zr_get (v := .int (0 : Int32)) 0 13 hC iu_X4 rfl dX4_patch_90 fl_X4_41 (by decide) rfl rfl ?_
            refine zr_if_eqT (tgt := 98) hC dX4_patch_93 (by decide) (by decide) ?_
            refine zr_aload_n 1 hC dX4_patch_98 rfl rfl ?_
            refine zr_iload_n 4 hC dX4_patch_99 rfl rfl ?_
            refine zr_iload 6 hC dX4_patch_100 rfl ?_
            refine zr_iconst (v := (4 : Int32)) hC dX4_patch_102 rfl ?_
            refine zr_irem hC dX4_patch_103 (by decide) ?_
            refine zr_iload 5 hC dX4_patch_104 rfl ?_
            refine zr_iload 0 hC dX4_patch_106 rfl ?_
            refine zr_cVv 0 hC cv_X4_put ml_X4_93 (c_X4_put (a := (as_sta (as_sta (as_sta a 0) (0 : Int32)) (0 : Int32))) (x := x) hR.1 (zf_val (aa_st a) (zl f (q / (4 : Int32))) i) hb_t (zk_rem hq) (by assumption)) dX4_patch_108 ⟨Nat.le_of_ble_eq_true rfl, Nat.le_of_ble_eq_true rfl⟩ ⟨Nat.le_of_ble_eq_true rfl, Nat.le_of_ble_eq_true rfl⟩ rfl rfl rfl rfl rfl (Nat.le_of_ble_eq_true rfl) ?_
            rintro _ ⟨p4, rfl, hQp4⟩
            refine zr_iload 0 hC dX4_patch_111 rfl ?_
            refine zr_iret hC hr hk dX4_patch_113 (by decide) (by decide) ⟨_, rfl, ?_⟩
            exact zq_mk (by unfold zo_patch; rw [if_pos ⟨hb_f, hb_t, hq⟩]; simp [h2, h3]) ⟨hQp4, hR.2⟩
          · have h3 : ¬ (zf_why (aa_st a) (zl t (q - q / (4 : Int32) * (4 : Int32))) j) = 0 := h3
            refine zr_put (w' := (mw_W mo m1 m2 m3 m4 m5 m6 m7 m8 m9 cI (as_sta (zf_cnt (zf_why (aa_st a) (zl t (q - q / (4 : Int32) * (4 : Int32))) j) (as_sta (as_sta a 0) (0 : Int32))) (zf_why (aa_st a) (zl t (q - q / (4 : Int32) * (4 : Int32))) j)) x)) 0 13 hC iu_X4 tyX4_ok nmX4 rfl dX4_patch_86 fl_X4_41 (by decide) rfl rfl rfl rfl (Nat.le_of_ble_eq_true rfl) rfl ?_
            refine zr_aload_n 1 hC dX4_patch_89 rfl rfl ?_
            refine zr_get (v := .int (zf_why (aa_st a) (zl t (q - q / (4 : Int32) * (4 : Int32))) j)) 0 13 hC iu_X4 rfl dX4_patch_90 fl_X4_41 (by decide) rfl rfl ?_
            refine zr_if_eqF (tgt := 98) hC dX4_patch_93 (by decide) h3 ?_
            refine zr_iconst (v := (0 : Int32)) hC dX4_patch_96 rfl ?_
            refine zr_iret hC hr hk dX4_patch_97 (by decide) (by decide) ⟨_, rfl, ?_⟩
            exact zq_mk (by unfold zo_patch; rw [if_pos ⟨hb_f, hb_t, hq⟩]; simp [h2, h3]) hR
        · have h2 : ¬ (zf_why (aa_st a) (zl f (q / (4 : Int32))) i) = 0 := h2
          refine zr_put (w' := (mw_W mo m1 m2 m3 m4 m5 m6 m7 m8 m9 cI (as_sta (zf_cnt (zf_why (aa_st a) (zl f (q / (4 : Int32))) i) (as_sta a 0)) (zf_why (aa_st a) (zl f (q / (4 : Int32))) i)) x)) 0 13 hC iu_X4 tyX4_ok nmX4 rfl dX4_patch_50 fl_X4_41 (by decide) rfl rfl rfl rfl (Nat.le_of_ble_eq_true rfl) rfl ?_
          refine zr_aload_n 0 hC dX4_patch_53 rfl rfl ?_
          refine zr_get (v := .int (zf_why (aa_st a) (zl f (q / (4 : Int32))) i)) 0 13 hC iu_X4 rfl dX4_patch_54 fl_X4_41 (by decide) rfl rfl ?_
          refine zr_if_eqF (tgt := 62) hC dX4_patch_57 (by decide) h2 ?_
          refine zr_iconst (v := (0 : Int32)) hC dX4_patch_60 rfl ?_
          refine zr_iret hC hr hk dX4_patch_61 (by decide) (by decide) ⟨_, rfl, ?_⟩
          exact zq_mk (by unfold zo_patch; rw [if_pos ⟨hb_f, hb_t, hq⟩]; simp [h2]) hR
      · refine zr_if_eqT (tgt := 30) hC dX4_patch_23 (by decide) (by decide) ?_
        refine zr_iconst (v := (0 : Int32)) hC dX4_patch_30 rfl ?_
        refine zr_cVi 0 hC cv_X4_begins ml_X4_80 (c_X4_begins0 (a := a) (x := x)) dX4_patch_31 ⟨Nat.le_of_ble_eq_true rfl, Nat.le_of_ble_eq_true rfl⟩ ⟨Nat.le_of_ble_eq_true rfl, Nat.le_of_ble_eq_true rfl⟩ rfl rfl rfl rfl rfl (Nat.le_of_ble_eq_true rfl) ?_
        rintro _ _ ⟨rfl, rfl⟩
        refine zr_if_neF (tgt := 39) hC dX4_patch_34 (by decide) (by decide) ?_
        refine zr_iconst (v := (0 : Int32)) hC dX4_patch_37 rfl ?_
        refine zr_iret hC hr hk dX4_patch_38 (by decide) (by decide) ⟨_, rfl, ?_⟩
        exact zq_mk (if_neg (fun h => hi1 ((zn_le (n := 16) (by decide)).mpr h.2.2))) hR
    · refine zr_if_eqT (tgt := 30) hC dX4_patch_12 (by decide) (by decide) ?_
      refine zr_iconst (v := (0 : Int32)) hC dX4_patch_30 rfl ?_
      refine zr_cVi 0 hC cv_X4_begins ml_X4_80 (c_X4_begins0 (a := a) (x := x)) dX4_patch_31 ⟨Nat.le_of_ble_eq_true rfl, Nat.le_of_ble_eq_true rfl⟩ ⟨Nat.le_of_ble_eq_true rfl, Nat.le_of_ble_eq_true rfl⟩ rfl rfl rfl rfl rfl (Nat.le_of_ble_eq_true rfl) ?_
      rintro _ _ ⟨rfl, rfl⟩
      refine zr_if_neF (tgt := 39) hC dX4_patch_34 (by decide) (by decide) ?_
      refine zr_iconst (v := (0 : Int32)) hC dX4_patch_37 rfl ?_
      refine zr_iret hC hr hk dX4_patch_38 (by decide) (by decide) ⟨_, rfl, ?_⟩
      exact zq_mk (if_neg (fun h => absurd h.2.1 hb_t)) hR
  · refine zr_if_eqT (tgt := 30) hC dX4_patch_5 (by decide) (by decide) ?_
    refine zr_iconst (v := (0 : Int32)) hC dX4_patch_30 rfl ?_
    refine zr_cVi 0 hC cv_X4_begins ml_X4_80 (c_X4_begins0 (a := a) (x := x)) dX4_patch_31 ⟨Nat.le_of_ble_eq_true rfl, Nat.le_of_ble_eq_true rfl⟩ ⟨Nat.le_of_ble_eq_true rfl, Nat.le_of_ble_eq_true rfl⟩ rfl rfl rfl rfl rfl (Nat.le_of_ble_eq_true rfl) ?_
    rintro _ _ ⟨rfl, rfl⟩
    refine zr_if_neF (tgt := 39) hC dX4_patch_34 (by decide) (by decide) ?_
    refine zr_iconst (v := (0 : Int32)) hC dX4_patch_37 rfl ?_
    refine zr_iret hC hr hk dX4_patch_38 (by decide) (by decide) ⟨_, rfl, ?_⟩
    exact zq_mk (if_neg (fun h => absurd h.1 hb_f)) hR
theorem rm_Q.keep {a a' : ax_A} {x : mx_X} (hR : rm_Q a x) (h1 : aa_st a' = aa_st a) (h2 : aa_sh a' = aa_sh a) (d : Int32) : rm_Q a' (mk_dk x d) := by
  unfold rm_Q
  rw [h1, h2]
  exact hR
theorem rm_show {a : ax_A} {x : mx_X} (hR : rm_R a x) (b i d : Int32) : rm_R (zf_show a b i).2.2 (mk_dk x d) := by
  refine ⟨hR.1.keep (zf_show_st a b i).1 (zf_show_st a b i).2.1 d, ?_⟩
  rw [(zf_show_st a b i).2.2]
  exact hR.2
theorem zf_show_sta (a : ax_A) (b i v : Int32) : zf_show (as_sta a v) b i = ((zf_show a b i).1, (zf_show a b i).2.1, as_sta (zf_show a b i).2.2 v) := by
  unfold zf_show
  repeat' split
  all_goals rfl
set_option maxRecDepth 100000 in
set_option maxHeartbeats 4000000 in
theorem c_X4_shown (hR : rm_R a x) (b i : Int32) : zz_Mi l D (zt cI cII cF) yX4_shown cX4_shown 4 (some .int) 4 92 0 0 [.ref mo, .int b, .int i] (mw_W mo m1 m2 m3 m4 m5 m6 m7 m8 m9 cI a x) (fun r w' => zp_m mo m1 m2 m3 m4 m5 m6 m7 m8 m9 cI (zo_shown a b i) r w') := by
  refine zz_mk (by decide) (Nat.le_of_ble_eq_true rfl) ?_
  intro p e s m below meth c A hC hr hk hnm
  have hC : zz_C p s m _ c A D (zt cI cII cF) 4 cX4_shown RX4 := hC
  refine zr_aload_n 0 hC dX4_shown_0 rfl rfl ?_
  refine zr_iload_n 1 hC dX4_shown_1 rfl rfl ?_
  refine zr_cSi hC cs_X4_isBank ml_X4_73 (c_X4_isBank (w := (mw_W mo m1 m2 m3 m4 m5 m6 m7 m8 m9 cI a x)) b) dX4_shown_2 ⟨Nat.le_of_ble_eq_true rfl, Nat.le_of_ble_eq_true rfl⟩ ⟨Nat.le_of_ble_eq_true rfl, Nat.le_of_ble_eq_true rfl⟩ rfl rfl (Nat.le_of_ble_eq_true rfl) ?_
  rintro _ _ ⟨rfl, ⟨rfl, hb_b⟩ | ⟨rfl, hb_b⟩⟩
  · refine zr_cVi 0 hC cv_X4_begins ml_X4_80 (c_X4_begins1 (a := a) (x := x)) dX4_shown_5 ⟨Nat.le_of_ble_eq_true rfl, Nat.le_of_ble_eq_true rfl⟩ ⟨Nat.le_of_ble_eq_true rfl, Nat.le_of_ble_eq_true rfl⟩ rfl rfl rfl rfl rfl (Nat.le_of_ble_eq_true rfl) ?_
    rintro _ _ ⟨rfl, rfl⟩
    refine zr_if_neT (tgt := 13) hC dX4_shown_8 (by decide) (by decide) ?_
    refine zr_aload_n 0 hC dX4_shown_13 rfl rfl ?_
    refine zr_iload_n 1 hC dX4_shown_14 rfl rfl ?_
    refine zr_iload_n 2 hC dX4_shown_15 rfl rfl ?_
    refine zr_cVi 0 hC cv_X4_light ml_X4_103 (c_X4_light (a := (as_sta a 0)) (x := x) hR.1 i hb_b) dX4_shown_16 ⟨Nat.le_of_ble_eq_true rfl, Nat.le_of_ble_eq_true rfl⟩ ⟨Nat.le_of_ble_eq_true rfl, Nat.le_of_ble_eq_true rfl⟩ rfl rfl rfl rfl rfl (Nat.le_of_ble_eq_true rfl) ?_
    rintro _ _ ⟨rfl, rfl⟩
    refine zr_istore_n (lv' := [(3, .int ((zf_show (as_sta a 0) b i).2.1)), (0, .ref mo), (1, .int b), (2, .int i)]) hC dX4_shown_19 rfl (by decide) rfl ?_
    refine zr_aload_n 1 hC dX4_shown_20 rfl rfl ?_
    refine zr_aload_n 1 hC dX4_shown_21 rfl rfl ?_
    refine zr_get (v := .int ((zf_show (as_sta a 0) b i).1)) 0 22 hC iu_X4 rfl dX4_shown_22 fl_X4_100 (by decide) rfl rfl ?_
    refine zr_put (w' := (mw_W mo m1 m2 m3 m4 m5 m6 m7 m8 m9 cI (as_sta ((zf_show (as_sta a 0) b i).2.2) ((zf_show (as_sta a 0) b i).1)) (mk_dk x ((zf_show (as_sta a 0) b i).1)))) 0 13 hC iu_X4 tyX4_ok nmX4 rfl dX4_shown_25 fl_X4_41 (by decide) rfl rfl rfl rfl (Nat.le_of_ble_eq_true rfl) rfl ?_
    refine zr_iload_n 0 hC dX4_shown_28 rfl rfl ?_
    refine zr_iret hC hr hk dX4_shown_29 (by decide) (by decide) ⟨_, rfl, ?_⟩
    exact zq_mw (a' := as_sta (zf_show a b i).2.2 (zf_show a b i).1) (x' := mk_dk x (zf_show a b i).1) (by unfold zo_shown; rw [if_pos hb_b, zf_show_sta a b i 0]) (rm_show hR b i _) (by rw [zf_show_sta a b i 0]; first | done | rfl)
  · refine zr_cVi 0 hC cv_X4_begins ml_X4_80 (c_X4_begins0 (a := a) (x := x)) dX4_shown_5 ⟨Nat.le_of_ble_eq_true rfl, Nat.le_of_ble_eq_true rfl⟩ ⟨Nat.le_of_ble_eq_true rfl, Nat.le_of_ble_eq_true rfl⟩ rfl rfl rfl rfl rfl (Nat.le_of_ble_eq_true rfl) ?_
    rintro _ _ ⟨rfl, rfl⟩
    refine zr_if_neF (tgt := 13) hC dX4_shown_8 (by decide) (by decide) ?_
    refine zr_iconst (v := (0 : Int32)) hC dX4_shown_11 rfl ?_
    refine zr_iret hC hr hk dX4_shown_12 (by decide) (by decide) ⟨_, rfl, ?_⟩
    exact zq_mk (if_neg (fun h => absurd h hb_b)) hR
set_option maxRecDepth 100000 in
set_option maxHeartbeats 4000000 in
theorem c_X4_status (hR : rm_R a x) : zz_Mi l D (zt cI cII cF) yX4_status cX4_status 1 (some .int) 0 0 0 0 [.ref mo] (mw_W mo m1 m2 m3 m4 m5 m6 m7 m8 m9 cI a x) (fun r w' => zp_m mo m1 m2 m3 m4 m5 m6 m7 m8 m9 cI (zo_status a) r w') := by
  refine zz_mk (by decide) (Nat.le_of_ble_eq_true rfl) ?_
  intro p e s m below meth c A hC hr hk hnm
  have hC : zz_C p s m _ c A D (zt cI cII cF) 1 cX4_status RX4 := hC
  refine zr_aload_n 0 hC dX4_status_0 rfl rfl ?_
  refine zr_get (v := .int (aa_sta a)) 0 13 hC iu_X4 rfl dX4_status_1 fl_X4_41 (by decide) rfl rfl ?_
  refine zr_iret hC hr hk dX4_status_4 (by decide) (by decide) ⟨_, rfl, ?_⟩
  exact zq_mk rfl hR
end ZB2
end
section
section ZB3
variable {l : Launch} {D : va_G} {cI cII cF : ClassId} {o rk sp pp fp mo m1 m2 m3 m4 m5 m6 m7 m8 m9 : Nat}
variable {a : ax_A} {x : mx_X}
theorem rm_F_nil {fb fl ft fg : Nat → Int32} {off : Nat} : rm_F [] fb fl ft fg off := fun j q h => by simp at h
theorem rm_F_tail {q : Int32 × Int32 × Int32 × Int32} {rest : ax_FD} {fb fl ft fg : Nat → Int32} {off : Nat} (h : rm_F (q :: rest) fb fl ft fg off) : rm_F rest fb fl ft fg (off + 1) := by
  intro j q' hj
  have := h (j + 1) q' (by rw [List.getElem?_cons_succ]; exact hj)
  rw [show off + (j + 1) = off + 1 + j by omega] at this
  exact this
theorem rm_F_head {q : Int32 × Int32 × Int32 × Int32} {rest : ax_FD} {fb fl ft fg : Nat → Int32} {off : Nat} (h : rm_F (q :: rest) fb fl ft fg off) : zk_b q.1 ∧ fb off = q.1 ∧ fl off = q.2.1 ∧ ft off = q.2.2.1 ∧ fg off = q.2.2.2 ∧ (-8000000 ≤ q.2.2.1 ∧ q.2.2.1 ≤ 8000000) ∧ (1 ≤ q.2.2.2 ∧ q.2.2.2 ≤ 1000) := h 0 q rfl
theorem rm_F_snoc {q : Int32 × Int32 × Int32 × Int32} {fd : ax_FD} {fb fl ft fg : Nat → Int32} (h : rm_F fd fb fl ft fg 0) (hb : zk_b q.1) (h1 : -8000000 ≤ q.2.2.1 ∧ q.2.2.1 ≤ 8000000) (h2 : 1 ≤ q.2.2.2 ∧ q.2.2.2 ≤ 1000) : rm_F (fd ++ [q]) (upd fb fd.length q.1) (upd fl fd.length q.2.1) (upd ft fd.length q.2.2.1) (upd fg fd.length q.2.2.2) 0 := by
  intro j q' hj
  by_cases hl : j < fd.length
  · rw [List.getElem?_append_left hl] at hj
    have := h j q' hj
    rw [pk_un (by omega), pk_un (by omega), pk_un (by omega), pk_un (by omega)]
    exact this
  · rw [List.getElem?_append_right (by omega)] at hj
    have hz : j - fd.length < 1 := (List.getElem?_eq_some_iff.mp hj).1
    have hj0 : j = fd.length := by omega
    subst hj0
    rw [Nat.sub_self] at hj
    cases hj
    rw [Nat.zero_add, pk_us, pk_us, pk_us, pk_us]
    exact ⟨hb, rfl, rfl, rfl, rfl, h1, h2⟩
theorem rm_F_up {fd : ax_FD} {fb fl ft fg : Nat → Int32} {off k : Nat} {v1 v2 v3 v4 : Int32} (h : rm_F fd fb fl ft fg off) (hk : k < off) : rm_F fd (upd fb k v1) (upd fl k v2) (upd ft k v3) (upd fg k v4) off := by
  intro j q hj
  have := h j q hj
  rw [pk_un (by omega), pk_un (by omega), pk_un (by omega), pk_un (by omega)]
  exact this
theorem rm_fade {a : ax_A} {x : mx_X} (hR : rm_R a x) {b i t s : Int32} (hb : zk_b b) (hs : 1 ≤ s ∧ s ≤ 1000) (hl : (aa_fd a).length < 16) {fs : Int32} (hfs : fs = nI ((aa_fd a).length + 1)) : rm_R (as_fd a (aa_fd a ++ [(b, i, zf_lev t, s)])) (mk_fs (mk_fg (mk_ft (mk_fl (mk_fb x (upd (mx_fb x) (aa_fd a).length b)) (upd (mx_fl x) (aa_fd a).length i)) (upd (mx_ft x) (aa_fd a).length (zf_lev t))) (upd (mx_fg x) (aa_fd a).length s)) fs) := by
  refine ⟨hR.1, rm_F_snoc (q := (b, i, zf_lev t, s)) hR.2.1 hb (zf_lev_rg t) hs, ?_, ?_⟩
  · show fs = nI (aa_fd a ++ [(b, i, zf_lev t, s)]).length
    rw [hfs, List.length_append]; rfl
  · show (aa_fd a ++ [(b, i, zf_lev t, s)]).length ≤ 16
    rw [List.length_append]; exact hl
theorem zf_show_key {a : ax_A} {b i : Int32} (h : (zf_show a b i).1 = 0) : zf_why (aa_st a) (zl b 3) i = 0 := by
  by_cases h0 : zf_why (aa_st a) (zl b 3) i = 0
  · exact h0
  · unfold zf_show at h
    rw [if_neg h0] at h
    exact absurd h h0
set_option maxRecDepth 100000 in
set_option maxHeartbeats 4000000 in
theorem c_X4_whyCell (hR : rm_Q a x) (i j0 : Int32) : zz_Mi l D (zt cI cII cF) yX4_whyCell cX4_whyCell 3 (some .int) 1 22 0 0 [.ref mo, .int i, .int j0] (mw_W mo m1 m2 m3 m4 m5 m6 m7 m8 m9 cI a x) (fun r w' => r = zf_whyC (aa_sh a) i j0 ∧ w' = (mw_W mo m1 m2 m3 m4 m5 m6 m7 m8 m9 cI a x)) := by
  refine zz_mk (by decide) (Nat.le_of_ble_eq_true rfl) ?_
  intro p e s m below meth c A hC hr hk hnm
  have hC : zz_C p s m _ c A D (zt cI cII cF) 3 cX4_whyCell RX4 := hC
  refine zr_aload_n 0 hC dX4_whyCell_0 rfl rfl ?_
  refine zr_get (v := .int (mx_hs x)) 0 3 hC iu_X4 rfl dX4_whyCell_1 fl_X4_118 (by decide) rfl rfl ?_
  refine zr_if_ne (tgt := 9) hC dX4_whyCell_4 (by decide) (fun c4 => ?_) (fun c4 => ?_)
  · obtain ⟨hhs, n, m0, hdim, hn, hm, hrm, hcm, g6, g7, g8⟩ := rm_dim hR (rm_yes hR c4)
    refine zr_iload_n 1 hC dX4_whyCell_9 rfl rfl ?_
    refine zr_iconst (v := (0 : Int32)) hC dX4_whyCell_10 rfl ?_
    refine zr_aload_n 0 hC dX4_whyCell_11 rfl rfl ?_
    refine zr_get (v := .int (mx_rm x)) 0 4 hC iu_X4 rfl dX4_whyCell_12 fl_X4_122 (by decide) rfl rfl ?_
    refine zr_iconst (v := (1 : Int32)) hC dX4_whyCell_15 rfl ?_
    refine zr_isub hC dX4_whyCell_16 ?_
    refine zr_cSi hC cs_X4_in ml_X4_37 (c_X4_in (w := (mw_W mo m1 m2 m3 m4 m5 m6 m7 m8 m9 cI a x)) i (0 : Int32) ((mx_rm x) - (1 : Int32))) dX4_whyCell_17 ⟨Nat.le_of_ble_eq_true rfl, Nat.le_of_ble_eq_true rfl⟩ ⟨Nat.le_of_ble_eq_true rfl, Nat.le_of_ble_eq_true rfl⟩ rfl rfl (Nat.le_of_ble_eq_true rfl) ?_
    rintro _ _ ⟨rfl, ⟨rfl, hi1⟩ | ⟨rfl, hi1⟩⟩
    · refine zr_if_neT (tgt := 25) hC dX4_whyCell_20 (by decide) (by decide) ?_
      rw [hrm, zn_le (by omega)] at hi1
      obtain ⟨ii, hii, rfl⟩ := zn_lt (by omega) hi1
      refine zr_aload_n 0 hC dX4_whyCell_25 rfl rfl ?_
      refine zr_get (v := .ref m4) 0 6 hC iu_X4 rfl dX4_whyCell_26 fl_X4_19 (by decide) rfl rfl ?_
      refine zr_iload_n 1 hC dX4_whyCell_29 rfl rfl ?_
      refine zr_iaj (f := (mx_rw x)) (j := ii) 4 0 hC dX4_whyCell_30 rfl rfl (by omega) rfl (by decide) ?_
      refine zr_iconst (v := (-1 : Int32)) hC dX4_whyCell_31 rfl ?_
      refine zr_icmp_ne (tgt := 37) hC dX4_whyCell_32 (by decide) (fun c32 => ?_) (fun c32 => ?_)
      · refine zr_iload_n 2 hC dX4_whyCell_37 rfl rfl ?_
        refine zr_iconst (v := (0 : Int32)) hC dX4_whyCell_38 rfl ?_
        refine zr_aload_n 0 hC dX4_whyCell_39 rfl rfl ?_
        refine zr_get (v := .int (mx_cm x)) 0 5 hC iu_X4 rfl dX4_whyCell_40 fl_X4_125 (by decide) rfl rfl ?_
        refine zr_iconst (v := (1 : Int32)) hC dX4_whyCell_43 rfl ?_
        refine zr_isub hC dX4_whyCell_44 ?_
        refine zr_cSi hC cs_X4_in ml_X4_37 (c_X4_in (w := (mw_W mo m1 m2 m3 m4 m5 m6 m7 m8 m9 cI a x)) j0 (0 : Int32) ((mx_cm x) - (1 : Int32))) dX4_whyCell_45 ⟨Nat.le_of_ble_eq_true rfl, Nat.le_of_ble_eq_true rfl⟩ ⟨Nat.le_of_ble_eq_true rfl, Nat.le_of_ble_eq_true rfl⟩ rfl rfl (Nat.le_of_ble_eq_true rfl) ?_
        rintro _ _ ⟨rfl, ⟨rfl, hi2⟩ | ⟨rfl, hi2⟩⟩
        · refine zr_if_eqF (tgt := 55) hC dX4_whyCell_48 (by decide) (by decide) ?_
          refine zr_iconst (v := (0 : Int32)) hC dX4_whyCell_51 rfl ?_
          refine zr_goto (tgt := 56) hC dX4_whyCell_52 (by decide) ?_
          refine zr_iret hC hr hk dX4_whyCell_56 (by decide) (by decide) ⟨_, rfl, ?_⟩
          have hp : (aa_sh a).2.1 ii = true := by
            cases e0 : (aa_sh a).2.1 ii with
            | true => rfl
            | false => exact absurd ((g6 ii hii).mpr e0) c32
          rw [hcm, zn_le (by omega)] at hi2
          exact ⟨by rw [zf_whyC_some hdim, if_pos hi1, nI_clamp (by omega)]; rw [if_pos hp, if_pos hi2], rfl⟩
        · refine zr_if_eqT (tgt := 55) hC dX4_whyCell_48 (by decide) (by decide) ?_
          refine zr_iconst (v := (3 : Int32)) hC dX4_whyCell_55 rfl ?_
          refine zr_iret hC hr hk dX4_whyCell_56 (by decide) (by decide) ⟨_, rfl, ?_⟩
          have hp : (aa_sh a).2.1 ii = true := by
            cases e0 : (aa_sh a).2.1 ii with
            | true => rfl
            | false => exact absurd ((g6 ii hii).mpr e0) c32
          rw [hcm, zn_le (by omega)] at hi2
          exact ⟨by rw [zf_whyC_some hdim, if_pos hi1, nI_clamp (by omega)]; rw [if_pos hp, if_neg hi2], rfl⟩
      · refine zr_iconst (v := (2 : Int32)) hC dX4_whyCell_35 rfl ?_
        refine zr_iret hC hr hk dX4_whyCell_36 (by decide) (by decide) ⟨_, rfl, ?_⟩
        exact ⟨by rw [zf_whyC_some hdim, if_pos hi1, nI_clamp (by omega)]; rw [if_neg (by rw [(g6 ii hii).mp c32]; decide)], rfl⟩
    · refine zr_if_neF (tgt := 25) hC dX4_whyCell_20 (by decide) (by decide) ?_
      refine zr_iconst (v := (3 : Int32)) hC dX4_whyCell_23 rfl ?_
      refine zr_iret hC hr hk dX4_whyCell_24 (by decide) (by decide) ⟨_, rfl, ?_⟩
      rw [hrm, zn_le (by omega)] at hi1
      exact ⟨by rw [zf_whyC_some hdim, if_neg hi1], rfl⟩
  · refine zr_iconst (v := (2 : Int32)) hC dX4_whyCell_7 rfl ?_
    refine zr_iret hC hr hk dX4_whyCell_8 (by decide) (by decide) ⟨_, rfl, ?_⟩
    exact ⟨(zf_whyC_none (rm_no hR c4)).symm, rfl⟩
set_option maxRecDepth 100000 in
set_option maxHeartbeats 4000000 in
theorem c_X4_cell (hR : rm_R a x) (i j0 : Int32) : zz_Mi l D (zt cI cII cF) yX4_cell cX4_cell 3 (some .int) 2 44 0 0 [.ref mo, .int i, .int j0] (mw_W mo m1 m2 m3 m4 m5 m6 m7 m8 m9 cI a x) (fun r w' => zp_m mo m1 m2 m3 m4 m5 m6 m7 m8 m9 cI (zo_cell a i j0) r w') := by
  refine zz_mk (by decide) (Nat.le_of_ble_eq_true rfl) ?_
  intro p e s m below meth c A hC hr hk hnm
  have hC : zz_C p s m _ c A D (zt cI cII cF) 3 cX4_cell RX4 := hC
  refine zr_aload_n 0 hC dX4_cell_0 rfl rfl ?_
  refine zr_aload_n 0 hC dX4_cell_1 rfl rfl ?_
  refine zr_aload_n 0 hC dX4_cell_2 rfl rfl ?_
  refine zr_iload_n 1 hC dX4_cell_3 rfl rfl ?_
  refine zr_iload_n 2 hC dX4_cell_4 rfl rfl ?_
  refine zr_cVi 0 hC cv_X4_whyCell ml_X4_128 (c_X4_whyCell (a := a) (x := x) hR.1 i j0) dX4_cell_5 ⟨Nat.le_of_ble_eq_true rfl, Nat.le_of_ble_eq_true rfl⟩ ⟨Nat.le_of_ble_eq_true rfl, Nat.le_of_ble_eq_true rfl⟩ rfl rfl rfl rfl rfl (Nat.le_of_ble_eq_true rfl) ?_
  rintro _ _ ⟨rfl, rfl⟩
  refine zr_cVi 0 hC cv_X4_counted ml_X4_57 (c_X4_counted (a := a) (x := x) (zf_whyC (aa_sh a) i j0) (by rcases zf_whyC_or (aa_sh a) i j0 with h | h | h <;> rw [h] <;> decide)) dX4_cell_8 ⟨Nat.le_of_ble_eq_true rfl, Nat.le_of_ble_eq_true rfl⟩ ⟨Nat.le_of_ble_eq_true rfl, Nat.le_of_ble_eq_true rfl⟩ rfl rfl rfl rfl rfl (Nat.le_of_ble_eq_true rfl) ?_
  rintro rr _ ⟨hrr, rfl⟩
  subst rr
  refine zr_put (w' := (mw_W mo m1 m2 m3 m4 m5 m6 m7 m8 m9 cI (as_sta (zf_cnt (zf_whyC (aa_sh a) i j0) a) (zf_whyC (aa_sh a) i j0)) x)) 0 13 hC iu_X4 tyX4_ok nmX4 rfl dX4_cell_11 fl_X4_41 (by decide) rfl rfl rfl rfl (Nat.le_of_ble_eq_true rfl) rfl ?_
  refine zr_aload_n 0 hC dX4_cell_14 rfl rfl ?_
  refine zr_get (v := .int (zf_whyC (aa_sh a) i j0)) 0 13 hC iu_X4 rfl dX4_cell_15 fl_X4_41 (by decide) rfl rfl ?_
  refine zr_if_ne (tgt := 40) hC dX4_cell_18 (by decide) (fun c18 => ?_) (fun c18 => ?_)
  · refine zr_iconst (v := (0 : Int32)) hC dX4_cell_40 rfl ?_
    refine zr_iret hC hr hk dX4_cell_41 (by decide) (by decide) ⟨_, rfl, ?_⟩
    exact zq_mk (by unfold zo_cell; rw [if_neg c18]) hR
  · obtain ⟨n, m0, ii, jj, z, hdim, hn, hm, hii, rfl, hjj, rfl, hz, hrz, hcell⟩ := rm_cell0 hR.1 c18
    refine zr_aload_n 0 hC dX4_cell_21 rfl rfl ?_
    refine zr_get (v := .ref m5) 0 7 hC iu_X4 rfl dX4_cell_22 fl_X4_22 (by decide) rfl rfl ?_
    refine zr_bipush (v := (12 : Int32)) hC dX4_cell_25 rfl ?_
    refine zr_aload_n 0 hC dX4_cell_27 rfl rfl ?_
    refine zr_get (v := .ref m4) 0 6 hC iu_X4 rfl dX4_cell_28 fl_X4_19 (by decide) rfl rfl ?_
    refine zr_iload_n 1 hC dX4_cell_31 rfl rfl ?_
    refine zr_iaj (f := (mx_rw x)) (j := ii) 4 0 hC dX4_cell_32 rfl rfl (by omega) rfl (by decide) ?_
    refine zr_imul hC dX4_cell_33 ?_
    refine zr_iload_n 2 hC dX4_cell_34 rfl rfl ?_
    refine zr_iadd hC dX4_cell_35 ?_
    refine zr_iaj (f := (mx_ce x)) (j := 12 * z + jj) 5 0 hC dX4_cell_36 rfl rfl (by omega) (by rw [hrz, show (12 : Int32) = nI 12 from rfl, pk_mul, nI_add]) (by decide) ?_
    refine zr_goto (tgt := 41) hC dX4_cell_37 (by decide) ?_
    refine zr_iret hC hr hk dX4_cell_41 (by decide) (by decide) ⟨_, rfl, ?_⟩
    exact zq_mk (by unfold zo_cell; rw [if_pos c18, hcell, c18, zf_cnt0]) hR
set_option maxRecDepth 100000 in
set_option maxHeartbeats 4000000 in
theorem c_X4_tear (hR : rm_R a x) (i k : Int32) : zz_Mi l D (zt cI cII cF) yX4_tear cX4_tear 3 (some .int) 1 22 0 0 [.ref mo, .int i, .int k] (mw_W mo m1 m2 m3 m4 m5 m6 m7 m8 m9 cI a x) (fun r w' => zp_m mo m1 m2 m3 m4 m5 m6 m7 m8 m9 cI (zo_tear a i k) r w') := by
  refine zz_mk (by decide) (Nat.le_of_ble_eq_true rfl) ?_
  intro p e s m below meth c A hC hr hk hnm
  have hC : zz_C p s m _ c A D (zt cI cII cF) 3 cX4_tear RX4 := hC
  refine zr_aload_n 0 hC dX4_tear_0 rfl rfl ?_
  refine zr_aload_n 0 hC dX4_tear_1 rfl rfl ?_
  refine zr_aload_n 0 hC dX4_tear_2 rfl rfl ?_
  refine zr_get (v := .int (mx_hs x)) 0 3 hC iu_X4 rfl dX4_tear_3 fl_X4_118 (by decide) rfl rfl ?_
  refine zr_if_ne (tgt := 13) hC dX4_tear_6 (by decide) (fun c6 => ?_) (fun c6 => ?_)
  · refine zr_iload_n 2 hC dX4_tear_13 rfl rfl ?_
    refine zr_iconst (v := (-1 : Int32)) hC dX4_tear_14 rfl ?_
    refine zr_icmp_eq (tgt := 32) hC dX4_tear_15 (by decide) (fun c15 => ?_) (fun c15 => ?_)
    · refine zr_iload_n 1 hC dX4_tear_32 rfl rfl ?_
      refine zr_iconst (v := (0 : Int32)) hC dX4_tear_33 rfl ?_
      refine zr_aload_n 0 hC dX4_tear_34 rfl rfl ?_
      refine zr_get (v := .int (mx_rm x)) 0 4 hC iu_X4 rfl dX4_tear_35 fl_X4_122 (by decide) rfl rfl ?_
      refine zr_iconst (v := (1 : Int32)) hC dX4_tear_38 rfl ?_
      refine zr_isub hC dX4_tear_39 ?_
      refine zr_cSi hC cs_X4_in ml_X4_37 (c_X4_in (w := (mw_W mo m1 m2 m3 m4 m5 m6 m7 m8 m9 cI a x)) i (0 : Int32) ((mx_rm x) - (1 : Int32))) dX4_tear_40 ⟨Nat.le_of_ble_eq_true rfl, Nat.le_of_ble_eq_true rfl⟩ ⟨Nat.le_of_ble_eq_true rfl, Nat.le_of_ble_eq_true rfl⟩ rfl rfl (Nat.le_of_ble_eq_true rfl) ?_
      rintro _ _ ⟨rfl, ⟨rfl, hi1⟩ | ⟨rfl, hi1⟩⟩
      · refine zr_if_neT (tgt := 50) hC dX4_tear_43 (by decide) (by decide) ?_
        refine zr_iconst (v := (0 : Int32)) hC dX4_tear_50 rfl ?_
        refine zr_cVi 0 hC cv_X4_counted ml_X4_57 (c_X4_counted (a := a) (x := x) (0 : Int32) (by decide)) dX4_tear_51 ⟨Nat.le_of_ble_eq_true rfl, Nat.le_of_ble_eq_true rfl⟩ ⟨Nat.le_of_ble_eq_true rfl, Nat.le_of_ble_eq_true rfl⟩ rfl rfl rfl rfl rfl (Nat.le_of_ble_eq_true rfl) ?_
        rintro rr _ ⟨hrr, rfl⟩
        subst rr
        refine zr_put (w' := (mw_W mo m1 m2 m3 m4 m5 m6 m7 m8 m9 cI (as_sta (zf_cnt (0 : Int32) a) (0 : Int32)) x)) 0 13 hC iu_X4 tyX4_ok nmX4 rfl dX4_tear_54 fl_X4_41 (by decide) rfl rfl rfl rfl (Nat.le_of_ble_eq_true rfl) rfl ?_
        refine zr_aload_n 0 hC dX4_tear_57 rfl rfl ?_
        refine zr_get (v := .int (0 : Int32)) 0 13 hC iu_X4 rfl dX4_tear_58 fl_X4_41 (by decide) rfl rfl ?_
        refine zr_if_eqT (tgt := 66) hC dX4_tear_61 (by decide) (by decide) ?_
        obtain ⟨hhs, n, m0, hdim, hn, hm, hrm, hcm, g6, g7, g8⟩ := rm_dim hR.1 (rm_yes hR.1 c6)
        have hwi := hi1
        rw [hrm, zn_le (by omega)] at hwi
        obtain ⟨ii, hii, rfl⟩ := zn_lt (by omega) hwi
        refine zr_aload_n 0 hC dX4_tear_66 rfl rfl ?_
        refine zr_get (v := .ref m4) 0 6 hC iu_X4 rfl dX4_tear_67 fl_X4_19 (by decide) rfl rfl ?_
        refine zr_iload_n 1 hC dX4_tear_70 rfl rfl ?_
        refine zr_iload_n 2 hC dX4_tear_71 rfl rfl ?_
        refine zr_iconst (v := (-1 : Int32)) hC dX4_tear_72 rfl ?_
        refine zr_icmp_ne (tgt := 80) hC dX4_tear_73 (by decide) (fun h => absurd c15 h) (fun _ => ?_)
        refine zr_iconst (v := (-1 : Int32)) hC dX4_tear_76 rfl ?_
        refine zr_goto (tgt := 86) hC dX4_tear_77 (by decide) ?_
        refine zr_iasj (f := (mx_rw x)) (j := ii) (w' := (mw_W mo m1 m2 m3 m4 m5 m6 m7 m8 m9 cI (as_sta (zf_cnt (0 : Int32) a) (0 : Int32)) (mk_rw x (upd (mx_rw x) ii (-1 : Int32))))) 4 0 hC dX4_tear_86 rfl rfl (by omega) rfl (by decide) rfl ?_
        refine zr_aload_n 0 hC dX4_tear_87 rfl rfl ?_
        refine zr_get (v := .ref m4) 0 6 hC iu_X4 rfl dX4_tear_88 fl_X4_19 (by decide) rfl rfl ?_
        refine zr_iload_n 1 hC dX4_tear_91 rfl rfl ?_
        refine zr_iaj (f := (upd (mx_rw x) ii (-1 : Int32))) (j := ii) 4 0 hC dX4_tear_92 rfl rfl (by omega) rfl (by decide) ?_
        refine zr_iconst (v := (-1 : Int32)) hC dX4_tear_93 rfl ?_
        refine zr_icmp_ne (tgt := 101) hC dX4_tear_94 (by decide) (fun c94 => ?_) (fun c94 => ?_)
        · refine zr_iconst (v := (1 : Int32)) hC dX4_tear_101 rfl ?_
          refine zr_iret hC hr hk dX4_tear_102 (by decide) (by decide) ⟨_, rfl, ?_⟩
          rw [pk_us] at c94
          exact absurd rfl c94
        · refine zr_iconst (v := (0 : Int32)) hC dX4_tear_97 rfl ?_
          refine zr_goto (tgt := 102) hC dX4_tear_98 (by decide) ?_
          refine zr_iret hC hr hk dX4_tear_102 (by decide) (by decide) ⟨_, rfl, ?_⟩
          exact zq_mw (a' := as_sta (as_sh a (zf_tear0 (aa_sh a) ii)) 0) (x' := (mk_rw x (upd (mx_rw x) ii (-1 : Int32)))) (by unfold zo_tear; rw [if_neg (rm_yes hR.1 c6), zf_rows_some hdim, if_pos ⟨Or.inl c15, hwi⟩, if_pos c15, nI_clamp (by omega)]) ⟨rm_tear0 hR.1 hdim, hR.2⟩ (by rw [zf_cnt0 a]; rfl)
      · refine zr_if_neF (tgt := 50) hC dX4_tear_43 (by decide) (by decide) ?_
        refine zr_iconst (v := (3 : Int32)) hC dX4_tear_46 rfl ?_
        refine zr_goto (tgt := 51) hC dX4_tear_47 (by decide) ?_
        refine zr_cVi 0 hC cv_X4_counted ml_X4_57 (c_X4_counted (a := a) (x := x) (3 : Int32) (by decide)) dX4_tear_51 ⟨Nat.le_of_ble_eq_true rfl, Nat.le_of_ble_eq_true rfl⟩ ⟨Nat.le_of_ble_eq_true rfl, Nat.le_of_ble_eq_true rfl⟩ rfl rfl rfl rfl rfl (Nat.le_of_ble_eq_true rfl) ?_
        rintro rr _ ⟨hrr, rfl⟩
        subst rr
        refine zr_put (w' := (mw_W mo m1 m2 m3 m4 m5 m6 m7 m8 m9 cI (as_sta (zf_cnt (3 : Int32) a) (3 : Int32)) x)) 0 13 hC iu_X4 tyX4_ok nmX4 rfl dX4_tear_54 fl_X4_41 (by decide) rfl rfl rfl rfl (Nat.le_of_ble_eq_true rfl) rfl ?_
        refine zr_aload_n 0 hC dX4_tear_57 rfl rfl ?_
        refine zr_get (v := .int (3 : Int32)) 0 13 hC iu_X4 rfl dX4_tear_58 fl_X4_41 (by decide) rfl rfl ?_
        refine zr_if_eqF (tgt := 66) hC dX4_tear_61 (by decide) (by decide) ?_
        refine zr_iconst (v := (0 : Int32)) hC dX4_tear_64 rfl ?_
        refine zr_iret hC hr hk dX4_tear_65 (by decide) (by decide) ⟨_, rfl, ?_⟩
        obtain ⟨hhs, n, m0, hdim, hn, hm, hrm, hcm, g6, g7, g8⟩ := rm_dim hR.1 (rm_yes hR.1 c6)
        rw [hrm, zn_le (by omega), ← zf_rows_some hdim] at hi1
        exact zq_mk (by unfold zo_tear; rw [if_neg (rm_yes hR.1 c6), if_neg (fun q => hi1 q.2)]) hR
    · refine zr_iload_n 2 hC dX4_tear_18 rfl rfl ?_
      refine zr_iconst (v := (0 : Int32)) hC dX4_tear_19 rfl ?_
      refine zr_aload_n 0 hC dX4_tear_20 rfl rfl ?_
      refine zr_get (v := .int (mx_rm x)) 0 4 hC iu_X4 rfl dX4_tear_21 fl_X4_122 (by decide) rfl rfl ?_
      refine zr_iconst (v := (1 : Int32)) hC dX4_tear_24 rfl ?_
      refine zr_isub hC dX4_tear_25 ?_
      refine zr_cSi hC cs_X4_in ml_X4_37 (c_X4_in (w := (mw_W mo m1 m2 m3 m4 m5 m6 m7 m8 m9 cI a x)) k (0 : Int32) ((mx_rm x) - (1 : Int32))) dX4_tear_26 ⟨Nat.le_of_ble_eq_true rfl, Nat.le_of_ble_eq_true rfl⟩ ⟨Nat.le_of_ble_eq_true rfl, Nat.le_of_ble_eq_true rfl⟩ rfl rfl (Nat.le_of_ble_eq_true rfl) ?_
      rintro _ _ ⟨rfl, ⟨rfl, hi2⟩ | ⟨rfl, hi2⟩⟩
      · refine zr_if_eqF (tgt := 46) hC dX4_tear_29 (by decide) (by decide) ?_
        refine zr_iload_n 1 hC dX4_tear_32 rfl rfl ?_
        refine zr_iconst (v := (0 : Int32)) hC dX4_tear_33 rfl ?_
        refine zr_aload_n 0 hC dX4_tear_34 rfl rfl ?_
        refine zr_get (v := .int (mx_rm x)) 0 4 hC iu_X4 rfl dX4_tear_35 fl_X4_122 (by decide) rfl rfl ?_
        refine zr_iconst (v := (1 : Int32)) hC dX4_tear_38 rfl ?_
        refine zr_isub hC dX4_tear_39 ?_
        refine zr_cSi hC cs_X4_in ml_X4_37 (c_X4_in (w := (mw_W mo m1 m2 m3 m4 m5 m6 m7 m8 m9 cI a x)) i (0 : Int32) ((mx_rm x) - (1 : Int32))) dX4_tear_40 ⟨Nat.le_of_ble_eq_true rfl, Nat.le_of_ble_eq_true rfl⟩ ⟨Nat.le_of_ble_eq_true rfl, Nat.le_of_ble_eq_true rfl⟩ rfl rfl (Nat.le_of_ble_eq_true rfl) ?_
        rintro _ _ ⟨rfl, ⟨rfl, hi3⟩ | ⟨rfl, hi3⟩⟩
        · refine zr_if_neT (tgt := 50) hC dX4_tear_43 (by decide) (by decide) ?_
          refine zr_iconst (v := (0 : Int32)) hC dX4_tear_50 rfl ?_
          refine zr_cVi 0 hC cv_X4_counted ml_X4_57 (c_X4_counted (a := a) (x := x) (0 : Int32) (by decide)) dX4_tear_51 ⟨Nat.le_of_ble_eq_true rfl, Nat.le_of_ble_eq_true rfl⟩ ⟨Nat.le_of_ble_eq_true rfl, Nat.le_of_ble_eq_true rfl⟩ rfl rfl rfl rfl rfl (Nat.le_of_ble_eq_true rfl) ?_
          rintro rr _ ⟨hrr, rfl⟩
          subst rr
          refine zr_put (w' := (mw_W mo m1 m2 m3 m4 m5 m6 m7 m8 m9 cI (as_sta (zf_cnt (0 : Int32) a) (0 : Int32)) x)) 0 13 hC iu_X4 tyX4_ok nmX4 rfl dX4_tear_54 fl_X4_41 (by decide) rfl rfl rfl rfl (Nat.le_of_ble_eq_true rfl) rfl ?_
          refine zr_aload_n 0 hC dX4_tear_57 rfl rfl ?_
          refine zr_get (v := .int (0 : Int32)) 0 13 hC iu_X4 rfl dX4_tear_58 fl_X4_41 (by decide) rfl rfl ?_
          refine zr_if_eqT (tgt := 66) hC dX4_tear_61 (by decide) (by decide) ?_
          obtain ⟨hhs, n, m0, hdim, hn, hm, hrm, hcm, g6, g7, g8⟩ := rm_dim hR.1 (rm_yes hR.1 c6)
          have hwi := hi3
          rw [hrm, zn_le (by omega)] at hwi
          obtain ⟨ii, hii, rfl⟩ := zn_lt (by omega) hwi
          have hwk := hi2
          rw [hrm, zn_le (by omega)] at hwk
          obtain ⟨kk, hkk, rfl⟩ := zn_lt (by omega) hwk
          refine zr_aload_n 0 hC dX4_tear_66 rfl rfl ?_
          refine zr_get (v := .ref m4) 0 6 hC iu_X4 rfl dX4_tear_67 fl_X4_19 (by decide) rfl rfl ?_
          refine zr_iload_n 1 hC dX4_tear_70 rfl rfl ?_
          refine zr_iload_n 2 hC dX4_tear_71 rfl rfl ?_
          refine zr_iconst (v := (-1 : Int32)) hC dX4_tear_72 rfl ?_
          refine zr_icmp_ne (tgt := 80) hC dX4_tear_73 (by decide) (fun _ => ?_) (fun h => absurd h c15)
          refine zr_aload_n 0 hC dX4_tear_80 rfl rfl ?_
          refine zr_get (v := .ref m4) 0 6 hC iu_X4 rfl dX4_tear_81 fl_X4_19 (by decide) rfl rfl ?_
          refine zr_iload_n 2 hC dX4_tear_84 rfl rfl ?_
          refine zr_iaj (f := (mx_rw x)) (j := kk) 4 0 hC dX4_tear_85 rfl rfl (by omega) rfl (by decide) ?_
          refine zr_iasj (f := (mx_rw x)) (j := ii) (w' := (mw_W mo m1 m2 m3 m4 m5 m6 m7 m8 m9 cI (as_sta (zf_cnt (0 : Int32) a) (0 : Int32)) (mk_rw x (upd (mx_rw x) ii ((mx_rw x) kk))))) 4 0 hC dX4_tear_86 rfl rfl (by omega) rfl (by decide) rfl ?_
          refine zr_aload_n 0 hC dX4_tear_87 rfl rfl ?_
          refine zr_get (v := .ref m4) 0 6 hC iu_X4 rfl dX4_tear_88 fl_X4_19 (by decide) rfl rfl ?_
          refine zr_iload_n 1 hC dX4_tear_91 rfl rfl ?_
          refine zr_iaj (f := (upd (mx_rw x) ii ((mx_rw x) kk))) (j := ii) 4 0 hC dX4_tear_92 rfl rfl (by omega) rfl (by decide) ?_
          refine zr_iconst (v := (-1 : Int32)) hC dX4_tear_93 rfl ?_
          refine zr_icmp_ne (tgt := 101) hC dX4_tear_94 (by decide) (fun c94 => ?_) (fun c94 => ?_)
          · refine zr_iconst (v := (1 : Int32)) hC dX4_tear_101 rfl ?_
            refine zr_iret hC hr hk dX4_tear_102 (by decide) (by decide) ⟨_, rfl, ?_⟩
            rw [pk_us] at c94
            exact zq_mw (a' := as_sta (as_sh a (zf_tearS (aa_sh a) ii kk)) 0) (x' := (mk_rw x (upd (mx_rw x) ii ((mx_rw x) kk)))) (by unfold zo_tear; rw [if_neg (rm_yes hR.1 c6), zf_rows_some hdim, if_pos ⟨Or.inr hwk, hwi⟩, if_neg c15, nI_clamp (by omega), nI_clamp (by omega), if_pos (by cases e0 : (aa_sh a).2.1 kk with | true => rfl | false => exact absurd ((g6 kk hkk).mpr e0) c94)]) ⟨rm_tearS hR.1 hdim hkk, hR.2⟩ (by rw [zf_cnt0 a]; rfl)
          · refine zr_iconst (v := (0 : Int32)) hC dX4_tear_97 rfl ?_
            refine zr_goto (tgt := 102) hC dX4_tear_98 (by decide) ?_
            refine zr_iret hC hr hk dX4_tear_102 (by decide) (by decide) ⟨_, rfl, ?_⟩
            rw [pk_us] at c94
            exact zq_mw (a' := as_sta (as_sh a (zf_tearS (aa_sh a) ii kk)) 0) (x' := (mk_rw x (upd (mx_rw x) ii ((mx_rw x) kk)))) (by unfold zo_tear; rw [if_neg (rm_yes hR.1 c6), zf_rows_some hdim, if_pos ⟨Or.inr hwk, hwi⟩, if_neg c15, nI_clamp (by omega), nI_clamp (by omega), if_neg (by rw [(g6 kk hkk).mp c94]; decide)]) ⟨rm_tearS hR.1 hdim hkk, hR.2⟩ (by rw [zf_cnt0 a]; rfl)
        · refine zr_if_neF (tgt := 50) hC dX4_tear_43 (by decide) (by decide) ?_
          refine zr_iconst (v := (3 : Int32)) hC dX4_tear_46 rfl ?_
          refine zr_goto (tgt := 51) hC dX4_tear_47 (by decide) ?_
          refine zr_cVi 0 hC cv_X4_counted ml_X4_57 (c_X4_counted (a := a) (x := x) (3 : Int32) (by decide)) dX4_tear_51 ⟨Nat.le_of_ble_eq_true rfl, Nat.le_of_ble_eq_true rfl⟩ ⟨Nat.le_of_ble_eq_true rfl, Nat.le_of_ble_eq_true rfl⟩ rfl rfl rfl rfl rfl (Nat.le_of_ble_eq_true rfl) ?_
          rintro rr _ ⟨hrr, rfl⟩
          subst rr
          refine zr_put (w' := (mw_W mo m1 m2 m3 m4 m5 m6 m7 m8 m9 cI (as_sta (zf_cnt (3 : Int32) a) (3 : Int32)) x)) 0 13 hC iu_X4 tyX4_ok nmX4 rfl dX4_tear_54 fl_X4_41 (by decide) rfl rfl rfl rfl (Nat.le_of_ble_eq_true rfl) rfl ?_
          refine zr_aload_n 0 hC dX4_tear_57 rfl rfl ?_
          refine zr_get (v := .int (3 : Int32)) 0 13 hC iu_X4 rfl dX4_tear_58 fl_X4_41 (by decide) rfl rfl ?_
          refine zr_if_eqF (tgt := 66) hC dX4_tear_61 (by decide) (by decide) ?_
          refine zr_iconst (v := (0 : Int32)) hC dX4_tear_64 rfl ?_
          refine zr_iret hC hr hk dX4_tear_65 (by decide) (by decide) ⟨_, rfl, ?_⟩
          obtain ⟨hhs, n, m0, hdim, hn, hm, hrm, hcm, g6, g7, g8⟩ := rm_dim hR.1 (rm_yes hR.1 c6)
          rw [hrm, zn_le (by omega), ← zf_rows_some hdim] at hi3
          exact zq_mk (by unfold zo_tear; rw [if_neg (rm_yes hR.1 c6), if_neg (fun q => hi3 q.2)]) hR
      · refine zr_if_eqT (tgt := 46) hC dX4_tear_29 (by decide) (by decide) ?_
        refine zr_iconst (v := (3 : Int32)) hC dX4_tear_46 rfl ?_
        refine zr_goto (tgt := 51) hC dX4_tear_47 (by decide) ?_
        refine zr_cVi 0 hC cv_X4_counted ml_X4_57 (c_X4_counted (a := a) (x := x) (3 : Int32) (by decide)) dX4_tear_51 ⟨Nat.le_of_ble_eq_true rfl, Nat.le_of_ble_eq_true rfl⟩ ⟨Nat.le_of_ble_eq_true rfl, Nat.le_of_ble_eq_true rfl⟩ rfl rfl rfl rfl rfl (Nat.le_of_ble_eq_true rfl) ?_
        rintro rr _ ⟨hrr, rfl⟩
        subst rr
        refine zr_put (w' := (mw_W mo m1 m2 m3 m4 m5 m6 m7 m8 m9 cI (as_sta (zf_cnt (3 : Int32) a) (3 : Int32)) x)) 0 13 hC iu_X4 tyX4_ok nmX4 rfl dX4_tear_54 fl_X4_41 (by decide) rfl rfl rfl rfl (Nat.le_of_ble_eq_true rfl) rfl ?_
        refine zr_aload_n 0 hC dX4_tear_57 rfl rfl ?_
        refine zr_get (v := .int (3 : Int32)) 0 13 hC iu_X4 rfl dX4_tear_58 fl_X4_41 (by decide) rfl rfl ?_
        refine zr_if_eqF (tgt := 66) hC dX4_tear_61 (by decide) (by decide) ?_
        refine zr_iconst (v := (0 : Int32)) hC dX4_tear_64 rfl ?_
        refine zr_iret hC hr hk dX4_tear_65 (by decide) (by decide) ⟨_, rfl, ?_⟩
        obtain ⟨hhs, n, m0, hdim, hn, hm, hrm, hcm, g6, g7, g8⟩ := rm_dim hR.1 (rm_yes hR.1 c6)
        rw [hrm, zn_le (by omega), ← zf_rows_some hdim] at hi2
        exact zq_mk (by unfold zo_tear; rw [if_neg (rm_yes hR.1 c6), if_neg (fun q => q.1.elim c15 hi2)]) hR
  · refine zr_iconst (v := (2 : Int32)) hC dX4_tear_9 rfl ?_
    refine zr_goto (tgt := 51) hC dX4_tear_10 (by decide) ?_
    refine zr_cVi 0 hC cv_X4_counted ml_X4_57 (c_X4_counted (a := a) (x := x) (2 : Int32) (by decide)) dX4_tear_51 ⟨Nat.le_of_ble_eq_true rfl, Nat.le_of_ble_eq_true rfl⟩ ⟨Nat.le_of_ble_eq_true rfl, Nat.le_of_ble_eq_true rfl⟩ rfl rfl rfl rfl rfl (Nat.le_of_ble_eq_true rfl) ?_
    rintro rr _ ⟨hrr, rfl⟩
    subst rr
    refine zr_put (w' := (mw_W mo m1 m2 m3 m4 m5 m6 m7 m8 m9 cI (as_sta (zf_cnt (2 : Int32) a) (2 : Int32)) x)) 0 13 hC iu_X4 tyX4_ok nmX4 rfl dX4_tear_54 fl_X4_41 (by decide) rfl rfl rfl rfl (Nat.le_of_ble_eq_true rfl) rfl ?_
    refine zr_aload_n 0 hC dX4_tear_57 rfl rfl ?_
    refine zr_get (v := .int (2 : Int32)) 0 13 hC iu_X4 rfl dX4_tear_58 fl_X4_41 (by decide) rfl rfl ?_
    refine zr_if_eqF (tgt := 66) hC dX4_tear_61 (by decide) (by decide) ?_
    refine zr_iconst (v := (0 : Int32)) hC dX4_tear_64 rfl ?_
    refine zr_iret hC hr hk dX4_tear_65 (by decide) (by decide) ⟨_, rfl, ?_⟩
    exact zq_mk (if_pos (rm_no hR.1 c6)) hR
set_option maxRecDepth 100000 in
set_option maxHeartbeats 4000000 in
theorem c_X4_fade (hR : rm_R a x) (b i t s0 : Int32) : zz_Mi l D (zt cI cII cF) yX4_fade cX4_fade 5 (some .int) 3 69 0 0 [.ref mo, .int b, .int i, .int t, .int s0] (mw_W mo m1 m2 m3 m4 m5 m6 m7 m8 m9 cI a x) (fun r w' => zp_m mo m1 m2 m3 m4 m5 m6 m7 m8 m9 cI (zo_fade a b i t s0) r w') := by
  refine zz_mk (by decide) (Nat.le_of_ble_eq_true rfl) ?_
  intro p e s m below meth c A hC hr hk hnm
  have hC : zz_C p s m _ c A D (zt cI cII cF) 5 cX4_fade RX4 := hC
  refine zr_aload_n 0 hC dX4_fade_0 rfl rfl ?_
  refine zr_iload_n 1 hC dX4_fade_1 rfl rfl ?_
  refine zr_cSi hC cs_X4_isBank ml_X4_73 (c_X4_isBank (w := (mw_W mo m1 m2 m3 m4 m5 m6 m7 m8 m9 cI a x)) b) dX4_fade_2 ⟨Nat.le_of_ble_eq_true rfl, Nat.le_of_ble_eq_true rfl⟩ ⟨Nat.le_of_ble_eq_true rfl, Nat.le_of_ble_eq_true rfl⟩ rfl rfl (Nat.le_of_ble_eq_true rfl) ?_
  rintro _ _ ⟨rfl, ⟨rfl, hb_b⟩ | ⟨rfl, hb_b⟩⟩
  · refine zr_if_eqF (tgt := 24) hC dX4_fade_5 (by decide) (by decide) ?_
    refine zr_iload 4 hC dX4_fade_8 rfl ?_
    refine zr_iconst (v := (1 : Int32)) hC dX4_fade_10 rfl ?_
    refine zr_sipush (v := (1000 : Int32)) hC dX4_fade_11 rfl ?_
    refine zr_cSi hC cs_X4_in ml_X4_37 (c_X4_in (w := (mw_W mo m1 m2 m3 m4 m5 m6 m7 m8 m9 cI a x)) s0 (1 : Int32) (1000 : Int32)) dX4_fade_14 ⟨Nat.le_of_ble_eq_true rfl, Nat.le_of_ble_eq_true rfl⟩ ⟨Nat.le_of_ble_eq_true rfl, Nat.le_of_ble_eq_true rfl⟩ rfl rfl (Nat.le_of_ble_eq_true rfl) ?_
    rintro _ _ ⟨rfl, ⟨rfl, hi1⟩ | ⟨rfl, hi1⟩⟩
    · refine zr_if_eqF (tgt := 24) hC dX4_fade_17 (by decide) (by decide) ?_
      refine zr_iconst (v := (1 : Int32)) hC dX4_fade_20 rfl ?_
      refine zr_goto (tgt := 25) hC dX4_fade_21 (by decide) ?_
      refine zr_cVi 0 hC cv_X4_begins ml_X4_80 (c_X4_begins1 (a := a) (x := x)) dX4_fade_25 ⟨Nat.le_of_ble_eq_true rfl, Nat.le_of_ble_eq_true rfl⟩ ⟨Nat.le_of_ble_eq_true rfl, Nat.le_of_ble_eq_true rfl⟩ rfl rfl rfl rfl rfl (Nat.le_of_ble_eq_true rfl) ?_
      rintro _ _ ⟨rfl, rfl⟩
      refine zr_if_neT (tgt := 33) hC dX4_fade_28 (by decide) (by decide) ?_
      refine zr_aload_n 0 hC dX4_fade_33 rfl rfl ?_
      refine zr_get (v := .int (mx_fs x)) 0 8 hC iu_X4 rfl dX4_fade_34 fl_X4_106 (by decide) rfl rfl ?_
      refine zr_bipush (v := (16 : Int32)) hC dX4_fade_37 rfl ?_
      refine zr_icmp_ne (tgt := 50) hC dX4_fade_39 (by decide) (fun c39 => ?_) (fun c39 => ?_)
      · have hl16 : (aa_fd a).length < 16 := by
          rcases Nat.lt_or_ge (aa_fd a).length 16 with h0 | h0
          · exact h0
          · exact absurd (by rw [hR.2.2.1, show (aa_fd a).length = 16 by have := hR.2.2.2; omega]; rfl) c39
        refine zr_aload_n 0 hC dX4_fade_50 rfl rfl ?_
        refine zr_aload_n 0 hC dX4_fade_51 rfl rfl ?_
        refine zr_iload_n 1 hC dX4_fade_52 rfl rfl ?_
        refine zr_iconst (v := (2 : Int32)) hC dX4_fade_53 rfl ?_
        refine zr_iload_n 2 hC dX4_fade_54 rfl rfl ?_
        refine zr_cVi 0 hC cv_X4_refused ml_X4_87 (c_X4_refused (a := (as_sta a 0)) (x := x) hR.1 i hb_b zk_s2) dX4_fade_55 ⟨Nat.le_of_ble_eq_true rfl, Nat.le_of_ble_eq_true rfl⟩ ⟨Nat.le_of_ble_eq_true rfl, Nat.le_of_ble_eq_true rfl⟩ rfl rfl rfl rfl rfl (Nat.le_of_ble_eq_true rfl) ?_
        rintro _ _ (⟨h2, rfl, rfl⟩ | ⟨h2, rfl, rfl⟩)
        · have h2 : (zf_why (aa_st a) (zl b 2) i) = 0 := h2
          refine zr_put (w' := (mw_W mo m1 m2 m3 m4 m5 m6 m7 m8 m9 cI (as_sta (as_sta a 0) (0 : Int32)) x)) 0 13 hC iu_X4 tyX4_ok nmX4 rfl dX4_fade_58 fl_X4_41 (by decide) rfl rfl rfl rfl (Nat.le_of_ble_eq_true rfl) rfl ?_
          refine zr_aload_n 0 hC dX4_fade_61 rfl rfl ?_
          refine zr_get (v := .int (0 : Int32)) 0 13 hC iu_X4 rfl dX4_fade_62 fl_X4_41 (by decide) rfl rfl ?_
          refine zr_if_eqT (tgt := 70) hC dX4_fade_65 (by decide) (by decide) ?_
          refine zr_aload_n 0 hC dX4_fade_70 rfl rfl ?_
          refine zr_get (v := .ref m6) 0 9 hC iu_X4 rfl dX4_fade_71 fl_X4_25 (by decide) rfl rfl ?_
          refine zr_aload_n 0 hC dX4_fade_74 rfl rfl ?_
          refine zr_get (v := .int (mx_fs x)) 0 8 hC iu_X4 rfl dX4_fade_75 fl_X4_106 (by decide) rfl rfl ?_
          refine zr_iload_n 1 hC dX4_fade_78 rfl rfl ?_
          refine zr_iasj (f := (mx_fb x)) (j := (aa_fd a).length) (w' := (mw_W mo m1 m2 m3 m4 m5 m6 m7 m8 m9 cI (as_sta (as_sta a 0) (0 : Int32)) (mk_fb x (upd (mx_fb x) ((aa_fd a).length) b)))) 6 0 hC dX4_fade_79 rfl rfl hl16 hR.2.2.1 (by decide) rfl ?_
          refine zr_aload_n 0 hC dX4_fade_80 rfl rfl ?_
          refine zr_get (v := .ref m7) 0 10 hC iu_X4 rfl dX4_fade_81 fl_X4_28 (by decide) rfl rfl ?_
          refine zr_aload_n 0 hC dX4_fade_84 rfl rfl ?_
          refine zr_get (v := .int (mx_fs x)) 0 8 hC iu_X4 rfl dX4_fade_85 fl_X4_106 (by decide) rfl rfl ?_
          refine zr_iload_n 2 hC dX4_fade_88 rfl rfl ?_
          refine zr_iasj (f := (mx_fl x)) (j := (aa_fd a).length) (w' := (mw_W mo m1 m2 m3 m4 m5 m6 m7 m8 m9 cI (as_sta (as_sta a 0) (0 : Int32)) (mk_fl (mk_fb x (upd (mx_fb x) ((aa_fd a).length) b)) (upd (mx_fl x) ((aa_fd a).length) i)))) 7 0 hC dX4_fade_89 rfl rfl hl16 hR.2.2.1 (by decide) rfl ?_
          refine zr_aload_n 0 hC dX4_fade_90 rfl rfl ?_
          refine zr_get (v := .ref m8) 0 11 hC iu_X4 rfl dX4_fade_91 fl_X4_31 (by decide) rfl rfl ?_
          refine zr_aload_n 0 hC dX4_fade_94 rfl rfl ?_
          refine zr_get (v := .int (mx_fs x)) 0 8 hC iu_X4 rfl dX4_fade_95 fl_X4_106 (by decide) rfl rfl ?_
          refine zr_iload_n 3 hC dX4_fade_98 rfl rfl ?_
          refine zr_cSi hC cs_X4_nearest ml_X4_49 (c_X4_nearest (w := (mw_W mo m1 m2 m3 m4 m5 m6 m7 m8 m9 cI (as_sta (as_sta a 0) (0 : Int32)) (mk_fl (mk_fb x (upd (mx_fb x) ((aa_fd a).length) b)) (upd (mx_fl x) ((aa_fd a).length) i)))) t) dX4_fade_99 ⟨Nat.le_of_ble_eq_true rfl, Nat.le_of_ble_eq_true rfl⟩ ⟨Nat.le_of_ble_eq_true rfl, Nat.le_of_ble_eq_true rfl⟩ rfl rfl (Nat.le_of_ble_eq_true rfl) ?_
          rintro _ _ ⟨rfl, rfl⟩
          refine zr_iasj (f := (mx_ft x)) (j := (aa_fd a).length) (w' := (mw_W mo m1 m2 m3 m4 m5 m6 m7 m8 m9 cI (as_sta (as_sta a 0) (0 : Int32)) (mk_ft (mk_fl (mk_fb x (upd (mx_fb x) ((aa_fd a).length) b)) (upd (mx_fl x) ((aa_fd a).length) i)) (upd (mx_ft x) ((aa_fd a).length) (zf_lev t))))) 8 0 hC dX4_fade_102 rfl rfl hl16 hR.2.2.1 (by decide) rfl ?_
          refine zr_aload_n 0 hC dX4_fade_103 rfl rfl ?_
          refine zr_get (v := .ref m9) 0 12 hC iu_X4 rfl dX4_fade_104 fl_X4_34 (by decide) rfl rfl ?_
          refine zr_aload_n 0 hC dX4_fade_107 rfl rfl ?_
          refine zr_get (v := .int (mx_fs x)) 0 8 hC iu_X4 rfl dX4_fade_108 fl_X4_106 (by decide) rfl rfl ?_
          refine zr_iload 4 hC dX4_fade_111 rfl ?_
          refine zr_iasj (f := (mx_fg x)) (j := (aa_fd a).length) (w' := (mw_W mo m1 m2 m3 m4 m5 m6 m7 m8 m9 cI (as_sta (as_sta a 0) (0 : Int32)) (mk_fg (mk_ft (mk_fl (mk_fb x (upd (mx_fb x) ((aa_fd a).length) b)) (upd (mx_fl x) ((aa_fd a).length) i)) (upd (mx_ft x) ((aa_fd a).length) (zf_lev t))) (upd (mx_fg x) ((aa_fd a).length) s0)))) 9 0 hC dX4_fade_113 rfl rfl hl16 hR.2.2.1 (by decide) rfl ?_
          refine zr_aload_n 0 hC dX4_fade_114 rfl rfl ?_
          refine zr_dup hC dX4_fade_115 rfl ?_
          refine zr_get (v := .int (mx_fs x)) 0 8 hC iu_X4 rfl dX4_fade_116 fl_X4_106 (by decide) rfl rfl ?_
          refine zr_iconst (v := (1 : Int32)) hC dX4_fade_119 rfl ?_
          refine zr_iadd hC dX4_fade_120 ?_
          refine zr_put (w' := (mw_W mo m1 m2 m3 m4 m5 m6 m7 m8 m9 cI (as_sta (as_sta a 0) (0 : Int32)) (mk_fs (mk_fg (mk_ft (mk_fl (mk_fb x (upd (mx_fb x) ((aa_fd a).length) b)) (upd (mx_fl x) ((aa_fd a).length) i)) (upd (mx_ft x) ((aa_fd a).length) (zf_lev t))) (upd (mx_fg x) ((aa_fd a).length) s0)) ((mx_fs x) + (1 : Int32))))) 0 8 hC iu_X4 tyX4_ok nmX4 rfl dX4_fade_121 fl_X4_106 (by decide) rfl rfl rfl rfl (Nat.le_of_ble_eq_true rfl) rfl ?_
          refine zr_aload_n 0 hC dX4_fade_124 rfl rfl ?_
          refine zr_get (v := .int ((mx_fs x) + (1 : Int32))) 0 8 hC iu_X4 rfl dX4_fade_125 fl_X4_106 (by decide) rfl rfl ?_
          refine zr_iret hC hr hk dX4_fade_128 (by decide) (by decide) ⟨_, rfl, ?_⟩
          exact zq_mw (a' := as_sta (as_fd a (aa_fd a ++ [(b, i, zf_lev t, s0)])) 0) (x' := (mk_fs (mk_fg (mk_ft (mk_fl (mk_fb x (upd (mx_fb x) ((aa_fd a).length) b)) (upd (mx_fl x) ((aa_fd a).length) i)) (upd (mx_ft x) ((aa_fd a).length) (zf_lev t))) (upd (mx_fg x) ((aa_fd a).length) s0)) ((mx_fs x) + (1 : Int32)))) (by unfold zo_fade; rw [if_pos ⟨hb_b, hi1⟩, if_pos hl16, if_pos h2, hR.2.2.1, nI_1]) (rm_fade hR hb_b hi1 hl16 (by rw [hR.2.2.1, nI_1])) rfl
        · have h2 : ¬ (zf_why (aa_st a) (zl b 2) i) = 0 := h2
          refine zr_put (w' := (mw_W mo m1 m2 m3 m4 m5 m6 m7 m8 m9 cI (as_sta (zf_cnt (zf_why (aa_st a) (zl b 2) i) (as_sta a 0)) (zf_why (aa_st a) (zl b 2) i)) x)) 0 13 hC iu_X4 tyX4_ok nmX4 rfl dX4_fade_58 fl_X4_41 (by decide) rfl rfl rfl rfl (Nat.le_of_ble_eq_true rfl) rfl ?_
          refine zr_aload_n 0 hC dX4_fade_61 rfl rfl ?_
          refine zr_get (v := .int (zf_why (aa_st a) (zl b 2) i)) 0 13 hC iu_X4 rfl dX4_fade_62 fl_X4_41 (by decide) rfl rfl ?_
          refine zr_if_eqF (tgt := 70) hC dX4_fade_65 (by decide) h2 ?_
          refine zr_iconst (v := (0 : Int32)) hC dX4_fade_68 rfl ?_
          refine zr_iret hC hr hk dX4_fade_69 (by decide) (by decide) ⟨_, rfl, ?_⟩
          exact zq_mk (by unfold zo_fade; rw [if_pos ⟨hb_b, hi1⟩, if_pos hl16, if_neg h2]) hR
      · refine zr_aload_n 0 hC dX4_fade_42 rfl rfl ?_
        refine zr_bipush (v := (6 : Int32)) hC dX4_fade_43 rfl ?_
        refine zr_put (w' := (mw_W mo m1 m2 m3 m4 m5 m6 m7 m8 m9 cI (as_sta (as_sta a 0) (6 : Int32)) x)) 0 13 hC iu_X4 tyX4_ok nmX4 rfl dX4_fade_45 fl_X4_41 (by decide) rfl rfl rfl rfl (Nat.le_of_ble_eq_true rfl) rfl ?_
        refine zr_iconst (v := (0 : Int32)) hC dX4_fade_48 rfl ?_
        refine zr_iret hC hr hk dX4_fade_49 (by decide) (by decide) ⟨_, rfl, ?_⟩
        exact zq_mk (by unfold zo_fade; rw [if_pos ⟨hb_b, hi1⟩, if_neg (fun h => by rw [hR.2.2.1] at c39; have := (nI_eq (b := 16) (by omega) (by omega)).mp c39; omega)]) hR
    · refine zr_if_eqT (tgt := 24) hC dX4_fade_17 (by decide) (by decide) ?_
      refine zr_iconst (v := (0 : Int32)) hC dX4_fade_24 rfl ?_
      refine zr_cVi 0 hC cv_X4_begins ml_X4_80 (c_X4_begins0 (a := a) (x := x)) dX4_fade_25 ⟨Nat.le_of_ble_eq_true rfl, Nat.le_of_ble_eq_true rfl⟩ ⟨Nat.le_of_ble_eq_true rfl, Nat.le_of_ble_eq_true rfl⟩ rfl rfl rfl rfl rfl (Nat.le_of_ble_eq_true rfl) ?_
      rintro _ _ ⟨rfl, rfl⟩
      refine zr_if_neF (tgt := 33) hC dX4_fade_28 (by decide) (by decide) ?_
      refine zr_iconst (v := (0 : Int32)) hC dX4_fade_31 rfl ?_
      refine zr_iret hC hr hk dX4_fade_32 (by decide) (by decide) ⟨_, rfl, ?_⟩
      exact zq_mk (if_neg (fun h => absurd h.2 hi1)) hR
  · refine zr_if_eqT (tgt := 24) hC dX4_fade_5 (by decide) (by decide) ?_
    refine zr_iconst (v := (0 : Int32)) hC dX4_fade_24 rfl ?_
    refine zr_cVi 0 hC cv_X4_begins ml_X4_80 (c_X4_begins0 (a := a) (x := x)) dX4_fade_25 ⟨Nat.le_of_ble_eq_true rfl, Nat.le_of_ble_eq_true rfl⟩ ⟨Nat.le_of_ble_eq_true rfl, Nat.le_of_ble_eq_true rfl⟩ rfl rfl rfl rfl rfl (Nat.le_of_ble_eq_true rfl) ?_
    rintro _ _ ⟨rfl, rfl⟩
    refine zr_if_neF (tgt := 33) hC dX4_fade_28 (by decide) (by decide) ?_
    refine zr_iconst (v := (0 : Int32)) hC dX4_fade_31 rfl ?_
    refine zr_iret hC hr hk dX4_fade_32 (by decide) (by decide) ⟨_, rfl, ?_⟩
    exact zq_mk (if_neg (fun h => absurd h.1 hb_b)) hR
end ZB3
end
section
section ZB4
variable {l : Launch} {D : va_G} {cI cII cF : ClassId} {o rk sp pp fp mo m1 m2 m3 m4 m5 m6 m7 m8 m9 : Nat}
variable {a : ax_A} {x : mx_X}
set_option maxRecDepth 100000 in
set_option maxHeartbeats 4000000 in
theorem c_X4_ripple (hR : rm_R a x) (b i d n s0 : Int32) : zz_Mi l D (zt cI cII cF) yX4_ripple cX4_ripple 8 (some .int) 3 69 0 0 [.ref mo, .int b, .int i, .int d, .int n, .int s0] (mw_W mo m1 m2 m3 m4 m5 m6 m7 m8 m9 cI a x) (fun r w' => zp_m mo m1 m2 m3 m4 m5 m6 m7 m8 m9 cI (zo_ripple a b i d n s0) r w') := by
  refine zz_mk (by decide) (Nat.le_of_ble_eq_true rfl) ?_
  intro p e s m below meth c A hC hr hk hnm
  have hC : zz_C p s m _ c A D (zt cI cII cF) 8 cX4_ripple RX4 := hC
  refine zr_aload_n 0 hC dX4_ripple_0 rfl rfl ?_
  refine zr_iload_n 1 hC dX4_ripple_1 rfl rfl ?_
  refine zr_cSi hC cs_X4_isBank ml_X4_73 (c_X4_isBank (w := (mw_W mo m1 m2 m3 m4 m5 m6 m7 m8 m9 cI a x)) b) dX4_ripple_2 ⟨Nat.le_of_ble_eq_true rfl, Nat.le_of_ble_eq_true rfl⟩ ⟨Nat.le_of_ble_eq_true rfl, Nat.le_of_ble_eq_true rfl⟩ rfl rfl (Nat.le_of_ble_eq_true rfl) ?_
  rintro _ _ ⟨rfl, ⟨rfl, hb_b⟩ | ⟨rfl, hb_b⟩⟩
  · refine zr_if_eqF (tgt := 23) hC dX4_ripple_5 (by decide) (by decide) ?_
    refine zr_iload 4 hC dX4_ripple_8 rfl ?_
    refine zr_iconst (v := (0 : Int32)) hC dX4_ripple_10 rfl ?_
    refine zr_bipush (v := (64 : Int32)) hC dX4_ripple_11 rfl ?_
    refine zr_cSi hC cs_X4_in ml_X4_37 (c_X4_in (w := (mw_W mo m1 m2 m3 m4 m5 m6 m7 m8 m9 cI a x)) n (0 : Int32) (64 : Int32)) dX4_ripple_13 ⟨Nat.le_of_ble_eq_true rfl, Nat.le_of_ble_eq_true rfl⟩ ⟨Nat.le_of_ble_eq_true rfl, Nat.le_of_ble_eq_true rfl⟩ rfl rfl (Nat.le_of_ble_eq_true rfl) ?_
    rintro _ _ ⟨rfl, ⟨rfl, hi1⟩ | ⟨rfl, hi1⟩⟩
    · refine zr_if_eqF (tgt := 23) hC dX4_ripple_16 (by decide) (by decide) ?_
      refine zr_iconst (v := (1 : Int32)) hC dX4_ripple_19 rfl ?_
      refine zr_goto (tgt := 24) hC dX4_ripple_20 (by decide) ?_
      refine zr_cVi 0 hC cv_X4_begins ml_X4_80 (c_X4_begins1 (a := a) (x := x)) dX4_ripple_24 ⟨Nat.le_of_ble_eq_true rfl, Nat.le_of_ble_eq_true rfl⟩ ⟨Nat.le_of_ble_eq_true rfl, Nat.le_of_ble_eq_true rfl⟩ rfl rfl rfl rfl rfl (Nat.le_of_ble_eq_true rfl) ?_
      rintro _ _ ⟨rfl, rfl⟩
      refine zr_if_neT (tgt := 32) hC dX4_ripple_27 (by decide) (by decide) ?_
      refine zr_iload_n 2 hC dX4_ripple_32 rfl rfl ?_
      refine zr_istore (lv' := [(6, .int i), (0, .ref mo), (1, .int b), (2, .int i), (3, .int d), (4, .int n), (5, .int s0)]) hC dX4_ripple_33 (by decide) rfl ?_
      refine zr_iconst (v := (0 : Int32)) hC dX4_ripple_35 rfl ?_
      refine zr_istore (lv' := [(7, .int (0 : Int32)), (6, .int i), (0, .ref mo), (1, .int b), (2, .int i), (3, .int d), (4, .int n), (5, .int s0)]) hC dX4_ripple_36 (by decide) rfl ?_
      have hnn := (zn_le (n := 65) (by decide)).mp hi1
      obtain ⟨N, hN, rfl⟩ := zn_of (n := 65) (M := nI 65) (by decide) hnn
      have hspec : zo_ripple a b i d (nI N) s0 = zf_rip (zf_lev s0) b d N i 0 a := by unfold zo_ripple; rw [if_pos ⟨hb_b, hi1⟩, nI_clamp (by omega)]
      refine zr_sub [1, 0, 2, 3, 5, 6, 7] rfl ?_
      refine zr_loop (σ := Nat × Int32 × Int32 × ax_A × mx_X) (fun t => [(6, .int t.2.2.1), (7, .int t.2.1), (0, .ref mo), (1, .int b), (3, .int d), (4, .int (nI N)), (5, .int s0)]) (fun t => mw_W mo m1 m2 m3 m4 m5 m6 m7 m8 m9 cI (as_sta t.2.2.2.1 0) t.2.2.2.2) (fun t => t.1 ≤ N ∧ t.2.1 = nI t.1 ∧ rm_R t.2.2.2.1 t.2.2.2.2 ∧ zf_rip (zf_lev s0) b d N i 0 a = zf_rip (zf_lev s0) b d (N - t.1) t.2.2.1 t.2.1 t.2.2.2.1) (fun t => N - t.1) ?_ (0, 0, i, a, x) ⟨Nat.zero_le _, rfl, hR, rfl⟩
      rintro ⟨kn, k1, p1, a1, x1⟩ ⟨hk1, hk2, hR1, hsp⟩ ih
      try dsimp only at hk1
      try dsimp only at hk2
      try dsimp only at hR1
      try dsimp only at hsp
      show zz_Z _ _ _ _ _ _ _ _ _ _ _ _ _ _ 38 [(6, .int p1), (7, .int k1), (0, .ref mo), (1, .int b), (3, .int d), (4, .int (nI N)), (5, .int s0)] [] (mw_W mo m1 m2 m3 m4 m5 m6 m7 m8 m9 cI (as_sta a1 0) x1) 0 0
      refine zr_iload 1 hC dX4_ripple_38 rfl ?_
      refine zr_iload 5 hC dX4_ripple_40 rfl ?_
      refine zr_icmp_ge (tgt := 105) hC dX4_ripple_42 (by decide) (fun c42 => ?_) (fun c42 => ?_)
      · have hend : kn = N := by
          rw [hk2] at c42
          have := (nI_leI (a := N) (by omega) (by omega)).mp c42
          omega
        refine zr_iload 1 hC dX4_ripple_105 rfl ?_
        refine zr_iret hC hr hk dX4_ripple_107 (by decide) (by decide) ⟨_, rfl, ?_⟩
        exact zq_mk (by rw [hspec, hsp, hend, Nat.sub_self]; rfl) hR1
      · have hlt : kn < N := by
          rcases Nat.lt_or_ge kn N with h0 | h0
          · exact h0
          · exact absurd (by rw [hk2]; exact nI_le h0 (by omega)) c42
        refine zr_aload_n 2 hC dX4_ripple_45 rfl rfl ?_
        refine zr_get (v := .int (0 : Int32)) 0 13 hC iu_X4 rfl dX4_ripple_46 fl_X4_41 (by decide) rfl rfl ?_
        refine zr_if_neF (tgt := 105) hC dX4_ripple_49 (by decide) (by decide) ?_
        refine zr_aload_n 2 hC dX4_ripple_52 rfl rfl ?_
        refine zr_aload_n 2 hC dX4_ripple_53 rfl rfl ?_
        refine zr_iload_n 3 hC dX4_ripple_54 rfl rfl ?_
        refine zr_iconst (v := (2 : Int32)) hC dX4_ripple_55 rfl ?_
        refine zr_iload 0 hC dX4_ripple_56 rfl ?_
        refine zr_cVi 0 hC cv_X4_refused ml_X4_87 (c_X4_refused (a := (as_sta a1 0)) (x := x1) hR1.1 p1 hb_b zk_s2) dX4_ripple_58 ⟨Nat.le_of_ble_eq_true rfl, Nat.le_of_ble_eq_true rfl⟩ ⟨Nat.le_of_ble_eq_true rfl, Nat.le_of_ble_eq_true rfl⟩ rfl rfl rfl rfl rfl (Nat.le_of_ble_eq_true rfl) ?_
        rintro _ _ (⟨h2, rfl, rfl⟩ | ⟨h2, rfl, rfl⟩)
        · have h2 : (zf_why (aa_st a1) (zl b 2) p1) = 0 := h2
          refine zr_put (w' := (mw_W mo m1 m2 m3 m4 m5 m6 m7 m8 m9 cI (as_sta (as_sta a1 0) (0 : Int32)) x1)) 0 13 hC iu_X4 tyX4_ok nmX4 rfl dX4_ripple_61 fl_X4_41 (by decide) rfl rfl rfl rfl (Nat.le_of_ble_eq_true rfl) rfl ?_
          refine zr_aload_n 2 hC dX4_ripple_64 rfl rfl ?_
          refine zr_get (v := .int (0 : Int32)) 0 13 hC iu_X4 rfl dX4_ripple_65 fl_X4_41 (by decide) rfl rfl ?_
          refine zr_if_neF (tgt := 38) hC dX4_ripple_68 (by decide) (by decide) ?_
          refine zr_aload_n 2 hC dX4_ripple_71 rfl rfl ?_
          refine zr_iload_n 3 hC dX4_ripple_72 rfl rfl ?_
          refine zr_iconst (v := (2 : Int32)) hC dX4_ripple_73 rfl ?_
          refine zr_iload 0 hC dX4_ripple_74 rfl ?_
          refine zr_aload_n 2 hC dX4_ripple_76 rfl rfl ?_
          refine zr_iload_n 3 hC dX4_ripple_77 rfl rfl ?_
          refine zr_iconst (v := (2 : Int32)) hC dX4_ripple_78 rfl ?_
          refine zr_iload 0 hC dX4_ripple_79 rfl ?_
          refine zr_cVi 0 hC cv_X4_at ml_X4_90 (c_X4_at (a := (as_sta (as_sta a1 0) (0 : Int32))) (x := x1) hR1.1 hb_b zk_s2 (by assumption)) dX4_ripple_81 ⟨Nat.le_of_ble_eq_true rfl, Nat.le_of_ble_eq_true rfl⟩ ⟨Nat.le_of_ble_eq_true rfl, Nat.le_of_ble_eq_true rfl⟩ rfl rfl rfl rfl rfl (Nat.le_of_ble_eq_true rfl) ?_
          rintro _ _ ⟨rfl, rfl⟩
          refine zr_iload 6 hC dX4_ripple_84 rfl ?_
          refine zr_cSi hC cs_X4_nearest ml_X4_49 (c_X4_nearest (w := (mw_W mo m1 m2 m3 m4 m5 m6 m7 m8 m9 cI (as_sta (as_sta a1 0) (0 : Int32)) x1)) s0) dX4_ripple_86 ⟨Nat.le_of_ble_eq_true rfl, Nat.le_of_ble_eq_true rfl⟩ ⟨Nat.le_of_ble_eq_true rfl, Nat.le_of_ble_eq_true rfl⟩ rfl rfl (Nat.le_of_ble_eq_true rfl) ?_
          rintro _ _ ⟨rfl, rfl⟩
          refine zr_iadd hC dX4_ripple_89 ?_
          refine zr_cVv 0 hC cv_X4_put ml_X4_93 (c_X4_put (a := (as_sta (as_sta a1 0) (0 : Int32))) (x := x1) hR1.1 ((zf_val (aa_st a1) (zl b 2) p1) + (zf_lev s0)) hb_b zk_s2 (by assumption)) dX4_ripple_90 ⟨Nat.le_of_ble_eq_true rfl, Nat.le_of_ble_eq_true rfl⟩ ⟨Nat.le_of_ble_eq_true rfl, Nat.le_of_ble_eq_true rfl⟩ rfl rfl rfl rfl rfl (Nat.le_of_ble_eq_true rfl) ?_
          rintro _ ⟨p3, rfl, hQp3⟩
          refine zr_iinc (v := (k1 + 1)) (lv' := [(7, .int (k1 + 1)), (6, .int p1), (0, .ref mo), (1, .int b), (3, .int d), (4, .int (nI N)), (5, .int s0)]) 1 hC dX4_ripple_93 rfl rfl (by decide) rfl ?_
          refine zr_iload 1 hC dX4_ripple_96 rfl ?_
          refine zr_iload_n 4 hC dX4_ripple_98 rfl rfl ?_
          refine zr_iadd hC dX4_ripple_99 ?_
          refine zr_istore (lv' := [(6, .int (p1 + d)), (7, .int (k1 + 1)), (0, .ref mo), (1, .int b), (3, .int d), (4, .int (nI N)), (5, .int s0)]) hC dX4_ripple_100 (by decide) rfl ?_
          refine zr_goto (tgt := 38) hC dX4_ripple_102 (by decide) ?_
          exact ih (kn + 1, k1 + 1, p1 + d, (zf_set a1 (zl b 2) p1 (zf_num 2 (zf_val (aa_st a1) (zl b 2) p1 + zf_lev s0))), (mk_pl x1 p3)) ⟨by show kn + 1 ≤ N; omega, by show k1 + 1 = nI (kn + 1); rw [hk2, nI_1], ⟨hQp3, hR1.2⟩, by rw [hsp, show N - kn = (N - (kn + 1)) + 1 by omega]; show (if _ then _ else _) = _; rw [if_pos h2, zf_num2]⟩ (by show N - (kn + 1) < N - kn; omega)
        · have h2 : ¬ (zf_why (aa_st a1) (zl b 2) p1) = 0 := h2
          refine zr_put (w' := (mw_W mo m1 m2 m3 m4 m5 m6 m7 m8 m9 cI (as_sta (zf_cnt (zf_why (aa_st a1) (zl b 2) p1) (as_sta a1 0)) (zf_why (aa_st a1) (zl b 2) p1)) x1)) 0 13 hC iu_X4 tyX4_ok nmX4 rfl dX4_ripple_61 fl_X4_41 (by decide) rfl rfl rfl rfl (Nat.le_of_ble_eq_true rfl) rfl ?_
          refine zr_aload_n 2 hC dX4_ripple_64 rfl rfl ?_
          refine zr_get (v := .int (zf_why (aa_st a1) (zl b 2) p1)) 0 13 hC iu_X4 rfl dX4_ripple_65 fl_X4_41 (by decide) rfl rfl ?_
          refine zr_if_neT (tgt := 38) hC dX4_ripple_68 (by decide) h2 ?_
          refine zr_iload 1 hC dX4_ripple_38 rfl ?_
          refine zr_iload 5 hC dX4_ripple_40 rfl ?_
          refine zr_icmp_ge (tgt := 105) hC dX4_ripple_42 (by decide) (fun h => absurd h c42) (fun _ => ?_)
          refine zr_aload_n 2 hC dX4_ripple_45 rfl rfl ?_
          refine zr_get (v := .int (zf_why (aa_st a1) (zl b 2) p1)) 0 13 hC iu_X4 rfl dX4_ripple_46 fl_X4_41 (by decide) rfl rfl ?_
          refine zr_if_neT (tgt := 105) hC dX4_ripple_49 (by decide) h2 ?_
          refine zr_iload 1 hC dX4_ripple_105 rfl ?_
          refine zr_iret hC hr hk dX4_ripple_107 (by decide) (by decide) ⟨_, rfl, ?_⟩
          exact zq_mk (by rw [hspec, hsp, show N - kn = (N - (kn + 1)) + 1 by omega]; show (if _ then _ else _) = _; rw [if_neg h2]) hR1
    · refine zr_if_eqT (tgt := 23) hC dX4_ripple_16 (by decide) (by decide) ?_
      refine zr_iconst (v := (0 : Int32)) hC dX4_ripple_23 rfl ?_
      refine zr_cVi 0 hC cv_X4_begins ml_X4_80 (c_X4_begins0 (a := a) (x := x)) dX4_ripple_24 ⟨Nat.le_of_ble_eq_true rfl, Nat.le_of_ble_eq_true rfl⟩ ⟨Nat.le_of_ble_eq_true rfl, Nat.le_of_ble_eq_true rfl⟩ rfl rfl rfl rfl rfl (Nat.le_of_ble_eq_true rfl) ?_
      rintro _ _ ⟨rfl, rfl⟩
      refine zr_if_neF (tgt := 32) hC dX4_ripple_27 (by decide) (by decide) ?_
      refine zr_iconst (v := (0 : Int32)) hC dX4_ripple_30 rfl ?_
      refine zr_iret hC hr hk dX4_ripple_31 (by decide) (by decide) ⟨_, rfl, ?_⟩
      exact zq_mk (if_neg (fun h => absurd h.2 hi1)) hR
  · refine zr_if_eqT (tgt := 23) hC dX4_ripple_5 (by decide) (by decide) ?_
    refine zr_iconst (v := (0 : Int32)) hC dX4_ripple_23 rfl ?_
    refine zr_cVi 0 hC cv_X4_begins ml_X4_80 (c_X4_begins0 (a := a) (x := x)) dX4_ripple_24 ⟨Nat.le_of_ble_eq_true rfl, Nat.le_of_ble_eq_true rfl⟩ ⟨Nat.le_of_ble_eq_true rfl, Nat.le_of_ble_eq_true rfl⟩ rfl rfl rfl rfl rfl (Nat.le_of_ble_eq_true rfl) ?_
    rintro _ _ ⟨rfl, rfl⟩
    refine zr_if_neF (tgt := 32) hC dX4_ripple_27 (by decide) (by decide) ?_
    refine zr_iconst (v := (0 : Int32)) hC dX4_ripple_30 rfl ?_
    refine zr_iret hC hr hk dX4_ripple_31 (by decide) (by decide) ⟨_, rfl, ?_⟩
    exact zq_mk (if_neg (fun h => absurd h.1 hb_b)) hR
set_option maxRecDepth 100000 in
set_option maxHeartbeats 4000000 in
theorem c_X4_probe (hR : rm_R a x) (b i : Int32) : zz_Mi l D (zt cI cII cF) yX4_probe cX4_probe 6 (some .int) 3 69 0 0 [.ref mo, .int b, .int i] (mw_W mo m1 m2 m3 m4 m5 m6 m7 m8 m9 cI a x) (fun r w' => zp_m mo m1 m2 m3 m4 m5 m6 m7 m8 m9 cI (zo_probe a b i) r w') := by
  refine zz_mk (by decide) (Nat.le_of_ble_eq_true rfl) ?_
  intro p e s m below meth c A hC hr hk hnm
  have hC : zz_C p s m _ c A D (zt cI cII cF) 6 cX4_probe RX4 := hC
  refine zr_aload_n 0 hC dX4_probe_0 rfl rfl ?_
  refine zr_iload_n 1 hC dX4_probe_1 rfl rfl ?_
  refine zr_cSi hC cs_X4_isBank ml_X4_73 (c_X4_isBank (w := (mw_W mo m1 m2 m3 m4 m5 m6 m7 m8 m9 cI a x)) b) dX4_probe_2 ⟨Nat.le_of_ble_eq_true rfl, Nat.le_of_ble_eq_true rfl⟩ ⟨Nat.le_of_ble_eq_true rfl, Nat.le_of_ble_eq_true rfl⟩ rfl rfl (Nat.le_of_ble_eq_true rfl) ?_
  rintro _ _ ⟨rfl, ⟨rfl, hb_b⟩ | ⟨rfl, hb_b⟩⟩
  · refine zr_cVi 0 hC cv_X4_begins ml_X4_80 (c_X4_begins1 (a := a) (x := x)) dX4_probe_5 ⟨Nat.le_of_ble_eq_true rfl, Nat.le_of_ble_eq_true rfl⟩ ⟨Nat.le_of_ble_eq_true rfl, Nat.le_of_ble_eq_true rfl⟩ rfl rfl rfl rfl rfl (Nat.le_of_ble_eq_true rfl) ?_
    rintro _ _ ⟨rfl, rfl⟩
    refine zr_if_neT (tgt := 13) hC dX4_probe_8 (by decide) (by decide) ?_
    refine zr_iconst (v := (0 : Int32)) hC dX4_probe_13 rfl ?_
    refine zr_istore_n (lv' := [(3, .int (0 : Int32)), (0, .ref mo), (1, .int b), (2, .int i)]) hC dX4_probe_14 rfl (by decide) rfl ?_
    refine zr_iconst (v := (1 : Int32)) hC dX4_probe_15 rfl ?_
    refine zr_istore (lv' := [(4, .int (1 : Int32)), (3, .int (0 : Int32)), (0, .ref mo), (1, .int b), (2, .int i)]) hC dX4_probe_16 (by decide) rfl ?_
    refine zr_iconst (v := (0 : Int32)) hC dX4_probe_18 rfl ?_
    refine zr_istore (lv' := [(5, .int (0 : Int32)), (4, .int (1 : Int32)), (3, .int (0 : Int32)), (0, .ref mo), (1, .int b), (2, .int i)]) hC dX4_probe_19 (by decide) rfl ?_
    refine zr_sub [2, 1, 0, 3, 4, 5] rfl ?_
    refine zr_loop (σ := Nat × Int32 × Int32 × Int32 × ax_A × mx_X) (fun t => [(3, .int t.2.2.2.1), (4, .int t.2.2.1), (5, .int t.2.1), (0, .ref mo), (1, .int b), (2, .int i)]) (fun t => mw_W mo m1 m2 m3 m4 m5 m6 m7 m8 m9 cI (as_sta t.2.2.2.2.1 0) t.2.2.2.2.2) (fun t => t.1 ≤ 4 ∧ t.2.1 = nI t.1 ∧ rm_R t.2.2.2.2.1 t.2.2.2.2.2 ∧ zf_pro b i 4 0 1 0 a = zf_pro b i (4 - t.1) t.2.1 t.2.2.1 t.2.2.2.1 t.2.2.2.2.1) (fun t => 4 - t.1) ?_ (0, 0, 1, 0, a, x) ⟨Nat.zero_le _, rfl, hR, rfl⟩
    rintro ⟨kn, s1, u1, t1, a1, x1⟩ ⟨hk1, hk2, hR1, hsp⟩ ih
    try dsimp only at hk1
    try dsimp only at hk2
    try dsimp only at hR1
    try dsimp only at hsp
    show zz_Z _ _ _ _ _ _ _ _ _ _ _ _ _ _ 21 [(3, .int t1), (4, .int u1), (5, .int s1), (0, .ref mo), (1, .int b), (2, .int i)] [] (mw_W mo m1 m2 m3 m4 m5 m6 m7 m8 m9 cI (as_sta a1 0) x1) 0 0
    refine zr_iload 2 hC dX4_probe_21 rfl ?_
    refine zr_iconst (v := (3 : Int32)) hC dX4_probe_23 rfl ?_
    refine zr_icmp_gt (tgt := 57) hC dX4_probe_24 (by decide) (fun c24 => ?_) (fun c24 => ?_)
    · have hend : kn = 4 := by
        rw [hk2] at c24
        have := (nI_ltI (a := 3) (by omega) (by omega)).mp c24
        omega
      refine zr_iload_n 0 hC dX4_probe_57 rfl rfl ?_
      refine zr_iret hC hr hk dX4_probe_58 (by decide) (by decide) ⟨_, rfl, ?_⟩
      exact zq_mk (by unfold zo_probe; rw [if_pos hb_b, hsp, hend]; rfl) hR1
    · have hlt : kn < 4 := by
        rcases Nat.lt_or_ge kn 4 with h0 | h0
        · exact h0
        · exact absurd (by rw [hk2]; exact nI_lt (a := 3) (by omega) (by omega)) c24
      have hs_s1 : zk_s s1 := by rw [hk2]; exact ⟨nI_pos' (by omega), nI_lt (b := 4) hlt (by omega)⟩
      refine zr_iload_n 0 hC dX4_probe_27 rfl rfl ?_
      refine zr_iload 1 hC dX4_probe_28 rfl ?_
      refine zr_aload_n 3 hC dX4_probe_30 rfl rfl ?_
      refine zr_iload_n 4 hC dX4_probe_31 rfl rfl ?_
      refine zr_iload 2 hC dX4_probe_32 rfl ?_
      refine zr_iload_n 5 hC dX4_probe_34 rfl rfl ?_
      refine zr_cVi 0 hC cv_X4_refused ml_X4_87 (c_X4_refused (a := (as_sta a1 0)) (x := x1) hR1.1 i hb_b hs_s1) dX4_probe_35 ⟨Nat.le_of_ble_eq_true rfl, Nat.le_of_ble_eq_true rfl⟩ ⟨Nat.le_of_ble_eq_true rfl, Nat.le_of_ble_eq_true rfl⟩ rfl rfl rfl rfl rfl (Nat.le_of_ble_eq_true rfl) ?_
      rintro _ _ (⟨h1, rfl, rfl⟩ | ⟨h1, rfl, rfl⟩)
      · have h1 : (zf_why (aa_st a1) (zl b s1) i) = 0 := h1
        refine zr_cSi hC cs_X4_digit ml_X4_97 (c_X4_digit (w := (mw_W mo m1 m2 m3 m4 m5 m6 m7 m8 m9 cI (as_sta a1 0) x1)) (0 : Int32)) dX4_probe_38 ⟨Nat.le_of_ble_eq_true rfl, Nat.le_of_ble_eq_true rfl⟩ ⟨Nat.le_of_ble_eq_true rfl, Nat.le_of_ble_eq_true rfl⟩ rfl rfl (Nat.le_of_ble_eq_true rfl) ?_
        rintro _ _ ⟨rfl, rfl⟩
        refine zr_imul hC dX4_probe_41 ?_
        refine zr_iadd hC dX4_probe_42 ?_
        refine zr_istore_n (lv' := [(3, .int (t1 + (u1 * (zf_dig (0 : Int32))))), (4, .int u1), (5, .int s1), (0, .ref mo), (1, .int b), (2, .int i)]) hC dX4_probe_43 rfl (by decide) rfl ?_
        refine zr_iload 1 hC dX4_probe_44 rfl ?_
        refine zr_bipush (v := (10 : Int32)) hC dX4_probe_46 rfl ?_
        refine zr_imul hC dX4_probe_48 ?_
        refine zr_istore (lv' := [(4, .int (u1 * (10 : Int32))), (3, .int (t1 + (u1 * (zf_dig (0 : Int32))))), (5, .int s1), (0, .ref mo), (1, .int b), (2, .int i)]) hC dX4_probe_49 (by decide) rfl ?_
        refine zr_iinc (v := (s1 + 1)) (lv' := [(5, .int (s1 + 1)), (4, .int (u1 * (10 : Int32))), (3, .int (t1 + (u1 * (zf_dig (0 : Int32))))), (0, .ref mo), (1, .int b), (2, .int i)]) 2 hC dX4_probe_51 rfl rfl (by decide) rfl ?_
        refine zr_goto (tgt := 21) hC dX4_probe_54 (by decide) ?_
        refine zr_sub [2, 1, 0, 3, 4, 5] rfl ?_
        exact ih (kn + 1, s1 + 1, (u1 * (10 : Int32)), (t1 + (u1 * (zf_dig (0 : Int32)))), a1, x1) ⟨by show kn + 1 ≤ 4; omega, by show s1 + 1 = nI (kn + 1); rw [hk2, nI_1], hR1, by rw [hsp, show 4 - kn = (4 - (kn + 1)) + 1 by omega]; show zf_pro _ _ _ _ _ (t1 + u1 * zf_dig (zf_why (aa_st a1) (zl b s1) i)) (zf_cnt (zf_why (aa_st a1) (zl b s1) i) a1) = _; rw [h1, zf_cnt0]⟩ (by show 4 - (kn + 1) < 4 - kn; omega)
      · have h1 : ¬ (zf_why (aa_st a1) (zl b s1) i) = 0 := h1
        refine zr_cSi hC cs_X4_digit ml_X4_97 (c_X4_digit (w := (mw_W mo m1 m2 m3 m4 m5 m6 m7 m8 m9 cI (zf_cnt (zf_why (aa_st a1) (zl b s1) i) (as_sta a1 0)) x1)) (zf_why (aa_st a1) (zl b s1) i)) dX4_probe_38 ⟨Nat.le_of_ble_eq_true rfl, Nat.le_of_ble_eq_true rfl⟩ ⟨Nat.le_of_ble_eq_true rfl, Nat.le_of_ble_eq_true rfl⟩ rfl rfl (Nat.le_of_ble_eq_true rfl) ?_
        rintro _ _ ⟨rfl, rfl⟩
        refine zr_imul hC dX4_probe_41 ?_
        refine zr_iadd hC dX4_probe_42 ?_
        refine zr_istore_n (lv' := [(3, .int (t1 + (u1 * (zf_dig (zf_why (aa_st a1) (zl b s1) i))))), (4, .int u1), (5, .int s1), (0, .ref mo), (1, .int b), (2, .int i)]) hC dX4_probe_43 rfl (by decide) rfl ?_
        refine zr_iload 1 hC dX4_probe_44 rfl ?_
        refine zr_bipush (v := (10 : Int32)) hC dX4_probe_46 rfl ?_
        refine zr_imul hC dX4_probe_48 ?_
        refine zr_istore (lv' := [(4, .int (u1 * (10 : Int32))), (3, .int (t1 + (u1 * (zf_dig (zf_why (aa_st a1) (zl b s1) i))))), (5, .int s1), (0, .ref mo), (1, .int b), (2, .int i)]) hC dX4_probe_49 (by decide) rfl ?_
        refine zr_iinc (v := (s1 + 1)) (lv' := [(5, .int (s1 + 1)), (4, .int (u1 * (10 : Int32))), (3, .int (t1 + (u1 * (zf_dig (zf_why (aa_st a1) (zl b s1) i))))), (0, .ref mo), (1, .int b), (2, .int i)]) 2 hC dX4_probe_51 rfl rfl (by decide) rfl ?_
        refine zr_goto (tgt := 21) hC dX4_probe_54 (by decide) ?_
        refine zr_sub [2, 1, 0, 3, 4, 5] rfl ?_
        exact ih (kn + 1, s1 + 1, (u1 * (10 : Int32)), (t1 + (u1 * (zf_dig (zf_why (aa_st a1) (zl b s1) i)))), (zf_cnt (zf_why (aa_st a1) (zl b s1) i) a1), x1) ⟨by show kn + 1 ≤ 4; omega, by show s1 + 1 = nI (kn + 1); rw [hk2, nI_1], hR1, by rw [hsp, show 4 - kn = (4 - (kn + 1)) + 1 by omega]; show zf_pro _ _ _ _ _ (t1 + u1 * zf_dig (zf_why (aa_st a1) (zl b s1) i)) (zf_cnt (zf_why (aa_st a1) (zl b s1) i) a1) = _; rfl⟩ (by show 4 - (kn + 1) < 4 - kn; omega)
  · refine zr_cVi 0 hC cv_X4_begins ml_X4_80 (c_X4_begins0 (a := a) (x := x)) dX4_probe_5 ⟨Nat.le_of_ble_eq_true rfl, Nat.le_of_ble_eq_true rfl⟩ ⟨Nat.le_of_ble_eq_true rfl, Nat.le_of_ble_eq_true rfl⟩ rfl rfl rfl rfl rfl (Nat.le_of_ble_eq_true rfl) ?_
    rintro _ _ ⟨rfl, rfl⟩
    refine zr_if_neF (tgt := 13) hC dX4_probe_8 (by decide) (by decide) ?_
    refine zr_iconst (v := (0 : Int32)) hC dX4_probe_11 rfl ?_
    refine zr_iret hC hr hk dX4_probe_12 (by decide) (by decide) ⟨_, rfl, ?_⟩
    exact zq_mk (if_neg (fun h => absurd h hb_b)) hR
set_option maxRecDepth 100000 in
set_option maxHeartbeats 4000000 in
theorem c_X4_poke (hR : rm_R a x) (b i v : Int32) : zz_Mi l D (zt cI cII cF) yX4_poke cX4_poke 8 (some .int) 3 69 0 0 [.ref mo, .int b, .int i, .int v] (mw_W mo m1 m2 m3 m4 m5 m6 m7 m8 m9 cI a x) (fun r w' => zp_m mo m1 m2 m3 m4 m5 m6 m7 m8 m9 cI (zo_poke a b i v) r w') := by
  refine zz_mk (by decide) (Nat.le_of_ble_eq_true rfl) ?_
  intro p e s m below meth c A hC hr hk hnm
  have hC : zz_C p s m _ c A D (zt cI cII cF) 8 cX4_poke RX4 := hC
  refine zr_aload_n 0 hC dX4_poke_0 rfl rfl ?_
  refine zr_iload_n 1 hC dX4_poke_1 rfl rfl ?_
  refine zr_cSi hC cs_X4_isBank ml_X4_73 (c_X4_isBank (w := (mw_W mo m1 m2 m3 m4 m5 m6 m7 m8 m9 cI a x)) b) dX4_poke_2 ⟨Nat.le_of_ble_eq_true rfl, Nat.le_of_ble_eq_true rfl⟩ ⟨Nat.le_of_ble_eq_true rfl, Nat.le_of_ble_eq_true rfl⟩ rfl rfl (Nat.le_of_ble_eq_true rfl) ?_
  rintro _ _ ⟨rfl, ⟨rfl, hb_b⟩ | ⟨rfl, hb_b⟩⟩
  · refine zr_cVi 0 hC cv_X4_begins ml_X4_80 (c_X4_begins1 (a := a) (x := x)) dX4_poke_5 ⟨Nat.le_of_ble_eq_true rfl, Nat.le_of_ble_eq_true rfl⟩ ⟨Nat.le_of_ble_eq_true rfl, Nat.le_of_ble_eq_true rfl⟩ rfl rfl rfl rfl rfl (Nat.le_of_ble_eq_true rfl) ?_
    rintro _ _ ⟨rfl, rfl⟩
    refine zr_if_neT (tgt := 13) hC dX4_poke_8 (by decide) (by decide) ?_
    refine zr_iconst (v := (0 : Int32)) hC dX4_poke_13 rfl ?_
    refine zr_istore (lv' := [(4, .int (0 : Int32)), (0, .ref mo), (1, .int b), (2, .int i), (3, .int v)]) hC dX4_poke_14 (by decide) rfl ?_
    refine zr_iconst (v := (1 : Int32)) hC dX4_poke_16 rfl ?_
    refine zr_istore (lv' := [(5, .int (1 : Int32)), (4, .int (0 : Int32)), (0, .ref mo), (1, .int b), (2, .int i), (3, .int v)]) hC dX4_poke_17 (by decide) rfl ?_
    refine zr_iconst (v := (0 : Int32)) hC dX4_poke_19 rfl ?_
    refine zr_istore (lv' := [(6, .int (0 : Int32)), (5, .int (1 : Int32)), (4, .int (0 : Int32)), (0, .ref mo), (1, .int b), (2, .int i), (3, .int v)]) hC dX4_poke_20 (by decide) rfl ?_
    refine zr_sub [2, 1, 0, 3, 4, 5, 6] rfl ?_
    refine zr_loop (σ := Nat × Int32 × Int32 × Int32 × ax_A × mx_X) (fun t => [(4, .int t.2.2.2.1), (5, .int t.2.2.1), (6, .int t.2.1), (0, .ref mo), (1, .int b), (2, .int i), (3, .int v)]) (fun t => mw_W mo m1 m2 m3 m4 m5 m6 m7 m8 m9 cI (as_sta t.2.2.2.2.1 0) t.2.2.2.2.2) (fun t => t.1 ≤ 4 ∧ t.2.1 = nI t.1 ∧ rm_R t.2.2.2.2.1 t.2.2.2.2.2 ∧ zf_pok b i v 4 0 1 0 a = zf_pok b i v (4 - t.1) t.2.1 t.2.2.1 t.2.2.2.1 t.2.2.2.2.1) (fun t => 4 - t.1) ?_ (0, 0, 1, 0, a, x) ⟨Nat.zero_le _, rfl, hR, rfl⟩
    rintro ⟨kn, s1, u1, t1, a1, x1⟩ ⟨hk1, hk2, hR1, hsp⟩ ih
    try dsimp only at hk1
    try dsimp only at hk2
    try dsimp only at hR1
    try dsimp only at hsp
    show zz_Z _ _ _ _ _ _ _ _ _ _ _ _ _ _ 22 [(4, .int t1), (5, .int u1), (6, .int s1), (0, .ref mo), (1, .int b), (2, .int i), (3, .int v)] [] (mw_W mo m1 m2 m3 m4 m5 m6 m7 m8 m9 cI (as_sta a1 0) x1) 0 0
    refine zr_iload 2 hC dX4_poke_22 rfl ?_
    refine zr_iconst (v := (3 : Int32)) hC dX4_poke_24 rfl ?_
    refine zr_icmp_gt (tgt := 78) hC dX4_poke_25 (by decide) (fun c25 => ?_) (fun c25 => ?_)
    · have hend : kn = 4 := by
        rw [hk2] at c25
        have := (nI_ltI (a := 3) (by omega) (by omega)).mp c25
        omega
      refine zr_iload 0 hC dX4_poke_78 rfl ?_
      refine zr_iret hC hr hk dX4_poke_80 (by decide) (by decide) ⟨_, rfl, ?_⟩
      exact zq_mk (by unfold zo_poke; rw [if_pos hb_b, hsp, hend]; rfl) hR1
    · have hlt : kn < 4 := by
        rcases Nat.lt_or_ge kn 4 with h0 | h0
        · exact h0
        · exact absurd (by rw [hk2]; exact nI_lt (a := 3) (by omega) (by omega)) c25
      have hs_s1 : zk_s s1 := by rw [hk2]; exact ⟨nI_pos' (by omega), nI_lt (b := 4) hlt (by omega)⟩
      refine zr_aload_n 3 hC dX4_poke_28 rfl rfl ?_
      refine zr_iload_n 4 hC dX4_poke_29 rfl rfl ?_
      refine zr_iload 2 hC dX4_poke_30 rfl ?_
      refine zr_iload_n 5 hC dX4_poke_32 rfl rfl ?_
      refine zr_cVi 0 hC cv_X4_refused ml_X4_87 (c_X4_refused (a := (as_sta a1 0)) (x := x1) hR1.1 i hb_b hs_s1) dX4_poke_33 ⟨Nat.le_of_ble_eq_true rfl, Nat.le_of_ble_eq_true rfl⟩ ⟨Nat.le_of_ble_eq_true rfl, Nat.le_of_ble_eq_true rfl⟩ rfl rfl rfl rfl rfl (Nat.le_of_ble_eq_true rfl) ?_
      rintro _ _ (⟨h1, rfl, rfl⟩ | ⟨h1, rfl, rfl⟩)
      · have h1 : (zf_why (aa_st a1) (zl b s1) i) = 0 := h1
        refine zr_istore (lv' := [(7, .int (0 : Int32)), (4, .int t1), (5, .int u1), (6, .int s1), (0, .ref mo), (1, .int b), (2, .int i), (3, .int v)]) hC dX4_poke_36 (by decide) rfl ?_
        refine zr_iload 0 hC dX4_poke_38 rfl ?_
        refine zr_if_neF (tgt := 52) hC dX4_poke_40 (by decide) (by decide) ?_
        refine zr_aload_n 4 hC dX4_poke_43 rfl rfl ?_
        refine zr_iload_n 5 hC dX4_poke_44 rfl rfl ?_
        refine zr_iload 3 hC dX4_poke_45 rfl ?_
        refine zr_iload_n 6 hC dX4_poke_47 rfl rfl ?_
        refine zr_iload_n 7 hC dX4_poke_48 rfl rfl ?_
        refine zr_cVv 0 hC cv_X4_put ml_X4_93 (c_X4_put (a := (as_sta a1 0)) (x := x1) hR1.1 v hb_b hs_s1 (by assumption)) dX4_poke_49 ⟨Nat.le_of_ble_eq_true rfl, Nat.le_of_ble_eq_true rfl⟩ ⟨Nat.le_of_ble_eq_true rfl, Nat.le_of_ble_eq_true rfl⟩ rfl rfl rfl rfl rfl (Nat.le_of_ble_eq_true rfl) ?_
        rintro _ ⟨p2, rfl, hQp2⟩
        refine zr_iload 1 hC dX4_poke_52 rfl ?_
        refine zr_iload 2 hC dX4_poke_54 rfl ?_
        refine zr_iload 0 hC dX4_poke_56 rfl ?_
        refine zr_cSi hC cs_X4_digit ml_X4_97 (c_X4_digit (w := (mw_W mo m1 m2 m3 m4 m5 m6 m7 m8 m9 cI (zf_set (as_sta a1 0) (zl b s1) i (zf_num s1 v)) (mk_pl x1 p2))) (0 : Int32)) dX4_poke_58 ⟨Nat.le_of_ble_eq_true rfl, Nat.le_of_ble_eq_true rfl⟩ ⟨Nat.le_of_ble_eq_true rfl, Nat.le_of_ble_eq_true rfl⟩ rfl rfl (Nat.le_of_ble_eq_true rfl) ?_
        rintro _ _ ⟨rfl, rfl⟩
        refine zr_imul hC dX4_poke_61 ?_
        refine zr_iadd hC dX4_poke_62 ?_
        refine zr_istore (lv' := [(4, .int (t1 + (u1 * (zf_dig (0 : Int32))))), (7, .int (0 : Int32)), (5, .int u1), (6, .int s1), (0, .ref mo), (1, .int b), (2, .int i), (3, .int v)]) hC dX4_poke_63 (by decide) rfl ?_
        refine zr_iload 2 hC dX4_poke_65 rfl ?_
        refine zr_bipush (v := (10 : Int32)) hC dX4_poke_67 rfl ?_
        refine zr_imul hC dX4_poke_69 ?_
        refine zr_istore (lv' := [(5, .int (u1 * (10 : Int32))), (4, .int (t1 + (u1 * (zf_dig (0 : Int32))))), (7, .int (0 : Int32)), (6, .int s1), (0, .ref mo), (1, .int b), (2, .int i), (3, .int v)]) hC dX4_poke_70 (by decide) rfl ?_
        refine zr_iinc (v := (s1 + 1)) (lv' := [(6, .int (s1 + 1)), (5, .int (u1 * (10 : Int32))), (4, .int (t1 + (u1 * (zf_dig (0 : Int32))))), (7, .int (0 : Int32)), (0, .ref mo), (1, .int b), (2, .int i), (3, .int v)]) 3 hC dX4_poke_72 rfl rfl (by decide) rfl ?_
        refine zr_goto (tgt := 22) hC dX4_poke_75 (by decide) ?_
        refine zr_sub [2, 1, 0, 4, 5, 6, 7] rfl ?_
        exact ih (kn + 1, s1 + 1, (u1 * (10 : Int32)), (t1 + (u1 * (zf_dig (0 : Int32)))), (zf_set a1 (zl b s1) i (zf_num s1 v)), (mk_pl x1 p2)) ⟨by show kn + 1 ≤ 4; omega, by show s1 + 1 = nI (kn + 1); rw [hk2, nI_1], ⟨hQp2, hR1.2⟩, by rw [hsp, show 4 - kn = (4 - (kn + 1)) + 1 by omega]; show zf_pok _ _ _ _ _ _ (t1 + u1 * zf_dig (zf_why (aa_st a1) (zl b s1) i)) (if zf_why (aa_st a1) (zl b s1) i = 0 then zf_set a1 (zl b s1) i (zf_num s1 v) else zf_cnt (zf_why (aa_st a1) (zl b s1) i) a1) = _; rw [h1, if_pos rfl]⟩ (by show 4 - (kn + 1) < 4 - kn; omega)
      · have h1 : ¬ (zf_why (aa_st a1) (zl b s1) i) = 0 := h1
        refine zr_istore (lv' := [(7, .int (zf_why (aa_st a1) (zl b s1) i)), (4, .int t1), (5, .int u1), (6, .int s1), (0, .ref mo), (1, .int b), (2, .int i), (3, .int v)]) hC dX4_poke_36 (by decide) rfl ?_
        refine zr_iload 0 hC dX4_poke_38 rfl ?_
        refine zr_if_neT (tgt := 52) hC dX4_poke_40 (by decide) h1 ?_
        refine zr_iload 1 hC dX4_poke_52 rfl ?_
        refine zr_iload 2 hC dX4_poke_54 rfl ?_
        refine zr_iload 0 hC dX4_poke_56 rfl ?_
        refine zr_cSi hC cs_X4_digit ml_X4_97 (c_X4_digit (w := (mw_W mo m1 m2 m3 m4 m5 m6 m7 m8 m9 cI (zf_cnt (zf_why (aa_st a1) (zl b s1) i) (as_sta a1 0)) x1)) (zf_why (aa_st a1) (zl b s1) i)) dX4_poke_58 ⟨Nat.le_of_ble_eq_true rfl, Nat.le_of_ble_eq_true rfl⟩ ⟨Nat.le_of_ble_eq_true rfl, Nat.le_of_ble_eq_true rfl⟩ rfl rfl (Nat.le_of_ble_eq_true rfl) ?_
        rintro _ _ ⟨rfl, rfl⟩
        refine zr_imul hC dX4_poke_61 ?_
        refine zr_iadd hC dX4_poke_62 ?_
        refine zr_istore (lv' := [(4, .int (t1 + (u1 * (zf_dig (zf_why (aa_st a1) (zl b s1) i))))), (7, .int (zf_why (aa_st a1) (zl b s1) i)), (5, .int u1), (6, .int s1), (0, .ref mo), (1, .int b), (2, .int i), (3, .int v)]) hC dX4_poke_63 (by decide) rfl ?_
        refine zr_iload 2 hC dX4_poke_65 rfl ?_
        refine zr_bipush (v := (10 : Int32)) hC dX4_poke_67 rfl ?_
        refine zr_imul hC dX4_poke_69 ?_
        refine zr_istore (lv' := [(5, .int (u1 * (10 : Int32))), (4, .int (t1 + (u1 * (zf_dig (zf_why (aa_st a1) (zl b s1) i))))), (7, .int (zf_why (aa_st a1) (zl b s1) i)), (6, .int s1), (0, .ref mo), (1, .int b), (2, .int i), (3, .int v)]) hC dX4_poke_70 (by decide) rfl ?_
        refine zr_iinc (v := (s1 + 1)) (lv' := [(6, .int (s1 + 1)), (5, .int (u1 * (10 : Int32))), (4, .int (t1 + (u1 * (zf_dig (zf_why (aa_st a1) (zl b s1) i))))), (7, .int (zf_why (aa_st a1) (zl b s1) i)), (0, .ref mo), (1, .int b), (2, .int i), (3, .int v)]) 3 hC dX4_poke_72 rfl rfl (by decide) rfl ?_
        refine zr_goto (tgt := 22) hC dX4_poke_75 (by decide) ?_
        refine zr_sub [2, 1, 0, 4, 5, 6, 7] rfl ?_
        exact ih (kn + 1, s1 + 1, (u1 * (10 : Int32)), (t1 + (u1 * (zf_dig (zf_why (aa_st a1) (zl b s1) i)))), (zf_cnt (zf_why (aa_st a1) (zl b s1) i) a1), x1) ⟨by show kn + 1 ≤ 4; omega, by show s1 + 1 = nI (kn + 1); rw [hk2, nI_1], hR1, by rw [hsp, show 4 - kn = (4 - (kn + 1)) + 1 by omega]; show zf_pok _ _ _ _ _ _ (t1 + u1 * zf_dig (zf_why (aa_st a1) (zl b s1) i)) (if zf_why (aa_st a1) (zl b s1) i = 0 then zf_set a1 (zl b s1) i (zf_num s1 v) else zf_cnt (zf_why (aa_st a1) (zl b s1) i) a1) = _; rw [if_neg h1]⟩ (by show 4 - (kn + 1) < 4 - kn; omega)
  · refine zr_cVi 0 hC cv_X4_begins ml_X4_80 (c_X4_begins0 (a := a) (x := x)) dX4_poke_5 ⟨Nat.le_of_ble_eq_true rfl, Nat.le_of_ble_eq_true rfl⟩ ⟨Nat.le_of_ble_eq_true rfl, Nat.le_of_ble_eq_true rfl⟩ rfl rfl rfl rfl rfl (Nat.le_of_ble_eq_true rfl) ?_
    rintro _ _ ⟨rfl, rfl⟩
    refine zr_if_neF (tgt := 13) hC dX4_poke_8 (by decide) (by decide) ?_
    refine zr_iconst (v := (0 : Int32)) hC dX4_poke_11 rfl ?_
    refine zr_iret hC hr hk dX4_poke_12 (by decide) (by decide) ⟨_, rfl, ?_⟩
    exact zq_mk (if_neg (fun h => absurd h hb_b)) hR
set_option maxRecDepth 100000 in
set_option maxHeartbeats 4000000 in
theorem c_X4_lit (hR : rm_R a x) (b : Int32) : zz_Mi l D (zt cI cII cF) yX4_lit cX4_lit 6 (some .int) 3 69 0 0 [.ref mo, .int b] (mw_W mo m1 m2 m3 m4 m5 m6 m7 m8 m9 cI a x) (fun r w' => zp_m mo m1 m2 m3 m4 m5 m6 m7 m8 m9 cI (zo_lit a b) r w') := by
  refine zz_mk (by decide) (Nat.le_of_ble_eq_true rfl) ?_
  intro p e s m below meth c A hC hr hk hnm
  have hC : zz_C p s m _ c A D (zt cI cII cF) 6 cX4_lit RX4 := hC
  refine zr_aload_n 0 hC dX4_lit_0 rfl rfl ?_
  refine zr_iload_n 1 hC dX4_lit_1 rfl rfl ?_
  refine zr_cSi hC cs_X4_isBank ml_X4_73 (c_X4_isBank (w := (mw_W mo m1 m2 m3 m4 m5 m6 m7 m8 m9 cI a x)) b) dX4_lit_2 ⟨Nat.le_of_ble_eq_true rfl, Nat.le_of_ble_eq_true rfl⟩ ⟨Nat.le_of_ble_eq_true rfl, Nat.le_of_ble_eq_true rfl⟩ rfl rfl (Nat.le_of_ble_eq_true rfl) ?_
  rintro _ _ ⟨rfl, ⟨rfl, hb_b⟩ | ⟨rfl, hb_b⟩⟩
  · refine zr_cVi 0 hC cv_X4_begins ml_X4_80 (c_X4_begins1 (a := a) (x := x)) dX4_lit_5 ⟨Nat.le_of_ble_eq_true rfl, Nat.le_of_ble_eq_true rfl⟩ ⟨Nat.le_of_ble_eq_true rfl, Nat.le_of_ble_eq_true rfl⟩ rfl rfl rfl rfl rfl (Nat.le_of_ble_eq_true rfl) ?_
    rintro _ _ ⟨rfl, rfl⟩
    refine zr_if_neT (tgt := 13) hC dX4_lit_8 (by decide) (by decide) ?_
    refine zr_aload_n 0 hC dX4_lit_13 rfl rfl ?_
    refine zr_get (v := .ref m1) 0 0 hC iu_X4 rfl dX4_lit_14 fl_X4_7 (by decide) rfl rfl ?_
    refine zr_iconst (v := (4 : Int32)) hC dX4_lit_17 rfl ?_
    refine zr_iload_n 1 hC dX4_lit_18 rfl rfl ?_
    refine zr_imul hC dX4_lit_19 ?_
    refine zr_iconst (v := (2 : Int32)) hC dX4_lit_20 rfl ?_
    refine zr_iadd hC dX4_lit_21 ?_
    refine zr_iaj (f := (mx_sp x)) (j := zl b 2) 1 0 hC dX4_lit_22 rfl rfl (zl_lt hb_b zk_s2) (zl_m hb_b zk_s2) (by decide) ?_
    refine zr_istore_n (lv' := [(2, .int ((mx_sp x) (zl b 2))), (0, .ref mo), (1, .int b)]) hC dX4_lit_23 rfl (by decide) rfl ?_
    refine zr_iload_n 0 hC dX4_lit_24 rfl rfl ?_
    refine zr_iconst (v := (-1 : Int32)) hC dX4_lit_25 rfl ?_
    refine zr_icmp_ne (tgt := 40) hC dX4_lit_26 (by decide) (fun c26 => ?_) (fun c26 => ?_)
    · obtain ⟨z, n, hz, hsz, hn, hln, hlen, hpl⟩ := rm_some hR.1 (zl_lt hb_b zk_s2) c26
      refine zr_iconst (v := (0 : Int32)) hC dX4_lit_40 rfl ?_
      refine zr_istore_n (lv' := [(3, .int (0 : Int32)), (2, .int ((mx_sp x) (zl b 2))), (0, .ref mo), (1, .int b)]) hC dX4_lit_41 rfl (by decide) rfl ?_
      refine zr_iconst (v := (0 : Int32)) hC dX4_lit_42 rfl ?_
      refine zr_istore (lv' := [(4, .int (0 : Int32)), (3, .int (0 : Int32)), (2, .int ((mx_sp x) (zl b 2))), (0, .ref mo), (1, .int b)]) hC dX4_lit_43 (by decide) rfl ?_
      refine zr_loop (σ := Nat × Int32 × Int32 × ax_A) (fun t => [(4, .int t.2.1), (3, .int t.2.2.1), (2, .int (mx_sp x (zl b 2))), (0, .ref mo), (1, .int b)]) (fun t => mw_W mo m1 m2 m3 m4 m5 m6 m7 m8 m9 cI (as_sta t.2.2.2 0) x) (fun t => t.1 ≤ n ∧ t.2.1 = nI t.1 ∧ rm_R t.2.2.2 x ∧ aa_st t.2.2.2 = aa_st a ∧ zf_lit b n 0 0 a = zf_lit b (n - t.1) t.2.1 t.2.2.1 t.2.2.2) (fun t => n - t.1) ?_ (0, 0, 0, a) ⟨Nat.zero_le _, rfl, hR, rfl, rfl⟩
      rintro ⟨kn, i1, k1, a1⟩ ⟨hk1, hk2, hR1, hst, hsp⟩ ih
      try dsimp only at hk1
      try dsimp only at hk2
      try dsimp only at hR1
      try dsimp only at hst
      try dsimp only at hsp
      show zz_Z _ _ _ _ _ _ _ _ _ _ _ _ _ _ 45 [(4, .int i1), (3, .int k1), (2, .int (mx_sp x (zl b 2))), (0, .ref mo), (1, .int b)] [] (mw_W mo m1 m2 m3 m4 m5 m6 m7 m8 m9 cI (as_sta a1 0) x) 0 0
      refine zr_iload 0 hC dX4_lit_45 rfl ?_
      refine zr_aload_n 3 hC dX4_lit_47 rfl rfl ?_
      refine zr_get (v := .ref m2) 0 1 hC iu_X4 rfl dX4_lit_48 fl_X4_13 (by decide) rfl rfl ?_
      refine zr_iload_n 2 hC dX4_lit_51 rfl rfl ?_
      refine zr_iaj (f := (mx_ln x)) (j := z) 2 0 hC dX4_lit_52 rfl rfl hz hsz (by decide) ?_
      refine zr_icmp_ge (tgt := 120) hC dX4_lit_53 (by decide) (fun c53 => ?_) (fun c53 => ?_)
      · have hend : kn = n := by
          rw [hk2, hln] at c53
          have := (nI_leI (a := n) (by omega) (by omega)).mp c53
          omega
        refine zr_iload_n 1 hC dX4_lit_120 rfl rfl ?_
        refine zr_iret hC hr hk dX4_lit_121 (by decide) (by decide) ⟨_, rfl, ?_⟩
        exact zq_mk (by unfold zo_lit; rw [if_pos hb_b, hlen]; show zf_lit b n 0 0 a = _; rw [hsp, hend, Nat.sub_self]; rfl) hR1
      · have hlt : kn < n := by
          rcases Nat.lt_or_ge kn n with h0 | h0
          · exact h0
          · exact absurd (by rw [hk2, hln]; exact nI_le h0 (by omega)) c53
        have hval : mx_pl x (25 * z + kn) = zf_val (aa_st a1) (zl b 2) i1 := by
          rw [(hpl kn hlt).1, zf_val, hk2, nI_clamp (by omega), hst]
        refine zr_aload_n 3 hC dX4_lit_56 rfl rfl ?_
        refine zr_iload_n 4 hC dX4_lit_57 rfl rfl ?_
        refine zr_iconst (v := (3 : Int32)) hC dX4_lit_58 rfl ?_
        refine zr_iload 0 hC dX4_lit_59 rfl ?_
        refine zr_cVi 0 hC cv_X4_refused ml_X4_87 (c_X4_refused (a := (as_sta a1 0)) (x := x) hR1.1 i1 hb_b zk_s3) dX4_lit_61 ⟨Nat.le_of_ble_eq_true rfl, Nat.le_of_ble_eq_true rfl⟩ ⟨Nat.le_of_ble_eq_true rfl, Nat.le_of_ble_eq_true rfl⟩ rfl rfl rfl rfl rfl (Nat.le_of_ble_eq_true rfl) ?_
        rintro _ _ (⟨h1, rfl, rfl⟩ | ⟨h1, rfl, rfl⟩)
        · have h1 : (zf_why (aa_st a1) (zl b 3) i1) = 0 := h1
          refine zr_if_neF (tgt := 83) hC dX4_lit_64 (by decide) (by decide) ?_
          have hkey : zf_val (aa_st a1) (zl b 3) i1 = 0 ∨ zf_val (aa_st a1) (zl b 3) i1 = 1 := by
            obtain ⟨-, -, -, -, -, -, -, -, -, -, -, hzk⟩ := rm_why0 hR1.1 (zl_lt hb_b zk_s3) h1
            exact hzk.2.2 (zl_mod hb_b zk_s3)
          refine zr_aload_n 3 hC dX4_lit_67 rfl rfl ?_
          refine zr_iload_n 4 hC dX4_lit_68 rfl rfl ?_
          refine zr_iconst (v := (3 : Int32)) hC dX4_lit_69 rfl ?_
          refine zr_iload 0 hC dX4_lit_70 rfl ?_
          refine zr_cVi 0 hC cv_X4_at ml_X4_90 (c_X4_at (a := (as_sta a1 0)) (x := x) hR1.1 hb_b zk_s3 (by assumption)) dX4_lit_72 ⟨Nat.le_of_ble_eq_true rfl, Nat.le_of_ble_eq_true rfl⟩ ⟨Nat.le_of_ble_eq_true rfl, Nat.le_of_ble_eq_true rfl⟩ rfl rfl rfl rfl rfl (Nat.le_of_ble_eq_true rfl) ?_
          rintro _ _ ⟨rfl, rfl⟩
          refine zr_iconst (v := (1 : Int32)) hC dX4_lit_75 rfl ?_
          refine zr_icmp_ne (tgt := 83) hC dX4_lit_76 (by decide) (fun c76 => ?_) (fun c76 => ?_)
          · refine zr_iconst (v := (0 : Int32)) hC dX4_lit_83 rfl ?_
            refine zr_istore (lv' := [(5, .int (0 : Int32)), (4, .int i1), (3, .int k1), (2, .int (mx_sp x (zl b 2))), (0, .ref mo), (1, .int b)]) hC dX4_lit_84 (by decide) rfl ?_
            refine zr_iload_n 2 hC dX4_lit_86 rfl rfl ?_
            refine zr_iload 0 hC dX4_lit_87 rfl ?_
            refine zr_if_eqT (tgt := 111) hC dX4_lit_89 (by decide) (by decide) ?_
            refine zr_iconst (v := (0 : Int32)) hC dX4_lit_111 rfl ?_
            refine zr_iadd hC dX4_lit_112 ?_
            refine zr_istore_n (lv' := [(3, .int (k1 + (0 : Int32))), (5, .int (0 : Int32)), (4, .int i1), (2, .int (mx_sp x (zl b 2))), (0, .ref mo), (1, .int b)]) hC dX4_lit_113 rfl (by decide) rfl ?_
            refine zr_iinc (v := (i1 + 1)) (lv' := [(4, .int (i1 + 1)), (3, .int (k1 + (0 : Int32))), (5, .int (0 : Int32)), (2, .int (mx_sp x (zl b 2))), (0, .ref mo), (1, .int b)]) 2 hC dX4_lit_114 rfl rfl (by decide) rfl ?_
            refine zr_goto (tgt := 45) hC dX4_lit_117 (by decide) ?_
            refine zr_sub [0, 1, 3, 4, 5] rfl ?_
            exact ih (kn + 1, i1 + 1, (k1 + (0 : Int32)), a1) ⟨by show kn + 1 ≤ n; omega, by show i1 + 1 = nI (kn + 1); rw [hk2, nI_1], hR1, hst, by rw [hsp, show n - kn = (n - (kn + 1)) + 1 by omega]; show zf_lit _ _ _ (if zf_why (aa_st a1) (zl b 3) i1 = 0 ∧ ¬ zf_val (aa_st a1) (zl b 3) i1 = 0 ∧ 0 < zf_val (aa_st a1) (zl b 2) i1 then _ else _) (zf_cnt (zf_why (aa_st a1) (zl b 3) i1) a1) = zf_lit _ _ _ (k1 + (0 : Int32)) _; rw [if_neg (fun q => q.2.1 (hkey.resolve_right c76)), Int32.add_zero]; rw [h1, zf_cnt0]⟩ (by show n - (kn + 1) < n - kn; omega)
          · refine zr_iconst (v := (1 : Int32)) hC dX4_lit_79 rfl ?_
            refine zr_goto (tgt := 84) hC dX4_lit_80 (by decide) ?_
            refine zr_istore (lv' := [(5, .int (1 : Int32)), (4, .int i1), (3, .int k1), (2, .int (mx_sp x (zl b 2))), (0, .ref mo), (1, .int b)]) hC dX4_lit_84 (by decide) rfl ?_
            refine zr_iload_n 2 hC dX4_lit_86 rfl rfl ?_
            refine zr_iload 0 hC dX4_lit_87 rfl ?_
            refine zr_if_eqF (tgt := 111) hC dX4_lit_89 (by decide) (by decide) ?_
            refine zr_aload_n 4 hC dX4_lit_92 rfl rfl ?_
            refine zr_get (v := .ref m3) 0 2 hC iu_X4 rfl dX4_lit_93 fl_X4_16 (by decide) rfl rfl ?_
            refine zr_bipush (v := (25 : Int32)) hC dX4_lit_96 rfl ?_
            refine zr_iload_n 3 hC dX4_lit_98 rfl rfl ?_
            refine zr_imul hC dX4_lit_99 ?_
            refine zr_iload 1 hC dX4_lit_100 rfl ?_
            refine zr_iadd hC dX4_lit_102 ?_
            refine zr_iaj (f := (mx_pl x)) (j := 25 * z + kn) 3 0 hC dX4_lit_103 rfl rfl (by omega) (by rw [hsz, hk2, show (25 : Int32) = nI 25 from rfl, pk_mul, nI_add]) (by decide) ?_
            refine zr_if_le (tgt := 111) hC dX4_lit_104 (by decide) (fun c104 => ?_) (fun c104 => ?_)
            · refine zr_iconst (v := (0 : Int32)) hC dX4_lit_111 rfl ?_
              refine zr_iadd hC dX4_lit_112 ?_
              refine zr_istore_n (lv' := [(3, .int (k1 + (0 : Int32))), (5, .int (1 : Int32)), (4, .int i1), (2, .int (mx_sp x (zl b 2))), (0, .ref mo), (1, .int b)]) hC dX4_lit_113 rfl (by decide) rfl ?_
              refine zr_iinc (v := (i1 + 1)) (lv' := [(4, .int (i1 + 1)), (3, .int (k1 + (0 : Int32))), (5, .int (1 : Int32)), (2, .int (mx_sp x (zl b 2))), (0, .ref mo), (1, .int b)]) 2 hC dX4_lit_114 rfl rfl (by decide) rfl ?_
              refine zr_goto (tgt := 45) hC dX4_lit_117 (by decide) ?_
              refine zr_sub [0, 1, 3, 4, 5] rfl ?_
              exact ih (kn + 1, i1 + 1, (k1 + (0 : Int32)), a1) ⟨by show kn + 1 ≤ n; omega, by show i1 + 1 = nI (kn + 1); rw [hk2, nI_1], hR1, hst, by rw [hsp, show n - kn = (n - (kn + 1)) + 1 by omega]; show zf_lit _ _ _ (if zf_why (aa_st a1) (zl b 3) i1 = 0 ∧ ¬ zf_val (aa_st a1) (zl b 3) i1 = 0 ∧ 0 < zf_val (aa_st a1) (zl b 2) i1 then _ else _) (zf_cnt (zf_why (aa_st a1) (zl b 3) i1) a1) = zf_lit _ _ _ (k1 + (0 : Int32)) _; rw [if_neg (fun q => absurd q.2.2 (Int32.not_lt.mpr (hval ▸ c104))), Int32.add_zero]; rw [h1, zf_cnt0]⟩ (by show n - (kn + 1) < n - kn; omega)
            · refine zr_iconst (v := (1 : Int32)) hC dX4_lit_107 rfl ?_
              refine zr_goto (tgt := 112) hC dX4_lit_108 (by decide) ?_
              refine zr_iadd hC dX4_lit_112 ?_
              refine zr_istore_n (lv' := [(3, .int (k1 + (1 : Int32))), (5, .int (1 : Int32)), (4, .int i1), (2, .int (mx_sp x (zl b 2))), (0, .ref mo), (1, .int b)]) hC dX4_lit_113 rfl (by decide) rfl ?_
              refine zr_iinc (v := (i1 + 1)) (lv' := [(4, .int (i1 + 1)), (3, .int (k1 + (1 : Int32))), (5, .int (1 : Int32)), (2, .int (mx_sp x (zl b 2))), (0, .ref mo), (1, .int b)]) 2 hC dX4_lit_114 rfl rfl (by decide) rfl ?_
              refine zr_goto (tgt := 45) hC dX4_lit_117 (by decide) ?_
              refine zr_sub [0, 1, 3, 4, 5] rfl ?_
              exact ih (kn + 1, i1 + 1, (k1 + (1 : Int32)), a1) ⟨by show kn + 1 ≤ n; omega, by show i1 + 1 = nI (kn + 1); rw [hk2, nI_1], hR1, hst, by rw [hsp, show n - kn = (n - (kn + 1)) + 1 by omega]; show zf_lit _ _ _ (if zf_why (aa_st a1) (zl b 3) i1 = 0 ∧ ¬ zf_val (aa_st a1) (zl b 3) i1 = 0 ∧ 0 < zf_val (aa_st a1) (zl b 2) i1 then _ else _) (zf_cnt (zf_why (aa_st a1) (zl b 3) i1) a1) = zf_lit _ _ _ (k1 + (1 : Int32)) _; rw [if_pos ⟨h1, by rw [c76]; decide, hval ▸ Int32.not_le.mp c104⟩]; rw [h1, zf_cnt0]⟩ (by show n - (kn + 1) < n - kn; omega)
        · have h1 : ¬ (zf_why (aa_st a1) (zl b 3) i1) = 0 := h1
          refine zr_if_neT (tgt := 83) hC dX4_lit_64 (by decide) h1 ?_
          refine zr_iconst (v := (0 : Int32)) hC dX4_lit_83 rfl ?_
          refine zr_istore (lv' := [(5, .int (0 : Int32)), (4, .int i1), (3, .int k1), (2, .int (mx_sp x (zl b 2))), (0, .ref mo), (1, .int b)]) hC dX4_lit_84 (by decide) rfl ?_
          refine zr_iload_n 2 hC dX4_lit_86 rfl rfl ?_
          refine zr_iload 0 hC dX4_lit_87 rfl ?_
          refine zr_if_eqT (tgt := 111) hC dX4_lit_89 (by decide) (by decide) ?_
          refine zr_iconst (v := (0 : Int32)) hC dX4_lit_111 rfl ?_
          refine zr_iadd hC dX4_lit_112 ?_
          refine zr_istore_n (lv' := [(3, .int (k1 + (0 : Int32))), (5, .int (0 : Int32)), (4, .int i1), (2, .int (mx_sp x (zl b 2))), (0, .ref mo), (1, .int b)]) hC dX4_lit_113 rfl (by decide) rfl ?_
          refine zr_iinc (v := (i1 + 1)) (lv' := [(4, .int (i1 + 1)), (3, .int (k1 + (0 : Int32))), (5, .int (0 : Int32)), (2, .int (mx_sp x (zl b 2))), (0, .ref mo), (1, .int b)]) 2 hC dX4_lit_114 rfl rfl (by decide) rfl ?_
          refine zr_goto (tgt := 45) hC dX4_lit_117 (by decide) ?_
          refine zr_sub [0, 1, 3, 4, 5] rfl ?_
          exact ih (kn + 1, i1 + 1, (k1 + (0 : Int32)), (zf_cnt (zf_why (aa_st a1) (zl b 3) i1) a1)) ⟨by show kn + 1 ≤ n; omega, by show i1 + 1 = nI (kn + 1); rw [hk2, nI_1], hR1, hst, by rw [hsp, show n - kn = (n - (kn + 1)) + 1 by omega]; show zf_lit _ _ _ (if zf_why (aa_st a1) (zl b 3) i1 = 0 ∧ ¬ zf_val (aa_st a1) (zl b 3) i1 = 0 ∧ 0 < zf_val (aa_st a1) (zl b 2) i1 then _ else _) (zf_cnt (zf_why (aa_st a1) (zl b 3) i1) a1) = zf_lit _ _ _ (k1 + (0 : Int32)) _; rw [if_neg (fun q => h1 q.1), Int32.add_zero]⟩ (by show n - (kn + 1) < n - kn; omega)
    · refine zr_aload_n 1 hC dX4_lit_29 rfl rfl ?_
      refine zr_aload_n 1 hC dX4_lit_30 rfl rfl ?_
      refine zr_iconst (v := (2 : Int32)) hC dX4_lit_31 rfl ?_
      refine zr_cVi 0 hC cv_X4_counted ml_X4_57 (c_X4_counted (a := (as_sta a 0)) (x := x) (2 : Int32) (by decide)) dX4_lit_32 ⟨Nat.le_of_ble_eq_true rfl, Nat.le_of_ble_eq_true rfl⟩ ⟨Nat.le_of_ble_eq_true rfl, Nat.le_of_ble_eq_true rfl⟩ rfl rfl rfl rfl rfl (Nat.le_of_ble_eq_true rfl) ?_
      rintro rr _ ⟨hrr, rfl⟩
      subst rr
      refine zr_put (w' := (mw_W mo m1 m2 m3 m4 m5 m6 m7 m8 m9 cI (as_sta (zf_cnt (2 : Int32) (as_sta a 0)) (2 : Int32)) x)) 0 13 hC iu_X4 tyX4_ok nmX4 rfl dX4_lit_35 fl_X4_41 (by decide) rfl rfl rfl rfl (Nat.le_of_ble_eq_true rfl) rfl ?_
      refine zr_iconst (v := (0 : Int32)) hC dX4_lit_38 rfl ?_
      refine zr_iret hC hr hk dX4_lit_39 (by decide) (by decide) ⟨_, rfl, ?_⟩
      exact zq_mk (by unfold zo_lit; rw [if_pos hb_b, rm_none hR.1 (zl_lt hb_b zk_s2) c26]) hR
  · refine zr_cVi 0 hC cv_X4_begins ml_X4_80 (c_X4_begins0 (a := a) (x := x)) dX4_lit_5 ⟨Nat.le_of_ble_eq_true rfl, Nat.le_of_ble_eq_true rfl⟩ ⟨Nat.le_of_ble_eq_true rfl, Nat.le_of_ble_eq_true rfl⟩ rfl rfl rfl rfl rfl (Nat.le_of_ble_eq_true rfl) ?_
    rintro _ _ ⟨rfl, rfl⟩
    refine zr_if_neF (tgt := 13) hC dX4_lit_8 (by decide) (by decide) ?_
    refine zr_iconst (v := (0 : Int32)) hC dX4_lit_11 rfl ?_
    refine zr_iret hC hr hk dX4_lit_12 (by decide) (by decide) ⟨_, rfl, ?_⟩
    exact zq_mk (if_neg (fun h => absurd h hb_b)) hR
set_option maxRecDepth 100000 in
set_option maxHeartbeats 4000000 in
theorem c_X4_draw (hR : rm_R a x) (b i : Int32) : zz_Mi l D (zt cI cII cF) yX4_draw cX4_draw 5 (some .int) 4 92 0 0 [.ref mo, .int b, .int i] (mw_W mo m1 m2 m3 m4 m5 m6 m7 m8 m9 cI a x) (fun r w' => zp_m mo m1 m2 m3 m4 m5 m6 m7 m8 m9 cI (zo_draw a b i) r w') := by
  refine zz_mk (by decide) (Nat.le_of_ble_eq_true rfl) ?_
  intro p e s m below meth c A hC hr hk hnm
  have hC : zz_C p s m _ c A D (zt cI cII cF) 5 cX4_draw RX4 := hC
  refine zr_aload_n 0 hC dX4_draw_0 rfl rfl ?_
  refine zr_iload_n 1 hC dX4_draw_1 rfl rfl ?_
  refine zr_cSi hC cs_X4_isBank ml_X4_73 (c_X4_isBank (w := (mw_W mo m1 m2 m3 m4 m5 m6 m7 m8 m9 cI a x)) b) dX4_draw_2 ⟨Nat.le_of_ble_eq_true rfl, Nat.le_of_ble_eq_true rfl⟩ ⟨Nat.le_of_ble_eq_true rfl, Nat.le_of_ble_eq_true rfl⟩ rfl rfl (Nat.le_of_ble_eq_true rfl) ?_
  rintro _ _ ⟨rfl, ⟨rfl, hb_b⟩ | ⟨rfl, hb_b⟩⟩
  · refine zr_cVi 0 hC cv_X4_begins ml_X4_80 (c_X4_begins1 (a := a) (x := x)) dX4_draw_5 ⟨Nat.le_of_ble_eq_true rfl, Nat.le_of_ble_eq_true rfl⟩ ⟨Nat.le_of_ble_eq_true rfl, Nat.le_of_ble_eq_true rfl⟩ rfl rfl rfl rfl rfl (Nat.le_of_ble_eq_true rfl) ?_
    rintro _ _ ⟨rfl, rfl⟩
    refine zr_if_neT (tgt := 13) hC dX4_draw_8 (by decide) (by decide) ?_
    refine zr_iconst (v := (0 : Int32)) hC dX4_draw_13 rfl ?_
    refine zr_istore_n (lv' := [(3, .int (0 : Int32)), (0, .ref mo), (1, .int b), (2, .int i)]) hC dX4_draw_14 rfl (by decide) rfl ?_
    refine zr_loop (σ := Nat × Int32 × ax_A × mx_X) (fun t => [(3, .int t.2.1), (0, .ref mo), (1, .int b), (2, .int i)]) (fun t => mw_W mo m1 m2 m3 m4 m5 m6 m7 m8 m9 cI (as_sta t.2.2.1 0) t.2.2.2) (fun t => t.1 ≤ 24 ∧ t.2.1 = nI t.1 ∧ rm_R t.2.2.1 t.2.2.2 ∧ zf_draw b i 25 0 a = zf_draw b i (25 - t.1) t.2.1 t.2.2.1) (fun t => 25 - t.1) ?_ (0, 0, a, x) ⟨Nat.zero_le _, rfl, hR, rfl⟩
    rintro ⟨kn, j1, a1, x1⟩ ⟨hk1, hk2, hR1, hsp⟩ ih
    try dsimp only at hk1
    try dsimp only at hk2
    try dsimp only at hR1
    try dsimp only at hsp
    show zz_Z _ _ _ _ _ _ _ _ _ _ _ _ _ _ 15 [(3, .int j1), (0, .ref mo), (1, .int b), (2, .int i)] [] (mw_W mo m1 m2 m3 m4 m5 m6 m7 m8 m9 cI (as_sta a1 0) x1) 0 0
    refine zr_aload_n 1 hC dX4_draw_15 rfl rfl ?_
    refine zr_get (v := .int (0 : Int32)) 0 13 hC iu_X4 rfl dX4_draw_16 fl_X4_41 (by decide) rfl rfl ?_
    refine zr_if_neF (tgt := 100) hC dX4_draw_19 (by decide) (by decide) ?_
    refine zr_aload_n 1 hC dX4_draw_22 rfl rfl ?_
    refine zr_iload_n 2 hC dX4_draw_23 rfl rfl ?_
    refine zr_iload_n 0 hC dX4_draw_24 rfl rfl ?_
    refine zr_cVi 0 hC cv_X4_light ml_X4_103 (c_X4_light (a := (as_sta a1 0)) (x := x1) hR1.1 j1 hb_b) dX4_draw_25 ⟨Nat.le_of_ble_eq_true rfl, Nat.le_of_ble_eq_true rfl⟩ ⟨Nat.le_of_ble_eq_true rfl, Nat.le_of_ble_eq_true rfl⟩ rfl rfl rfl rfl rfl (Nat.le_of_ble_eq_true rfl) ?_
    rintro rr ww ⟨hrr, hww⟩
    rw [zf_show_sta a1 b j1 0] at hrr hww
    subst hrr
    obtain rfl : ww = (mw_W mo m1 m2 m3 m4 m5 m6 m7 m8 m9 cI (as_sta (zf_show a1 b j1).2.2 0) (mk_dk x1 (zf_show a1 b j1).1)) := hww
    refine zr_istore (lv' := [(4, .int ((zf_show a1 b j1).2.1)), (3, .int j1), (0, .ref mo), (1, .int b), (2, .int i)]) hC dX4_draw_28 (by decide) rfl ?_
    refine zr_aload_n 2 hC dX4_draw_30 rfl rfl ?_
    refine zr_aload_n 2 hC dX4_draw_31 rfl rfl ?_
    refine zr_get (v := .int ((zf_show a1 b j1).1)) 0 22 hC iu_X4 rfl dX4_draw_32 fl_X4_100 (by decide) rfl rfl ?_
    refine zr_put (w' := (mw_W mo m1 m2 m3 m4 m5 m6 m7 m8 m9 cI (as_sta (as_sta (zf_show a1 b j1).2.2 0) ((zf_show a1 b j1).1)) (mk_dk x1 (zf_show a1 b j1).1))) 0 13 hC iu_X4 tyX4_ok nmX4 rfl dX4_draw_35 fl_X4_41 (by decide) rfl rfl rfl rfl (Nat.le_of_ble_eq_true rfl) rfl ?_
    refine zr_aload_n 2 hC dX4_draw_38 rfl rfl ?_
    refine zr_get (v := .int ((zf_show a1 b j1).1)) 0 13 hC iu_X4 rfl dX4_draw_39 fl_X4_41 (by decide) rfl rfl ?_
    refine zr_if_ne (tgt := 59) hC dX4_draw_42 (by decide) (fun c42 => ?_) (fun c42 => ?_)
    · refine zr_aload_n 2 hC dX4_draw_59 rfl rfl ?_
      refine zr_get (v := .int ((zf_show a1 b j1).1)) 0 13 hC iu_X4 rfl dX4_draw_60 fl_X4_41 (by decide) rfl rfl ?_
      refine zr_if_neT (tgt := 97) hC dX4_draw_63 (by decide) c42 ?_
      refine zr_goto (tgt := 15) hC dX4_draw_97 (by decide) ?_
      refine zr_aload_n 2 hC dX4_draw_15 rfl rfl ?_
      refine zr_get (v := .int ((zf_show a1 b j1).1)) 0 13 hC iu_X4 rfl dX4_draw_16 fl_X4_41 (by decide) rfl rfl ?_
      refine zr_if_neT (tgt := 100) hC dX4_draw_19 (by decide) c42 ?_
      refine zr_iload_n 1 hC dX4_draw_100 rfl rfl ?_
      refine zr_iret hC hr hk dX4_draw_101 (by decide) (by decide) ⟨_, rfl, ?_⟩
      exact zq_mw (a' := as_sta (zf_show a1 b j1).2.2 (zf_show a1 b j1).1) (x' := mk_dk x1 (zf_show a1 b j1).1) (by unfold zo_draw; rw [if_pos hb_b, hsp, show 25 - kn = (25 - (kn + 1)) + 1 by omega]; show (if _ then (if _ then _ else _) else _) = _; rw [if_neg c42]) (rm_show hR1 b j1 _) rfl
    · refine zr_aload_n 2 hC dX4_draw_45 rfl rfl ?_
      refine zr_aload_n 2 hC dX4_draw_46 rfl rfl ?_
      refine zr_aload_n 2 hC dX4_draw_47 rfl rfl ?_
      refine zr_iload_n 4 hC dX4_draw_48 rfl rfl ?_
      refine zr_iload_n 1 hC dX4_draw_49 rfl rfl ?_
      refine zr_cVi 0 hC cv_X4_whyCell ml_X4_128 (c_X4_whyCell (a := (as_sta (as_sta (zf_show a1 b j1).2.2 0) ((zf_show a1 b j1).1))) (x := (mk_dk x1 (zf_show a1 b j1).1)) (rm_show hR1 b j1 (zf_show a1 b j1).1).1 i j1) dX4_draw_50 ⟨Nat.le_of_ble_eq_true rfl, Nat.le_of_ble_eq_true rfl⟩ ⟨Nat.le_of_ble_eq_true rfl, Nat.le_of_ble_eq_true rfl⟩ rfl rfl rfl rfl rfl (Nat.le_of_ble_eq_true rfl) ?_
      rintro _ _ ⟨rfl, rfl⟩
      refine zr_cVi 0 hC cv_X4_counted ml_X4_57 (c_X4_counted (a := (as_sta (as_sta (zf_show a1 b j1).2.2 0) ((zf_show a1 b j1).1))) (x := (mk_dk x1 (zf_show a1 b j1).1)) (zf_whyC (aa_sh (zf_show a1 b j1).2.2) i j1) (by rcases zf_whyC_or (aa_sh (as_sta (as_sta (zf_show a1 b j1).2.2 0) ((zf_show a1 b j1).1))) i j1 with h | h | h <;> rw [h] <;> decide)) dX4_draw_53 ⟨Nat.le_of_ble_eq_true rfl, Nat.le_of_ble_eq_true rfl⟩ ⟨Nat.le_of_ble_eq_true rfl, Nat.le_of_ble_eq_true rfl⟩ rfl rfl rfl rfl rfl (Nat.le_of_ble_eq_true rfl) ?_
      rintro rr _ ⟨hrr, rfl⟩
      subst rr
      refine zr_put (w' := (mw_W mo m1 m2 m3 m4 m5 m6 m7 m8 m9 cI (as_sta (zf_cnt (zf_whyC (aa_sh (zf_show a1 b j1).2.2) i j1) (as_sta (as_sta (zf_show a1 b j1).2.2 0) ((zf_show a1 b j1).1))) (zf_whyC (aa_sh (zf_show a1 b j1).2.2) i j1)) (mk_dk x1 (zf_show a1 b j1).1))) 0 13 hC iu_X4 tyX4_ok nmX4 rfl dX4_draw_56 fl_X4_41 (by decide) rfl rfl rfl rfl (Nat.le_of_ble_eq_true rfl) rfl ?_
      refine zr_aload_n 2 hC dX4_draw_59 rfl rfl ?_
      refine zr_get (v := .int (zf_whyC (aa_sh (zf_show a1 b j1).2.2) i j1)) 0 13 hC iu_X4 rfl dX4_draw_60 fl_X4_41 (by decide) rfl rfl ?_
      refine zr_if_ne (tgt := 97) hC dX4_draw_63 (by decide) (fun c63 => ?_) (fun c63 => ?_)
      · refine zr_goto (tgt := 15) hC dX4_draw_97 (by decide) ?_
        refine zr_aload_n 2 hC dX4_draw_15 rfl rfl ?_
        refine zr_get (v := .int (zf_whyC (aa_sh (zf_show a1 b j1).2.2) i j1)) 0 13 hC iu_X4 rfl dX4_draw_16 fl_X4_41 (by decide) rfl rfl ?_
        refine zr_if_neT (tgt := 100) hC dX4_draw_19 (by decide) c63 ?_
        refine zr_iload_n 1 hC dX4_draw_100 rfl rfl ?_
        refine zr_iret hC hr hk dX4_draw_101 (by decide) (by decide) ⟨_, rfl, ?_⟩
        exact zq_mw (a' := as_sta (zf_cnt (zf_whyC (aa_sh (zf_show a1 b j1).2.2) i j1) (zf_show a1 b j1).2.2) (zf_whyC (aa_sh (zf_show a1 b j1).2.2) i j1)) (x' := mk_dk x1 (zf_show a1 b j1).1) (by unfold zo_draw; rw [if_pos hb_b, hsp, show 25 - kn = (25 - (kn + 1)) + 1 by omega]; show (if _ then (if _ then _ else _) else _) = _; rw [if_pos c42, if_neg c63]) (rm_show hR1 b j1 _) rfl
      · have hkey := zf_show_key c42
        obtain ⟨-, nk, jk, -, -, hnk, -, -, hjk, hjk2, -, -⟩ := rm_why0 hR1.1 (zl_lt hb_b zk_s3) hkey
        have hk24 : kn + 1 ≤ 24 := by
          rw [hk2] at hjk2
          have := (nI_eq (by omega) (by omega)).mp hjk2
          omega
        obtain ⟨n, m0, rr, ii, z, hdim, hn, hm, hrr, rfl, hii, rfl, hz, hrz, hcell⟩ := rm_cell0 (rm_show hR1 b j1 (zf_show a1 b j1).1).1 c63
        have hQw := rm_write (rm_show hR1 b (nI ii) (zf_show a1 b (nI ii)).1).1 hdim hrr hii hz hrz (zf_show a1 b (nI ii)).2.1
        refine zr_eq (w' := (mw_W mo m1 m2 m3 m4 m5 m6 m7 m8 m9 cI (as_sta (zf_show a1 b (nI ii)).2.2 0) (mk_dk x1 (zf_show a1 b (nI ii)).1))) rfl (by rw [c63, zf_cnt0]) ?_
        refine zr_aload_n 2 hC dX4_draw_66 rfl rfl ?_
        refine zr_get (v := .ref m5) 0 7 hC iu_X4 rfl dX4_draw_67 fl_X4_22 (by decide) rfl rfl ?_
        refine zr_bipush (v := (12 : Int32)) hC dX4_draw_70 rfl ?_
        refine zr_aload_n 2 hC dX4_draw_72 rfl rfl ?_
        refine zr_get (v := .ref m4) 0 6 hC iu_X4 rfl dX4_draw_73 fl_X4_19 (by decide) rfl rfl ?_
        refine zr_iload_n 4 hC dX4_draw_76 rfl rfl ?_
        refine zr_iaj (f := (mx_rw x1)) (j := rr) 4 0 hC dX4_draw_77 rfl rfl (by omega) rfl (by decide) ?_
        refine zr_imul hC dX4_draw_78 ?_
        refine zr_iload_n 1 hC dX4_draw_79 rfl rfl ?_
        refine zr_iadd hC dX4_draw_80 ?_
        refine zr_iload 0 hC dX4_draw_81 rfl ?_
        refine zr_iasj (f := (mx_ce x1)) (j := 12 * z + ii) (w' := (mw_W mo m1 m2 m3 m4 m5 m6 m7 m8 m9 cI (as_sta (zf_show a1 b (nI ii)).2.2 0) (mk_ce (mk_dk x1 (zf_show a1 b (nI ii)).1) (upd (mx_ce x1) (12 * z + ii) ((zf_show a1 b (nI ii)).2.1))))) 5 0 hC dX4_draw_83 rfl rfl (by omega) (by rw [hrz, show (12 : Int32) = nI 12 from rfl, pk_mul, nI_add]) (by decide) rfl ?_
        refine zr_aload_n 2 hC dX4_draw_84 rfl rfl ?_
        refine zr_dup hC dX4_draw_85 rfl ?_
        refine zr_get (v := .int (aa_wr (zf_show a1 b (nI ii)).2.2)) 0 21 hC iu_X4 rfl dX4_draw_86 fl_X4_131 (by decide) rfl rfl ?_
        refine zr_iconst (v := (1 : Int32)) hC dX4_draw_89 rfl ?_
        refine zr_iadd hC dX4_draw_90 ?_
        refine zr_put (w' := (mw_W mo m1 m2 m3 m4 m5 m6 m7 m8 m9 cI (as_wr (as_sta (zf_show a1 b (nI ii)).2.2 0) ((aa_wr (zf_show a1 b (nI ii)).2.2) + (1 : Int32))) (mk_ce (mk_dk x1 (zf_show a1 b (nI ii)).1) (upd (mx_ce x1) (12 * z + ii) ((zf_show a1 b (nI ii)).2.1))))) 0 21 hC iu_X4 tyX4_ok nmX4 rfl dX4_draw_91 fl_X4_131 (by decide) rfl rfl rfl rfl (Nat.le_of_ble_eq_true rfl) rfl ?_
        refine zr_iinc (v := ((nI ii) + 1)) (lv' := [(3, .int ((nI ii) + 1)), (4, .int ((zf_show a1 b (nI ii)).2.1)), (0, .ref mo), (1, .int b), (2, .int (nI rr))]) 1 hC dX4_draw_94 rfl rfl (by decide) rfl ?_
        refine zr_goto (tgt := 15) hC dX4_draw_97 (by decide) ?_
        refine zr_sub [0, 2, 3, 4] rfl ?_
        exact ih (kn + 1, nI ii + 1, zf_wri (zf_show a1 b (nI ii)).2.2 (nI rr) (nI ii) (zf_show a1 b (nI ii)).2.1, (mk_ce (mk_dk x1 (zf_show a1 b (nI ii)).1) (upd (mx_ce x1) (12 * z + ii) ((zf_show a1 b (nI ii)).2.1)))) ⟨hk24, by show nI ii + 1 = nI (kn + 1); rw [hk2, nI_1], ⟨hQw, by rw [show aa_fd (zf_wri (zf_show a1 b (nI ii)).2.2 (nI rr) (nI ii) (zf_show a1 b (nI ii)).2.1) = aa_fd a1 from (zf_show_st a1 b (nI ii)).2.2]; exact hR1.2⟩, by rw [hsp, show 25 - kn = (25 - (kn + 1)) + 1 by omega]; show (if _ then (if _ then _ else _) else _) = _; rw [if_pos c42, if_pos c63]⟩ (by show 25 - (kn + 1) < 25 - kn; omega)
  · refine zr_cVi 0 hC cv_X4_begins ml_X4_80 (c_X4_begins0 (a := a) (x := x)) dX4_draw_5 ⟨Nat.le_of_ble_eq_true rfl, Nat.le_of_ble_eq_true rfl⟩ ⟨Nat.le_of_ble_eq_true rfl, Nat.le_of_ble_eq_true rfl⟩ rfl rfl rfl rfl rfl (Nat.le_of_ble_eq_true rfl) ?_
    rintro _ _ ⟨rfl, rfl⟩
    refine zr_if_neF (tgt := 13) hC dX4_draw_8 (by decide) (by decide) ?_
    refine zr_iconst (v := (0 : Int32)) hC dX4_draw_11 rfl ?_
    refine zr_iret hC hr hk dX4_draw_12 (by decide) (by decide) ⟨_, rfl, ?_⟩
    exact zq_mk (if_neg (fun h => absurd h hb_b)) hR
set_option maxRecDepth 100000 in
set_option maxHeartbeats 4000000 in
theorem c_X4_count (hR : rm_R a x) (v : Int32) : zz_Mi l D (zt cI cII cF) yX4_count cX4_count 4 (some .int) 0 0 0 0 [.ref mo, .int v] (mw_W mo m1 m2 m3 m4 m5 m6 m7 m8 m9 cI a x) (fun r w' => zp_m mo m1 m2 m3 m4 m5 m6 m7 m8 m9 cI (zo_count a v) r w') := by
  refine zz_mk (by decide) (Nat.le_of_ble_eq_true rfl) ?_
  intro p e s m below meth c A hC hr hk hnm
  have hC : zz_C p s m _ c A D (zt cI cII cF) 4 cX4_count RX4 := hC
  refine zr_iconst (v := (0 : Int32)) hC dX4_count_0 rfl ?_
  refine zr_istore_n (lv' := [(2, .int (0 : Int32)), (0, .ref mo), (1, .int v)]) hC dX4_count_1 rfl (by decide) rfl ?_
  refine zr_iconst (v := (0 : Int32)) hC dX4_count_2 rfl ?_
  refine zr_istore_n (lv' := [(3, .int (0 : Int32)), (2, .int (0 : Int32)), (0, .ref mo), (1, .int v)]) hC dX4_count_3 rfl (by decide) rfl ?_
  refine zr_sub [1, 0, 2, 3] rfl ?_
  refine zr_loop (σ := Nat × Int32 × Int32) (fun t => [(2, .int t.2.1), (3, .int t.2.2), (0, .ref mo), (1, .int v)]) (fun t => mw_W mo m1 m2 m3 m4 m5 m6 m7 m8 m9 cI a x) (fun t => t.1 ≤ 24 ∧ t.2.2 = nI t.1 ∧ t.2.1 = zf_there (aa_st a) t.1) (fun t => 24 - t.1) ?_ (0, 0, 0) ⟨Nat.zero_le _, rfl, rfl⟩
  rintro ⟨kn, c1, i1⟩ ⟨hk1, hk2, h3⟩ ih
  try dsimp only at hk1
  try dsimp only at hk2
  try dsimp only at h3
  show zz_Z _ _ _ _ _ _ _ _ _ _ _ _ _ _ 4 [(2, .int c1), (3, .int i1), (0, .ref mo), (1, .int v)] [] (mw_W mo m1 m2 m3 m4 m5 m6 m7 m8 m9 cI a x) 0 0
  refine zr_iload_n 1 hC dX4_count_4 rfl rfl ?_
  refine zr_bipush (v := (24 : Int32)) hC dX4_count_5 rfl ?_
  refine zr_icmp_ge (tgt := 34) hC dX4_count_7 (by decide) (fun c7 => ?_) (fun c7 => ?_)
  · have hend : kn = 24 := by
      rw [hk2] at c7
      have := (nI_leI (a := 24) (by omega) (by omega)).mp c7
      omega
    refine zr_iload_n 3 hC dX4_count_34 rfl rfl ?_
    by_cases t35_0 : v = (0 : Int32)
    · refine zr_tableIn (tgt := 92) hC dX4_count_35 (by rw [t35_0]; decide) (by rw [t35_0]; decide) (by rw [t35_0]; rfl) (by decide) ?_
      refine zr_aload_n 2 hC dX4_count_92 rfl rfl ?_
      refine zr_get (v := .int (aa_mi a)) 0 14 hC iu_X4 rfl dX4_count_93 fl_X4_60 (by decide) rfl rfl ?_
      refine zr_iret hC hr hk dX4_count_96 (by decide) (by decide) ⟨_, rfl, ?_⟩
      exact zq_mk (by unfold zo_count; simp [t35_0, hR.2.2.1, h3, hend]) hR
    by_cases t35_1 : v = (1 : Int32)
    · refine zr_tableIn (tgt := 97) hC dX4_count_35 (by rw [t35_1]; decide) (by rw [t35_1]; decide) (by rw [t35_1]; rfl) (by decide) ?_
      refine zr_aload_n 2 hC dX4_count_97 rfl rfl ?_
      refine zr_get (v := .int (aa_ou a)) 0 15 hC iu_X4 rfl dX4_count_98 fl_X4_63 (by decide) rfl rfl ?_
      refine zr_iret hC hr hk dX4_count_101 (by decide) (by decide) ⟨_, rfl, ?_⟩
      exact zq_mk (by unfold zo_count; simp [t35_0, t35_1, hR.2.2.1, h3, hend]) hR
    by_cases t35_2 : v = (2 : Int32)
    · refine zr_tableIn (tgt := 102) hC dX4_count_35 (by rw [t35_2]; decide) (by rw [t35_2]; decide) (by rw [t35_2]; rfl) (by decide) ?_
      refine zr_aload_n 2 hC dX4_count_102 rfl rfl ?_
      refine zr_get (v := .int (aa_ne a)) 0 16 hC iu_X4 rfl dX4_count_103 fl_X4_84 (by decide) rfl rfl ?_
      refine zr_iret hC hr hk dX4_count_106 (by decide) (by decide) ⟨_, rfl, ?_⟩
      exact zq_mk (by unfold zo_count; simp [t35_0, t35_1, t35_2, hR.2.2.1, h3, hend]) hR
    by_cases t35_3 : v = (3 : Int32)
    · refine zr_tableIn (tgt := 107) hC dX4_count_35 (by rw [t35_3]; decide) (by rw [t35_3]; decide) (by rw [t35_3]; rfl) (by decide) ?_
      refine zr_aload_n 2 hC dX4_count_107 rfl rfl ?_
      refine zr_get (v := .int (mx_fs x)) 0 8 hC iu_X4 rfl dX4_count_108 fl_X4_106 (by decide) rfl rfl ?_
      refine zr_iret hC hr hk dX4_count_111 (by decide) (by decide) ⟨_, rfl, ?_⟩
      exact zq_mk (by unfold zo_count; simp [t35_0, t35_1, t35_2, t35_3, hR.2.2.1, h3, hend]) hR
    by_cases t35_4 : v = (4 : Int32)
    · refine zr_tableIn (tgt := 112) hC dX4_count_35 (by rw [t35_4]; decide) (by rw [t35_4]; decide) (by rw [t35_4]; rfl) (by decide) ?_
      refine zr_aload_n 2 hC dX4_count_112 rfl rfl ?_
      refine zr_get (v := .int (aa_re a)) 0 17 hC iu_X4 rfl dX4_count_113 fl_X4_115 (by decide) rfl rfl ?_
      refine zr_iret hC hr hk dX4_count_116 (by decide) (by decide) ⟨_, rfl, ?_⟩
      exact zq_mk (by unfold zo_count; simp [t35_0, t35_1, t35_2, t35_3, t35_4, hR.2.2.1, h3, hend]) hR
    by_cases t35_5 : v = (5 : Int32)
    · refine zr_tableIn (tgt := 117) hC dX4_count_35 (by rw [t35_5]; decide) (by rw [t35_5]; decide) (by rw [t35_5]; rfl) (by decide) ?_
      refine zr_aload_n 2 hC dX4_count_117 rfl rfl ?_
      refine zr_get (v := .int (aa_dm a)) 0 18 hC iu_X4 rfl dX4_count_118 fl_X4_109 (by decide) rfl rfl ?_
      refine zr_iret hC hr hk dX4_count_121 (by decide) (by decide) ⟨_, rfl, ?_⟩
      exact zq_mk (by unfold zo_count; simp [t35_0, t35_1, t35_2, t35_3, t35_4, t35_5, hR.2.2.1, h3, hend]) hR
    by_cases t35_6 : v = (6 : Int32)
    · refine zr_tableIn (tgt := 122) hC dX4_count_35 (by rw [t35_6]; decide) (by rw [t35_6]; decide) (by rw [t35_6]; rfl) (by decide) ?_
      refine zr_aload_n 2 hC dX4_count_122 rfl rfl ?_
      refine zr_get (v := .int (aa_dO a)) 0 19 hC iu_X4 rfl dX4_count_123 fl_X4_112 (by decide) rfl rfl ?_
      refine zr_iret hC hr hk dX4_count_126 (by decide) (by decide) ⟨_, rfl, ?_⟩
      exact zq_mk (by unfold zo_count; simp [t35_0, t35_1, t35_2, t35_3, t35_4, t35_5, t35_6, hR.2.2.1, h3, hend]) hR
    by_cases t35_7 : v = (7 : Int32)
    · refine zr_tableIn (tgt := 127) hC dX4_count_35 (by rw [t35_7]; decide) (by rw [t35_7]; decide) (by rw [t35_7]; rfl) (by decide) ?_
      refine zr_iload_n 0 hC dX4_count_127 rfl rfl ?_
      refine zr_iret hC hr hk dX4_count_128 (by decide) (by decide) ⟨_, rfl, ?_⟩
      exact zq_mk (by unfold zo_count; simp [t35_0, t35_1, t35_2, t35_3, t35_4, t35_5, t35_6, t35_7, hR.2.2.1, h3, hend]) hR
    by_cases t35_8 : v = (8 : Int32)
    · refine zr_tableIn (tgt := 129) hC dX4_count_35 (by rw [t35_8]; decide) (by rw [t35_8]; decide) (by rw [t35_8]; rfl) (by decide) ?_
      refine zr_aload_n 2 hC dX4_count_129 rfl rfl ?_
      refine zr_get (v := .int (aa_se a)) 0 20 hC iu_X4 rfl dX4_count_130 fl_X4_70 (by decide) rfl rfl ?_
      refine zr_iret hC hr hk dX4_count_133 (by decide) (by decide) ⟨_, rfl, ?_⟩
      exact zq_mk (by unfold zo_count; simp [t35_0, t35_1, t35_2, t35_3, t35_4, t35_5, t35_6, t35_7, t35_8, hR.2.2.1, h3, hend]) hR
    by_cases t35_9 : v = (9 : Int32)
    · refine zr_tableIn (tgt := 134) hC dX4_count_35 (by rw [t35_9]; decide) (by rw [t35_9]; decide) (by rw [t35_9]; rfl) (by decide) ?_
      refine zr_aload_n 2 hC dX4_count_134 rfl rfl ?_
      refine zr_get (v := .int (mx_hs x)) 0 3 hC iu_X4 rfl dX4_count_135 fl_X4_118 (by decide) rfl rfl ?_
      refine zr_if_eq (tgt := 148) hC dX4_count_138 (by decide) (fun c138 => ?_) (fun c138 => ?_)
      · refine zr_iconst (v := (0 : Int32)) hC dX4_count_148 rfl ?_
        refine zr_iret hC hr hk dX4_count_149 (by decide) (by decide) ⟨_, rfl, ?_⟩
        exact zq_mk (by unfold zo_count; simp [t35_0, t35_1, t35_2, t35_3, t35_4, t35_5, t35_6, t35_7, t35_8, t35_9, zf_rows_none (rm_no hR.1 c138), hR.2.2.1, h3, hend]) hR
      · refine zr_aload_n 2 hC dX4_count_141 rfl rfl ?_
        refine zr_get (v := .int (mx_rm x)) 0 4 hC iu_X4 rfl dX4_count_142 fl_X4_122 (by decide) rfl rfl ?_
        refine zr_goto (tgt := 149) hC dX4_count_145 (by decide) ?_
        refine zr_iret hC hr hk dX4_count_149 (by decide) (by decide) ⟨_, rfl, ?_⟩
        obtain ⟨-, n, m0, hdim, -, -, hrm, -⟩ := rm_dim hR.1 (rm_yes hR.1 c138)
        exact zq_mk (by unfold zo_count; simp [t35_0, t35_1, t35_2, t35_3, t35_4, t35_5, t35_6, t35_7, t35_8, t35_9, zf_rows_some hdim, hrm]) hR
    by_cases t35_10 : v = (10 : Int32)
    · refine zr_tableIn (tgt := 150) hC dX4_count_35 (by rw [t35_10]; decide) (by rw [t35_10]; decide) (by rw [t35_10]; rfl) (by decide) ?_
      refine zr_aload_n 2 hC dX4_count_150 rfl rfl ?_
      refine zr_get (v := .int (aa_wr a)) 0 21 hC iu_X4 rfl dX4_count_151 fl_X4_131 (by decide) rfl rfl ?_
      refine zr_iret hC hr hk dX4_count_154 (by decide) (by decide) ⟨_, rfl, ?_⟩
      exact zq_mk (by unfold zo_count; simp [t35_0, t35_1, t35_2, t35_3, t35_4, t35_5, t35_6, t35_7, t35_8, t35_9, t35_10, hR.2.2.1, h3, hend]) hR
    refine zr_tableOut (tgt := 155) hC dX4_count_35 (by have e0 := lv_neT (a := 0) t35_0 rfl; have e1 := lv_neT (a := 1) t35_1 rfl; have e2 := lv_neT (a := 2) t35_2 rfl; have e3 := lv_neT (a := 3) t35_3 rfl; have e4 := lv_neT (a := 4) t35_4 rfl; have e5 := lv_neT (a := 5) t35_5 rfl; have e6 := lv_neT (a := 6) t35_6 rfl; have e7 := lv_neT (a := 7) t35_7 rfl; have e8 := lv_neT (a := 8) t35_8 rfl; have e9 := lv_neT (a := 9) t35_9 rfl; have e10 := lv_neT (a := 10) t35_10 rfl; omega) (by decide) ?_
    refine zr_iconst (v := (0 : Int32)) hC dX4_count_155 rfl ?_
    refine zr_iret hC hr hk dX4_count_156 (by decide) (by decide) ⟨_, rfl, ?_⟩
    exact zq_mk (by unfold zo_count; simp [t35_0, t35_1, t35_2, t35_3, t35_4, t35_5, t35_6, t35_7, t35_8, t35_9, t35_10, hR.2.2.1, h3, hend]) hR
  · have hlt : kn < 24 := by
      rcases Nat.lt_or_ge kn 24 with h0 | h0
      · exact h0
      · exact absurd (by rw [hk2]; exact nI_le h0 (by omega)) c7
    refine zr_iload_n 0 hC dX4_count_10 rfl rfl ?_
    refine zr_aload_n 2 hC dX4_count_11 rfl rfl ?_
    refine zr_get (v := .ref m1) 0 0 hC iu_X4 rfl dX4_count_12 fl_X4_7 (by decide) rfl rfl ?_
    refine zr_iload_n 1 hC dX4_count_15 rfl rfl ?_
    refine zr_iaj (f := (mx_sp x)) (j := kn) 1 0 hC dX4_count_16 rfl rfl hlt hk2 (by decide) ?_
    refine zr_iconst (v := (-1 : Int32)) hC dX4_count_17 rfl ?_
    refine zr_icmp_ne (tgt := 25) hC dX4_count_18 (by decide) (fun c18 => ?_) (fun c18 => ?_)
    · refine zr_iconst (v := (1 : Int32)) hC dX4_count_25 rfl ?_
      refine zr_iadd hC dX4_count_26 ?_
      refine zr_istore_n (lv' := [(2, .int (c1 + (1 : Int32))), (3, .int i1), (0, .ref mo), (1, .int v)]) hC dX4_count_27 rfl (by decide) rfl ?_
      refine zr_iinc (v := (i1 + 1)) (lv' := [(3, .int (i1 + 1)), (2, .int (c1 + (1 : Int32))), (0, .ref mo), (1, .int v)]) 1 hC dX4_count_28 rfl rfl (by decide) rfl ?_
      refine zr_goto (tgt := 4) hC dX4_count_31 (by decide) ?_
      refine zr_sub [1, 0, 2, 3] rfl ?_
      exact ih (kn + 1, (c1 + (1 : Int32)), i1 + 1) ⟨by show kn + 1 ≤ 24; omega, by show i1 + 1 = nI (kn + 1); rw [hk2, nI_1], by show (c1 + (1 : Int32)) = zf_there (aa_st a) (kn + 1); rw [zf_there, if_neg (fun h => c18 ((hR.1.1.1 kn hlt).mpr h)), h3]⟩ (by show 24 - (kn + 1) < 24 - kn; omega)
    · refine zr_iconst (v := (0 : Int32)) hC dX4_count_21 rfl ?_
      refine zr_goto (tgt := 26) hC dX4_count_22 (by decide) ?_
      refine zr_iadd hC dX4_count_26 ?_
      refine zr_istore_n (lv' := [(2, .int (c1 + (0 : Int32))), (3, .int i1), (0, .ref mo), (1, .int v)]) hC dX4_count_27 rfl (by decide) rfl ?_
      refine zr_iinc (v := (i1 + 1)) (lv' := [(3, .int (i1 + 1)), (2, .int (c1 + (0 : Int32))), (0, .ref mo), (1, .int v)]) 1 hC dX4_count_28 rfl rfl (by decide) rfl ?_
      refine zr_goto (tgt := 4) hC dX4_count_31 (by decide) ?_
      refine zr_sub [1, 0, 2, 3] rfl ?_
      exact ih (kn + 1, (c1 + (0 : Int32)), i1 + 1) ⟨by show kn + 1 ≤ 24; omega, by show i1 + 1 = nI (kn + 1); rw [hk2, nI_1], by show (c1 + (0 : Int32)) = zf_there (aa_st a) (kn + 1); rw [zf_there, if_pos ((hR.1.1.1 kn hlt).mp c18), Int32.add_zero, h3]⟩ (by show 24 - (kn + 1) < 24 - kn; omega)
end ZB4
end
