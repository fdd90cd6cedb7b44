def RX0 : String := "LampLoft$Fade"
def TX0 : u_T := fun k => match k with
  | 0 => ("LampLoft$Fade", "bank", "I", true)
  | 1 => ("LampLoft$Fade", "place", "I", true)
  | 2 => ("LampLoft$Fade", "target", "I", true)
  | _ => ("LampLoft$Fade", "step", "I", true)
def tyX0 : Nat → FieldType := fun k => match k with
  | 0 => .int
  | 1 => .int
  | 2 => .int
  | _ => .int
abbrev wsX00 : List Cond := u_ws RX0 TX0 4
theorem nmX0 : ∀ a, a < 4 → ∀ b, b < 4 → a ≠ b → (TX0 a).2.1 ≠ (TX0 b).2.1 := by decide +kernel
theorem tyX0_ok : ∀ k, k < 4 → parseFieldDescriptor (TX0 k).2.2.1 = some (tyX0 k) := by decide +kernel
abbrev cX0_init : ByteArray := prog_2_method_1_code
def yX0_init : MethodName := ⟨RX0, "<init>", "(IIII)V"⟩
abbrev cX0_nextLevel : ByteArray := prog_2_method_2_code
def yX0_nextLevel : MethodName := ⟨RX0, "nextLevel", "(I)I"⟩
def RX1 : String := "LampLoft$Paper"
def TX1 : u_T := fun k => match k with
  | 0 => ("LampLoft$Paper", "rows", "[[I", false)
  | _ => ("LampLoft$Paper", "cellsWritten", "I", false)
def tyX1 : Nat → FieldType := fun k => match k with
  | 0 => .array (.array .int)
  | _ => .int
abbrev wsX10 : List Cond := u_ws RX1 TX1 2
theorem nmX1 : ∀ a, a < 2 → ∀ b, b < 2 → a ≠ b → (TX1 a).2.1 ≠ (TX1 b).2.1 := by decide +kernel
theorem tyX1_ok : ∀ k, k < 2 → parseFieldDescriptor (TX1 k).2.2.1 = some (tyX1 k) := by decide +kernel
abbrev cX1_init : ByteArray := prog_3_method_1_code
def yX1_init : MethodName := ⟨RX1, "<init>", "()V"⟩
abbrev cX1_isThere : ByteArray := prog_3_method_2_code
def yX1_isThere : MethodName := ⟨RX1, "isThere", "()Z"⟩
abbrev cX1_replace : ByteArray := prog_3_method_3_code
def yX1_replace : MethodName := ⟨RX1, "replace", "([[I)V"⟩
abbrev cX1_rowCount : ByteArray := prog_3_method_4_code
def yX1_rowCount : MethodName := ⟨RX1, "rowCount", "()I"⟩
abbrev cX1_hasRow : ByteArray := prog_3_method_5_code
def yX1_hasRow : MethodName := ⟨RX1, "hasRow", "(I)Z"⟩
abbrev cX1_rowOf : ByteArray := prog_3_method_6_code
def yX1_rowOf : MethodName := ⟨RX1, "rowOf", "(I)[I"⟩
abbrev cX1_replaceRow : ByteArray := prog_3_method_7_code
def yX1_replaceRow : MethodName := ⟨RX1, "replaceRow", "(I[I)V"⟩
abbrev cX1_refusalAt : ByteArray := prog_3_method_8_code
def yX1_refusalAt : MethodName := ⟨RX1, "refusalAt", "(II)I"⟩
abbrev cX1_numberAt : ByteArray := prog_3_method_9_code
def yX1_numberAt : MethodName := ⟨RX1, "numberAt", "(II)I"⟩
abbrev cX1_write : ByteArray := prog_3_method_10_code
def yX1_write : MethodName := ⟨RX1, "write", "(III)V"⟩
abbrev cX1_cellsWritten : ByteArray := prog_3_method_11_code
def yX1_cellsWritten : MethodName := ⟨RX1, "cellsWritten", "()I"⟩
def RX2 : String := "LampLoft$Rack"
def TX2 : u_T := fun k => match k with
  | 0 => ("LampLoft$Rack", "strips", "[[I", true)
  | _ => ("LampLoft$Rack", "placesSet", "I", false)
def tyX2 : Nat → FieldType := fun k => match k with
  | 0 => .array (.array .int)
  | _ => .int
abbrev wsX20 : List Cond := u_ws RX2 TX2 2
theorem nmX2 : ∀ a, a < 2 → ∀ b, b < 2 → a ≠ b → (TX2 a).2.1 ≠ (TX2 b).2.1 := by decide +kernel
theorem tyX2_ok : ∀ k, k < 2 → parseFieldDescriptor (TX2 k).2.2.1 = some (tyX2 k) := by decide +kernel
abbrev cX2_init : ByteArray := prog_4_method_1_code
def yX2_init : MethodName := ⟨RX2, "<init>", "()V"⟩
abbrev cX2_stripOf : ByteArray := prog_4_method_2_code
def yX2_stripOf : MethodName := ⟨RX2, "stripOf", "(II)[I"⟩
abbrev cX2_replace : ByteArray := prog_4_method_3_code
def yX2_replace : MethodName := ⟨RX2, "replace", "(II[I)V"⟩
abbrev cX2_refusalAt : ByteArray := prog_4_method_4_code
def yX2_refusalAt : MethodName := ⟨RX2, "refusalAt", "(III)I"⟩
abbrev cX2_numberAt : ByteArray := prog_4_method_5_code
def yX2_numberAt : MethodName := ⟨RX2, "numberAt", "(III)I"⟩
abbrev cX2_setAt : ByteArray := prog_4_method_6_code
def yX2_setAt : MethodName := ⟨RX2, "setAt", "(IIII)V"⟩
abbrev cX2_placesSet : ByteArray := prog_4_method_7_code
def yX2_placesSet : MethodName := ⟨RX2, "placesSet", "()I"⟩
abbrev cX2_stripsThere : ByteArray := prog_4_method_8_code
def yX2_stripsThere : MethodName := ⟨RX2, "stripsThere", "()I"⟩
def RX3 : String := "LampLoft"
def TX3 : u_T := fun k => match k with
  | 0 => ("LampLoft", "rack", "LLampLoft$Rack;", true)
  | 1 => ("LampLoft", "paper", "LLampLoft$Paper;", true)
  | 2 => ("LampLoft", "fades", "[LLampLoft$Fade;", true)
  | 3 => ("LampLoft", "running", "I", false)
  | 4 => ("LampLoft", "reached", "I", false)
  | 5 => ("LampLoft", "droppedAsMissing", "I", false)
  | 6 => ("LampLoft", "droppedAsOutside", "I", false)
  | 7 => ("LampLoft", "refusedAsMissing", "I", false)
  | 8 => ("LampLoft", "refusedAsOutside", "I", false)
  | 9 => ("LampLoft", "refusedAsNegative", "I", false)
  | 10 => ("LampLoft", "lastStatus", "I", false)
  | _ => ("LampLoft", "found", "I", false)
def tyX3 : Nat → FieldType := fun k => match k with
  | 0 => .object "LampLoft$Rack"
  | 1 => .object "LampLoft$Paper"
  | 2 => .array (.object "LampLoft$Fade")
  | 3 => .int
  | 4 => .int
  | 5 => .int
  | 6 => .int
  | 7 => .int
  | 8 => .int
  | 9 => .int
  | 10 => .int
  | _ => .int
abbrev wsX30 : List Cond := u_ws RX3 TX3 12
theorem nmX3 : ∀ a, a < 12 → ∀ b, b < 12 → a ≠ b → (TX3 a).2.1 ≠ (TX3 b).2.1 := by decide +kernel
theorem tyX3_ok : ∀ k, k < 12 → parseFieldDescriptor (TX3 k).2.2.1 = some (tyX3 k) := by decide +kernel
abbrev cX3_init : ByteArray := prog_1_method_1_code
def yX3_init : MethodName := ⟨RX3, "<init>", "()V"⟩
abbrev cX3_hang : ByteArray := prog_1_method_2_code
def yX3_hang : MethodName := ⟨RX3, "hang", "(III)I"⟩
abbrev cX3_strike : ByteArray := prog_1_method_3_code
def yX3_strike : MethodName := ⟨RX3, "strike", "(II)I"⟩
abbrev cX3_share : ByteArray := prog_1_method_4_code
def yX3_share : MethodName := ⟨RX3, "share", "(III)I"⟩
abbrev cX3_size : ByteArray := prog_1_method_5_code
def yX3_size : MethodName := ⟨RX3, "size", "(II)I"⟩
abbrev cX3_get : ByteArray := prog_1_method_6_code
def yX3_get : MethodName := ⟨RX3, "get", "(III)I"⟩
abbrev cX3_set : ByteArray := prog_1_method_7_code
def yX3_set : MethodName := ⟨RX3, "set", "(IIII)I"⟩
abbrev cX3_patch : ByteArray := prog_1_method_8_code
def yX3_patch : MethodName := ⟨RX3, "patch", "(IIIII)I"⟩
abbrev cX3_ripple : ByteArray := prog_1_method_9_code
def yX3_ripple : MethodName := ⟨RX3, "ripple", "(IIIII)I"⟩
abbrev cX3_probe : ByteArray := prog_1_method_10_code
def yX3_probe : MethodName := ⟨RX3, "probe", "(II)I"⟩
abbrev cX3_poke : ByteArray := prog_1_method_11_code
def yX3_poke : MethodName := ⟨RX3, "poke", "(III)I"⟩
abbrev cX3_shown : ByteArray := prog_1_method_12_code
def yX3_shown : MethodName := ⟨RX3, "shown", "(II)I"⟩
abbrev cX3_lit : ByteArray := prog_1_method_13_code
def yX3_lit : MethodName := ⟨RX3, "lit", "(I)I"⟩
abbrev cX3_fade : ByteArray := prog_1_method_14_code
def yX3_fade : MethodName := ⟨RX3, "fade", "(IIII)I"⟩
abbrev cX3_tick : ByteArray := prog_1_method_15_code
def yX3_tick : MethodName := ⟨RX3, "tick", "()I"⟩
abbrev cX3_sheet : ByteArray := prog_1_method_16_code
def yX3_sheet : MethodName := ⟨RX3, "sheet", "(II)I"⟩
abbrev cX3_cell : ByteArray := prog_1_method_17_code
def yX3_cell : MethodName := ⟨RX3, "cell", "(II)I"⟩
abbrev cX3_tear : ByteArray := prog_1_method_18_code
def yX3_tear : MethodName := ⟨RX3, "tear", "(II)I"⟩
abbrev cX3_draw : ByteArray := prog_1_method_19_code
def yX3_draw : MethodName := ⟨RX3, "draw", "(II)I"⟩
abbrev cX3_status : ByteArray := prog_1_method_20_code
def yX3_status : MethodName := ⟨RX3, "status", "()I"⟩
abbrev cX3_count : ByteArray := prog_1_method_21_code
def yX3_count : MethodName := ⟨RX3, "count", "(I)I"⟩
abbrev cX3_leave : ByteArray := prog_1_method_22_code
def yX3_leave : MethodName := ⟨RX3, "leave", "(II)I"⟩
abbrev cX3_leaveFound : ByteArray := prog_1_method_23_code
def yX3_leaveFound : MethodName := ⟨RX3, "leaveFound", "(I)I"⟩
abbrev cX3_counted : ByteArray := prog_1_method_24_code
def yX3_counted : MethodName := ⟨RX3, "counted", "(I)I"⟩
abbrev cX3_look : ByteArray := prog_1_method_25_code
def yX3_look : MethodName := ⟨RX3, "look", "(III)I"⟩
abbrev cX3_put : ByteArray := prog_1_method_26_code
def yX3_put : MethodName := ⟨RX3, "put", "(IIII)I"⟩
abbrev cX3_measure : ByteArray := prog_1_method_27_code
def yX3_measure : MethodName := ⟨RX3, "measure", "(II)I"⟩
abbrev cX3_findShown : ByteArray := prog_1_method_28_code
def yX3_findShown : MethodName := ⟨RX3, "findShown", "(II)I"⟩
abbrev cX3_drawLamp : ByteArray := prog_1_method_29_code
def yX3_drawLamp : MethodName := ⟨RX3, "drawLamp", "(III)I"⟩
abbrev cX3_isLit : ByteArray := prog_1_method_30_code
def yX3_isLit : MethodName := ⟨RX3, "isLit", "(II)Z"⟩
abbrev cX3_runsOn : ByteArray := prog_1_method_31_code
def yX3_runsOn : MethodName := ⟨RX3, "runsOn", "(LLampLoft$Fade;)Z"⟩
abbrev cX3_countDropped : ByteArray := prog_1_method_32_code
def yX3_countDropped : MethodName := ⟨RX3, "countDropped", "(I)V"⟩
abbrev cX3_isBank : ByteArray := prog_1_method_33_code
def yX3_isBank : MethodName := ⟨RX3, "isBank", "(I)Z"⟩
abbrev cX3_isStrip : ByteArray := prog_1_method_34_code
def yX3_isStrip : MethodName := ⟨RX3, "isStrip", "(I)Z"⟩
abbrev cX3_digitOf : ByteArray := prog_1_method_35_code
def yX3_digitOf : MethodName := ⟨RX3, "digitOf", "(I)I"⟩
abbrev cX3_asNumber : ByteArray := prog_1_method_36_code
def yX3_asNumber : MethodName := ⟨RX3, "asNumber", "(II)I"⟩
abbrev cX3_asLevel : ByteArray := prog_1_method_37_code
def yX3_asLevel : MethodName := ⟨RX3, "asLevel", "(I)I"⟩
def RX4 : String := "LampLoftModel"
def TX4 : u_T := fun k => match k with
  | 0 => ("LampLoftModel", "strips", "[I", true)
  | 1 => ("LampLoftModel", "lengths", "[I", true)
  | 2 => ("LampLoftModel", "places", "[I", true)
  | 3 => ("LampLoftModel", "hasSheet", "Z", false)
  | 4 => ("LampLoftModel", "rowMany", "I", false)
  | 5 => ("LampLoftModel", "cellMany", "I", false)
  | 6 => ("LampLoftModel", "rows", "[I", true)
  | 7 => ("LampLoftModel", "cells", "[I", true)
  | 8 => ("LampLoftModel", "fades", "I", false)
  | 9 => ("LampLoftModel", "fadeBank", "[I", true)
  | 10 => ("LampLoftModel", "fadePlace", "[I", true)
  | 11 => ("LampLoftModel", "fadeTarget", "[I", true)
  | 12 => ("LampLoftModel", "fadeStep", "[I", true)
  | 13 => ("LampLoftModel", "status", "I", false)
  | 14 => ("LampLoftModel", "missing", "I", false)
  | 15 => ("LampLoftModel", "outside", "I", false)
  | 16 => ("LampLoftModel", "negative", "I", false)
  | 17 => ("LampLoftModel", "reached", "I", false)
  | 18 => ("LampLoftModel", "droppedMissing", "I", false)
  | 19 => ("LampLoftModel", "droppedOutside", "I", false)
  | 20 => ("LampLoftModel", "sets", "I", false)
  | 21 => ("LampLoftModel", "written", "I", false)
  | _ => ("LampLoftModel", "dark", "I", false)
def tyX4 : Nat → FieldType := fun k => match k with
  | 0 => .array .int
  | 1 => .array .int
  | 2 => .array .int
  | 3 => .boolean
  | 4 => .int
  | 5 => .int
  | 6 => .array .int
  | 7 => .array .int
  | 8 => .int
  | 9 => .array .int
  | 10 => .array .int
  | 11 => .array .int
  | 12 => .array .int
  | 13 => .int
  | 14 => .int
  | 15 => .int
  | 16 => .int
  | 17 => .int
  | 18 => .int
  | 19 => .int
  | 20 => .int
  | 21 => .int
  | _ => .int
abbrev wsX40 : List Cond := u_ws RX4 TX4 23
theorem nmX4 : ∀ a, a < 23 → ∀ b, b < 23 → a ≠ b → (TX4 a).2.1 ≠ (TX4 b).2.1 := by decide +kernel
theorem tyX4_ok : ∀ k, k < 23 → parseFieldDescriptor (TX4 k).2.2.1 = some (tyX4 k) := by decide +kernel
abbrev cX4_init : ByteArray := prog_6_method_1_code
def yX4_init : MethodName := ⟨RX4, "<init>", "()V"⟩
abbrev cX4_in : ByteArray := prog_6_method_2_code
def yX4_in : MethodName := ⟨RX4, "in", "(III)Z"⟩
abbrev cX4_isBank : ByteArray := prog_6_method_3_code
def yX4_isBank : MethodName := ⟨RX4, "isBank", "(I)Z"⟩
abbrev cX4_isStrip : ByteArray := prog_6_method_4_code
def yX4_isStrip : MethodName := ⟨RX4, "isStrip", "(I)Z"⟩
abbrev cX4_begins : ByteArray := prog_6_method_5_code
def yX4_begins : MethodName := ⟨RX4, "begins", "(Z)Z"⟩
abbrev cX4_nearest : ByteArray := prog_6_method_6_code
def yX4_nearest : MethodName := ⟨RX4, "nearest", "(I)I"⟩
abbrev cX4_kept : ByteArray := prog_6_method_7_code
def yX4_kept : MethodName := ⟨RX4, "kept", "(II)I"⟩
abbrev cX4_why : ByteArray := prog_6_method_8_code
def yX4_why : MethodName := ⟨RX4, "why", "(III)I"⟩
abbrev cX4_refused : ByteArray := prog_6_method_9_code
def yX4_refused : MethodName := ⟨RX4, "refused", "(III)I"⟩
abbrev cX4_counted : ByteArray := prog_6_method_10_code
def yX4_counted : MethodName := ⟨RX4, "counted", "(I)I"⟩
abbrev cX4_at : ByteArray := prog_6_method_11_code
def yX4_at : MethodName := ⟨RX4, "at", "(III)I"⟩
abbrev cX4_put : ByteArray := prog_6_method_12_code
def yX4_put : MethodName := ⟨RX4, "put", "(IIII)V"⟩
abbrev cX4_hang : ByteArray := prog_6_method_13_code
def yX4_hang : MethodName := ⟨RX4, "hang", "(III)I"⟩
abbrev cX4_strike : ByteArray := prog_6_method_14_code
def yX4_strike : MethodName := ⟨RX4, "strike", "(II)I"⟩
abbrev cX4_share : ByteArray := prog_6_method_15_code
def yX4_share : MethodName := ⟨RX4, "share", "(III)I"⟩
abbrev cX4_size : ByteArray := prog_6_method_16_code
def yX4_size : MethodName := ⟨RX4, "size", "(II)I"⟩
abbrev cX4_get : ByteArray := prog_6_method_17_code
def yX4_get : MethodName := ⟨RX4, "get", "(III)I"⟩
abbrev cX4_set : ByteArray := prog_6_method_18_code
def yX4_set : MethodName := ⟨RX4, "set", "(IIII)I"⟩
abbrev cX4_patch : ByteArray := prog_6_method_19_code
def yX4_patch : MethodName := ⟨RX4, "patch", "(IIIII)I"⟩
abbrev cX4_ripple : ByteArray := prog_6_method_20_code
def yX4_ripple : MethodName := ⟨RX4, "ripple", "(IIIII)I"⟩
abbrev cX4_digit : ByteArray := prog_6_method_21_code
def yX4_digit : MethodName := ⟨RX4, "digit", "(I)I"⟩
abbrev cX4_probe : ByteArray := prog_6_method_22_code
def yX4_probe : MethodName := ⟨RX4, "probe", "(II)I"⟩
abbrev cX4_poke : ByteArray := prog_6_method_23_code
def yX4_poke : MethodName := ⟨RX4, "poke", "(III)I"⟩
abbrev cX4_light : ByteArray := prog_6_method_24_code
def yX4_light : MethodName := ⟨RX4, "light", "(II)I"⟩
abbrev cX4_shown : ByteArray := prog_6_method_25_code
def yX4_shown : MethodName := ⟨RX4, "shown", "(II)I"⟩
abbrev cX4_lit : ByteArray := prog_6_method_26_code
def yX4_lit : MethodName := ⟨RX4, "lit", "(I)I"⟩
abbrev cX4_fade : ByteArray := prog_6_method_27_code
def yX4_fade : MethodName := ⟨RX4, "fade", "(IIII)I"⟩
abbrev cX4_tick : ByteArray := prog_6_method_28_code
def yX4_tick : MethodName := ⟨RX4, "tick", "()I"⟩
abbrev cX4_sheet : ByteArray := prog_6_method_29_code
def yX4_sheet : MethodName := ⟨RX4, "sheet", "(II)I"⟩
abbrev cX4_whyCell : ByteArray := prog_6_method_30_code
def yX4_whyCell : MethodName := ⟨RX4, "whyCell", "(II)I"⟩
abbrev cX4_cell : ByteArray := prog_6_method_31_code
def yX4_cell : MethodName := ⟨RX4, "cell", "(II)I"⟩
abbrev cX4_tear : ByteArray := prog_6_method_32_code
def yX4_tear : MethodName := ⟨RX4, "tear", "(II)I"⟩
abbrev cX4_draw : ByteArray := prog_6_method_33_code
def yX4_draw : MethodName := ⟨RX4, "draw", "(II)I"⟩
abbrev cX4_status : ByteArray := prog_6_method_34_code
def yX4_status : MethodName := ⟨RX4, "status", "()I"⟩
abbrev cX4_count : ByteArray := prog_6_method_35_code
def yX4_count : MethodName := ⟨RX4, "count", "(I)I"⟩
def RL : String := "LampLoftLaw"
abbrev cL_law : ByteArray := code
abbrev vwCl : List vw_C := [(RX0, TX0, 4), (RX1, TX1, 2), (RX2, TX2, 2), (RX3, TX3, 12), (RX4, TX4, 23)]
theorem dX0_init_0 : decode cX0_init 0 = .ok (.aload_n 0, 1) := by decide +kernel
theorem dX0_init_1 : decode cX0_init 1 = .ok (.invokespecial 1, 3) := by decide +kernel
theorem dX0_init_4 : decode cX0_init 4 = .ok (.aload_n 0, 1) := by decide +kernel
theorem dX0_init_5 : decode cX0_init 5 = .ok (.iload_n 1, 1) := by decide +kernel
theorem dX0_init_6 : decode cX0_init 6 = .ok (.putfield 7, 3) := by decide +kernel
theorem dX0_init_9 : decode cX0_init 9 = .ok (.aload_n 0, 1) := by decide +kernel
theorem dX0_init_10 : decode cX0_init 10 = .ok (.iload_n 2, 1) := by decide +kernel
theorem dX0_init_11 : decode cX0_init 11 = .ok (.putfield 13, 3) := by decide +kernel
theorem dX0_init_14 : decode cX0_init 14 = .ok (.aload_n 0, 1) := by decide +kernel
theorem dX0_init_15 : decode cX0_init 15 = .ok (.iload_n 3, 1) := by decide +kernel
theorem dX0_init_16 : decode cX0_init 16 = .ok (.putfield 16, 3) := by decide +kernel
theorem dX0_init_19 : decode cX0_init 19 = .ok (.aload_n 0, 1) := by decide +kernel
theorem dX0_init_20 : decode cX0_init 20 = .ok (.iload 4, 2) := by decide +kernel
theorem dX0_init_22 : decode cX0_init 22 = .ok (.putfield 19, 3) := by decide +kernel
theorem dX0_init_25 : decode cX0_init 25 = .ok (.return_, 1) := by decide +kernel
theorem dX0_nextLevel_0 : decode cX0_nextLevel 0 = .ok (.aload_n 0, 1) := by decide +kernel
theorem dX0_nextLevel_1 : decode cX0_nextLevel 1 = .ok (.getfield 16, 3) := by decide +kernel
theorem dX0_nextLevel_4 : decode cX0_nextLevel 4 = .ok (.iload_n 1, 1) := by decide +kernel
theorem dX0_nextLevel_5 : decode cX0_nextLevel 5 = .ok (.isub, 1) := by decide +kernel
theorem dX0_nextLevel_6 : decode cX0_nextLevel 6 = .ok (.invokestatic 22, 3) := by decide +kernel
theorem dX0_nextLevel_9 : decode cX0_nextLevel 9 = .ok (.aload_n 0, 1) := by decide +kernel
theorem dX0_nextLevel_10 : decode cX0_nextLevel 10 = .ok (.getfield 19, 3) := by decide +kernel
theorem dX0_nextLevel_13 : decode cX0_nextLevel 13 = .ok (.if_icmp .gt 8, 3) := by decide +kernel
theorem dX0_nextLevel_16 : decode cX0_nextLevel 16 = .ok (.aload_n 0, 1) := by decide +kernel
theorem dX0_nextLevel_17 : decode cX0_nextLevel 17 = .ok (.getfield 16, 3) := by decide +kernel
theorem dX0_nextLevel_20 : decode cX0_nextLevel 20 = .ok (.ireturn, 1) := by decide +kernel
theorem dX0_nextLevel_21 : decode cX0_nextLevel 21 = .ok (.iload_n 1, 1) := by decide +kernel
theorem dX0_nextLevel_22 : decode cX0_nextLevel 22 = .ok (.aload_n 0, 1) := by decide +kernel
theorem dX0_nextLevel_23 : decode cX0_nextLevel 23 = .ok (.getfield 16, 3) := by decide +kernel
theorem dX0_nextLevel_26 : decode cX0_nextLevel 26 = .ok (.if_icmp .ge 12, 3) := by decide +kernel
theorem dX0_nextLevel_29 : decode cX0_nextLevel 29 = .ok (.iload_n 1, 1) := by decide +kernel
theorem dX0_nextLevel_30 : decode cX0_nextLevel 30 = .ok (.aload_n 0, 1) := by decide +kernel
theorem dX0_nextLevel_31 : decode cX0_nextLevel 31 = .ok (.getfield 19, 3) := by decide +kernel
theorem dX0_nextLevel_34 : decode cX0_nextLevel 34 = .ok (.iadd, 1) := by decide +kernel
theorem dX0_nextLevel_35 : decode cX0_nextLevel 35 = .ok (.goto 9, 3) := by decide +kernel
theorem dX0_nextLevel_38 : decode cX0_nextLevel 38 = .ok (.iload_n 1, 1) := by decide +kernel
theorem dX0_nextLevel_39 : decode cX0_nextLevel 39 = .ok (.aload_n 0, 1) := by decide +kernel
theorem dX0_nextLevel_40 : decode cX0_nextLevel 40 = .ok (.getfield 19, 3) := by decide +kernel
theorem dX0_nextLevel_43 : decode cX0_nextLevel 43 = .ok (.isub, 1) := by decide +kernel
theorem dX0_nextLevel_44 : decode cX0_nextLevel 44 = .ok (.ireturn, 1) := by decide +kernel
theorem dX1_init_0 : decode cX1_init 0 = .ok (.aload_n 0, 1) := by decide +kernel
theorem dX1_init_1 : decode cX1_init 1 = .ok (.invokespecial 3, 3) := by decide +kernel
theorem dX1_init_4 : decode cX1_init 4 = .ok (.return_, 1) := by decide +kernel
theorem dX1_isThere_0 : decode cX1_isThere 0 = .ok (.aload_n 0, 1) := by decide +kernel
theorem dX1_isThere_1 : decode cX1_isThere 1 = .ok (.getfield 9, 3) := by decide +kernel
theorem dX1_isThere_4 : decode cX1_isThere 4 = .ok (.ifnull 7, 3) := by decide +kernel
theorem dX1_isThere_7 : decode cX1_isThere 7 = .ok (.iconst 1, 1) := by decide +kernel
theorem dX1_isThere_8 : decode cX1_isThere 8 = .ok (.goto 4, 3) := by decide +kernel
theorem dX1_isThere_11 : decode cX1_isThere 11 = .ok (.iconst 0, 1) := by decide +kernel
theorem dX1_isThere_12 : decode cX1_isThere 12 = .ok (.ireturn, 1) := by decide +kernel
theorem dX1_replace_0 : decode cX1_replace 0 = .ok (.aload_n 0, 1) := by decide +kernel
theorem dX1_replace_1 : decode cX1_replace 1 = .ok (.aload_n 1, 1) := by decide +kernel
theorem dX1_replace_2 : decode cX1_replace 2 = .ok (.putfield 9, 3) := by decide +kernel
theorem dX1_replace_5 : decode cX1_replace 5 = .ok (.return_, 1) := by decide +kernel
theorem dX1_rowCount_0 : decode cX1_rowCount 0 = .ok (.aload_n 0, 1) := by decide +kernel
theorem dX1_rowCount_1 : decode cX1_rowCount 1 = .ok (.getfield 9, 3) := by decide +kernel
theorem dX1_rowCount_4 : decode cX1_rowCount 4 = .ok (.ifnonnull 7, 3) := by decide +kernel
theorem dX1_rowCount_7 : decode cX1_rowCount 7 = .ok (.iconst 0, 1) := by decide +kernel
theorem dX1_rowCount_8 : decode cX1_rowCount 8 = .ok (.goto 8, 3) := by decide +kernel
theorem dX1_rowCount_11 : decode cX1_rowCount 11 = .ok (.aload_n 0, 1) := by decide +kernel
theorem dX1_rowCount_12 : decode cX1_rowCount 12 = .ok (.getfield 9, 3) := by decide +kernel
theorem dX1_rowCount_15 : decode cX1_rowCount 15 = .ok (.arraylength, 1) := by decide +kernel
theorem dX1_rowCount_16 : decode cX1_rowCount 16 = .ok (.ireturn, 1) := by decide +kernel
theorem dX1_hasRow_0 : decode cX1_hasRow 0 = .ok (.iload_n 1, 1) := by decide +kernel
theorem dX1_hasRow_1 : decode cX1_hasRow 1 = .ok (.ifCond .lt 15, 3) := by decide +kernel
theorem dX1_hasRow_4 : decode cX1_hasRow 4 = .ok (.iload_n 1, 1) := by decide +kernel
theorem dX1_hasRow_5 : decode cX1_hasRow 5 = .ok (.aload_n 0, 1) := by decide +kernel
theorem dX1_hasRow_6 : decode cX1_hasRow 6 = .ok (.invokevirtual 15, 3) := by decide +kernel
theorem dX1_hasRow_9 : decode cX1_hasRow 9 = .ok (.if_icmp .ge 7, 3) := by decide +kernel
theorem dX1_hasRow_12 : decode cX1_hasRow 12 = .ok (.iconst 1, 1) := by decide +kernel
theorem dX1_hasRow_13 : decode cX1_hasRow 13 = .ok (.goto 4, 3) := by decide +kernel
theorem dX1_hasRow_16 : decode cX1_hasRow 16 = .ok (.iconst 0, 1) := by decide +kernel
theorem dX1_hasRow_17 : decode cX1_hasRow 17 = .ok (.ireturn, 1) := by decide +kernel
theorem dX1_rowOf_0 : decode cX1_rowOf 0 = .ok (.aload_n 0, 1) := by decide +kernel
theorem dX1_rowOf_1 : decode cX1_rowOf 1 = .ok (.getfield 9, 3) := by decide +kernel
theorem dX1_rowOf_4 : decode cX1_rowOf 4 = .ok (.iload_n 1, 1) := by decide +kernel
theorem dX1_rowOf_5 : decode cX1_rowOf 5 = .ok (.aaload, 1) := by decide +kernel
theorem dX1_rowOf_6 : decode cX1_rowOf 6 = .ok (.areturn, 1) := by decide +kernel
theorem dX1_replaceRow_0 : decode cX1_replaceRow 0 = .ok (.aload_n 0, 1) := by decide +kernel
theorem dX1_replaceRow_1 : decode cX1_replaceRow 1 = .ok (.getfield 9, 3) := by decide +kernel
theorem dX1_replaceRow_4 : decode cX1_replaceRow 4 = .ok (.iload_n 1, 1) := by decide +kernel
theorem dX1_replaceRow_5 : decode cX1_replaceRow 5 = .ok (.aload_n 2, 1) := by decide +kernel
theorem dX1_replaceRow_6 : decode cX1_replaceRow 6 = .ok (.aastore, 1) := by decide +kernel
theorem dX1_replaceRow_7 : decode cX1_replaceRow 7 = .ok (.return_, 1) := by decide +kernel
theorem dX1_refusalAt_0 : decode cX1_refusalAt 0 = .ok (.aload_n 0, 1) := by decide +kernel
theorem dX1_refusalAt_1 : decode cX1_refusalAt 1 = .ok (.getfield 9, 3) := by decide +kernel
theorem dX1_refusalAt_4 : decode cX1_refusalAt 4 = .ok (.ifnonnull 5, 3) := by decide +kernel
theorem dX1_refusalAt_7 : decode cX1_refusalAt 7 = .ok (.iconst 2, 1) := by decide +kernel
theorem dX1_refusalAt_8 : decode cX1_refusalAt 8 = .ok (.ireturn, 1) := by decide +kernel
theorem dX1_refusalAt_9 : decode cX1_refusalAt 9 = .ok (.aload_n 0, 1) := by decide +kernel
theorem dX1_refusalAt_10 : decode cX1_refusalAt 10 = .ok (.iload_n 1, 1) := by decide +kernel
theorem dX1_refusalAt_11 : decode cX1_refusalAt 11 = .ok (.invokevirtual 19, 3) := by decide +kernel
theorem dX1_refusalAt_14 : decode cX1_refusalAt 14 = .ok (.ifCond .ne 5, 3) := by decide +kernel
theorem dX1_refusalAt_17 : decode cX1_refusalAt 17 = .ok (.iconst 3, 1) := by decide +kernel
theorem dX1_refusalAt_18 : decode cX1_refusalAt 18 = .ok (.ireturn, 1) := by decide +kernel
theorem dX1_refusalAt_19 : decode cX1_refusalAt 19 = .ok (.aload_n 0, 1) := by decide +kernel
theorem dX1_refusalAt_20 : decode cX1_refusalAt 20 = .ok (.getfield 9, 3) := by decide +kernel
theorem dX1_refusalAt_23 : decode cX1_refusalAt 23 = .ok (.iload_n 1, 1) := by decide +kernel
theorem dX1_refusalAt_24 : decode cX1_refusalAt 24 = .ok (.aaload, 1) := by decide +kernel
theorem dX1_refusalAt_25 : decode cX1_refusalAt 25 = .ok (.astore_n 3, 1) := by decide +kernel
theorem dX1_refusalAt_26 : decode cX1_refusalAt 26 = .ok (.aload_n 3, 1) := by decide +kernel
theorem dX1_refusalAt_27 : decode cX1_refusalAt 27 = .ok (.ifnonnull 5, 3) := by decide +kernel
theorem dX1_refusalAt_30 : decode cX1_refusalAt 30 = .ok (.iconst 2, 1) := by decide +kernel
theorem dX1_refusalAt_31 : decode cX1_refusalAt 31 = .ok (.ireturn, 1) := by decide +kernel
theorem dX1_refusalAt_32 : decode cX1_refusalAt 32 = .ok (.iload_n 2, 1) := by decide +kernel
theorem dX1_refusalAt_33 : decode cX1_refusalAt 33 = .ok (.ifCond .lt 13, 3) := by decide +kernel
theorem dX1_refusalAt_36 : decode cX1_refusalAt 36 = .ok (.iload_n 2, 1) := by decide +kernel
theorem dX1_refusalAt_37 : decode cX1_refusalAt 37 = .ok (.aload_n 3, 1) := by decide +kernel
theorem dX1_refusalAt_38 : decode cX1_refusalAt 38 = .ok (.arraylength, 1) := by decide +kernel
theorem dX1_refusalAt_39 : decode cX1_refusalAt 39 = .ok (.if_icmp .ge 7, 3) := by decide +kernel
theorem dX1_refusalAt_42 : decode cX1_refusalAt 42 = .ok (.iconst 0, 1) := by decide +kernel
theorem dX1_refusalAt_43 : decode cX1_refusalAt 43 = .ok (.goto 4, 3) := by decide +kernel
theorem dX1_refusalAt_46 : decode cX1_refusalAt 46 = .ok (.iconst 3, 1) := by decide +kernel
theorem dX1_refusalAt_47 : decode cX1_refusalAt 47 = .ok (.ireturn, 1) := by decide +kernel
theorem dX1_numberAt_0 : decode cX1_numberAt 0 = .ok (.aload_n 0, 1) := by decide +kernel
theorem dX1_numberAt_1 : decode cX1_numberAt 1 = .ok (.getfield 9, 3) := by decide +kernel
theorem dX1_numberAt_4 : decode cX1_numberAt 4 = .ok (.iload_n 1, 1) := by decide +kernel
theorem dX1_numberAt_5 : decode cX1_numberAt 5 = .ok (.aaload, 1) := by decide +kernel
theorem dX1_numberAt_6 : decode cX1_numberAt 6 = .ok (.iload_n 2, 1) := by decide +kernel
theorem dX1_numberAt_7 : decode cX1_numberAt 7 = .ok (.iaload, 1) := by decide +kernel
theorem dX1_numberAt_8 : decode cX1_numberAt 8 = .ok (.ireturn, 1) := by decide +kernel
theorem dX1_write_0 : decode cX1_write 0 = .ok (.aload_n 0, 1) := by decide +kernel
theorem dX1_write_1 : decode cX1_write 1 = .ok (.getfield 9, 3) := by decide +kernel
theorem dX1_write_4 : decode cX1_write 4 = .ok (.iload_n 1, 1) := by decide +kernel
theorem dX1_write_5 : decode cX1_write 5 = .ok (.aaload, 1) := by decide +kernel
theorem dX1_write_6 : decode cX1_write 6 = .ok (.iload_n 2, 1) := by decide +kernel
theorem dX1_write_7 : decode cX1_write 7 = .ok (.iload_n 3, 1) := by decide +kernel
theorem dX1_write_8 : decode cX1_write 8 = .ok (.iastore, 1) := by decide +kernel
theorem dX1_write_9 : decode cX1_write 9 = .ok (.aload_n 0, 1) := by decide +kernel
theorem dX1_write_10 : decode cX1_write 10 = .ok (.dup, 1) := by decide +kernel
theorem dX1_write_11 : decode cX1_write 11 = .ok (.getfield 23, 3) := by decide +kernel
theorem dX1_write_14 : decode cX1_write 14 = .ok (.iconst 1, 1) := by decide +kernel
theorem dX1_write_15 : decode cX1_write 15 = .ok (.iadd, 1) := by decide +kernel
theorem dX1_write_16 : decode cX1_write 16 = .ok (.putfield 23, 3) := by decide +kernel
theorem dX1_write_19 : decode cX1_write 19 = .ok (.return_, 1) := by decide +kernel
theorem dX1_cellsWritten_0 : decode cX1_cellsWritten 0 = .ok (.aload_n 0, 1) := by decide +kernel
theorem dX1_cellsWritten_1 : decode cX1_cellsWritten 1 = .ok (.getfield 23, 3) := by decide +kernel
theorem dX1_cellsWritten_4 : decode cX1_cellsWritten 4 = .ok (.ireturn, 1) := by decide +kernel
theorem dX2_init_0 : decode cX2_init 0 = .ok (.aload_n 0, 1) := by decide +kernel
theorem dX2_init_1 : decode cX2_init 1 = .ok (.invokespecial 3, 3) := by decide +kernel
theorem dX2_init_4 : decode cX2_init 4 = .ok (.aload_n 0, 1) := by decide +kernel
theorem dX2_init_5 : decode cX2_init 5 = .ok (.bipush 24, 2) := by decide +kernel
theorem dX2_init_7 : decode cX2_init 7 = .ok (.anewarray 9, 3) := by decide +kernel
theorem dX2_init_10 : decode cX2_init 10 = .ok (.putfield 11, 3) := by decide +kernel
theorem dX2_init_13 : decode cX2_init 13 = .ok (.return_, 1) := by decide +kernel
theorem dX2_stripOf_0 : decode cX2_stripOf 0 = .ok (.aload_n 0, 1) := by decide +kernel
theorem dX2_stripOf_1 : decode cX2_stripOf 1 = .ok (.getfield 11, 3) := by decide +kernel
theorem dX2_stripOf_4 : decode cX2_stripOf 4 = .ok (.iload_n 1, 1) := by decide +kernel
theorem dX2_stripOf_5 : decode cX2_stripOf 5 = .ok (.iconst 4, 1) := by decide +kernel
theorem dX2_stripOf_6 : decode cX2_stripOf 6 = .ok (.imul, 1) := by decide +kernel
theorem dX2_stripOf_7 : decode cX2_stripOf 7 = .ok (.iload_n 2, 1) := by decide +kernel
theorem dX2_stripOf_8 : decode cX2_stripOf 8 = .ok (.iadd, 1) := by decide +kernel
theorem dX2_stripOf_9 : decode cX2_stripOf 9 = .ok (.aaload, 1) := by decide +kernel
theorem dX2_stripOf_10 : decode cX2_stripOf 10 = .ok (.areturn, 1) := by decide +kernel
theorem dX2_replace_0 : decode cX2_replace 0 = .ok (.aload_n 0, 1) := by decide +kernel
theorem dX2_replace_1 : decode cX2_replace 1 = .ok (.getfield 11, 3) := by decide +kernel
theorem dX2_replace_4 : decode cX2_replace 4 = .ok (.iload_n 1, 1) := by decide +kernel
theorem dX2_replace_5 : decode cX2_replace 5 = .ok (.iconst 4, 1) := by decide +kernel
theorem dX2_replace_6 : decode cX2_replace 6 = .ok (.imul, 1) := by decide +kernel
theorem dX2_replace_7 : decode cX2_replace 7 = .ok (.iload_n 2, 1) := by decide +kernel
theorem dX2_replace_8 : decode cX2_replace 8 = .ok (.iadd, 1) := by decide +kernel
theorem dX2_replace_9 : decode cX2_replace 9 = .ok (.aload_n 3, 1) := by decide +kernel
theorem dX2_replace_10 : decode cX2_replace 10 = .ok (.aastore, 1) := by decide +kernel
theorem dX2_replace_11 : decode cX2_replace 11 = .ok (.return_, 1) := by decide +kernel
theorem dX2_refusalAt_0 : decode cX2_refusalAt 0 = .ok (.aload_n 0, 1) := by decide +kernel
theorem dX2_refusalAt_1 : decode cX2_refusalAt 1 = .ok (.iload_n 1, 1) := by decide +kernel
theorem dX2_refusalAt_2 : decode cX2_refusalAt 2 = .ok (.iload_n 2, 1) := by decide +kernel
theorem dX2_refusalAt_3 : decode cX2_refusalAt 3 = .ok (.invokevirtual 17, 3) := by decide +kernel
theorem dX2_refusalAt_6 : decode cX2_refusalAt 6 = .ok (.astore 4, 2) := by decide +kernel
theorem dX2_refusalAt_8 : decode cX2_refusalAt 8 = .ok (.aload 4, 2) := by decide +kernel
theorem dX2_refusalAt_10 : decode cX2_refusalAt 10 = .ok (.ifnonnull 5, 3) := by decide +kernel
theorem dX2_refusalAt_13 : decode cX2_refusalAt 13 = .ok (.iconst 2, 1) := by decide +kernel
theorem dX2_refusalAt_14 : decode cX2_refusalAt 14 = .ok (.ireturn, 1) := by decide +kernel
theorem dX2_refusalAt_15 : decode cX2_refusalAt 15 = .ok (.iload_n 3, 1) := by decide +kernel
theorem dX2_refusalAt_16 : decode cX2_refusalAt 16 = .ok (.ifCond .lt 14, 3) := by decide +kernel
theorem dX2_refusalAt_19 : decode cX2_refusalAt 19 = .ok (.iload_n 3, 1) := by decide +kernel
theorem dX2_refusalAt_20 : decode cX2_refusalAt 20 = .ok (.aload 4, 2) := by decide +kernel
theorem dX2_refusalAt_22 : decode cX2_refusalAt 22 = .ok (.arraylength, 1) := by decide +kernel
theorem dX2_refusalAt_23 : decode cX2_refusalAt 23 = .ok (.if_icmp .ge 7, 3) := by decide +kernel
theorem dX2_refusalAt_26 : decode cX2_refusalAt 26 = .ok (.iconst 0, 1) := by decide +kernel
theorem dX2_refusalAt_27 : decode cX2_refusalAt 27 = .ok (.goto 4, 3) := by decide +kernel
theorem dX2_refusalAt_30 : decode cX2_refusalAt 30 = .ok (.iconst 3, 1) := by decide +kernel
theorem dX2_refusalAt_31 : decode cX2_refusalAt 31 = .ok (.ireturn, 1) := by decide +kernel
theorem dX2_numberAt_0 : decode cX2_numberAt 0 = .ok (.aload_n 0, 1) := by decide +kernel
theorem dX2_numberAt_1 : decode cX2_numberAt 1 = .ok (.iload_n 1, 1) := by decide +kernel
theorem dX2_numberAt_2 : decode cX2_numberAt 2 = .ok (.iload_n 2, 1) := by decide +kernel
theorem dX2_numberAt_3 : decode cX2_numberAt 3 = .ok (.invokevirtual 17, 3) := by decide +kernel
theorem dX2_numberAt_6 : decode cX2_numberAt 6 = .ok (.iload_n 3, 1) := by decide +kernel
theorem dX2_numberAt_7 : decode cX2_numberAt 7 = .ok (.iaload, 1) := by decide +kernel
theorem dX2_numberAt_8 : decode cX2_numberAt 8 = .ok (.ireturn, 1) := by decide +kernel
theorem dX2_setAt_0 : decode cX2_setAt 0 = .ok (.aload_n 0, 1) := by decide +kernel
theorem dX2_setAt_1 : decode cX2_setAt 1 = .ok (.iload_n 1, 1) := by decide +kernel
theorem dX2_setAt_2 : decode cX2_setAt 2 = .ok (.iload_n 2, 1) := by decide +kernel
theorem dX2_setAt_3 : decode cX2_setAt 3 = .ok (.invokevirtual 17, 3) := by decide +kernel
theorem dX2_setAt_6 : decode cX2_setAt 6 = .ok (.iload_n 3, 1) := by decide +kernel
theorem dX2_setAt_7 : decode cX2_setAt 7 = .ok (.iload 4, 2) := by decide +kernel
theorem dX2_setAt_9 : decode cX2_setAt 9 = .ok (.iastore, 1) := by decide +kernel
theorem dX2_setAt_10 : decode cX2_setAt 10 = .ok (.aload_n 0, 1) := by decide +kernel
theorem dX2_setAt_11 : decode cX2_setAt 11 = .ok (.dup, 1) := by decide +kernel
theorem dX2_setAt_12 : decode cX2_setAt 12 = .ok (.getfield 21, 3) := by decide +kernel
theorem dX2_setAt_15 : decode cX2_setAt 15 = .ok (.iconst 1, 1) := by decide +kernel
theorem dX2_setAt_16 : decode cX2_setAt 16 = .ok (.iadd, 1) := by decide +kernel
theorem dX2_setAt_17 : decode cX2_setAt 17 = .ok (.putfield 21, 3) := by decide +kernel
theorem dX2_setAt_20 : decode cX2_setAt 20 = .ok (.return_, 1) := by decide +kernel
theorem dX2_placesSet_0 : decode cX2_placesSet 0 = .ok (.aload_n 0, 1) := by decide +kernel
theorem dX2_placesSet_1 : decode cX2_placesSet 1 = .ok (.getfield 21, 3) := by decide +kernel
theorem dX2_placesSet_4 : decode cX2_placesSet 4 = .ok (.ireturn, 1) := by decide +kernel
theorem dX2_stripsThere_0 : decode cX2_stripsThere 0 = .ok (.iconst 0, 1) := by decide +kernel
theorem dX2_stripsThere_1 : decode cX2_stripsThere 1 = .ok (.istore_n 1, 1) := by decide +kernel
theorem dX2_stripsThere_2 : decode cX2_stripsThere 2 = .ok (.iconst 0, 1) := by decide +kernel
theorem dX2_stripsThere_3 : decode cX2_stripsThere 3 = .ok (.istore_n 2, 1) := by decide +kernel
theorem dX2_stripsThere_4 : decode cX2_stripsThere 4 = .ok (.iload_n 2, 1) := by decide +kernel
theorem dX2_stripsThere_5 : decode cX2_stripsThere 5 = .ok (.aload_n 0, 1) := by decide +kernel
theorem dX2_stripsThere_6 : decode cX2_stripsThere 6 = .ok (.getfield 11, 3) := by decide +kernel
theorem dX2_stripsThere_9 : decode cX2_stripsThere 9 = .ok (.arraylength, 1) := by decide +kernel
theorem dX2_stripsThere_10 : decode cX2_stripsThere 10 = .ok (.if_icmp .ge 21, 3) := by decide +kernel
theorem dX2_stripsThere_13 : decode cX2_stripsThere 13 = .ok (.aload_n 0, 1) := by decide +kernel
theorem dX2_stripsThere_14 : decode cX2_stripsThere 14 = .ok (.getfield 11, 3) := by decide +kernel
theorem dX2_stripsThere_17 : decode cX2_stripsThere 17 = .ok (.iload_n 2, 1) := by decide +kernel
theorem dX2_stripsThere_18 : decode cX2_stripsThere 18 = .ok (.aaload, 1) := by decide +kernel
theorem dX2_stripsThere_19 : decode cX2_stripsThere 19 = .ok (.ifnull 6, 3) := by decide +kernel
theorem dX2_stripsThere_22 : decode cX2_stripsThere 22 = .ok (.iinc 1 1, 3) := by decide +kernel
theorem dX2_stripsThere_25 : decode cX2_stripsThere 25 = .ok (.iinc 2 1, 3) := by decide +kernel
theorem dX2_stripsThere_28 : decode cX2_stripsThere 28 = .ok (.goto (-24), 3) := by decide +kernel
theorem dX2_stripsThere_31 : decode cX2_stripsThere 31 = .ok (.iload_n 1, 1) := by decide +kernel
theorem dX2_stripsThere_32 : decode cX2_stripsThere 32 = .ok (.ireturn, 1) := by decide +kernel
