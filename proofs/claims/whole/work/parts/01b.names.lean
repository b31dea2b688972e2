def RX0 : String := "SpoolRows"
def TX0 : u_T := fun k => match k with
  | 0 => ("SpoolRows", "reserved", "I", true)
  | 1 => ("SpoolRows", "freePages", "I", false)
  | 2 => ("SpoolRows", "outputs", "[LSpoolRows$Output;", true)
  | 3 => ("SpoolRows", "outputCount", "I", false)
  | 4 => ("SpoolRows", "writers", "[LSpoolRows$Writer;", true)
  | 5 => ("SpoolRows", "writerCount", "I", false)
  | 6 => ("SpoolRows", "printedOrder", "[I", true)
  | 7 => ("SpoolRows", "printedCount", "I", false)
  | 8 => ("SpoolRows", "lineSigns", "[I", true)
  | 9 => ("SpoolRows", "lineOutputs", "[I", true)
  | 10 => ("SpoolRows", "keptLines", "I", false)
  | 11 => ("SpoolRows", "pagesPrinted", "I", false)
  | _ => ("SpoolRows", "pagesAgain", "I", false)
def tyX0 : Nat → FieldType := fun k => match k with
  | 0 => .int
  | 1 => .int
  | 2 => .array (.object "SpoolRows$Output")
  | 3 => .int
  | 4 => .array (.object "SpoolRows$Writer")
  | 5 => .int
  | 6 => .array .int
  | 7 => .int
  | 8 => .array .int
  | 9 => .array .int
  | 10 => .int
  | 11 => .int
  | _ => .int
abbrev wsX00 : List Cond := u_ws RX0 TX0 13
theorem nmX0 : ∀ a, a < 13 → ∀ b, b < 13 → a ≠ b → (TX0 a).2.1 ≠ (TX0 b).2.1 := by decide +kernel
theorem tyX0_ok : ∀ k, k < 13 → parseFieldDescriptor (TX0 k).2.2.1 = some (tyX0 k) := by decide +kernel
def RX1 : String := "SpoolRows$Output"
def TX1 : u_T := fun k => match k with
  | 0 => ("SpoolRows$Output", "number", "I", true)
  | 1 => ("SpoolRows$Output", "job", "I", true)
  | 2 => ("SpoolRows$Output", "kind", "I", true)
  | 3 => ("SpoolRows$Output", "copies", "I", true)
  | 4 => ("SpoolRows$Output", "destination", "I", false)
  | 5 => ("SpoolRows$Output", "priority", "I", false)
  | 6 => ("SpoolRows$Output", "state", "I", false)
  | 7 => ("SpoolRows$Output", "held", "Z", false)
  | 8 => ("SpoolRows$Output", "lines", "I", false)
  | 9 => ("SpoolRows$Output", "limit", "I", false)
  | 10 => ("SpoolRows$Output", "limitEnds", "Z", false)
  | 11 => ("SpoolRows$Output", "printed", "I", false)
  | _ => ("SpoolRows$Output", "purgeWaits", "Z", false)
def tyX1 : Nat → FieldType := fun k => match k with
  | 0 => .int
  | 1 => .int
  | 2 => .int
  | 3 => .int
  | 4 => .int
  | 5 => .int
  | 6 => .int
  | 7 => .boolean
  | 8 => .int
  | 9 => .int
  | 10 => .boolean
  | 11 => .int
  | _ => .boolean
abbrev wsX10 : List Cond := u_ws RX1 TX1 13
theorem nmX1 : ∀ a, a < 13 → ∀ b, b < 13 → a ≠ b → (TX1 a).2.1 ≠ (TX1 b).2.1 := by decide +kernel
theorem tyX1_ok : ∀ k, k < 13 → parseFieldDescriptor (TX1 k).2.2.1 = some (tyX1 k) := by decide +kernel
def RX2 : String := "SpoolRows$Writer"
def TX2 : u_T := fun k => match k with
  | 0 => ("SpoolRows$Writer", "kind", "I", true)
  | 1 => ("SpoolRows$Writer", "destination", "I", true)
  | _ => ("SpoolRows$Writer", "taken", "LSpoolRows$Output;", false)
def tyX2 : Nat → FieldType := fun k => match k with
  | 0 => .int
  | 1 => .int
  | _ => .object "SpoolRows$Output"
abbrev wsX20 : List Cond := u_ws RX2 TX2 3
theorem nmX2 : ∀ a, a < 3 → ∀ b, b < 3 → a ≠ b → (TX2 a).2.1 ≠ (TX2 b).2.1 := by decide +kernel
theorem tyX2_ok : ∀ k, k < 3 → parseFieldDescriptor (TX2 k).2.2.1 = some (tyX2 k) := by decide +kernel
def RX3 : String := "SpoolRowsModel"
def TX3 : u_T := fun k => match k with
  | 0 => ("SpoolRowsModel", "room", "I", true)
  | 1 => ("SpoolRowsModel", "jobs", "[I", true)
  | 2 => ("SpoolRowsModel", "classes", "[I", true)
  | 3 => ("SpoolRowsModel", "copies", "[I", true)
  | 4 => ("SpoolRowsModel", "destinations", "[I", true)
  | 5 => ("SpoolRowsModel", "priorities", "[I", true)
  | 6 => ("SpoolRowsModel", "states", "[I", true)
  | 7 => ("SpoolRowsModel", "lines", "[I", true)
  | 8 => ("SpoolRowsModel", "limits", "[I", true)
  | 9 => ("SpoolRowsModel", "done", "[I", true)
  | 10 => ("SpoolRowsModel", "ends", "[Z", true)
  | 11 => ("SpoolRowsModel", "held", "[Z", true)
  | 12 => ("SpoolRowsModel", "waits", "[Z", true)
  | 13 => ("SpoolRowsModel", "outputs", "I", false)
  | 14 => ("SpoolRowsModel", "owners", "[I", true)
  | 15 => ("SpoolRowsModel", "signs", "[I", true)
  | 16 => ("SpoolRowsModel", "all", "I", false)
  | 17 => ("SpoolRowsModel", "criteria", "[I", true)
  | 18 => ("SpoolRowsModel", "has", "[I", true)
  | 19 => ("SpoolRowsModel", "writers", "I", false)
  | 20 => ("SpoolRowsModel", "printed", "[I", true)
  | 21 => ("SpoolRowsModel", "finished", "I", false)
  | 22 => ("SpoolRowsModel", "pagesPrinted", "I", false)
  | _ => ("SpoolRowsModel", "again", "I", false)
def tyX3 : Nat → FieldType := fun k => match k with
  | 0 => .int
  | 1 => .array .int
  | 2 => .array .int
  | 3 => .array .int
  | 4 => .array .int
  | 5 => .array .int
  | 6 => .array .int
  | 7 => .array .int
  | 8 => .array .int
  | 9 => .array .int
  | 10 => .array .boolean
  | 11 => .array .boolean
  | 12 => .array .boolean
  | 13 => .int
  | 14 => .array .int
  | 15 => .array .int
  | 16 => .int
  | 17 => .array .int
  | 18 => .array .int
  | 19 => .int
  | 20 => .array .int
  | 21 => .int
  | 22 => .int
  | _ => .int
abbrev wsX30 : List Cond := u_ws RX3 TX3 24
theorem nmX3 : ∀ a, a < 24 → ∀ b, b < 24 → a ≠ b → (TX3 a).2.1 ≠ (TX3 b).2.1 := by decide +kernel
theorem tyX3_ok : ∀ k, k < 24 → parseFieldDescriptor (TX3 k).2.2.1 = some (tyX3 k) := by decide +kernel
def RL : String := "SpoolRowsLaw"
abbrev cL_cell : ByteArray := method_2_code
def yL_cell : MethodName := ⟨RL, "cell", "([II)I"⟩
abbrev cX0_init : ByteArray := prog_1_method_1_code
def yX0_init : MethodName := ⟨RX0, "<init>", "(I)V"⟩
abbrev cX3_init : ByteArray := prog_5_method_1_code
def yX3_init : MethodName := ⟨RX3, "<init>", "(I)V"⟩
abbrev cX0_isWithin : ByteArray := prog_1_method_18_code
def yX0_isWithin : MethodName := ⟨RX0, "isWithin", "(III)Z"⟩
abbrev cX0_outputOf : ByteArray := prog_1_method_19_code
def yX0_outputOf : MethodName := ⟨RX0, "outputOf", "(I)LSpoolRows$Output;"⟩
abbrev cX1_isGone : ByteArray := prog_2_method_3_code
def yX1_isGone : MethodName := ⟨RX1, "isGone", "()Z"⟩
abbrev cX0_hasOutputThere : ByteArray := prog_1_method_22_code
def yX0_hasOutputThere : MethodName := ⟨RX0, "hasOutputThere", "(I)Z"⟩
abbrev cX1_init : ByteArray := prog_2_method_1_code
def yX1_init : MethodName := ⟨RX1, "<init>", "(IIII)V"⟩
abbrev cX0_addOutput : ByteArray := prog_1_method_24_code
def yX0_addOutput : MethodName := ⟨RX0, "addOutput", "(III)LSpoolRows$Output;"⟩
abbrev cX0_output : ByteArray := prog_1_method_2_code
def yX0_output : MethodName := ⟨RX0, "output", "(III)I"⟩
abbrev cX3_isGone : ByteArray := prog_5_method_4_code
def yX3_isGone : MethodName := ⟨RX3, "isGone", "(I)Z"⟩
abbrev cX3_pagesOf : ByteArray := prog_5_method_5_code
def yX3_pagesOf : MethodName := ⟨RX3, "pagesOf", "(I)I"⟩
abbrev cX3_free : ByteArray := prog_5_method_6_code
def yX3_free : MethodName := ⟨RX3, "free", "()I"⟩
abbrev cX3_create : ByteArray := prog_5_method_8_code
def yX3_create : MethodName := ⟨RX3, "create", "(IIIII)V"⟩
abbrev cX3_output : ByteArray := prog_5_method_9_code
def yX3_output : MethodName := ⟨RX3, "output", "(III)I"⟩
abbrev cX1_isAtLimit : ByteArray := prog_2_method_6_code
def yX1_isAtLimit : MethodName := ⟨RX1, "isAtLimit", "()Z"⟩
abbrev cX1_needsPage : ByteArray := prog_2_method_7_code
def yX1_needsPage : MethodName := ⟨RX1, "needsPage", "()Z"⟩
abbrev cX0_hasRoomForLine : ByteArray := prog_1_method_25_code
def yX0_hasRoomForLine : MethodName := ⟨RX0, "hasRoomForLine", "(LSpoolRows$Output;)Z"⟩
abbrev cX0_keepSign : ByteArray := prog_1_method_27_code
def yX0_keepSign : MethodName := ⟨RX0, "keepSign", "(II)V"⟩
abbrev cX0_takeLine : ByteArray := prog_1_method_26_code
def yX0_takeLine : MethodName := ⟨RX0, "takeLine", "(LSpoolRows$Output;I)V"⟩
abbrev cX0_line : ByteArray := prog_1_method_3_code
def yX0_line : MethodName := ⟨RX0, "line", "(II)I"⟩
abbrev cX3_isOutput : ByteArray := prog_5_method_2_code
def yX3_isOutput : MethodName := ⟨RX3, "isOutput", "(I)Z"⟩
abbrev cX3_line : ByteArray := prog_5_method_10_code
def yX3_line : MethodName := ⟨RX3, "line", "(II)I"⟩
abbrev cX0_limit : ByteArray := prog_1_method_4_code
def yX0_limit : MethodName := ⟨RX0, "limit", "(IIZ)I"⟩
abbrev cX3_limit : ByteArray := prog_5_method_11_code
def yX3_limit : MethodName := ⟨RX3, "limit", "(IIZ)I"⟩
abbrev cX1_pageCount : ByteArray := prog_2_method_8_code
def yX1_pageCount : MethodName := ⟨RX1, "pageCount", "()I"⟩
abbrev cX0_letGo : ByteArray := prog_1_method_29_code
def yX0_letGo : MethodName := ⟨RX0, "letGo", "(LSpoolRows$Output;I)V"⟩
abbrev cX0_releaseOrPurge : ByteArray := prog_1_method_28_code
def yX0_releaseOrPurge : MethodName := ⟨RX0, "releaseOrPurge", "(LSpoolRows$Output;)V"⟩
abbrev cX0_end : ByteArray := prog_1_method_5_code
def yX0_end : MethodName := ⟨RX0, "end", "(I)I"⟩
abbrev cX3_goes : ByteArray := prog_5_method_7_code
def yX3_goes : MethodName := ⟨RX3, "goes", "(II)V"⟩
abbrev cX3_end : ByteArray := prog_5_method_12_code
def yX3_end : MethodName := ⟨RX3, "end", "(I)I"⟩
abbrev cX1_takeSettingsOf : ByteArray := prog_2_method_2_code
def yX1_takeSettingsOf : MethodName := ⟨RX1, "takeSettingsOf", "(LSpoolRows$Output;)V"⟩
abbrev cX0_segment : ByteArray := prog_1_method_6_code
def yX0_segment : MethodName := ⟨RX0, "segment", "(I)I"⟩
abbrev cX3_segment : ByteArray := prog_5_method_13_code
def yX3_segment : MethodName := ⟨RX3, "segment", "(I)I"⟩
abbrev cX2_init : ByteArray := prog_3_method_1_code
def yX2_init : MethodName := ⟨RX2, "<init>", "(II)V"⟩
abbrev cX0_writer : ByteArray := prog_1_method_7_code
def yX0_writer : MethodName := ⟨RX0, "writer", "(I)I"⟩
abbrev cX3_writer : ByteArray := prog_5_method_14_code
def yX3_writer : MethodName := ⟨RX3, "writer", "(I)I"⟩
abbrev cX0_writerOf : ByteArray := prog_1_method_20_code
def yX0_writerOf : MethodName := ⟨RX0, "writerOf", "(I)LSpoolRows$Writer;"⟩
abbrev cX1_mayBePrinted : ByteArray := prog_2_method_5_code
def yX1_mayBePrinted : MethodName := ⟨RX1, "mayBePrinted", "()Z"⟩
abbrev cX2_suits : ByteArray := prog_3_method_2_code
def yX2_suits : MethodName := ⟨RX2, "suits", "(LSpoolRows$Output;)Z"⟩
abbrev cX1_comesBefore : ByteArray := prog_2_method_12_code
def yX1_comesBefore : MethodName := ⟨RX1, "comesBefore", "(LSpoolRows$Output;)Z"⟩
abbrev cX0_firstFor : ByteArray := prog_1_method_31_code
def yX0_firstFor : MethodName := ⟨RX0, "firstFor", "(LSpoolRows$Writer;)LSpoolRows$Output;"⟩
abbrev cX0_next : ByteArray := prog_1_method_8_code
def yX0_next : MethodName := ⟨RX0, "next", "(I)I"⟩
abbrev cX3_isWriter : ByteArray := prog_5_method_3_code
def yX3_isWriter : MethodName := ⟨RX3, "isWriter", "(I)Z"⟩
abbrev cX3_fits : ByteArray := prog_5_method_15_code
def yX3_fits : MethodName := ⟨RX3, "fits", "(II)Z"⟩
abbrev cX3_next : ByteArray := prog_5_method_16_code
def yX3_next : MethodName := ⟨RX3, "next", "(I)I"⟩
abbrev cX1_pagesToPrint : ByteArray := prog_2_method_9_code
def yX1_pagesToPrint : MethodName := ⟨RX1, "pagesToPrint", "()I"⟩
abbrev cX0_noteInOrder : ByteArray := prog_1_method_30_code
def yX0_noteInOrder : MethodName := ⟨RX0, "noteInOrder", "(LSpoolRows$Output;)V"⟩
abbrev cX0_print : ByteArray := prog_1_method_9_code
def yX0_print : MethodName := ⟨RX0, "print", "(II)I"⟩
abbrev cX3_print : ByteArray := prog_5_method_17_code
def yX3_print : MethodName := ⟨RX3, "print", "(II)I"⟩
abbrev cX1_lastCheckpoint : ByteArray := prog_2_method_10_code
def yX1_lastCheckpoint : MethodName := ⟨RX1, "lastCheckpoint", "()I"⟩
abbrev cX0_cut : ByteArray := prog_1_method_10_code
def yX0_cut : MethodName := ⟨RX0, "cut", "(I)I"⟩
abbrev cX3_cut : ByteArray := prog_5_method_18_code
def yX3_cut : MethodName := ⟨RX3, "cut", "(I)I"⟩
abbrev cX0_purge : ByteArray := prog_1_method_11_code
def yX0_purge : MethodName := ⟨RX0, "purge", "(I)I"⟩
abbrev cX3_purge : ByteArray := prog_5_method_19_code
def yX3_purge : MethodName := ⟨RX3, "purge", "(I)I"⟩
abbrev cX1_isOpenOrReleased : ByteArray := prog_2_method_4_code
def yX1_isOpenOrReleased : MethodName := ⟨RX1, "isOpenOrReleased", "()Z"⟩
abbrev cX0_hold : ByteArray := prog_1_method_12_code
def yX0_hold : MethodName := ⟨RX0, "hold", "(IZ)I"⟩
abbrev cX3_isStill : ByteArray := prog_5_method_20_code
def yX3_isStill : MethodName := ⟨RX3, "isStill", "(I)Z"⟩
abbrev cX3_hold : ByteArray := prog_5_method_21_code
def yX3_hold : MethodName := ⟨RX3, "hold", "(IZ)I"⟩
abbrev cX0_route : ByteArray := prog_1_method_13_code
def yX0_route : MethodName := ⟨RX0, "route", "(II)I"⟩
abbrev cX3_route : ByteArray := prog_5_method_22_code
def yX3_route : MethodName := ⟨RX3, "route", "(II)I"⟩
abbrev cX0_isThere : ByteArray := prog_1_method_21_code
def yX0_isThere : MethodName := ⟨RX0, "isThere", "(I)Z"⟩
abbrev cX0_search : ByteArray := prog_1_method_14_code
def yX0_search : MethodName := ⟨RX0, "search", "(I)I"⟩
abbrev cX3_search : ByteArray := prog_5_method_23_code
def yX3_search : MethodName := ⟨RX3, "search", "(I)I"⟩
abbrev cX0_order : ByteArray := prog_1_method_15_code
def yX0_order : MethodName := ⟨RX0, "order", "(I)I"⟩
abbrev cX3_order : ByteArray := prog_5_method_24_code
def yX3_order : MethodName := ⟨RX3, "order", "(I)I"⟩
abbrev cX1_copiesLeft : ByteArray := prog_2_method_11_code
def yX1_copiesLeft : MethodName := ⟨RX1, "copiesLeft", "()I"⟩
abbrev cX0_state : ByteArray := prog_1_method_16_code
def yX0_state : MethodName := ⟨RX0, "state", "(II)I"⟩
abbrev cX3_state : ByteArray := prog_5_method_25_code
def yX3_state : MethodName := ⟨RX3, "state", "(II)I"⟩
abbrev cX0_outputsThere : ByteArray := prog_1_method_23_code
def yX0_outputsThere : MethodName := ⟨RX0, "outputsThere", "()I"⟩
abbrev cX0_count : ByteArray := prog_1_method_17_code
def yX0_count : MethodName := ⟨RX0, "count", "(I)I"⟩
abbrev cX3_count : ByteArray := prog_5_method_26_code
def yX3_count : MethodName := ⟨RX3, "count", "(I)I"⟩
abbrev cL_law : ByteArray := code
def yL_law : MethodName := ⟨RL, "law", "([I)Z"⟩
abbrev vwCl : List vw_C := [(RX0, TX0, 13), (RX1, TX1, 13), (RX2, TX2, 3), (RX3, TX3, 24)]
theorem gdX0 : ∀ w ∈ wsX00, goodWord w = true := by decide +kernel
theorem gdX1 : ∀ w ∈ wsX10, goodWord w = true := by decide +kernel
theorem gdX2 : ∀ w ∈ wsX20, goodWord w = true := by decide +kernel
theorem gdX3 : ∀ w ∈ wsX30, goodWord w = true := by decide +kernel
def woL_cell : List Cond := []
def wsL_cell : List Cond := .code yL_cell cL_cell 2 (some .int) :: woL_cell
theorem gdL_cell : ∀ w ∈ wsL_cell, goodWord w = true := List.forall_mem_cons.mpr ⟨rfl, (by decide +kernel)⟩
def woX0_init : List Cond := [.methodLink RX0 1 objectInit, .instanceMethod objectInit, .code objectInit ⟨#[0xb1]⟩ 1 none, .classLink RX0 9 RX1, .fieldLink RX0 11 "SpoolRows" "outputs" "[LSpoolRows$Output;", .classLink RX0 15 RX2, .fieldLink RX0 17 "SpoolRows" "writers" "[LSpoolRows$Writer;", .arrayClass .int, .fieldLink RX0 21 "SpoolRows" "printedOrder" "[I", .fieldLink RX0 25 "SpoolRows" "lineSigns" "[I", .fieldLink RX0 28 "SpoolRows" "lineOutputs" "[I", .constant RX0 31 65536, .methodLink RX0 32 Lib.Math.min.name, .static Lib.Math.min.name, .initialized "java/lang/Math", .code Lib.Math.min.name Lib.Math.min.code 2 (some .int), .methodLink RX0 38 Lib.Math.max.name, .static Lib.Math.max.name, .code Lib.Math.max.name Lib.Math.max.code 2 (some .int), .fieldLink RX0 41 "SpoolRows" "freePages" "I", .fieldLink RX0 45 "SpoolRows" "reserved" "I"]
def wsX0_init : List Cond := .code yX0_init cX0_init 3 none :: (woX0_init ++ wsX00)
theorem gdX0_init : ∀ w ∈ wsX0_init, goodWord w = true := List.forall_mem_cons.mpr ⟨rfl, (List.forall_mem_append.mpr ⟨(by decide +kernel), gdX0⟩)⟩
def woX3_init : List Cond := [.methodLink RX3 1 objectInit, .instanceMethod objectInit, .code objectInit ⟨#[0xb1]⟩ 1 none, .arrayClass .int, .fieldLink RX3 7 "SpoolRowsModel" "jobs" "[I", .fieldLink RX3 13 "SpoolRowsModel" "classes" "[I", .fieldLink RX3 16 "SpoolRowsModel" "copies" "[I", .fieldLink RX3 19 "SpoolRowsModel" "destinations" "[I", .fieldLink RX3 22 "SpoolRowsModel" "priorities" "[I", .fieldLink RX3 25 "SpoolRowsModel" "states" "[I", .fieldLink RX3 28 "SpoolRowsModel" "lines" "[I", .fieldLink RX3 31 "SpoolRowsModel" "limits" "[I", .fieldLink RX3 34 "SpoolRowsModel" "done" "[I", .arrayClass .boolean, .fieldLink RX3 37 "SpoolRowsModel" "ends" "[Z", .fieldLink RX3 41 "SpoolRowsModel" "held" "[Z", .fieldLink RX3 44 "SpoolRowsModel" "waits" "[Z", .fieldLink RX3 47 "SpoolRowsModel" "owners" "[I", .fieldLink RX3 50 "SpoolRowsModel" "signs" "[I", .fieldLink RX3 53 "SpoolRowsModel" "criteria" "[I", .fieldLink RX3 56 "SpoolRowsModel" "has" "[I", .fieldLink RX3 59 "SpoolRowsModel" "printed" "[I", .constant RX3 62 65536, .fieldLink RX3 63 "SpoolRowsModel" "room" "I"]
def wsX3_init : List Cond := .code yX3_init cX3_init 2 none :: (woX3_init ++ wsX30)
theorem gdX3_init : ∀ w ∈ wsX3_init, goodWord w = true := List.forall_mem_cons.mpr ⟨rfl, (List.forall_mem_append.mpr ⟨(by decide +kernel), gdX3⟩)⟩
def woX0_isWithin : List Cond := []
def wsX0_isWithin : List Cond := .code yX0_isWithin cX0_isWithin 3 (some .boolean) :: woX0_isWithin
theorem gdX0_isWithin : ∀ w ∈ wsX0_isWithin, goodWord w = true := List.forall_mem_cons.mpr ⟨rfl, (by decide +kernel)⟩
def woX0_outputOf : List Cond := [.fieldLink RX0 93 "SpoolRows" "outputCount" "I", .methodLink RX0 48 yX0_isWithin, .static yX0_isWithin, .initialized RX0, .fieldLink RX0 11 "SpoolRows" "outputs" "[LSpoolRows$Output;"]
def wsX0_outputOf : List Cond := .code yX0_outputOf cX0_outputOf 2 (some (.object "SpoolRows$Output")) :: (woX0_outputOf ++ (wsX00 ++ wsX0_isWithin))
theorem gdX0_outputOf : ∀ w ∈ wsX0_outputOf, goodWord w = true := List.forall_mem_cons.mpr ⟨rfl, (List.forall_mem_append.mpr ⟨(by decide +kernel), (List.forall_mem_append.mpr ⟨gdX0, gdX0_isWithin⟩)⟩)⟩
def woX1_isGone : List Cond := [.fieldLink RX1 9 "SpoolRows$Output" "state" "I"]
def wsX1_isGone : List Cond := .code yX1_isGone cX1_isGone 1 (some .boolean) :: (woX1_isGone ++ wsX10)
theorem gdX1_isGone : ∀ w ∈ wsX1_isGone, goodWord w = true := List.forall_mem_cons.mpr ⟨rfl, (List.forall_mem_append.mpr ⟨(by decide +kernel), gdX1⟩)⟩
def woX0_hasOutputThere : List Cond := [.fieldLink RX0 93 "SpoolRows" "outputCount" "I", .methodLink RX0 63 yX0_outputOf, .instanceMethod yX0_outputOf, .selects RX0 yX0_outputOf yX0_outputOf, .initialized RX0, .fieldLink RX0 96 "SpoolRows$Output" "job" "I", .methodLink RX0 87 yX1_isGone, .instanceMethod yX1_isGone, .selects RX1 yX1_isGone yX1_isGone, .initialized RX1]
def wsX0_hasOutputThere : List Cond := .code yX0_hasOutputThere cX0_hasOutputThere 4 (some .boolean) :: (woX0_hasOutputThere ++ (wsX00 ++ (wsX10 ++ (wsX0_outputOf ++ wsX1_isGone))))
theorem gdX0_hasOutputThere : ∀ w ∈ wsX0_hasOutputThere, goodWord w = true := List.forall_mem_cons.mpr ⟨rfl, (List.forall_mem_append.mpr ⟨(by decide +kernel), (List.forall_mem_append.mpr ⟨gdX0, (List.forall_mem_append.mpr ⟨gdX1, (List.forall_mem_append.mpr ⟨gdX0_outputOf, gdX1_isGone⟩)⟩)⟩)⟩)⟩
def woX1_init : List Cond := [.methodLink RX1 3 objectInit, .instanceMethod objectInit, .code objectInit ⟨#[0xb1]⟩ 1 none, .fieldLink RX1 9 "SpoolRows$Output" "state" "I", .fieldLink RX1 15 "SpoolRows$Output" "number" "I", .fieldLink RX1 18 "SpoolRows$Output" "job" "I", .fieldLink RX1 21 "SpoolRows$Output" "kind" "I", .fieldLink RX1 24 "SpoolRows$Output" "copies" "I"]
def wsX1_init : List Cond := .code yX1_init cX1_init 5 none :: (woX1_init ++ wsX10)
theorem gdX1_init : ∀ w ∈ wsX1_init, goodWord w = true := List.forall_mem_cons.mpr ⟨rfl, (List.forall_mem_append.mpr ⟨(by decide +kernel), gdX1⟩)⟩
def woX0_addOutput : List Cond := [.fieldLink RX0 93 "SpoolRows" "outputCount" "I", .classLink RX0 9 RX1, .instantiable RX1 13, .initialized RX1, .methodLink RX0 188 yX1_init, .instanceMethod yX1_init, .fieldLink RX0 11 "SpoolRows" "outputs" "[LSpoolRows$Output;"]
def wsX0_addOutput : List Cond := .code yX0_addOutput cX0_addOutput 5 (some (.object "SpoolRows$Output")) :: (woX0_addOutput ++ (wsX00 ++ (wsX10 ++ wsX1_init)))
theorem gdX0_addOutput : ∀ w ∈ wsX0_addOutput, goodWord w = true := List.forall_mem_cons.mpr ⟨rfl, (List.forall_mem_append.mpr ⟨(by decide +kernel), (List.forall_mem_append.mpr ⟨gdX0, (List.forall_mem_append.mpr ⟨gdX1, gdX1_init⟩)⟩)⟩)⟩
def woX0_output : List Cond := [.methodLink RX0 48 yX0_isWithin, .static yX0_isWithin, .initialized RX0, .fieldLink RX0 41 "SpoolRows" "freePages" "I", .fieldLink RX0 45 "SpoolRows" "reserved" "I", .methodLink RX0 52 yX0_hasOutputThere, .instanceMethod yX0_hasOutputThere, .selects RX0 yX0_hasOutputThere yX0_hasOutputThere, .methodLink RX0 56 yX0_addOutput, .instanceMethod yX0_addOutput, .selects RX0 yX0_addOutput yX0_addOutput, .fieldLink RX0 60 "SpoolRows$Output" "number" "I"]
def wsX0_output : List Cond := .code yX0_output cX0_output 5 (some .int) :: (woX0_output ++ (wsX00 ++ (wsX10 ++ (wsX0_isWithin ++ (wsX0_hasOutputThere ++ wsX0_addOutput)))))
theorem gdX0_output : ∀ w ∈ wsX0_output, goodWord w = true := List.forall_mem_cons.mpr ⟨rfl, (List.forall_mem_append.mpr ⟨(by decide +kernel), (List.forall_mem_append.mpr ⟨gdX0, (List.forall_mem_append.mpr ⟨gdX1, (List.forall_mem_append.mpr ⟨gdX0_isWithin, (List.forall_mem_append.mpr ⟨gdX0_hasOutputThere, gdX0_addOutput⟩)⟩)⟩)⟩)⟩)⟩
def woX3_isGone : List Cond := [.fieldLink RX3 25 "SpoolRowsModel" "states" "[I"]
def wsX3_isGone : List Cond := .code yX3_isGone cX3_isGone 2 (some .boolean) :: (woX3_isGone ++ wsX30)
theorem gdX3_isGone : ∀ w ∈ wsX3_isGone, goodWord w = true := List.forall_mem_cons.mpr ⟨rfl, (List.forall_mem_append.mpr ⟨(by decide +kernel), gdX3⟩)⟩
def woX3_pagesOf : List Cond := [.fieldLink RX3 28 "SpoolRowsModel" "lines" "[I"]
def wsX3_pagesOf : List Cond := .code yX3_pagesOf cX3_pagesOf 2 (some .int) :: (woX3_pagesOf ++ wsX30)
theorem gdX3_pagesOf : ∀ w ∈ wsX3_pagesOf, goodWord w = true := List.forall_mem_cons.mpr ⟨rfl, (List.forall_mem_append.mpr ⟨(by decide +kernel), gdX3⟩)⟩
def woX3_free : List Cond := [.fieldLink RX3 63 "SpoolRowsModel" "room" "I", .fieldLink RX3 67 "SpoolRowsModel" "outputs" "I", .methodLink RX3 73 yX3_isGone, .instanceMethod yX3_isGone, .selects RX3 yX3_isGone yX3_isGone, .initialized RX3, .methodLink RX3 77 yX3_pagesOf, .instanceMethod yX3_pagesOf, .selects RX3 yX3_pagesOf yX3_pagesOf]
def wsX3_free : List Cond := .code yX3_free cX3_free 3 (some .int) :: (woX3_free ++ (wsX30 ++ (wsX3_isGone ++ wsX3_pagesOf)))
theorem gdX3_free : ∀ w ∈ wsX3_free, goodWord w = true := List.forall_mem_cons.mpr ⟨rfl, (List.forall_mem_append.mpr ⟨(by decide +kernel), (List.forall_mem_append.mpr ⟨gdX3, (List.forall_mem_append.mpr ⟨gdX3_isGone, gdX3_pagesOf⟩)⟩)⟩)⟩
def woX3_create : List Cond := [.fieldLink RX3 67 "SpoolRowsModel" "outputs" "I", .fieldLink RX3 7 "SpoolRowsModel" "jobs" "[I", .fieldLink RX3 13 "SpoolRowsModel" "classes" "[I", .fieldLink RX3 16 "SpoolRowsModel" "copies" "[I", .fieldLink RX3 19 "SpoolRowsModel" "destinations" "[I", .fieldLink RX3 22 "SpoolRowsModel" "priorities" "[I", .fieldLink RX3 25 "SpoolRowsModel" "states" "[I"]
def wsX3_create : List Cond := .code yX3_create cX3_create 6 none :: (woX3_create ++ wsX30)
theorem gdX3_create : ∀ w ∈ wsX3_create, goodWord w = true := List.forall_mem_cons.mpr ⟨rfl, (List.forall_mem_append.mpr ⟨(by decide +kernel), gdX3⟩)⟩
def woX3_output : List Cond := [.fieldLink RX3 67 "SpoolRowsModel" "outputs" "I", .fieldLink RX3 7 "SpoolRowsModel" "jobs" "[I", .methodLink RX3 73 yX3_isGone, .instanceMethod yX3_isGone, .selects RX3 yX3_isGone yX3_isGone, .initialized RX3, .methodLink RX3 81 yX3_free, .instanceMethod yX3_free, .selects RX3 yX3_free yX3_free, .fieldLink RX3 63 "SpoolRowsModel" "room" "I", .methodLink RX3 85 yX3_create, .instanceMethod yX3_create, .selects RX3 yX3_create yX3_create]
def wsX3_output : List Cond := .code yX3_output cX3_output 6 (some .int) :: (woX3_output ++ (wsX30 ++ (wsX3_isGone ++ (wsX3_free ++ wsX3_create))))
theorem gdX3_output : ∀ w ∈ wsX3_output, goodWord w = true := List.forall_mem_cons.mpr ⟨rfl, (List.forall_mem_append.mpr ⟨(by decide +kernel), (List.forall_mem_append.mpr ⟨gdX3, (List.forall_mem_append.mpr ⟨gdX3_isGone, (List.forall_mem_append.mpr ⟨gdX3_free, gdX3_create⟩)⟩)⟩)⟩)⟩
def woX1_isAtLimit : List Cond := [.fieldLink RX1 33 "SpoolRows$Output" "limit" "I", .fieldLink RX1 43 "SpoolRows$Output" "lines" "I"]
def wsX1_isAtLimit : List Cond := .code yX1_isAtLimit cX1_isAtLimit 1 (some .boolean) :: (woX1_isAtLimit ++ wsX10)
theorem gdX1_isAtLimit : ∀ w ∈ wsX1_isAtLimit, goodWord w = true := List.forall_mem_cons.mpr ⟨rfl, (List.forall_mem_append.mpr ⟨(by decide +kernel), gdX1⟩)⟩
def woX1_needsPage : List Cond := [.fieldLink RX1 43 "SpoolRows$Output" "lines" "I"]
def wsX1_needsPage : List Cond := .code yX1_needsPage cX1_needsPage 1 (some .boolean) :: (woX1_needsPage ++ wsX10)
theorem gdX1_needsPage : ∀ w ∈ wsX1_needsPage, goodWord w = true := List.forall_mem_cons.mpr ⟨rfl, (List.forall_mem_append.mpr ⟨(by decide +kernel), gdX1⟩)⟩
def woX0_hasRoomForLine : List Cond := [.fieldLink RX0 41 "SpoolRows" "freePages" "I", .methodLink RX0 191 yX1_needsPage, .instanceMethod yX1_needsPage, .selects RX1 yX1_needsPage yX1_needsPage, .initialized RX1]
def wsX0_hasRoomForLine : List Cond := .code yX0_hasRoomForLine cX0_hasRoomForLine 2 (some .boolean) :: (woX0_hasRoomForLine ++ (wsX00 ++ wsX1_needsPage))
theorem gdX0_hasRoomForLine : ∀ w ∈ wsX0_hasRoomForLine, goodWord w = true := List.forall_mem_cons.mpr ⟨rfl, (List.forall_mem_append.mpr ⟨(by decide +kernel), (List.forall_mem_append.mpr ⟨gdX0, gdX1_needsPage⟩)⟩)⟩
def woX0_keepSign : List Cond := [.fieldLink RX0 170 "SpoolRows" "keptLines" "I", .fieldLink RX0 25 "SpoolRows" "lineSigns" "[I", .fieldLink RX0 28 "SpoolRows" "lineOutputs" "[I"]
def wsX0_keepSign : List Cond := .code yX0_keepSign cX0_keepSign 3 none :: (woX0_keepSign ++ wsX00)
theorem gdX0_keepSign : ∀ w ∈ wsX0_keepSign, goodWord w = true := List.forall_mem_cons.mpr ⟨rfl, (List.forall_mem_append.mpr ⟨(by decide +kernel), gdX0⟩)⟩
def woX0_takeLine : List Cond := [.methodLink RX0 191 yX1_needsPage, .instanceMethod yX1_needsPage, .selects RX1 yX1_needsPage yX1_needsPage, .initialized RX1, .fieldLink RX0 41 "SpoolRows" "freePages" "I", .fieldLink RX0 103 "SpoolRows$Output" "lines" "I", .fieldLink RX0 60 "SpoolRows$Output" "number" "I", .methodLink RX0 194 yX0_keepSign, .instanceMethod yX0_keepSign, .selects RX0 yX0_keepSign yX0_keepSign, .initialized RX0]
def wsX0_takeLine : List Cond := .code yX0_takeLine cX0_takeLine 3 none :: (woX0_takeLine ++ (wsX00 ++ (wsX10 ++ (wsX1_needsPage ++ wsX0_keepSign))))
theorem gdX0_takeLine : ∀ w ∈ wsX0_takeLine, goodWord w = true := List.forall_mem_cons.mpr ⟨rfl, (List.forall_mem_append.mpr ⟨(by decide +kernel), (List.forall_mem_append.mpr ⟨gdX0, (List.forall_mem_append.mpr ⟨gdX1, (List.forall_mem_append.mpr ⟨gdX1_needsPage, gdX0_keepSign⟩)⟩)⟩)⟩)⟩
def woX0_line : List Cond := [.methodLink RX0 63 yX0_outputOf, .instanceMethod yX0_outputOf, .selects RX0 yX0_outputOf yX0_outputOf, .initialized RX0, .constant RX0 67 34047, .methodLink RX0 48 yX0_isWithin, .static yX0_isWithin, .fieldLink RX0 68 "SpoolRows$Output" "state" "I", .methodLink RX0 71 yX1_isAtLimit, .instanceMethod yX1_isAtLimit, .selects RX1 yX1_isAtLimit yX1_isAtLimit, .initialized RX1, .fieldLink RX0 75 "SpoolRows$Output" "limitEnds" "Z", .methodLink RX0 79 yX0_hasRoomForLine, .instanceMethod yX0_hasRoomForLine, .selects RX0 yX0_hasRoomForLine yX0_hasRoomForLine, .methodLink RX0 83 yX0_takeLine, .instanceMethod yX0_takeLine, .selects RX0 yX0_takeLine yX0_takeLine]
def wsX0_line : List Cond := .code yX0_line cX0_line 5 (some .int) :: (woX0_line ++ (wsX10 ++ (wsX0_outputOf ++ (wsX0_isWithin ++ (wsX1_isAtLimit ++ (wsX0_hasRoomForLine ++ wsX0_takeLine))))))
theorem gdX0_line : ∀ w ∈ wsX0_line, goodWord w = true := List.forall_mem_cons.mpr ⟨rfl, (List.forall_mem_append.mpr ⟨(by decide +kernel), (List.forall_mem_append.mpr ⟨gdX1, (List.forall_mem_append.mpr ⟨gdX0_outputOf, (List.forall_mem_append.mpr ⟨gdX0_isWithin, (List.forall_mem_append.mpr ⟨gdX1_isAtLimit, (List.forall_mem_append.mpr ⟨gdX0_hasRoomForLine, gdX0_takeLine⟩)⟩)⟩)⟩)⟩)⟩)⟩
def woX3_isOutput : List Cond := [.fieldLink RX3 67 "SpoolRowsModel" "outputs" "I"]
def wsX3_isOutput : List Cond := .code yX3_isOutput cX3_isOutput 2 (some .boolean) :: (woX3_isOutput ++ wsX30)
theorem gdX3_isOutput : ∀ w ∈ wsX3_isOutput, goodWord w = true := List.forall_mem_cons.mpr ⟨rfl, (List.forall_mem_append.mpr ⟨(by decide +kernel), gdX3⟩)⟩
def woX3_line : List Cond := [.methodLink RX3 89 yX3_isOutput, .instanceMethod yX3_isOutput, .selects RX3 yX3_isOutput yX3_isOutput, .initialized RX3, .constant RX3 92 34047, .fieldLink RX3 25 "SpoolRowsModel" "states" "[I", .fieldLink RX3 31 "SpoolRowsModel" "limits" "[I", .fieldLink RX3 28 "SpoolRowsModel" "lines" "[I", .fieldLink RX3 37 "SpoolRowsModel" "ends" "[Z", .methodLink RX3 81 yX3_free, .instanceMethod yX3_free, .selects RX3 yX3_free yX3_free, .fieldLink RX3 47 "SpoolRowsModel" "owners" "[I", .fieldLink RX3 93 "SpoolRowsModel" "all" "I", .fieldLink RX3 50 "SpoolRowsModel" "signs" "[I"]
def wsX3_line : List Cond := .code yX3_line cX3_line 4 (some .int) :: (woX3_line ++ (wsX30 ++ (wsX3_isOutput ++ wsX3_free)))
theorem gdX3_line : ∀ w ∈ wsX3_line, goodWord w = true := List.forall_mem_cons.mpr ⟨rfl, (List.forall_mem_append.mpr ⟨(by decide +kernel), (List.forall_mem_append.mpr ⟨gdX3, (List.forall_mem_append.mpr ⟨gdX3_isOutput, gdX3_free⟩)⟩)⟩)⟩
def woX0_limit : List Cond := [.methodLink RX0 63 yX0_outputOf, .instanceMethod yX0_outputOf, .selects RX0 yX0_outputOf yX0_outputOf, .initialized RX0, .methodLink RX0 87 yX1_isGone, .instanceMethod yX1_isGone, .selects RX1 yX1_isGone yX1_isGone, .initialized RX1, .fieldLink RX0 90 "SpoolRows$Output" "limit" "I", .fieldLink RX0 75 "SpoolRows$Output" "limitEnds" "Z"]
def wsX0_limit : List Cond := .code yX0_limit cX0_limit 5 (some .int) :: (woX0_limit ++ (wsX10 ++ (wsX0_outputOf ++ wsX1_isGone)))
theorem gdX0_limit : ∀ w ∈ wsX0_limit, goodWord w = true := List.forall_mem_cons.mpr ⟨rfl, (List.forall_mem_append.mpr ⟨(by decide +kernel), (List.forall_mem_append.mpr ⟨gdX1, (List.forall_mem_append.mpr ⟨gdX0_outputOf, gdX1_isGone⟩)⟩)⟩)⟩
def woX3_limit : List Cond := [.methodLink RX3 89 yX3_isOutput, .instanceMethod yX3_isOutput, .selects RX3 yX3_isOutput yX3_isOutput, .initialized RX3, .methodLink RX3 73 yX3_isGone, .instanceMethod yX3_isGone, .selects RX3 yX3_isGone yX3_isGone, .fieldLink RX3 31 "SpoolRowsModel" "limits" "[I", .fieldLink RX3 37 "SpoolRowsModel" "ends" "[Z"]
def wsX3_limit : List Cond := .code yX3_limit cX3_limit 4 (some .int) :: (woX3_limit ++ (wsX30 ++ (wsX3_isOutput ++ wsX3_isGone)))
theorem gdX3_limit : ∀ w ∈ wsX3_limit, goodWord w = true := List.forall_mem_cons.mpr ⟨rfl, (List.forall_mem_append.mpr ⟨(by decide +kernel), (List.forall_mem_append.mpr ⟨gdX3, (List.forall_mem_append.mpr ⟨gdX3_isOutput, gdX3_isGone⟩)⟩)⟩)⟩
def woX1_pageCount : List Cond := [.fieldLink RX1 43 "SpoolRows$Output" "lines" "I"]
def wsX1_pageCount : List Cond := .code yX1_pageCount cX1_pageCount 1 (some .int) :: (woX1_pageCount ++ wsX10)
theorem gdX1_pageCount : ∀ w ∈ wsX1_pageCount, goodWord w = true := List.forall_mem_cons.mpr ⟨rfl, (List.forall_mem_append.mpr ⟨(by decide +kernel), gdX1⟩)⟩
def woX0_letGo : List Cond := [.fieldLink RX0 68 "SpoolRows$Output" "state" "I", .fieldLink RX0 161 "SpoolRows$Output" "held" "Z", .fieldLink RX0 41 "SpoolRows" "freePages" "I", .methodLink RX0 179 yX1_pageCount, .instanceMethod yX1_pageCount, .selects RX1 yX1_pageCount yX1_pageCount, .initialized RX1]
def wsX0_letGo : List Cond := .code yX0_letGo cX0_letGo 3 none :: (woX0_letGo ++ (wsX10 ++ (wsX00 ++ wsX1_pageCount)))
theorem gdX0_letGo : ∀ w ∈ wsX0_letGo, goodWord w = true := List.forall_mem_cons.mpr ⟨rfl, (List.forall_mem_append.mpr ⟨(by decide +kernel), (List.forall_mem_append.mpr ⟨gdX1, (List.forall_mem_append.mpr ⟨gdX0, gdX1_pageCount⟩)⟩)⟩)⟩
def woX0_releaseOrPurge : List Cond := [.fieldLink RX0 103 "SpoolRows$Output" "lines" "I", .methodLink RX0 146 yX0_letGo, .instanceMethod yX0_letGo, .selects RX0 yX0_letGo yX0_letGo, .initialized RX0, .fieldLink RX0 68 "SpoolRows$Output" "state" "I"]
def wsX0_releaseOrPurge : List Cond := .code yX0_releaseOrPurge cX0_releaseOrPurge 2 none :: (woX0_releaseOrPurge ++ (wsX10 ++ wsX0_letGo))
theorem gdX0_releaseOrPurge : ∀ w ∈ wsX0_releaseOrPurge, goodWord w = true := List.forall_mem_cons.mpr ⟨rfl, (List.forall_mem_append.mpr ⟨(by decide +kernel), (List.forall_mem_append.mpr ⟨gdX1, gdX0_letGo⟩)⟩)⟩
def woX0_end : List Cond := [.fieldLink RX0 93 "SpoolRows" "outputCount" "I", .methodLink RX0 63 yX0_outputOf, .instanceMethod yX0_outputOf, .selects RX0 yX0_outputOf yX0_outputOf, .initialized RX0, .fieldLink RX0 96 "SpoolRows$Output" "job" "I", .fieldLink RX0 68 "SpoolRows$Output" "state" "I", .methodLink RX0 99 yX0_releaseOrPurge, .instanceMethod yX0_releaseOrPurge, .selects RX0 yX0_releaseOrPurge yX0_releaseOrPurge]
def wsX0_end : List Cond := .code yX0_end cX0_end 5 (some .int) :: (woX0_end ++ (wsX00 ++ (wsX10 ++ (wsX0_outputOf ++ wsX0_releaseOrPurge))))
theorem gdX0_end : ∀ w ∈ wsX0_end, goodWord w = true := List.forall_mem_cons.mpr ⟨rfl, (List.forall_mem_append.mpr ⟨(by decide +kernel), (List.forall_mem_append.mpr ⟨gdX0, (List.forall_mem_append.mpr ⟨gdX1, (List.forall_mem_append.mpr ⟨gdX0_outputOf, gdX0_releaseOrPurge⟩)⟩)⟩)⟩)⟩
def woX3_goes : List Cond := [.fieldLink RX3 25 "SpoolRowsModel" "states" "[I", .fieldLink RX3 41 "SpoolRowsModel" "held" "[Z"]
def wsX3_goes : List Cond := .code yX3_goes cX3_goes 3 none :: (woX3_goes ++ wsX30)
theorem gdX3_goes : ∀ w ∈ wsX3_goes, goodWord w = true := List.forall_mem_cons.mpr ⟨rfl, (List.forall_mem_append.mpr ⟨(by decide +kernel), gdX3⟩)⟩
def woX3_end : List Cond := [.fieldLink RX3 67 "SpoolRowsModel" "outputs" "I", .fieldLink RX3 7 "SpoolRowsModel" "jobs" "[I", .fieldLink RX3 25 "SpoolRowsModel" "states" "[I", .fieldLink RX3 28 "SpoolRowsModel" "lines" "[I", .methodLink RX3 96 yX3_goes, .instanceMethod yX3_goes, .selects RX3 yX3_goes yX3_goes, .initialized RX3]
def wsX3_end : List Cond := .code yX3_end cX3_end 4 (some .int) :: (woX3_end ++ (wsX30 ++ wsX3_goes))
theorem gdX3_end : ∀ w ∈ wsX3_end, goodWord w = true := List.forall_mem_cons.mpr ⟨rfl, (List.forall_mem_append.mpr ⟨(by decide +kernel), (List.forall_mem_append.mpr ⟨gdX3, gdX3_goes⟩)⟩)⟩
def woX1_takeSettingsOf : List Cond := [.fieldLink RX1 27 "SpoolRows$Output" "destination" "I", .fieldLink RX1 30 "SpoolRows$Output" "priority" "I", .fieldLink RX1 33 "SpoolRows$Output" "limit" "I", .fieldLink RX1 36 "SpoolRows$Output" "limitEnds" "Z", .fieldLink RX1 40 "SpoolRows$Output" "held" "Z"]
def wsX1_takeSettingsOf : List Cond := .code yX1_takeSettingsOf cX1_takeSettingsOf 2 none :: (woX1_takeSettingsOf ++ wsX10)
theorem gdX1_takeSettingsOf : ∀ w ∈ wsX1_takeSettingsOf, goodWord w = true := List.forall_mem_cons.mpr ⟨rfl, (List.forall_mem_append.mpr ⟨(by decide +kernel), gdX1⟩)⟩
def woX0_segment : List Cond := [.methodLink RX0 63 yX0_outputOf, .instanceMethod yX0_outputOf, .selects RX0 yX0_outputOf yX0_outputOf, .initialized RX0, .fieldLink RX0 68 "SpoolRows$Output" "state" "I", .fieldLink RX0 103 "SpoolRows$Output" "lines" "I", .fieldLink RX0 96 "SpoolRows$Output" "job" "I", .fieldLink RX0 106 "SpoolRows$Output" "kind" "I", .fieldLink RX0 109 "SpoolRows$Output" "copies" "I", .methodLink RX0 56 yX0_addOutput, .instanceMethod yX0_addOutput, .selects RX0 yX0_addOutput yX0_addOutput, .methodLink RX0 112 yX1_takeSettingsOf, .instanceMethod yX1_takeSettingsOf, .selects RX1 yX1_takeSettingsOf yX1_takeSettingsOf, .initialized RX1, .fieldLink RX0 60 "SpoolRows$Output" "number" "I"]
def wsX0_segment : List Cond := .code yX0_segment cX0_segment 4 (some .int) :: (woX0_segment ++ (wsX10 ++ (wsX0_outputOf ++ (wsX0_addOutput ++ wsX1_takeSettingsOf))))
theorem gdX0_segment : ∀ w ∈ wsX0_segment, goodWord w = true := List.forall_mem_cons.mpr ⟨rfl, (List.forall_mem_append.mpr ⟨(by decide +kernel), (List.forall_mem_append.mpr ⟨gdX1, (List.forall_mem_append.mpr ⟨gdX0_outputOf, (List.forall_mem_append.mpr ⟨gdX0_addOutput, gdX1_takeSettingsOf⟩)⟩)⟩)⟩)⟩
def woX3_segment : List Cond := [.methodLink RX3 89 yX3_isOutput, .instanceMethod yX3_isOutput, .selects RX3 yX3_isOutput yX3_isOutput, .initialized RX3, .fieldLink RX3 25 "SpoolRowsModel" "states" "[I", .fieldLink RX3 28 "SpoolRowsModel" "lines" "[I", .fieldLink RX3 67 "SpoolRowsModel" "outputs" "I", .fieldLink RX3 7 "SpoolRowsModel" "jobs" "[I", .fieldLink RX3 13 "SpoolRowsModel" "classes" "[I", .fieldLink RX3 16 "SpoolRowsModel" "copies" "[I", .fieldLink RX3 19 "SpoolRowsModel" "destinations" "[I", .fieldLink RX3 22 "SpoolRowsModel" "priorities" "[I", .methodLink RX3 85 yX3_create, .instanceMethod yX3_create, .selects RX3 yX3_create yX3_create, .fieldLink RX3 31 "SpoolRowsModel" "limits" "[I", .fieldLink RX3 37 "SpoolRowsModel" "ends" "[Z", .fieldLink RX3 41 "SpoolRowsModel" "held" "[Z"]
def wsX3_segment : List Cond := .code yX3_segment cX3_segment 2 (some .int) :: (woX3_segment ++ (wsX30 ++ (wsX3_isOutput ++ wsX3_create)))
theorem gdX3_segment : ∀ w ∈ wsX3_segment, goodWord w = true := List.forall_mem_cons.mpr ⟨rfl, (List.forall_mem_append.mpr ⟨(by decide +kernel), (List.forall_mem_append.mpr ⟨gdX3, (List.forall_mem_append.mpr ⟨gdX3_isOutput, gdX3_create⟩)⟩)⟩)⟩
def woX2_init : List Cond := [.methodLink RX2 3 objectInit, .instanceMethod objectInit, .code objectInit ⟨#[0xb1]⟩ 1 none, .fieldLink RX2 9 "SpoolRows$Writer" "kind" "I", .fieldLink RX2 15 "SpoolRows$Writer" "destination" "I"]
def wsX2_init : List Cond := .code yX2_init cX2_init 3 none :: (woX2_init ++ wsX20)
theorem gdX2_init : ∀ w ∈ wsX2_init, goodWord w = true := List.forall_mem_cons.mpr ⟨rfl, (List.forall_mem_append.mpr ⟨(by decide +kernel), gdX2⟩)⟩
def woX0_writer : List Cond := [.fieldLink RX0 115 "SpoolRows" "writerCount" "I", .fieldLink RX0 17 "SpoolRows" "writers" "[LSpoolRows$Writer;", .classLink RX0 15 RX2, .instantiable RX2 3, .initialized RX2, .methodLink RX0 118 yX2_init, .instanceMethod yX2_init]
def wsX0_writer : List Cond := .code yX0_writer cX0_writer 4 (some .int) :: (woX0_writer ++ (wsX00 ++ (wsX20 ++ wsX2_init)))
theorem gdX0_writer : ∀ w ∈ wsX0_writer, goodWord w = true := List.forall_mem_cons.mpr ⟨rfl, (List.forall_mem_append.mpr ⟨(by decide +kernel), (List.forall_mem_append.mpr ⟨gdX0, (List.forall_mem_append.mpr ⟨gdX2, gdX2_init⟩)⟩)⟩)⟩
def woX3_writer : List Cond := [.fieldLink RX3 70 "SpoolRowsModel" "writers" "I", .fieldLink RX3 53 "SpoolRowsModel" "criteria" "[I"]
def wsX3_writer : List Cond := .code yX3_writer cX3_writer 2 (some .int) :: (woX3_writer ++ wsX30)
theorem gdX3_writer : ∀ w ∈ wsX3_writer, goodWord w = true := List.forall_mem_cons.mpr ⟨rfl, (List.forall_mem_append.mpr ⟨(by decide +kernel), gdX3⟩)⟩
def woX0_writerOf : List Cond := [.fieldLink RX0 115 "SpoolRows" "writerCount" "I", .methodLink RX0 48 yX0_isWithin, .static yX0_isWithin, .initialized RX0, .fieldLink RX0 17 "SpoolRows" "writers" "[LSpoolRows$Writer;"]
def wsX0_writerOf : List Cond := .code yX0_writerOf cX0_writerOf 2 (some (.object "SpoolRows$Writer")) :: (woX0_writerOf ++ (wsX00 ++ wsX0_isWithin))
theorem gdX0_writerOf : ∀ w ∈ wsX0_writerOf, goodWord w = true := List.forall_mem_cons.mpr ⟨rfl, (List.forall_mem_append.mpr ⟨(by decide +kernel), (List.forall_mem_append.mpr ⟨gdX0, gdX0_isWithin⟩)⟩)⟩
def woX1_mayBePrinted : List Cond := [.fieldLink RX1 9 "SpoolRows$Output" "state" "I", .fieldLink RX1 40 "SpoolRows$Output" "held" "Z", .fieldLink RX1 43 "SpoolRows$Output" "lines" "I"]
def wsX1_mayBePrinted : List Cond := .code yX1_mayBePrinted cX1_mayBePrinted 1 (some .boolean) :: (woX1_mayBePrinted ++ wsX10)
theorem gdX1_mayBePrinted : ∀ w ∈ wsX1_mayBePrinted, goodWord w = true := List.forall_mem_cons.mpr ⟨rfl, (List.forall_mem_append.mpr ⟨(by decide +kernel), gdX1⟩)⟩
def woX2_suits : List Cond := [.fieldLink RX2 9 "SpoolRows$Writer" "kind" "I", .fieldLink RX2 18 "SpoolRows$Output" "kind" "I", .fieldLink RX2 15 "SpoolRows$Writer" "destination" "I", .fieldLink RX2 21 "SpoolRows$Output" "destination" "I"]
def wsX2_suits : List Cond := .code yX2_suits cX2_suits 2 (some .boolean) :: (woX2_suits ++ (wsX20 ++ wsX10))
theorem gdX2_suits : ∀ w ∈ wsX2_suits, goodWord w = true := List.forall_mem_cons.mpr ⟨rfl, (List.forall_mem_append.mpr ⟨(by decide +kernel), (List.forall_mem_append.mpr ⟨gdX2, gdX1⟩)⟩)⟩
def woX1_comesBefore : List Cond := [.fieldLink RX1 30 "SpoolRows$Output" "priority" "I", .fieldLink RX1 18 "SpoolRows$Output" "job" "I", .fieldLink RX1 15 "SpoolRows$Output" "number" "I"]
def wsX1_comesBefore : List Cond := .code yX1_comesBefore cX1_comesBefore 2 (some .boolean) :: (woX1_comesBefore ++ wsX10)
theorem gdX1_comesBefore : ∀ w ∈ wsX1_comesBefore, goodWord w = true := List.forall_mem_cons.mpr ⟨rfl, (List.forall_mem_append.mpr ⟨(by decide +kernel), gdX1⟩)⟩
def woX0_firstFor : List Cond := [.fieldLink RX0 93 "SpoolRows" "outputCount" "I", .methodLink RX0 63 yX0_outputOf, .instanceMethod yX0_outputOf, .selects RX0 yX0_outputOf yX0_outputOf, .initialized RX0, .methodLink RX0 197 yX1_mayBePrinted, .instanceMethod yX1_mayBePrinted, .selects RX1 yX1_mayBePrinted yX1_mayBePrinted, .initialized RX1, .methodLink RX0 200 yX2_suits, .instanceMethod yX2_suits, .selects RX2 yX2_suits yX2_suits, .initialized RX2, .methodLink RX0 203 yX1_comesBefore, .instanceMethod yX1_comesBefore, .selects RX1 yX1_comesBefore yX1_comesBefore]
def wsX0_firstFor : List Cond := .code yX0_firstFor cX0_firstFor 5 (some (.object "SpoolRows$Output")) :: (woX0_firstFor ++ (wsX00 ++ (wsX0_outputOf ++ (wsX1_mayBePrinted ++ (wsX2_suits ++ wsX1_comesBefore)))))
theorem gdX0_firstFor : ∀ w ∈ wsX0_firstFor, goodWord w = true := List.forall_mem_cons.mpr ⟨rfl, (List.forall_mem_append.mpr ⟨(by decide +kernel), (List.forall_mem_append.mpr ⟨gdX0, (List.forall_mem_append.mpr ⟨gdX0_outputOf, (List.forall_mem_append.mpr ⟨gdX1_mayBePrinted, (List.forall_mem_append.mpr ⟨gdX2_suits, gdX1_comesBefore⟩)⟩)⟩)⟩)⟩)⟩
def woX0_next : List Cond := [.methodLink RX0 121 yX0_writerOf, .instanceMethod yX0_writerOf, .selects RX0 yX0_writerOf yX0_writerOf, .initialized RX0, .fieldLink RX0 125 "SpoolRows$Writer" "taken" "LSpoolRows$Output;", .methodLink RX0 129 yX0_firstFor, .instanceMethod yX0_firstFor, .selects RX0 yX0_firstFor yX0_firstFor, .fieldLink RX0 68 "SpoolRows$Output" "state" "I", .fieldLink RX0 60 "SpoolRows$Output" "number" "I"]
def wsX0_next : List Cond := .code yX0_next cX0_next 4 (some .int) :: (woX0_next ++ (wsX20 ++ (wsX10 ++ (wsX0_writerOf ++ wsX0_firstFor))))
theorem gdX0_next : ∀ w ∈ wsX0_next, goodWord w = true := List.forall_mem_cons.mpr ⟨rfl, (List.forall_mem_append.mpr ⟨(by decide +kernel), (List.forall_mem_append.mpr ⟨gdX2, (List.forall_mem_append.mpr ⟨gdX1, (List.forall_mem_append.mpr ⟨gdX0_writerOf, gdX0_firstFor⟩)⟩)⟩)⟩)⟩
def woX3_isWriter : List Cond := [.fieldLink RX3 70 "SpoolRowsModel" "writers" "I"]
def wsX3_isWriter : List Cond := .code yX3_isWriter cX3_isWriter 2 (some .boolean) :: (woX3_isWriter ++ wsX30)
theorem gdX3_isWriter : ∀ w ∈ wsX3_isWriter, goodWord w = true := List.forall_mem_cons.mpr ⟨rfl, (List.forall_mem_append.mpr ⟨(by decide +kernel), gdX3⟩)⟩
def woX3_fits : List Cond := [.fieldLink RX3 13 "SpoolRowsModel" "classes" "[I", .fieldLink RX3 19 "SpoolRowsModel" "destinations" "[I"]
def wsX3_fits : List Cond := .code yX3_fits cX3_fits 3 (some .boolean) :: (woX3_fits ++ wsX30)
theorem gdX3_fits : ∀ w ∈ wsX3_fits, goodWord w = true := List.forall_mem_cons.mpr ⟨rfl, (List.forall_mem_append.mpr ⟨(by decide +kernel), gdX3⟩)⟩
def woX3_next : List Cond := [.methodLink RX3 100 yX3_isWriter, .instanceMethod yX3_isWriter, .selects RX3 yX3_isWriter yX3_isWriter, .initialized RX3, .fieldLink RX3 56 "SpoolRowsModel" "has" "[I", .fieldLink RX3 67 "SpoolRowsModel" "outputs" "I", .fieldLink RX3 25 "SpoolRowsModel" "states" "[I", .fieldLink RX3 41 "SpoolRowsModel" "held" "[Z", .fieldLink RX3 28 "SpoolRowsModel" "lines" "[I", .fieldLink RX3 53 "SpoolRowsModel" "criteria" "[I", .methodLink RX3 103 yX3_fits, .instanceMethod yX3_fits, .selects RX3 yX3_fits yX3_fits, .fieldLink RX3 22 "SpoolRowsModel" "priorities" "[I", .fieldLink RX3 7 "SpoolRowsModel" "jobs" "[I"]
def wsX3_next : List Cond := .code yX3_next cX3_next 5 (some .int) :: (woX3_next ++ (wsX30 ++ (wsX3_isWriter ++ wsX3_fits)))
theorem gdX3_next : ∀ w ∈ wsX3_next, goodWord w = true := List.forall_mem_cons.mpr ⟨rfl, (List.forall_mem_append.mpr ⟨(by decide +kernel), (List.forall_mem_append.mpr ⟨gdX3, (List.forall_mem_append.mpr ⟨gdX3_isWriter, gdX3_fits⟩)⟩)⟩)⟩
def woX1_pagesToPrint : List Cond := [.methodLink RX1 46 yX1_pageCount, .instanceMethod yX1_pageCount, .selects RX1 yX1_pageCount yX1_pageCount, .initialized RX1, .fieldLink RX1 24 "SpoolRows$Output" "copies" "I", .fieldLink RX1 50 "SpoolRows$Output" "printed" "I"]
def wsX1_pagesToPrint : List Cond := .code yX1_pagesToPrint cX1_pagesToPrint 1 (some .int) :: (woX1_pagesToPrint ++ (wsX10 ++ wsX1_pageCount))
theorem gdX1_pagesToPrint : ∀ w ∈ wsX1_pagesToPrint, goodWord w = true := List.forall_mem_cons.mpr ⟨rfl, (List.forall_mem_append.mpr ⟨(by decide +kernel), (List.forall_mem_append.mpr ⟨gdX1, gdX1_pageCount⟩)⟩)⟩
def woX0_noteInOrder : List Cond := [.fieldLink RX0 176 "SpoolRows" "printedCount" "I", .fieldLink RX0 21 "SpoolRows" "printedOrder" "[I", .fieldLink RX0 60 "SpoolRows$Output" "number" "I"]
def wsX0_noteInOrder : List Cond := .code yX0_noteInOrder cX0_noteInOrder 2 none :: (woX0_noteInOrder ++ (wsX00 ++ wsX10))
theorem gdX0_noteInOrder : ∀ w ∈ wsX0_noteInOrder, goodWord w = true := List.forall_mem_cons.mpr ⟨rfl, (List.forall_mem_append.mpr ⟨(by decide +kernel), (List.forall_mem_append.mpr ⟨gdX0, gdX1⟩)⟩)⟩
def woX0_print : List Cond := [.methodLink RX0 121 yX0_writerOf, .instanceMethod yX0_writerOf, .selects RX0 yX0_writerOf yX0_writerOf, .initialized RX0, .fieldLink RX0 125 "SpoolRows$Writer" "taken" "LSpoolRows$Output;", .methodLink RX0 133 yX1_pagesToPrint, .instanceMethod yX1_pagesToPrint, .selects RX1 yX1_pagesToPrint yX1_pagesToPrint, .initialized RX1, .methodLink RX0 32 Lib.Math.min.name, .static Lib.Math.min.name, .initialized "java/lang/Math", .code Lib.Math.min.name Lib.Math.min.code 2 (some .int), .fieldLink RX0 137 "SpoolRows$Output" "printed" "I", .fieldLink RX0 140 "SpoolRows" "pagesPrinted" "I", .methodLink RX0 143 yX0_noteInOrder, .instanceMethod yX0_noteInOrder, .selects RX0 yX0_noteInOrder yX0_noteInOrder, .methodLink RX0 146 yX0_letGo, .instanceMethod yX0_letGo, .selects RX0 yX0_letGo yX0_letGo]
def wsX0_print : List Cond := .code yX0_print cX0_print 6 (some .int) :: (woX0_print ++ (wsX20 ++ (wsX10 ++ (wsX00 ++ (wsX0_writerOf ++ (wsX1_pagesToPrint ++ (wsX0_noteInOrder ++ wsX0_letGo)))))))
theorem gdX0_print : ∀ w ∈ wsX0_print, goodWord w = true := List.forall_mem_cons.mpr ⟨rfl, (List.forall_mem_append.mpr ⟨(by decide +kernel), (List.forall_mem_append.mpr ⟨gdX2, (List.forall_mem_append.mpr ⟨gdX1, (List.forall_mem_append.mpr ⟨gdX0, (List.forall_mem_append.mpr ⟨gdX0_writerOf, (List.forall_mem_append.mpr ⟨gdX1_pagesToPrint, (List.forall_mem_append.mpr ⟨gdX0_noteInOrder, gdX0_letGo⟩)⟩)⟩)⟩)⟩)⟩)⟩)⟩
def woX3_print : List Cond := [.methodLink RX3 100 yX3_isWriter, .instanceMethod yX3_isWriter, .selects RX3 yX3_isWriter yX3_isWriter, .initialized RX3, .fieldLink RX3 56 "SpoolRowsModel" "has" "[I", .methodLink RX3 77 yX3_pagesOf, .instanceMethod yX3_pagesOf, .selects RX3 yX3_pagesOf yX3_pagesOf, .fieldLink RX3 16 "SpoolRowsModel" "copies" "[I", .fieldLink RX3 34 "SpoolRowsModel" "done" "[I", .fieldLink RX3 107 "SpoolRowsModel" "pagesPrinted" "I", .methodLink RX3 96 yX3_goes, .instanceMethod yX3_goes, .selects RX3 yX3_goes yX3_goes, .fieldLink RX3 59 "SpoolRowsModel" "printed" "[I", .fieldLink RX3 110 "SpoolRowsModel" "finished" "I"]
def wsX3_print : List Cond := .code yX3_print cX3_print 6 (some .int) :: (woX3_print ++ (wsX30 ++ (wsX3_isWriter ++ (wsX3_pagesOf ++ wsX3_goes))))
theorem gdX3_print : ∀ w ∈ wsX3_print, goodWord w = true := List.forall_mem_cons.mpr ⟨rfl, (List.forall_mem_append.mpr ⟨(by decide +kernel), (List.forall_mem_append.mpr ⟨gdX3, (List.forall_mem_append.mpr ⟨gdX3_isWriter, (List.forall_mem_append.mpr ⟨gdX3_pagesOf, gdX3_goes⟩)⟩)⟩)⟩)⟩
def woX1_lastCheckpoint : List Cond := [.fieldLink RX1 50 "SpoolRows$Output" "printed" "I"]
def wsX1_lastCheckpoint : List Cond := .code yX1_lastCheckpoint cX1_lastCheckpoint 1 (some .int) :: (woX1_lastCheckpoint ++ wsX10)
theorem gdX1_lastCheckpoint : ∀ w ∈ wsX1_lastCheckpoint, goodWord w = true := List.forall_mem_cons.mpr ⟨rfl, (List.forall_mem_append.mpr ⟨(by decide +kernel), gdX1⟩)⟩
def woX0_cut : List Cond := [.methodLink RX0 121 yX0_writerOf, .instanceMethod yX0_writerOf, .selects RX0 yX0_writerOf yX0_writerOf, .initialized RX0, .fieldLink RX0 125 "SpoolRows$Writer" "taken" "LSpoolRows$Output;", .methodLink RX0 149 yX1_lastCheckpoint, .instanceMethod yX1_lastCheckpoint, .selects RX1 yX1_lastCheckpoint yX1_lastCheckpoint, .initialized RX1, .fieldLink RX0 152 "SpoolRows$Output" "purgeWaits" "Z", .methodLink RX0 146 yX0_letGo, .instanceMethod yX0_letGo, .selects RX0 yX0_letGo yX0_letGo, .fieldLink RX0 155 "SpoolRows" "pagesAgain" "I", .fieldLink RX0 137 "SpoolRows$Output" "printed" "I"]
def wsX0_cut : List Cond := .code yX0_cut cX0_cut 5 (some .int) :: (woX0_cut ++ (wsX20 ++ (wsX10 ++ (wsX00 ++ (wsX0_writerOf ++ (wsX1_lastCheckpoint ++ wsX0_letGo))))))
theorem gdX0_cut : ∀ w ∈ wsX0_cut, goodWord w = true := List.forall_mem_cons.mpr ⟨rfl, (List.forall_mem_append.mpr ⟨(by decide +kernel), (List.forall_mem_append.mpr ⟨gdX2, (List.forall_mem_append.mpr ⟨gdX1, (List.forall_mem_append.mpr ⟨gdX0, (List.forall_mem_append.mpr ⟨gdX0_writerOf, (List.forall_mem_append.mpr ⟨gdX1_lastCheckpoint, gdX0_letGo⟩)⟩)⟩)⟩)⟩)⟩)⟩
def woX3_cut : List Cond := [.methodLink RX3 100 yX3_isWriter, .instanceMethod yX3_isWriter, .selects RX3 yX3_isWriter yX3_isWriter, .initialized RX3, .fieldLink RX3 56 "SpoolRowsModel" "has" "[I", .fieldLink RX3 34 "SpoolRowsModel" "done" "[I", .fieldLink RX3 44 "SpoolRowsModel" "waits" "[Z", .methodLink RX3 96 yX3_goes, .instanceMethod yX3_goes, .selects RX3 yX3_goes yX3_goes, .fieldLink RX3 113 "SpoolRowsModel" "again" "I"]
def wsX3_cut : List Cond := .code yX3_cut cX3_cut 4 (some .int) :: (woX3_cut ++ (wsX30 ++ (wsX3_isWriter ++ wsX3_goes)))
theorem gdX3_cut : ∀ w ∈ wsX3_cut, goodWord w = true := List.forall_mem_cons.mpr ⟨rfl, (List.forall_mem_append.mpr ⟨(by decide +kernel), (List.forall_mem_append.mpr ⟨gdX3, (List.forall_mem_append.mpr ⟨gdX3_isWriter, gdX3_goes⟩)⟩)⟩)⟩
def woX0_purge : List Cond := [.methodLink RX0 63 yX0_outputOf, .instanceMethod yX0_outputOf, .selects RX0 yX0_outputOf yX0_outputOf, .initialized RX0, .methodLink RX0 87 yX1_isGone, .instanceMethod yX1_isGone, .selects RX1 yX1_isGone yX1_isGone, .initialized RX1, .fieldLink RX0 68 "SpoolRows$Output" "state" "I", .fieldLink RX0 152 "SpoolRows$Output" "purgeWaits" "Z", .methodLink RX0 146 yX0_letGo, .instanceMethod yX0_letGo, .selects RX0 yX0_letGo yX0_letGo]
def wsX0_purge : List Cond := .code yX0_purge cX0_purge 3 (some .int) :: (woX0_purge ++ (wsX10 ++ (wsX0_outputOf ++ (wsX1_isGone ++ wsX0_letGo))))
theorem gdX0_purge : ∀ w ∈ wsX0_purge, goodWord w = true := List.forall_mem_cons.mpr ⟨rfl, (List.forall_mem_append.mpr ⟨(by decide +kernel), (List.forall_mem_append.mpr ⟨gdX1, (List.forall_mem_append.mpr ⟨gdX0_outputOf, (List.forall_mem_append.mpr ⟨gdX1_isGone, gdX0_letGo⟩)⟩)⟩)⟩)⟩
def woX3_purge : List Cond := [.methodLink RX3 89 yX3_isOutput, .instanceMethod yX3_isOutput, .selects RX3 yX3_isOutput yX3_isOutput, .initialized RX3, .methodLink RX3 73 yX3_isGone, .instanceMethod yX3_isGone, .selects RX3 yX3_isGone yX3_isGone, .fieldLink RX3 25 "SpoolRowsModel" "states" "[I", .fieldLink RX3 44 "SpoolRowsModel" "waits" "[Z", .methodLink RX3 96 yX3_goes, .instanceMethod yX3_goes, .selects RX3 yX3_goes yX3_goes]
def wsX3_purge : List Cond := .code yX3_purge cX3_purge 2 (some .int) :: (woX3_purge ++ (wsX30 ++ (wsX3_isOutput ++ (wsX3_isGone ++ wsX3_goes))))
theorem gdX3_purge : ∀ w ∈ wsX3_purge, goodWord w = true := List.forall_mem_cons.mpr ⟨rfl, (List.forall_mem_append.mpr ⟨(by decide +kernel), (List.forall_mem_append.mpr ⟨gdX3, (List.forall_mem_append.mpr ⟨gdX3_isOutput, (List.forall_mem_append.mpr ⟨gdX3_isGone, gdX3_goes⟩)⟩)⟩)⟩)⟩
def woX1_isOpenOrReleased : List Cond := [.fieldLink RX1 9 "SpoolRows$Output" "state" "I"]
def wsX1_isOpenOrReleased : List Cond := .code yX1_isOpenOrReleased cX1_isOpenOrReleased 1 (some .boolean) :: (woX1_isOpenOrReleased ++ wsX10)
theorem gdX1_isOpenOrReleased : ∀ w ∈ wsX1_isOpenOrReleased, goodWord w = true := List.forall_mem_cons.mpr ⟨rfl, (List.forall_mem_append.mpr ⟨(by decide +kernel), gdX1⟩)⟩
def woX0_hold : List Cond := [.methodLink RX0 63 yX0_outputOf, .instanceMethod yX0_outputOf, .selects RX0 yX0_outputOf yX0_outputOf, .initialized RX0, .methodLink RX0 158 yX1_isOpenOrReleased, .instanceMethod yX1_isOpenOrReleased, .selects RX1 yX1_isOpenOrReleased yX1_isOpenOrReleased, .initialized RX1, .fieldLink RX0 161 "SpoolRows$Output" "held" "Z"]
def wsX0_hold : List Cond := .code yX0_hold cX0_hold 5 (some .int) :: (woX0_hold ++ (wsX10 ++ (wsX0_outputOf ++ wsX1_isOpenOrReleased)))
theorem gdX0_hold : ∀ w ∈ wsX0_hold, goodWord w = true := List.forall_mem_cons.mpr ⟨rfl, (List.forall_mem_append.mpr ⟨(by decide +kernel), (List.forall_mem_append.mpr ⟨gdX1, (List.forall_mem_append.mpr ⟨gdX0_outputOf, gdX1_isOpenOrReleased⟩)⟩)⟩)⟩
def woX3_isStill : List Cond := [.fieldLink RX3 25 "SpoolRowsModel" "states" "[I"]
def wsX3_isStill : List Cond := .code yX3_isStill cX3_isStill 2 (some .boolean) :: (woX3_isStill ++ wsX30)
theorem gdX3_isStill : ∀ w ∈ wsX3_isStill, goodWord w = true := List.forall_mem_cons.mpr ⟨rfl, (List.forall_mem_append.mpr ⟨(by decide +kernel), gdX3⟩)⟩
def woX3_hold : List Cond := [.methodLink RX3 89 yX3_isOutput, .instanceMethod yX3_isOutput, .selects RX3 yX3_isOutput yX3_isOutput, .initialized RX3, .methodLink RX3 116 yX3_isStill, .instanceMethod yX3_isStill, .selects RX3 yX3_isStill yX3_isStill, .fieldLink RX3 41 "SpoolRowsModel" "held" "[Z"]
def wsX3_hold : List Cond := .code yX3_hold cX3_hold 4 (some .int) :: (woX3_hold ++ (wsX30 ++ (wsX3_isOutput ++ wsX3_isStill)))
theorem gdX3_hold : ∀ w ∈ wsX3_hold, goodWord w = true := List.forall_mem_cons.mpr ⟨rfl, (List.forall_mem_append.mpr ⟨(by decide +kernel), (List.forall_mem_append.mpr ⟨gdX3, (List.forall_mem_append.mpr ⟨gdX3_isOutput, gdX3_isStill⟩)⟩)⟩)⟩
def woX0_route : List Cond := [.methodLink RX0 63 yX0_outputOf, .instanceMethod yX0_outputOf, .selects RX0 yX0_outputOf yX0_outputOf, .initialized RX0, .methodLink RX0 48 yX0_isWithin, .static yX0_isWithin, .methodLink RX0 158 yX1_isOpenOrReleased, .instanceMethod yX1_isOpenOrReleased, .selects RX1 yX1_isOpenOrReleased yX1_isOpenOrReleased, .initialized RX1, .fieldLink RX0 164 "SpoolRows$Output" "priority" "I", .fieldLink RX0 167 "SpoolRows$Output" "destination" "I"]
def wsX0_route : List Cond := .code yX0_route cX0_route 5 (some .int) :: (woX0_route ++ (wsX10 ++ (wsX0_outputOf ++ (wsX0_isWithin ++ wsX1_isOpenOrReleased))))
theorem gdX0_route : ∀ w ∈ wsX0_route, goodWord w = true := List.forall_mem_cons.mpr ⟨rfl, (List.forall_mem_append.mpr ⟨(by decide +kernel), (List.forall_mem_append.mpr ⟨gdX1, (List.forall_mem_append.mpr ⟨gdX0_outputOf, (List.forall_mem_append.mpr ⟨gdX0_isWithin, gdX1_isOpenOrReleased⟩)⟩)⟩)⟩)⟩
def woX3_route : List Cond := [.methodLink RX3 89 yX3_isOutput, .instanceMethod yX3_isOutput, .selects RX3 yX3_isOutput yX3_isOutput, .initialized RX3, .methodLink RX3 116 yX3_isStill, .instanceMethod yX3_isStill, .selects RX3 yX3_isStill yX3_isStill, .fieldLink RX3 22 "SpoolRowsModel" "priorities" "[I", .fieldLink RX3 19 "SpoolRowsModel" "destinations" "[I"]
def wsX3_route : List Cond := .code yX3_route cX3_route 4 (some .int) :: (woX3_route ++ (wsX30 ++ (wsX3_isOutput ++ wsX3_isStill)))
theorem gdX3_route : ∀ w ∈ wsX3_route, goodWord w = true := List.forall_mem_cons.mpr ⟨rfl, (List.forall_mem_append.mpr ⟨(by decide +kernel), (List.forall_mem_append.mpr ⟨gdX3, (List.forall_mem_append.mpr ⟨gdX3_isOutput, gdX3_isStill⟩)⟩)⟩)⟩
def woX0_isThere : List Cond := [.methodLink RX0 63 yX0_outputOf, .instanceMethod yX0_outputOf, .selects RX0 yX0_outputOf yX0_outputOf, .initialized RX0, .methodLink RX0 87 yX1_isGone, .instanceMethod yX1_isGone, .selects RX1 yX1_isGone yX1_isGone, .initialized RX1]
def wsX0_isThere : List Cond := .code yX0_isThere cX0_isThere 3 (some .boolean) :: (woX0_isThere ++ (wsX0_outputOf ++ wsX1_isGone))
theorem gdX0_isThere : ∀ w ∈ wsX0_isThere, goodWord w = true := List.forall_mem_cons.mpr ⟨rfl, (List.forall_mem_append.mpr ⟨(by decide +kernel), (List.forall_mem_append.mpr ⟨gdX0_outputOf, gdX1_isGone⟩)⟩)⟩
def woX0_search : List Cond := [.methodLink RX0 48 yX0_isWithin, .static yX0_isWithin, .initialized RX0, .fieldLink RX0 170 "SpoolRows" "keptLines" "I", .fieldLink RX0 25 "SpoolRows" "lineSigns" "[I", .fieldLink RX0 28 "SpoolRows" "lineOutputs" "[I", .methodLink RX0 173 yX0_isThere, .instanceMethod yX0_isThere, .selects RX0 yX0_isThere yX0_isThere]
def wsX0_search : List Cond := .code yX0_search cX0_search 4 (some .int) :: (woX0_search ++ (wsX00 ++ (wsX0_isWithin ++ wsX0_isThere)))
theorem gdX0_search : ∀ w ∈ wsX0_search, goodWord w = true := List.forall_mem_cons.mpr ⟨rfl, (List.forall_mem_append.mpr ⟨(by decide +kernel), (List.forall_mem_append.mpr ⟨gdX0, (List.forall_mem_append.mpr ⟨gdX0_isWithin, gdX0_isThere⟩)⟩)⟩)⟩
def woX3_search : List Cond := [.fieldLink RX3 93 "SpoolRowsModel" "all" "I", .fieldLink RX3 50 "SpoolRowsModel" "signs" "[I", .fieldLink RX3 47 "SpoolRowsModel" "owners" "[I", .methodLink RX3 73 yX3_isGone, .instanceMethod yX3_isGone, .selects RX3 yX3_isGone yX3_isGone, .initialized RX3]
def wsX3_search : List Cond := .code yX3_search cX3_search 4 (some .int) :: (woX3_search ++ (wsX30 ++ wsX3_isGone))
theorem gdX3_search : ∀ w ∈ wsX3_search, goodWord w = true := List.forall_mem_cons.mpr ⟨rfl, (List.forall_mem_append.mpr ⟨(by decide +kernel), (List.forall_mem_append.mpr ⟨gdX3, gdX3_isGone⟩)⟩)⟩
def woX0_order : List Cond := [.fieldLink RX0 176 "SpoolRows" "printedCount" "I", .methodLink RX0 48 yX0_isWithin, .static yX0_isWithin, .initialized RX0, .fieldLink RX0 21 "SpoolRows" "printedOrder" "[I"]
def wsX0_order : List Cond := .code yX0_order cX0_order 2 (some .int) :: (woX0_order ++ (wsX00 ++ wsX0_isWithin))
theorem gdX0_order : ∀ w ∈ wsX0_order, goodWord w = true := List.forall_mem_cons.mpr ⟨rfl, (List.forall_mem_append.mpr ⟨(by decide +kernel), (List.forall_mem_append.mpr ⟨gdX0, gdX0_isWithin⟩)⟩)⟩
def woX3_order : List Cond := [.fieldLink RX3 110 "SpoolRowsModel" "finished" "I", .fieldLink RX3 59 "SpoolRowsModel" "printed" "[I"]
def wsX3_order : List Cond := .code yX3_order cX3_order 2 (some .int) :: (woX3_order ++ wsX30)
theorem gdX3_order : ∀ w ∈ wsX3_order, goodWord w = true := List.forall_mem_cons.mpr ⟨rfl, (List.forall_mem_append.mpr ⟨(by decide +kernel), gdX3⟩)⟩
def woX1_copiesLeft : List Cond := [.methodLink RX1 46 yX1_pageCount, .instanceMethod yX1_pageCount, .selects RX1 yX1_pageCount yX1_pageCount, .initialized RX1, .fieldLink RX1 24 "SpoolRows$Output" "copies" "I", .fieldLink RX1 50 "SpoolRows$Output" "printed" "I"]
def wsX1_copiesLeft : List Cond := .code yX1_copiesLeft cX1_copiesLeft 2 (some .int) :: (woX1_copiesLeft ++ (wsX10 ++ wsX1_pageCount))
theorem gdX1_copiesLeft : ∀ w ∈ wsX1_copiesLeft, goodWord w = true := List.forall_mem_cons.mpr ⟨rfl, (List.forall_mem_append.mpr ⟨(by decide +kernel), (List.forall_mem_append.mpr ⟨gdX1, gdX1_pageCount⟩)⟩)⟩
def woX0_state : List Cond := [.methodLink RX0 63 yX0_outputOf, .instanceMethod yX0_outputOf, .selects RX0 yX0_outputOf yX0_outputOf, .initialized RX0, .fieldLink RX0 161 "SpoolRows$Output" "held" "Z", .fieldLink RX0 68 "SpoolRows$Output" "state" "I", .fieldLink RX0 103 "SpoolRows$Output" "lines" "I", .methodLink RX0 179 yX1_pageCount, .instanceMethod yX1_pageCount, .selects RX1 yX1_pageCount yX1_pageCount, .initialized RX1, .fieldLink RX0 137 "SpoolRows$Output" "printed" "I", .fieldLink RX0 96 "SpoolRows$Output" "job" "I", .methodLink RX0 182 yX1_copiesLeft, .instanceMethod yX1_copiesLeft, .selects RX1 yX1_copiesLeft yX1_copiesLeft]
def wsX0_state : List Cond := .code yX0_state cX0_state 4 (some .int) :: (woX0_state ++ (wsX10 ++ (wsX0_outputOf ++ (wsX1_pageCount ++ wsX1_copiesLeft))))
theorem gdX0_state : ∀ w ∈ wsX0_state, goodWord w = true := List.forall_mem_cons.mpr ⟨rfl, (List.forall_mem_append.mpr ⟨(by decide +kernel), (List.forall_mem_append.mpr ⟨gdX1, (List.forall_mem_append.mpr ⟨gdX0_outputOf, (List.forall_mem_append.mpr ⟨gdX1_pageCount, gdX1_copiesLeft⟩)⟩)⟩)⟩)⟩
def woX3_state : List Cond := [.methodLink RX3 89 yX3_isOutput, .instanceMethod yX3_isOutput, .selects RX3 yX3_isOutput yX3_isOutput, .initialized RX3, .methodLink RX3 77 yX3_pagesOf, .instanceMethod yX3_pagesOf, .selects RX3 yX3_pagesOf yX3_pagesOf, .fieldLink RX3 25 "SpoolRowsModel" "states" "[I", .fieldLink RX3 41 "SpoolRowsModel" "held" "[Z", .fieldLink RX3 28 "SpoolRowsModel" "lines" "[I", .fieldLink RX3 34 "SpoolRowsModel" "done" "[I", .fieldLink RX3 7 "SpoolRowsModel" "jobs" "[I", .fieldLink RX3 16 "SpoolRowsModel" "copies" "[I"]
def wsX3_state : List Cond := .code yX3_state cX3_state 4 (some .int) :: (woX3_state ++ (wsX30 ++ (wsX3_isOutput ++ wsX3_pagesOf)))
theorem gdX3_state : ∀ w ∈ wsX3_state, goodWord w = true := List.forall_mem_cons.mpr ⟨rfl, (List.forall_mem_append.mpr ⟨(by decide +kernel), (List.forall_mem_append.mpr ⟨gdX3, (List.forall_mem_append.mpr ⟨gdX3_isOutput, gdX3_pagesOf⟩)⟩)⟩)⟩
def woX0_outputsThere : List Cond := [.fieldLink RX0 93 "SpoolRows" "outputCount" "I", .methodLink RX0 173 yX0_isThere, .instanceMethod yX0_isThere, .selects RX0 yX0_isThere yX0_isThere, .initialized RX0]
def wsX0_outputsThere : List Cond := .code yX0_outputsThere cX0_outputsThere 3 (some .int) :: (woX0_outputsThere ++ (wsX00 ++ wsX0_isThere))
theorem gdX0_outputsThere : ∀ w ∈ wsX0_outputsThere, goodWord w = true := List.forall_mem_cons.mpr ⟨rfl, (List.forall_mem_append.mpr ⟨(by decide +kernel), (List.forall_mem_append.mpr ⟨gdX0, gdX0_isThere⟩)⟩)⟩
def woX0_count : List Cond := [.fieldLink RX0 41 "SpoolRows" "freePages" "I", .methodLink RX0 185 yX0_outputsThere, .instanceMethod yX0_outputsThere, .selects RX0 yX0_outputsThere yX0_outputsThere, .initialized RX0, .fieldLink RX0 115 "SpoolRows" "writerCount" "I", .fieldLink RX0 140 "SpoolRows" "pagesPrinted" "I", .fieldLink RX0 155 "SpoolRows" "pagesAgain" "I"]
def wsX0_count : List Cond := .code yX0_count cX0_count 2 (some .int) :: (woX0_count ++ (wsX00 ++ wsX0_outputsThere))
theorem gdX0_count : ∀ w ∈ wsX0_count, goodWord w = true := List.forall_mem_cons.mpr ⟨rfl, (List.forall_mem_append.mpr ⟨(by decide +kernel), (List.forall_mem_append.mpr ⟨gdX0, gdX0_outputsThere⟩)⟩)⟩
def woX3_count : List Cond := [.fieldLink RX3 67 "SpoolRowsModel" "outputs" "I", .methodLink RX3 73 yX3_isGone, .instanceMethod yX3_isGone, .selects RX3 yX3_isGone yX3_isGone, .initialized RX3, .methodLink RX3 81 yX3_free, .instanceMethod yX3_free, .selects RX3 yX3_free yX3_free, .fieldLink RX3 70 "SpoolRowsModel" "writers" "I", .fieldLink RX3 107 "SpoolRowsModel" "pagesPrinted" "I", .fieldLink RX3 113 "SpoolRowsModel" "again" "I"]
def wsX3_count : List Cond := .code yX3_count cX3_count 4 (some .int) :: (woX3_count ++ (wsX30 ++ (wsX3_isGone ++ wsX3_free)))
theorem gdX3_count : ∀ w ∈ wsX3_count, goodWord w = true := List.forall_mem_cons.mpr ⟨rfl, (List.forall_mem_append.mpr ⟨(by decide +kernel), (List.forall_mem_append.mpr ⟨gdX3, (List.forall_mem_append.mpr ⟨gdX3_isGone, gdX3_free⟩)⟩)⟩)⟩
