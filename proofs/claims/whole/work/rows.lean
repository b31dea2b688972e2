section
-- ===== PART A: goes FIRST, ahead of the names: the tables' words, and 'selects' of the private methods out of them =====
/-- a private method of a class that the tables say can be made, by its rows of tables_1 -/
def lw_okq (q : MethodName × Nat) : Prop := (q.1.cls ≠ "java/lang/invoke/MethodHandle" ∧ q.1.cls ≠ "java/lang/invoke/VarHandle") ∧ Cond.instantiable q.1.cls q.2 ∈ tables_1 ∧ Cond.privateMethod q.1 ∈ tables_1 ∧ Cond.instanceMethod q.1 ∈ tables_1
theorem lw_p0 : lw_okq (⟨"SpoolRows", "hasOutputThere", "(I)Z"⟩, 13) := ⟨⟨by decide +kernel, by decide +kernel⟩, List.mem_of_getElem? (i := 7) (by decide +kernel), List.mem_of_getElem? (i := 74) (by decide +kernel), List.mem_of_getElem? (i := 75) (by decide +kernel)⟩
theorem lw_p1 : lw_okq (⟨"SpoolRows", "addOutput", "(III)LSpoolRows$Output;"⟩, 13) := ⟨⟨by decide +kernel, by decide +kernel⟩, List.mem_of_getElem? (i := 7) (by decide +kernel), List.mem_of_getElem? (i := 82) (by decide +kernel), List.mem_of_getElem? (i := 83) (by decide +kernel)⟩
theorem lw_p2 : lw_okq (⟨"SpoolRows", "outputOf", "(I)LSpoolRows$Output;"⟩, 13) := ⟨⟨by decide +kernel, by decide +kernel⟩, List.mem_of_getElem? (i := 7) (by decide +kernel), List.mem_of_getElem? (i := 149) (by decide +kernel), List.mem_of_getElem? (i := 150) (by decide +kernel)⟩
theorem lw_p3 : lw_okq (⟨"SpoolRows", "hasRoomForLine", "(LSpoolRows$Output;)Z"⟩, 13) := ⟨⟨by decide +kernel, by decide +kernel⟩, List.mem_of_getElem? (i := 7) (by decide +kernel), List.mem_of_getElem? (i := 158) (by decide +kernel), List.mem_of_getElem? (i := 159) (by decide +kernel)⟩
theorem lw_p4 : lw_okq (⟨"SpoolRows", "takeLine", "(LSpoolRows$Output;I)V"⟩, 13) := ⟨⟨by decide +kernel, by decide +kernel⟩, List.mem_of_getElem? (i := 7) (by decide +kernel), List.mem_of_getElem? (i := 166) (by decide +kernel), List.mem_of_getElem? (i := 167) (by decide +kernel)⟩
theorem lw_p5 : lw_okq (⟨"SpoolRows", "releaseOrPurge", "(LSpoolRows$Output;)V"⟩, 13) := ⟨⟨by decide +kernel, by decide +kernel⟩, List.mem_of_getElem? (i := 7) (by decide +kernel), List.mem_of_getElem? (i := 178) (by decide +kernel), List.mem_of_getElem? (i := 179) (by decide +kernel)⟩
theorem lw_p6 : lw_okq (⟨"SpoolRows", "letGo", "(LSpoolRows$Output;I)V"⟩, 13) := ⟨⟨by decide +kernel, by decide +kernel⟩, List.mem_of_getElem? (i := 7) (by decide +kernel), List.mem_of_getElem? (i := 182) (by decide +kernel), List.mem_of_getElem? (i := 183) (by decide +kernel)⟩
theorem lw_p7 : lw_okq (⟨"SpoolRows", "writerOf", "(I)LSpoolRows$Writer;"⟩, 13) := ⟨⟨by decide +kernel, by decide +kernel⟩, List.mem_of_getElem? (i := 7) (by decide +kernel), List.mem_of_getElem? (i := 221) (by decide +kernel), List.mem_of_getElem? (i := 222) (by decide +kernel)⟩
theorem lw_p8 : lw_okq (⟨"SpoolRows", "firstFor", "(LSpoolRows$Writer;)LSpoolRows$Output;"⟩, 13) := ⟨⟨by decide +kernel, by decide +kernel⟩, List.mem_of_getElem? (i := 7) (by decide +kernel), List.mem_of_getElem? (i := 225) (by decide +kernel), List.mem_of_getElem? (i := 226) (by decide +kernel)⟩
theorem lw_p9 : lw_okq (⟨"SpoolRows", "noteInOrder", "(LSpoolRows$Output;)V"⟩, 13) := ⟨⟨by decide +kernel, by decide +kernel⟩, List.mem_of_getElem? (i := 7) (by decide +kernel), List.mem_of_getElem? (i := 250) (by decide +kernel), List.mem_of_getElem? (i := 251) (by decide +kernel)⟩
theorem lw_p10 : lw_okq (⟨"SpoolRows", "isThere", "(I)Z"⟩, 13) := ⟨⟨by decide +kernel, by decide +kernel⟩, List.mem_of_getElem? (i := 7) (by decide +kernel), List.mem_of_getElem? (i := 282) (by decide +kernel), List.mem_of_getElem? (i := 283) (by decide +kernel)⟩
theorem lw_p11 : lw_okq (⟨"SpoolRows", "outputsThere", "()I"⟩, 13) := ⟨⟨by decide +kernel, by decide +kernel⟩, List.mem_of_getElem? (i := 7) (by decide +kernel), List.mem_of_getElem? (i := 302) (by decide +kernel), List.mem_of_getElem? (i := 303) (by decide +kernel)⟩
theorem lw_p12 : lw_okq (⟨"SpoolRowsModel", "isGone", "(I)Z"⟩, 24) := ⟨⟨by decide +kernel, by decide +kernel⟩, List.mem_of_getElem? (i := 309) (by decide +kernel), List.mem_of_getElem? (i := 394) (by decide +kernel), List.mem_of_getElem? (i := 395) (by decide +kernel)⟩
theorem lw_p13 : lw_okq (⟨"SpoolRowsModel", "free", "()I"⟩, 24) := ⟨⟨by decide +kernel, by decide +kernel⟩, List.mem_of_getElem? (i := 309) (by decide +kernel), List.mem_of_getElem? (i := 398) (by decide +kernel), List.mem_of_getElem? (i := 399) (by decide +kernel)⟩
theorem lw_p14 : lw_okq (⟨"SpoolRowsModel", "pagesOf", "(I)I"⟩, 24) := ⟨⟨by decide +kernel, by decide +kernel⟩, List.mem_of_getElem? (i := 309) (by decide +kernel), List.mem_of_getElem? (i := 402) (by decide +kernel), List.mem_of_getElem? (i := 403) (by decide +kernel)⟩
theorem lw_p15 : lw_okq (⟨"SpoolRowsModel", "create", "(IIIII)V"⟩, 24) := ⟨⟨by decide +kernel, by decide +kernel⟩, List.mem_of_getElem? (i := 309) (by decide +kernel), List.mem_of_getElem? (i := 406) (by decide +kernel), List.mem_of_getElem? (i := 407) (by decide +kernel)⟩
def lw_privs_1 : List (MethodName × Nat) := [(⟨"SpoolRows", "hasOutputThere", "(I)Z"⟩, 13), (⟨"SpoolRows", "addOutput", "(III)LSpoolRows$Output;"⟩, 13), (⟨"SpoolRows", "outputOf", "(I)LSpoolRows$Output;"⟩, 13), (⟨"SpoolRows", "hasRoomForLine", "(LSpoolRows$Output;)Z"⟩, 13), (⟨"SpoolRows", "takeLine", "(LSpoolRows$Output;I)V"⟩, 13), (⟨"SpoolRows", "releaseOrPurge", "(LSpoolRows$Output;)V"⟩, 13), (⟨"SpoolRows", "letGo", "(LSpoolRows$Output;I)V"⟩, 13), (⟨"SpoolRows", "writerOf", "(I)LSpoolRows$Writer;"⟩, 13), (⟨"SpoolRows", "firstFor", "(LSpoolRows$Writer;)LSpoolRows$Output;"⟩, 13), (⟨"SpoolRows", "noteInOrder", "(LSpoolRows$Output;)V"⟩, 13), (⟨"SpoolRows", "isThere", "(I)Z"⟩, 13), (⟨"SpoolRows", "outputsThere", "()I"⟩, 13), (⟨"SpoolRowsModel", "isGone", "(I)Z"⟩, 24), (⟨"SpoolRowsModel", "free", "()I"⟩, 24), (⟨"SpoolRowsModel", "pagesOf", "(I)I"⟩, 24), (⟨"SpoolRowsModel", "create", "(IIIII)V"⟩, 24)]
theorem lw_r1 : ∀ q ∈ lw_privs_1, lw_okq q := List.forall_mem_cons.mpr ⟨lw_p0, List.forall_mem_cons.mpr ⟨lw_p1, List.forall_mem_cons.mpr ⟨lw_p2, List.forall_mem_cons.mpr ⟨lw_p3, List.forall_mem_cons.mpr ⟨lw_p4, List.forall_mem_cons.mpr ⟨lw_p5, List.forall_mem_cons.mpr ⟨lw_p6, List.forall_mem_cons.mpr ⟨lw_p7, List.forall_mem_cons.mpr ⟨lw_p8, List.forall_mem_cons.mpr ⟨lw_p9, List.forall_mem_cons.mpr ⟨lw_p10, List.forall_mem_cons.mpr ⟨lw_p11, List.forall_mem_cons.mpr ⟨lw_p12, List.forall_mem_cons.mpr ⟨lw_p13, List.forall_mem_cons.mpr ⟨lw_p14, List.forall_mem_cons.mpr ⟨lw_p15, fun _ h => absurd h List.not_mem_nil⟩⟩⟩⟩⟩⟩⟩⟩⟩⟩⟩⟩⟩⟩⟩⟩
theorem lw_p16 : lw_okq (⟨"SpoolRowsModel", "isOutput", "(I)Z"⟩, 24) := ⟨⟨by decide +kernel, by decide +kernel⟩, List.mem_of_getElem? (i := 309) (by decide +kernel), List.mem_of_getElem? (i := 414) (by decide +kernel), List.mem_of_getElem? (i := 415) (by decide +kernel)⟩
theorem lw_p17 : lw_okq (⟨"SpoolRowsModel", "goes", "(II)V"⟩, 24) := ⟨⟨by decide +kernel, by decide +kernel⟩, List.mem_of_getElem? (i := 309) (by decide +kernel), List.mem_of_getElem? (i := 427) (by decide +kernel), List.mem_of_getElem? (i := 428) (by decide +kernel)⟩
theorem lw_p18 : lw_okq (⟨"SpoolRowsModel", "isWriter", "(I)Z"⟩, 24) := ⟨⟨by decide +kernel, by decide +kernel⟩, List.mem_of_getElem? (i := 309) (by decide +kernel), List.mem_of_getElem? (i := 443) (by decide +kernel), List.mem_of_getElem? (i := 444) (by decide +kernel)⟩
theorem lw_p19 : lw_okq (⟨"SpoolRowsModel", "fits", "(II)Z"⟩, 24) := ⟨⟨by decide +kernel, by decide +kernel⟩, List.mem_of_getElem? (i := 309) (by decide +kernel), List.mem_of_getElem? (i := 447) (by decide +kernel), List.mem_of_getElem? (i := 448) (by decide +kernel)⟩
theorem lw_p20 : lw_okq (⟨"SpoolRowsModel", "isStill", "(I)Z"⟩, 24) := ⟨⟨by decide +kernel, by decide +kernel⟩, List.mem_of_getElem? (i := 309) (by decide +kernel), List.mem_of_getElem? (i := 467) (by decide +kernel), List.mem_of_getElem? (i := 468) (by decide +kernel)⟩
def lw_privs_2 : List (MethodName × Nat) := [(⟨"SpoolRowsModel", "isOutput", "(I)Z"⟩, 24), (⟨"SpoolRowsModel", "goes", "(II)V"⟩, 24), (⟨"SpoolRowsModel", "isWriter", "(I)Z"⟩, 24), (⟨"SpoolRowsModel", "fits", "(II)Z"⟩, 24), (⟨"SpoolRowsModel", "isStill", "(I)Z"⟩, 24)]
theorem lw_r2 : ∀ q ∈ lw_privs_2, lw_okq q := List.forall_mem_cons.mpr ⟨lw_p16, List.forall_mem_cons.mpr ⟨lw_p17, List.forall_mem_cons.mpr ⟨lw_p18, List.forall_mem_cons.mpr ⟨lw_p19, List.forall_mem_cons.mpr ⟨lw_p20, fun _ h => absurd h List.not_mem_nil⟩⟩⟩⟩⟩
def lw_privs : List (MethodName × Nat) := lw_privs_1 ++ (lw_privs_2)
def lw_tbl : List Cond := k2_sels lw_privs ++ tables_1
theorem lw_privs_ok : ∀ q ∈ lw_privs, lw_okq q := by
  show ∀ q ∈ lw_privs_1 ++ (lw_privs_2), lw_okq q
  exact List.forall_mem_append.mpr ⟨lw_r1, lw_r2⟩
theorem goodIn_r {big : List Cond} (ws : List Cond) (ps : List Nat) (hp : ws = ps.filterMap (fun i => big[i]?)) (h : ws.all goodWord = true) : GoodIn big ws := by
  intro w hw
  have h1 := List.all_eq_true.mp h w hw
  rw [hp] at hw
  obtain ⟨i, -, hi⟩ := List.mem_filterMap.mp hw
  exact ⟨List.mem_of_getElem? hi, good_of_word h1⟩
theorem goodIn_app {big a b : List Cond} (ha : GoodIn big a) (hb : GoodIn big b) : GoodIn big (a ++ b) := fun w h => (List.mem_append.mp h).elim (ha w) (hb w)
end
section
def RX0 : String := "SpoolRows"
def TX0 : u_T := fun k => match k with
  | 0 => ("SpoolRows", "reserved", "I", true)
  | 1 => ("SpoolRows", "freePages", "I", false)
  | 2 => ("SpoolRows", "outputs", "[LSpoolRows$Output;", true)
  | 3 => ("SpoolRows", "outputCount", "I", false)
  | 4 => ("SpoolRows", "writers", "[LSpoolRows$Writer;", true)
  | 5 => ("SpoolRows", "writerCount", "I", false)
  | 6 => ("SpoolRows", "printedOrder", "[I", true)
  | 7 => ("SpoolRows", "printedCount", "I", false)
  | 8 => ("SpoolRows", "lineSigns", "[I", true)
  | 9 => ("SpoolRows", "lineOutputs", "[I", true)
  | 10 => ("SpoolRows", "keptLines", "I", false)
  | 11 => ("SpoolRows", "pagesPrinted", "I", false)
  | _ => ("SpoolRows", "pagesAgain", "I", false)
def tyX0 : Nat → FieldType := fun k => match k with
  | 0 => .int
  | 1 => .int
  | 2 => .array (.object "SpoolRows$Output")
  | 3 => .int
  | 4 => .array (.object "SpoolRows$Writer")
  | 5 => .int
  | 6 => .array .int
  | 7 => .int
  | 8 => .array .int
  | 9 => .array .int
  | 10 => .int
  | 11 => .int
  | _ => .int
abbrev wsX00 : List Cond := u_ws RX0 TX0 13
theorem nmX0 : ∀ a, a < 13 → ∀ b, b < 13 → a ≠ b → (TX0 a).2.1 ≠ (TX0 b).2.1 := by decide +kernel
theorem tyX0_ok : ∀ k, k < 13 → parseFieldDescriptor (TX0 k).2.2.1 = some (tyX0 k) := by decide +kernel
def RX1 : String := "SpoolRows$Output"
def TX1 : u_T := fun k => match k with
  | 0 => ("SpoolRows$Output", "number", "I", true)
  | 1 => ("SpoolRows$Output", "job", "I", true)
  | 2 => ("SpoolRows$Output", "kind", "I", true)
  | 3 => ("SpoolRows$Output", "copies", "I", true)
  | 4 => ("SpoolRows$Output", "destination", "I", false)
  | 5 => ("SpoolRows$Output", "priority", "I", false)
  | 6 => ("SpoolRows$Output", "state", "I", false)
  | 7 => ("SpoolRows$Output", "held", "Z", false)
  | 8 => ("SpoolRows$Output", "lines", "I", false)
  | 9 => ("SpoolRows$Output", "limit", "I", false)
  | 10 => ("SpoolRows$Output", "limitEnds", "Z", false)
  | 11 => ("SpoolRows$Output", "printed", "I", false)
  | _ => ("SpoolRows$Output", "purgeWaits", "Z", false)
def tyX1 : Nat → FieldType := fun k => match k with
  | 0 => .int
  | 1 => .int
  | 2 => .int
  | 3 => .int
  | 4 => .int
  | 5 => .int
  | 6 => .int
  | 7 => .boolean
  | 8 => .int
  | 9 => .int
  | 10 => .boolean
  | 11 => .int
  | _ => .boolean
abbrev wsX10 : List Cond := u_ws RX1 TX1 13
theorem nmX1 : ∀ a, a < 13 → ∀ b, b < 13 → a ≠ b → (TX1 a).2.1 ≠ (TX1 b).2.1 := by decide +kernel
theorem tyX1_ok : ∀ k, k < 13 → parseFieldDescriptor (TX1 k).2.2.1 = some (tyX1 k) := by decide +kernel
def RX2 : String := "SpoolRows$Writer"
def TX2 : u_T := fun k => match k with
  | 0 => ("SpoolRows$Writer", "kind", "I", true)
  | 1 => ("SpoolRows$Writer", "destination", "I", true)
  | _ => ("SpoolRows$Writer", "taken", "LSpoolRows$Output;", false)
def tyX2 : Nat → FieldType := fun k => match k with
  | 0 => .int
  | 1 => .int
  | _ => .object "SpoolRows$Output"
abbrev wsX20 : List Cond := u_ws RX2 TX2 3
theorem nmX2 : ∀ a, a < 3 → ∀ b, b < 3 → a ≠ b → (TX2 a).2.1 ≠ (TX2 b).2.1 := by decide +kernel
theorem tyX2_ok : ∀ k, k < 3 → parseFieldDescriptor (TX2 k).2.2.1 = some (tyX2 k) := by decide +kernel
def RX3 : String := "SpoolRowsModel"
def TX3 : u_T := fun k => match k with
  | 0 => ("SpoolRowsModel", "room", "I", true)
  | 1 => ("SpoolRowsModel", "jobs", "[I", true)
  | 2 => ("SpoolRowsModel", "classes", "[I", true)
  | 3 => ("SpoolRowsModel", "copies", "[I", true)
  | 4 => ("SpoolRowsModel", "destinations", "[I", true)
  | 5 => ("SpoolRowsModel", "priorities", "[I", true)
  | 6 => ("SpoolRowsModel", "states", "[I", true)
  | 7 => ("SpoolRowsModel", "lines", "[I", true)
  | 8 => ("SpoolRowsModel", "limits", "[I", true)
  | 9 => ("SpoolRowsModel", "done", "[I", true)
  | 10 => ("SpoolRowsModel", "ends", "[Z", true)
  | 11 => ("SpoolRowsModel", "held", "[Z", true)
  | 12 => ("SpoolRowsModel", "waits", "[Z", true)
  | 13 => ("SpoolRowsModel", "outputs", "I", false)
  | 14 => ("SpoolRowsModel", "owners", "[I", true)
  | 15 => ("SpoolRowsModel", "signs", "[I", true)
  | 16 => ("SpoolRowsModel", "all", "I", false)
  | 17 => ("SpoolRowsModel", "criteria", "[I", true)
  | 18 => ("SpoolRowsModel", "has", "[I", true)
  | 19 => ("SpoolRowsModel", "writers", "I", false)
  | 20 => ("SpoolRowsModel", "printed", "[I", true)
  | 21 => ("SpoolRowsModel", "finished", "I", false)
  | 22 => ("SpoolRowsModel", "pagesPrinted", "I", false)
  | _ => ("SpoolRowsModel", "again", "I", false)
def tyX3 : Nat → FieldType := fun k => match k with
  | 0 => .int
  | 1 => .array .int
  | 2 => .array .int
  | 3 => .array .int
  | 4 => .array .int
  | 5 => .array .int
  | 6 => .array .int
  | 7 => .array .int
  | 8 => .array .int
  | 9 => .array .int
  | 10 => .array .boolean
  | 11 => .array .boolean
  | 12 => .array .boolean
  | 13 => .int
  | 14 => .array .int
  | 15 => .array .int
  | 16 => .int
  | 17 => .array .int
  | 18 => .array .int
  | 19 => .int
  | 20 => .array .int
  | 21 => .int
  | 22 => .int
  | _ => .int
abbrev wsX30 : List Cond := u_ws RX3 TX3 24
theorem nmX3 : ∀ a, a < 24 → ∀ b, b < 24 → a ≠ b → (TX3 a).2.1 ≠ (TX3 b).2.1 := by decide +kernel
theorem tyX3_ok : ∀ k, k < 24 → parseFieldDescriptor (TX3 k).2.2.1 = some (tyX3 k) := by decide +kernel
def RL : String := "SpoolRowsLaw"
abbrev cL_cell : ByteArray := method_2_code
def yL_cell : MethodName := ⟨RL, "cell", "([II)I"⟩
abbrev cX0_init : ByteArray := prog_1_method_1_code
def yX0_init : MethodName := ⟨RX0, "<init>", "(I)V"⟩
abbrev cX3_init : ByteArray := prog_5_method_1_code
def yX3_init : MethodName := ⟨RX3, "<init>", "(I)V"⟩
abbrev cX0_isWithin : ByteArray := prog_1_method_18_code
def yX0_isWithin : MethodName := ⟨RX0, "isWithin", "(III)Z"⟩
abbrev cX1_isGone : ByteArray := prog_2_method_3_code
def yX1_isGone : MethodName := ⟨RX1, "isGone", "()Z"⟩
abbrev cX0_hasOutputThere : ByteArray := prog_1_method_22_code
def yX0_hasOutputThere : MethodName := ⟨RX0, "hasOutputThere", "(I)Z"⟩
abbrev cX1_init : ByteArray := prog_2_method_1_code
def yX1_init : MethodName := ⟨RX1, "<init>", "(IIII)V"⟩
abbrev cX0_addOutput : ByteArray := prog_1_method_24_code
def yX0_addOutput : MethodName := ⟨RX0, "addOutput", "(III)LSpoolRows$Output;"⟩
abbrev cX0_output : ByteArray := prog_1_method_2_code
def yX0_output : MethodName := ⟨RX0, "output", "(III)I"⟩
abbrev cX3_isGone : ByteArray := prog_5_method_4_code
def yX3_isGone : MethodName := ⟨RX3, "isGone", "(I)Z"⟩
abbrev cX3_pagesOf : ByteArray := prog_5_method_5_code
def yX3_pagesOf : MethodName := ⟨RX3, "pagesOf", "(I)I"⟩
abbrev cX3_free : ByteArray := prog_5_method_6_code
def yX3_free : MethodName := ⟨RX3, "free", "()I"⟩
abbrev cX3_create : ByteArray := prog_5_method_8_code
def yX3_create : MethodName := ⟨RX3, "create", "(IIIII)V"⟩
abbrev cX3_output : ByteArray := prog_5_method_9_code
def yX3_output : MethodName := ⟨RX3, "output", "(III)I"⟩
abbrev cX0_outputOf : ByteArray := prog_1_method_19_code
def yX0_outputOf : MethodName := ⟨RX0, "outputOf", "(I)LSpoolRows$Output;"⟩
abbrev cX1_isAtLimit : ByteArray := prog_2_method_6_code
def yX1_isAtLimit : MethodName := ⟨RX1, "isAtLimit", "()Z"⟩
abbrev cX1_needsPage : ByteArray := prog_2_method_7_code
def yX1_needsPage : MethodName := ⟨RX1, "needsPage", "()Z"⟩
abbrev cX0_hasRoomForLine : ByteArray := prog_1_method_25_code
def yX0_hasRoomForLine : MethodName := ⟨RX0, "hasRoomForLine", "(LSpoolRows$Output;)Z"⟩
abbrev cX0_takeLine : ByteArray := prog_1_method_26_code
def yX0_takeLine : MethodName := ⟨RX0, "takeLine", "(LSpoolRows$Output;I)V"⟩
abbrev cX0_line : ByteArray := prog_1_method_3_code
def yX0_line : MethodName := ⟨RX0, "line", "(II)I"⟩
abbrev cX3_isOutput : ByteArray := prog_5_method_2_code
def yX3_isOutput : MethodName := ⟨RX3, "isOutput", "(I)Z"⟩
abbrev cX3_line : ByteArray := prog_5_method_10_code
def yX3_line : MethodName := ⟨RX3, "line", "(II)I"⟩
abbrev cX0_limit : ByteArray := prog_1_method_4_code
def yX0_limit : MethodName := ⟨RX0, "limit", "(IIZ)I"⟩
abbrev cX3_limit : ByteArray := prog_5_method_11_code
def yX3_limit : MethodName := ⟨RX3, "limit", "(IIZ)I"⟩
abbrev cX1_pageCount : ByteArray := prog_2_method_8_code
def yX1_pageCount : MethodName := ⟨RX1, "pageCount", "()I"⟩
abbrev cX0_letGo : ByteArray := prog_1_method_28_code
def yX0_letGo : MethodName := ⟨RX0, "letGo", "(LSpoolRows$Output;I)V"⟩
abbrev cX0_releaseOrPurge : ByteArray := prog_1_method_27_code
def yX0_releaseOrPurge : MethodName := ⟨RX0, "releaseOrPurge", "(LSpoolRows$Output;)V"⟩
abbrev cX0_end : ByteArray := prog_1_method_5_code
def yX0_end : MethodName := ⟨RX0, "end", "(I)I"⟩
abbrev cX3_goes : ByteArray := prog_5_method_7_code
def yX3_goes : MethodName := ⟨RX3, "goes", "(II)V"⟩
abbrev cX3_end : ByteArray := prog_5_method_12_code
def yX3_end : MethodName := ⟨RX3, "end", "(I)I"⟩
abbrev cX1_takeSettingsOf : ByteArray := prog_2_method_2_code
def yX1_takeSettingsOf : MethodName := ⟨RX1, "takeSettingsOf", "(LSpoolRows$Output;)V"⟩
abbrev cX0_segment : ByteArray := prog_1_method_6_code
def yX0_segment : MethodName := ⟨RX0, "segment", "(I)I"⟩
abbrev cX3_segment : ByteArray := prog_5_method_13_code
def yX3_segment : MethodName := ⟨RX3, "segment", "(I)I"⟩
abbrev cX2_init : ByteArray := prog_3_method_1_code
def yX2_init : MethodName := ⟨RX2, "<init>", "(II)V"⟩
abbrev cX0_writer : ByteArray := prog_1_method_7_code
def yX0_writer : MethodName := ⟨RX0, "writer", "(I)I"⟩
abbrev cX3_writer : ByteArray := prog_5_method_14_code
def yX3_writer : MethodName := ⟨RX3, "writer", "(I)I"⟩
abbrev cX0_writerOf : ByteArray := prog_1_method_20_code
def yX0_writerOf : MethodName := ⟨RX0, "writerOf", "(I)LSpoolRows$Writer;"⟩
abbrev cX1_mayBePrinted : ByteArray := prog_2_method_5_code
def yX1_mayBePrinted : MethodName := ⟨RX1, "mayBePrinted", "()Z"⟩
abbrev cX2_suits : ByteArray := prog_3_method_2_code
def yX2_suits : MethodName := ⟨RX2, "suits", "(LSpoolRows$Output;)Z"⟩
abbrev cX1_comesBefore : ByteArray := prog_2_method_12_code
def yX1_comesBefore : MethodName := ⟨RX1, "comesBefore", "(LSpoolRows$Output;)Z"⟩
abbrev cX0_firstFor : ByteArray := prog_1_method_30_code
def yX0_firstFor : MethodName := ⟨RX0, "firstFor", "(LSpoolRows$Writer;)LSpoolRows$Output;"⟩
abbrev cX0_next : ByteArray := prog_1_method_8_code
def yX0_next : MethodName := ⟨RX0, "next", "(I)I"⟩
abbrev cX3_isWriter : ByteArray := prog_5_method_3_code
def yX3_isWriter : MethodName := ⟨RX3, "isWriter", "(I)Z"⟩
abbrev cX3_fits : ByteArray := prog_5_method_15_code
def yX3_fits : MethodName := ⟨RX3, "fits", "(II)Z"⟩
abbrev cX3_next : ByteArray := prog_5_method_16_code
def yX3_next : MethodName := ⟨RX3, "next", "(I)I"⟩
abbrev cX1_pagesToPrint : ByteArray := prog_2_method_9_code
def yX1_pagesToPrint : MethodName := ⟨RX1, "pagesToPrint", "()I"⟩
abbrev cX0_noteInOrder : ByteArray := prog_1_method_29_code
def yX0_noteInOrder : MethodName := ⟨RX0, "noteInOrder", "(LSpoolRows$Output;)V"⟩
abbrev cX0_print : ByteArray := prog_1_method_9_code
def yX0_print : MethodName := ⟨RX0, "print", "(II)I"⟩
abbrev cX3_print : ByteArray := prog_5_method_17_code
def yX3_print : MethodName := ⟨RX3, "print", "(II)I"⟩
abbrev cX1_lastCheckpoint : ByteArray := prog_2_method_10_code
def yX1_lastCheckpoint : MethodName := ⟨RX1, "lastCheckpoint", "()I"⟩
abbrev cX0_cut : ByteArray := prog_1_method_10_code
def yX0_cut : MethodName := ⟨RX0, "cut", "(I)I"⟩
abbrev cX3_cut : ByteArray := prog_5_method_18_code
def yX3_cut : MethodName := ⟨RX3, "cut", "(I)I"⟩
abbrev cX0_purge : ByteArray := prog_1_method_11_code
def yX0_purge : MethodName := ⟨RX0, "purge", "(I)I"⟩
abbrev cX3_purge : ByteArray := prog_5_method_19_code
def yX3_purge : MethodName := ⟨RX3, "purge", "(I)I"⟩
abbrev cX1_isOpenOrReleased : ByteArray := prog_2_method_4_code
def yX1_isOpenOrReleased : MethodName := ⟨RX1, "isOpenOrReleased", "()Z"⟩
abbrev cX0_hold : ByteArray := prog_1_method_12_code
def yX0_hold : MethodName := ⟨RX0, "hold", "(IZ)I"⟩
abbrev cX3_isStill : ByteArray := prog_5_method_20_code
def yX3_isStill : MethodName := ⟨RX3, "isStill", "(I)Z"⟩
abbrev cX3_hold : ByteArray := prog_5_method_21_code
def yX3_hold : MethodName := ⟨RX3, "hold", "(IZ)I"⟩
abbrev cX0_route : ByteArray := prog_1_method_13_code
def yX0_route : MethodName := ⟨RX0, "route", "(II)I"⟩
abbrev cX3_route : ByteArray := prog_5_method_22_code
def yX3_route : MethodName := ⟨RX3, "route", "(II)I"⟩
abbrev cX0_isThere : ByteArray := prog_1_method_21_code
def yX0_isThere : MethodName := ⟨RX0, "isThere", "(I)Z"⟩
abbrev cX0_search : ByteArray := prog_1_method_14_code
def yX0_search : MethodName := ⟨RX0, "search", "(I)I"⟩
abbrev cX3_search : ByteArray := prog_5_method_23_code
def yX3_search : MethodName := ⟨RX3, "search", "(I)I"⟩
abbrev cX0_order : ByteArray := prog_1_method_15_code
def yX0_order : MethodName := ⟨RX0, "order", "(I)I"⟩
abbrev cX3_order : ByteArray := prog_5_method_24_code
def yX3_order : MethodName := ⟨RX3, "order", "(I)I"⟩
abbrev cX1_copiesLeft : ByteArray := prog_2_method_11_code
def yX1_copiesLeft : MethodName := ⟨RX1, "copiesLeft", "()I"⟩
abbrev cX0_state : ByteArray := prog_1_method_16_code
def yX0_state : MethodName := ⟨RX0, "state", "(II)I"⟩
abbrev cX3_state : ByteArray := prog_5_method_25_code
def yX3_state : MethodName := ⟨RX3, "state", "(II)I"⟩
abbrev cX0_outputsThere : ByteArray := prog_1_method_23_code
def yX0_outputsThere : MethodName := ⟨RX0, "outputsThere", "()I"⟩
abbrev cX0_count : ByteArray := prog_1_method_17_code
def yX0_count : MethodName := ⟨RX0, "count", "(I)I"⟩
abbrev cX3_count : ByteArray := prog_5_method_26_code
def yX3_count : MethodName := ⟨RX3, "count", "(I)I"⟩
abbrev cL_law : ByteArray := code
def yL_law : MethodName := ⟨RL, "law", "([I)Z"⟩
abbrev vwCl : List vw_C := [(RX0, TX0, 13), (RX1, TX1, 13), (RX2, TX2, 3), (RX3, TX3, 24)]
theorem gdX0 : ∀ w ∈ wsX00, goodWord w = true := by decide +kernel
theorem gdX1 : ∀ w ∈ wsX10, goodWord w = true := by decide +kernel
theorem gdX2 : ∀ w ∈ wsX20, goodWord w = true := by decide +kernel
theorem gdX3 : ∀ w ∈ wsX30, goodWord w = true := by decide +kernel
def woL_cell : List Cond := []
def wsL_cell : List Cond := .code yL_cell cL_cell 2 (some .int) :: woL_cell
theorem gdL_cell : ∀ w ∈ wsL_cell, goodWord w = true := List.forall_mem_cons.mpr ⟨rfl, (by decide +kernel)⟩
def woX0_init : List Cond := [.methodLink RX0 1 objectInit, .instanceMethod objectInit, .code objectInit ⟨#[0xb1]⟩ 1 none, .classLink RX0 9 RX1, .fieldLink RX0 11 "SpoolRows" "outputs" "[LSpoolRows$Output;", .classLink RX0 15 RX2, .fieldLink RX0 17 "SpoolRows" "writers" "[LSpoolRows$Writer;", .arrayClass .int, .fieldLink RX0 21 "SpoolRows" "printedOrder" "[I", .fieldLink RX0 25 "SpoolRows" "lineSigns" "[I", .fieldLink RX0 28 "SpoolRows" "lineOutputs" "[I", .constant RX0 31 65536, .methodLink RX0 32 Lib.Math.min.name, .static Lib.Math.min.name, .initialized "java/lang/Math", .code Lib.Math.min.name Lib.Math.min.code 2 (some .int), .methodLink RX0 38 Lib.Math.max.name, .static Lib.Math.max.name, .code Lib.Math.max.name Lib.Math.max.code 2 (some .int), .fieldLink RX0 41 "SpoolRows" "freePages" "I", .fieldLink RX0 45 "SpoolRows" "reserved" "I"]
def wsX0_init : List Cond := .code yX0_init cX0_init 3 none :: (woX0_init ++ wsX00)
theorem gdX0_init : ∀ w ∈ wsX0_init, goodWord w = true := List.forall_mem_cons.mpr ⟨rfl, (List.forall_mem_append.mpr ⟨(by decide +kernel), gdX0⟩)⟩
def woX3_init : List Cond := [.methodLink RX3 1 objectInit, .instanceMethod objectInit, .code objectInit ⟨#[0xb1]⟩ 1 none, .arrayClass .int, .fieldLink RX3 7 "SpoolRowsModel" "jobs" "[I", .fieldLink RX3 13 "SpoolRowsModel" "classes" "[I", .fieldLink RX3 16 "SpoolRowsModel" "copies" "[I", .fieldLink RX3 19 "SpoolRowsModel" "destinations" "[I", .fieldLink RX3 22 "SpoolRowsModel" "priorities" "[I", .fieldLink RX3 25 "SpoolRowsModel" "states" "[I", .fieldLink RX3 28 "SpoolRowsModel" "lines" "[I", .fieldLink RX3 31 "SpoolRowsModel" "limits" "[I", .fieldLink RX3 34 "SpoolRowsModel" "done" "[I", .arrayClass .boolean, .fieldLink RX3 37 "SpoolRowsModel" "ends" "[Z", .fieldLink RX3 41 "SpoolRowsModel" "held" "[Z", .fieldLink RX3 44 "SpoolRowsModel" "waits" "[Z", .fieldLink RX3 47 "SpoolRowsModel" "owners" "[I", .fieldLink RX3 50 "SpoolRowsModel" "signs" "[I", .fieldLink RX3 53 "SpoolRowsModel" "criteria" "[I", .fieldLink RX3 56 "SpoolRowsModel" "has" "[I", .fieldLink RX3 59 "SpoolRowsModel" "printed" "[I", .constant RX3 62 65536, .fieldLink RX3 63 "SpoolRowsModel" "room" "I"]
def wsX3_init : List Cond := .code yX3_init cX3_init 2 none :: (woX3_init ++ wsX30)
theorem gdX3_init : ∀ w ∈ wsX3_init, goodWord w = true := List.forall_mem_cons.mpr ⟨rfl, (List.forall_mem_append.mpr ⟨(by decide +kernel), gdX3⟩)⟩
def woX0_isWithin : List Cond := []
def wsX0_isWithin : List Cond := .code yX0_isWithin cX0_isWithin 3 (some .boolean) :: woX0_isWithin
theorem gdX0_isWithin : ∀ w ∈ wsX0_isWithin, goodWord w = true := List.forall_mem_cons.mpr ⟨rfl, (by decide +kernel)⟩
def woX1_isGone : List Cond := [.fieldLink RX1 9 "SpoolRows$Output" "state" "I"]
def wsX1_isGone : List Cond := .code yX1_isGone cX1_isGone 1 (some .boolean) :: (woX1_isGone ++ wsX10)
theorem gdX1_isGone : ∀ w ∈ wsX1_isGone, goodWord w = true := List.forall_mem_cons.mpr ⟨rfl, (List.forall_mem_append.mpr ⟨(by decide +kernel), gdX1⟩)⟩
def woX0_hasOutputThere : List Cond := [.fieldLink RX0 52 "SpoolRows" "outputCount" "I", .fieldLink RX0 11 "SpoolRows" "outputs" "[LSpoolRows$Output;", .fieldLink RX0 96 "SpoolRows$Output" "job" "I", .methodLink RX0 90 yX1_isGone, .instanceMethod yX1_isGone, .selects RX1 yX1_isGone yX1_isGone, .initialized RX1]
def wsX0_hasOutputThere : List Cond := .code yX0_hasOutputThere cX0_hasOutputThere 3 (some .boolean) :: (woX0_hasOutputThere ++ (wsX00 ++ (wsX10 ++ wsX1_isGone)))
theorem gdX0_hasOutputThere : ∀ w ∈ wsX0_hasOutputThere, goodWord w = true := List.forall_mem_cons.mpr ⟨rfl, (List.forall_mem_append.mpr ⟨(by decide +kernel), (List.forall_mem_append.mpr ⟨gdX0, (List.forall_mem_append.mpr ⟨gdX1, gdX1_isGone⟩)⟩)⟩)⟩
def woX1_init : List Cond := [.methodLink RX1 3 objectInit, .instanceMethod objectInit, .code objectInit ⟨#[0xb1]⟩ 1 none, .fieldLink RX1 9 "SpoolRows$Output" "state" "I", .fieldLink RX1 15 "SpoolRows$Output" "number" "I", .fieldLink RX1 18 "SpoolRows$Output" "job" "I", .fieldLink RX1 21 "SpoolRows$Output" "kind" "I", .fieldLink RX1 24 "SpoolRows$Output" "copies" "I"]
def wsX1_init : List Cond := .code yX1_init cX1_init 5 none :: (woX1_init ++ wsX10)
theorem gdX1_init : ∀ w ∈ wsX1_init, goodWord w = true := List.forall_mem_cons.mpr ⟨rfl, (List.forall_mem_append.mpr ⟨(by decide +kernel), gdX1⟩)⟩
def woX0_addOutput : List Cond := [.classLink RX0 9 RX1, .instantiable RX1 13, .initialized RX1, .fieldLink RX0 52 "SpoolRows" "outputCount" "I", .methodLink RX0 188 yX1_init, .instanceMethod yX1_init, .fieldLink RX0 11 "SpoolRows" "outputs" "[LSpoolRows$Output;"]
def wsX0_addOutput : List Cond := .code yX0_addOutput cX0_addOutput 5 (some (.object "SpoolRows$Output")) :: (woX0_addOutput ++ (wsX10 ++ (wsX00 ++ wsX1_init)))
theorem gdX0_addOutput : ∀ w ∈ wsX0_addOutput, goodWord w = true := List.forall_mem_cons.mpr ⟨rfl, (List.forall_mem_append.mpr ⟨(by decide +kernel), (List.forall_mem_append.mpr ⟨gdX1, (List.forall_mem_append.mpr ⟨gdX0, gdX1_init⟩)⟩)⟩)⟩
def woX0_output : List Cond := [.methodLink RX0 48 yX0_isWithin, .static yX0_isWithin, .initialized RX0, .fieldLink RX0 52 "SpoolRows" "outputCount" "I", .fieldLink RX0 41 "SpoolRows" "freePages" "I", .fieldLink RX0 45 "SpoolRows" "reserved" "I", .methodLink RX0 55 yX0_hasOutputThere, .instanceMethod yX0_hasOutputThere, .selects RX0 yX0_hasOutputThere yX0_hasOutputThere, .methodLink RX0 59 yX0_addOutput, .instanceMethod yX0_addOutput, .selects RX0 yX0_addOutput yX0_addOutput, .fieldLink RX0 63 "SpoolRows$Output" "number" "I"]
def wsX0_output : List Cond := .code yX0_output cX0_output 4 (some .int) :: (woX0_output ++ (wsX00 ++ (wsX10 ++ (wsX0_isWithin ++ (wsX0_hasOutputThere ++ wsX0_addOutput)))))
theorem gdX0_output : ∀ w ∈ wsX0_output, goodWord w = true := List.forall_mem_cons.mpr ⟨rfl, (List.forall_mem_append.mpr ⟨(by decide +kernel), (List.forall_mem_append.mpr ⟨gdX0, (List.forall_mem_append.mpr ⟨gdX1, (List.forall_mem_append.mpr ⟨gdX0_isWithin, (List.forall_mem_append.mpr ⟨gdX0_hasOutputThere, gdX0_addOutput⟩)⟩)⟩)⟩)⟩)⟩
def woX3_isGone : List Cond := [.fieldLink RX3 25 "SpoolRowsModel" "states" "[I"]
def wsX3_isGone : List Cond := .code yX3_isGone cX3_isGone 2 (some .boolean) :: (woX3_isGone ++ wsX30)
theorem gdX3_isGone : ∀ w ∈ wsX3_isGone, goodWord w = true := List.forall_mem_cons.mpr ⟨rfl, (List.forall_mem_append.mpr ⟨(by decide +kernel), gdX3⟩)⟩
def woX3_pagesOf : List Cond := [.fieldLink RX3 28 "SpoolRowsModel" "lines" "[I"]
def wsX3_pagesOf : List Cond := .code yX3_pagesOf cX3_pagesOf 2 (some .int) :: (woX3_pagesOf ++ wsX30)
theorem gdX3_pagesOf : ∀ w ∈ wsX3_pagesOf, goodWord w = true := List.forall_mem_cons.mpr ⟨rfl, (List.forall_mem_append.mpr ⟨(by decide +kernel), gdX3⟩)⟩
def woX3_free : List Cond := [.fieldLink RX3 63 "SpoolRowsModel" "room" "I", .fieldLink RX3 67 "SpoolRowsModel" "outputs" "I", .methodLink RX3 73 yX3_isGone, .instanceMethod yX3_isGone, .selects RX3 yX3_isGone yX3_isGone, .initialized RX3, .methodLink RX3 77 yX3_pagesOf, .instanceMethod yX3_pagesOf, .selects RX3 yX3_pagesOf yX3_pagesOf]
def wsX3_free : List Cond := .code yX3_free cX3_free 3 (some .int) :: (woX3_free ++ (wsX30 ++ (wsX3_isGone ++ wsX3_pagesOf)))
theorem gdX3_free : ∀ w ∈ wsX3_free, goodWord w = true := List.forall_mem_cons.mpr ⟨rfl, (List.forall_mem_append.mpr ⟨(by decide +kernel), (List.forall_mem_append.mpr ⟨gdX3, (List.forall_mem_append.mpr ⟨gdX3_isGone, gdX3_pagesOf⟩)⟩)⟩)⟩
def woX3_create : List Cond := [.fieldLink RX3 67 "SpoolRowsModel" "outputs" "I", .fieldLink RX3 7 "SpoolRowsModel" "jobs" "[I", .fieldLink RX3 13 "SpoolRowsModel" "classes" "[I", .fieldLink RX3 16 "SpoolRowsModel" "copies" "[I", .fieldLink RX3 19 "SpoolRowsModel" "destinations" "[I", .fieldLink RX3 22 "SpoolRowsModel" "priorities" "[I", .fieldLink RX3 25 "SpoolRowsModel" "states" "[I"]
def wsX3_create : List Cond := .code yX3_create cX3_create 6 none :: (woX3_create ++ wsX30)
theorem gdX3_create : ∀ w ∈ wsX3_create, goodWord w = true := List.forall_mem_cons.mpr ⟨rfl, (List.forall_mem_append.mpr ⟨(by decide +kernel), gdX3⟩)⟩
def woX3_output : List Cond := [.fieldLink RX3 67 "SpoolRowsModel" "outputs" "I", .fieldLink RX3 7 "SpoolRowsModel" "jobs" "[I", .methodLink RX3 73 yX3_isGone, .instanceMethod yX3_isGone, .selects RX3 yX3_isGone yX3_isGone, .initialized RX3, .methodLink RX3 81 yX3_free, .instanceMethod yX3_free, .selects RX3 yX3_free yX3_free, .fieldLink RX3 63 "SpoolRowsModel" "room" "I", .methodLink RX3 85 yX3_create, .instanceMethod yX3_create, .selects RX3 yX3_create yX3_create]
def wsX3_output : List Cond := .code yX3_output cX3_output 6 (some .int) :: (woX3_output ++ (wsX30 ++ (wsX3_isGone ++ (wsX3_free ++ wsX3_create))))
theorem gdX3_output : ∀ w ∈ wsX3_output, goodWord w = true := List.forall_mem_cons.mpr ⟨rfl, (List.forall_mem_append.mpr ⟨(by decide +kernel), (List.forall_mem_append.mpr ⟨gdX3, (List.forall_mem_append.mpr ⟨gdX3_isGone, (List.forall_mem_append.mpr ⟨gdX3_free, gdX3_create⟩)⟩)⟩)⟩)⟩
def woX0_outputOf : List Cond := [.fieldLink RX0 52 "SpoolRows" "outputCount" "I", .methodLink RX0 48 yX0_isWithin, .static yX0_isWithin, .initialized RX0, .fieldLink RX0 11 "SpoolRows" "outputs" "[LSpoolRows$Output;"]
def wsX0_outputOf : List Cond := .code yX0_outputOf cX0_outputOf 2 (some (.object "SpoolRows$Output")) :: (woX0_outputOf ++ (wsX00 ++ wsX0_isWithin))
theorem gdX0_outputOf : ∀ w ∈ wsX0_outputOf, goodWord w = true := List.forall_mem_cons.mpr ⟨rfl, (List.forall_mem_append.mpr ⟨(by decide +kernel), (List.forall_mem_append.mpr ⟨gdX0, gdX0_isWithin⟩)⟩)⟩
def woX1_isAtLimit : List Cond := [.fieldLink RX1 33 "SpoolRows$Output" "limit" "I", .fieldLink RX1 43 "SpoolRows$Output" "lines" "I"]
def wsX1_isAtLimit : List Cond := .code yX1_isAtLimit cX1_isAtLimit 1 (some .boolean) :: (woX1_isAtLimit ++ wsX10)
theorem gdX1_isAtLimit : ∀ w ∈ wsX1_isAtLimit, goodWord w = true := List.forall_mem_cons.mpr ⟨rfl, (List.forall_mem_append.mpr ⟨(by decide +kernel), gdX1⟩)⟩
def woX1_needsPage : List Cond := [.fieldLink RX1 43 "SpoolRows$Output" "lines" "I"]
def wsX1_needsPage : List Cond := .code yX1_needsPage cX1_needsPage 1 (some .boolean) :: (woX1_needsPage ++ wsX10)
theorem gdX1_needsPage : ∀ w ∈ wsX1_needsPage, goodWord w = true := List.forall_mem_cons.mpr ⟨rfl, (List.forall_mem_append.mpr ⟨(by decide +kernel), gdX1⟩)⟩
def woX0_hasRoomForLine : List Cond := [.fieldLink RX0 170 "SpoolRows" "keptLines" "I", .fieldLink RX0 41 "SpoolRows" "freePages" "I", .methodLink RX0 191 yX1_needsPage, .instanceMethod yX1_needsPage, .selects RX1 yX1_needsPage yX1_needsPage, .initialized RX1]
def wsX0_hasRoomForLine : List Cond := .code yX0_hasRoomForLine cX0_hasRoomForLine 2 (some .boolean) :: (woX0_hasRoomForLine ++ (wsX00 ++ wsX1_needsPage))
theorem gdX0_hasRoomForLine : ∀ w ∈ wsX0_hasRoomForLine, goodWord w = true := List.forall_mem_cons.mpr ⟨rfl, (List.forall_mem_append.mpr ⟨(by decide +kernel), (List.forall_mem_append.mpr ⟨gdX0, gdX1_needsPage⟩)⟩)⟩
def woX0_takeLine : List Cond := [.methodLink RX0 191 yX1_needsPage, .instanceMethod yX1_needsPage, .selects RX1 yX1_needsPage yX1_needsPage, .initialized RX1, .fieldLink RX0 41 "SpoolRows" "freePages" "I", .fieldLink RX0 103 "SpoolRows$Output" "lines" "I", .fieldLink RX0 25 "SpoolRows" "lineSigns" "[I", .fieldLink RX0 170 "SpoolRows" "keptLines" "I", .fieldLink RX0 28 "SpoolRows" "lineOutputs" "[I", .fieldLink RX0 63 "SpoolRows$Output" "number" "I"]
def wsX0_takeLine : List Cond := .code yX0_takeLine cX0_takeLine 3 none :: (woX0_takeLine ++ (wsX00 ++ (wsX10 ++ wsX1_needsPage)))
theorem gdX0_takeLine : ∀ w ∈ wsX0_takeLine, goodWord w = true := List.forall_mem_cons.mpr ⟨rfl, (List.forall_mem_append.mpr ⟨(by decide +kernel), (List.forall_mem_append.mpr ⟨gdX0, (List.forall_mem_append.mpr ⟨gdX1, gdX1_needsPage⟩)⟩)⟩)⟩
def woX0_line : List Cond := [.methodLink RX0 66 yX0_outputOf, .instanceMethod yX0_outputOf, .selects RX0 yX0_outputOf yX0_outputOf, .initialized RX0, .constant RX0 70 34047, .methodLink RX0 48 yX0_isWithin, .static yX0_isWithin, .fieldLink RX0 71 "SpoolRows$Output" "state" "I", .methodLink RX0 74 yX1_isAtLimit, .instanceMethod yX1_isAtLimit, .selects RX1 yX1_isAtLimit yX1_isAtLimit, .initialized RX1, .fieldLink RX0 78 "SpoolRows$Output" "limitEnds" "Z", .methodLink RX0 82 yX0_hasRoomForLine, .instanceMethod yX0_hasRoomForLine, .selects RX0 yX0_hasRoomForLine yX0_hasRoomForLine, .methodLink RX0 86 yX0_takeLine, .instanceMethod yX0_takeLine, .selects RX0 yX0_takeLine yX0_takeLine]
def wsX0_line : List Cond := .code yX0_line cX0_line 5 (some .int) :: (woX0_line ++ (wsX10 ++ (wsX0_outputOf ++ (wsX0_isWithin ++ (wsX1_isAtLimit ++ (wsX0_hasRoomForLine ++ wsX0_takeLine))))))
theorem gdX0_line : ∀ w ∈ wsX0_line, goodWord w = true := List.forall_mem_cons.mpr ⟨rfl, (List.forall_mem_append.mpr ⟨(by decide +kernel), (List.forall_mem_append.mpr ⟨gdX1, (List.forall_mem_append.mpr ⟨gdX0_outputOf, (List.forall_mem_append.mpr ⟨gdX0_isWithin, (List.forall_mem_append.mpr ⟨gdX1_isAtLimit, (List.forall_mem_append.mpr ⟨gdX0_hasRoomForLine, gdX0_takeLine⟩)⟩)⟩)⟩)⟩)⟩)⟩
def woX3_isOutput : List Cond := [.fieldLink RX3 67 "SpoolRowsModel" "outputs" "I"]
def wsX3_isOutput : List Cond := .code yX3_isOutput cX3_isOutput 2 (some .boolean) :: (woX3_isOutput ++ wsX30)
theorem gdX3_isOutput : ∀ w ∈ wsX3_isOutput, goodWord w = true := List.forall_mem_cons.mpr ⟨rfl, (List.forall_mem_append.mpr ⟨(by decide +kernel), gdX3⟩)⟩
def woX3_line : List Cond := [.methodLink RX3 89 yX3_isOutput, .instanceMethod yX3_isOutput, .selects RX3 yX3_isOutput yX3_isOutput, .initialized RX3, .constant RX3 92 34047, .fieldLink RX3 25 "SpoolRowsModel" "states" "[I", .fieldLink RX3 31 "SpoolRowsModel" "limits" "[I", .fieldLink RX3 28 "SpoolRowsModel" "lines" "[I", .fieldLink RX3 37 "SpoolRowsModel" "ends" "[Z", .methodLink RX3 81 yX3_free, .instanceMethod yX3_free, .selects RX3 yX3_free yX3_free, .fieldLink RX3 47 "SpoolRowsModel" "owners" "[I", .fieldLink RX3 93 "SpoolRowsModel" "all" "I", .fieldLink RX3 50 "SpoolRowsModel" "signs" "[I"]
def wsX3_line : List Cond := .code yX3_line cX3_line 4 (some .int) :: (woX3_line ++ (wsX30 ++ (wsX3_isOutput ++ wsX3_free)))
theorem gdX3_line : ∀ w ∈ wsX3_line, goodWord w = true := List.forall_mem_cons.mpr ⟨rfl, (List.forall_mem_append.mpr ⟨(by decide +kernel), (List.forall_mem_append.mpr ⟨gdX3, (List.forall_mem_append.mpr ⟨gdX3_isOutput, gdX3_free⟩)⟩)⟩)⟩
def woX0_limit : List Cond := [.methodLink RX0 66 yX0_outputOf, .instanceMethod yX0_outputOf, .selects RX0 yX0_outputOf yX0_outputOf, .initialized RX0, .methodLink RX0 90 yX1_isGone, .instanceMethod yX1_isGone, .selects RX1 yX1_isGone yX1_isGone, .initialized RX1, .fieldLink RX0 93 "SpoolRows$Output" "limit" "I", .fieldLink RX0 78 "SpoolRows$Output" "limitEnds" "Z"]
def wsX0_limit : List Cond := .code yX0_limit cX0_limit 5 (some .int) :: (woX0_limit ++ (wsX10 ++ (wsX0_outputOf ++ wsX1_isGone)))
theorem gdX0_limit : ∀ w ∈ wsX0_limit, goodWord w = true := List.forall_mem_cons.mpr ⟨rfl, (List.forall_mem_append.mpr ⟨(by decide +kernel), (List.forall_mem_append.mpr ⟨gdX1, (List.forall_mem_append.mpr ⟨gdX0_outputOf, gdX1_isGone⟩)⟩)⟩)⟩
def woX3_limit : List Cond := [.methodLink RX3 89 yX3_isOutput, .instanceMethod yX3_isOutput, .selects RX3 yX3_isOutput yX3_isOutput, .initialized RX3, .methodLink RX3 73 yX3_isGone, .instanceMethod yX3_isGone, .selects RX3 yX3_isGone yX3_isGone, .fieldLink RX3 31 "SpoolRowsModel" "limits" "[I", .fieldLink RX3 37 "SpoolRowsModel" "ends" "[Z"]
def wsX3_limit : List Cond := .code yX3_limit cX3_limit 4 (some .int) :: (woX3_limit ++ (wsX30 ++ (wsX3_isOutput ++ wsX3_isGone)))
theorem gdX3_limit : ∀ w ∈ wsX3_limit, goodWord w = true := List.forall_mem_cons.mpr ⟨rfl, (List.forall_mem_append.mpr ⟨(by decide +kernel), (List.forall_mem_append.mpr ⟨gdX3, (List.forall_mem_append.mpr ⟨gdX3_isOutput, gdX3_isGone⟩)⟩)⟩)⟩
def woX1_pageCount : List Cond := [.fieldLink RX1 43 "SpoolRows$Output" "lines" "I"]
def wsX1_pageCount : List Cond := .code yX1_pageCount cX1_pageCount 1 (some .int) :: (woX1_pageCount ++ wsX10)
theorem gdX1_pageCount : ∀ w ∈ wsX1_pageCount, goodWord w = true := List.forall_mem_cons.mpr ⟨rfl, (List.forall_mem_append.mpr ⟨(by decide +kernel), gdX1⟩)⟩
def woX0_letGo : List Cond := [.fieldLink RX0 71 "SpoolRows$Output" "state" "I", .fieldLink RX0 161 "SpoolRows$Output" "held" "Z", .fieldLink RX0 41 "SpoolRows" "freePages" "I", .methodLink RX0 179 yX1_pageCount, .instanceMethod yX1_pageCount, .selects RX1 yX1_pageCount yX1_pageCount, .initialized RX1]
def wsX0_letGo : List Cond := .code yX0_letGo cX0_letGo 3 none :: (woX0_letGo ++ (wsX10 ++ (wsX00 ++ wsX1_pageCount)))
theorem gdX0_letGo : ∀ w ∈ wsX0_letGo, goodWord w = true := List.forall_mem_cons.mpr ⟨rfl, (List.forall_mem_append.mpr ⟨(by decide +kernel), (List.forall_mem_append.mpr ⟨gdX1, (List.forall_mem_append.mpr ⟨gdX0, gdX1_pageCount⟩)⟩)⟩)⟩
def woX0_releaseOrPurge : List Cond := [.fieldLink RX0 103 "SpoolRows$Output" "lines" "I", .methodLink RX0 146 yX0_letGo, .instanceMethod yX0_letGo, .selects RX0 yX0_letGo yX0_letGo, .initialized RX0, .fieldLink RX0 71 "SpoolRows$Output" "state" "I"]
def wsX0_releaseOrPurge : List Cond := .code yX0_releaseOrPurge cX0_releaseOrPurge 2 none :: (woX0_releaseOrPurge ++ (wsX10 ++ wsX0_letGo))
theorem gdX0_releaseOrPurge : ∀ w ∈ wsX0_releaseOrPurge, goodWord w = true := List.forall_mem_cons.mpr ⟨rfl, (List.forall_mem_append.mpr ⟨(by decide +kernel), (List.forall_mem_append.mpr ⟨gdX1, gdX0_letGo⟩)⟩)⟩
def woX0_end : List Cond := [.fieldLink RX0 52 "SpoolRows" "outputCount" "I", .fieldLink RX0 11 "SpoolRows" "outputs" "[LSpoolRows$Output;", .fieldLink RX0 96 "SpoolRows$Output" "job" "I", .fieldLink RX0 71 "SpoolRows$Output" "state" "I", .methodLink RX0 99 yX0_releaseOrPurge, .instanceMethod yX0_releaseOrPurge, .selects RX0 yX0_releaseOrPurge yX0_releaseOrPurge, .initialized RX0]
def wsX0_end : List Cond := .code yX0_end cX0_end 5 (some .int) :: (woX0_end ++ (wsX00 ++ (wsX10 ++ wsX0_releaseOrPurge)))
theorem gdX0_end : ∀ w ∈ wsX0_end, goodWord w = true := List.forall_mem_cons.mpr ⟨rfl, (List.forall_mem_append.mpr ⟨(by decide +kernel), (List.forall_mem_append.mpr ⟨gdX0, (List.forall_mem_append.mpr ⟨gdX1, gdX0_releaseOrPurge⟩)⟩)⟩)⟩
def woX3_goes : List Cond := [.fieldLink RX3 25 "SpoolRowsModel" "states" "[I", .fieldLink RX3 41 "SpoolRowsModel" "held" "[Z"]
def wsX3_goes : List Cond := .code yX3_goes cX3_goes 3 none :: (woX3_goes ++ wsX30)
theorem gdX3_goes : ∀ w ∈ wsX3_goes, goodWord w = true := List.forall_mem_cons.mpr ⟨rfl, (List.forall_mem_append.mpr ⟨(by decide +kernel), gdX3⟩)⟩
def woX3_end : List Cond := [.fieldLink RX3 67 "SpoolRowsModel" "outputs" "I", .fieldLink RX3 7 "SpoolRowsModel" "jobs" "[I", .fieldLink RX3 25 "SpoolRowsModel" "states" "[I", .fieldLink RX3 28 "SpoolRowsModel" "lines" "[I", .methodLink RX3 96 yX3_goes, .instanceMethod yX3_goes, .selects RX3 yX3_goes yX3_goes, .initialized RX3]
def wsX3_end : List Cond := .code yX3_end cX3_end 4 (some .int) :: (woX3_end ++ (wsX30 ++ wsX3_goes))
theorem gdX3_end : ∀ w ∈ wsX3_end, goodWord w = true := List.forall_mem_cons.mpr ⟨rfl, (List.forall_mem_append.mpr ⟨(by decide +kernel), (List.forall_mem_append.mpr ⟨gdX3, gdX3_goes⟩)⟩)⟩
def woX1_takeSettingsOf : List Cond := [.fieldLink RX1 27 "SpoolRows$Output" "destination" "I", .fieldLink RX1 30 "SpoolRows$Output" "priority" "I", .fieldLink RX1 33 "SpoolRows$Output" "limit" "I", .fieldLink RX1 36 "SpoolRows$Output" "limitEnds" "Z", .fieldLink RX1 40 "SpoolRows$Output" "held" "Z"]
def wsX1_takeSettingsOf : List Cond := .code yX1_takeSettingsOf cX1_takeSettingsOf 2 none :: (woX1_takeSettingsOf ++ wsX10)
theorem gdX1_takeSettingsOf : ∀ w ∈ wsX1_takeSettingsOf, goodWord w = true := List.forall_mem_cons.mpr ⟨rfl, (List.forall_mem_append.mpr ⟨(by decide +kernel), gdX1⟩)⟩
def woX0_segment : List Cond := [.methodLink RX0 66 yX0_outputOf, .instanceMethod yX0_outputOf, .selects RX0 yX0_outputOf yX0_outputOf, .initialized RX0, .fieldLink RX0 71 "SpoolRows$Output" "state" "I", .fieldLink RX0 103 "SpoolRows$Output" "lines" "I", .fieldLink RX0 52 "SpoolRows" "outputCount" "I", .fieldLink RX0 96 "SpoolRows$Output" "job" "I", .fieldLink RX0 106 "SpoolRows$Output" "kind" "I", .fieldLink RX0 109 "SpoolRows$Output" "copies" "I", .methodLink RX0 59 yX0_addOutput, .instanceMethod yX0_addOutput, .selects RX0 yX0_addOutput yX0_addOutput, .methodLink RX0 112 yX1_takeSettingsOf, .instanceMethod yX1_takeSettingsOf, .selects RX1 yX1_takeSettingsOf yX1_takeSettingsOf, .initialized RX1, .fieldLink RX0 63 "SpoolRows$Output" "number" "I"]
def wsX0_segment : List Cond := .code yX0_segment cX0_segment 4 (some .int) :: (woX0_segment ++ (wsX10 ++ (wsX00 ++ (wsX0_outputOf ++ (wsX0_addOutput ++ wsX1_takeSettingsOf)))))
theorem gdX0_segment : ∀ w ∈ wsX0_segment, goodWord w = true := List.forall_mem_cons.mpr ⟨rfl, (List.forall_mem_append.mpr ⟨(by decide +kernel), (List.forall_mem_append.mpr ⟨gdX1, (List.forall_mem_append.mpr ⟨gdX0, (List.forall_mem_append.mpr ⟨gdX0_outputOf, (List.forall_mem_append.mpr ⟨gdX0_addOutput, gdX1_takeSettingsOf⟩)⟩)⟩)⟩)⟩)⟩
def woX3_segment : List Cond := [.methodLink RX3 89 yX3_isOutput, .instanceMethod yX3_isOutput, .selects RX3 yX3_isOutput yX3_isOutput, .initialized RX3, .fieldLink RX3 25 "SpoolRowsModel" "states" "[I", .fieldLink RX3 28 "SpoolRowsModel" "lines" "[I", .fieldLink RX3 67 "SpoolRowsModel" "outputs" "I", .fieldLink RX3 7 "SpoolRowsModel" "jobs" "[I", .fieldLink RX3 13 "SpoolRowsModel" "classes" "[I", .fieldLink RX3 16 "SpoolRowsModel" "copies" "[I", .fieldLink RX3 19 "SpoolRowsModel" "destinations" "[I", .fieldLink RX3 22 "SpoolRowsModel" "priorities" "[I", .methodLink RX3 85 yX3_create, .instanceMethod yX3_create, .selects RX3 yX3_create yX3_create, .fieldLink RX3 31 "SpoolRowsModel" "limits" "[I", .fieldLink RX3 37 "SpoolRowsModel" "ends" "[Z", .fieldLink RX3 41 "SpoolRowsModel" "held" "[Z"]
def wsX3_segment : List Cond := .code yX3_segment cX3_segment 2 (some .int) :: (woX3_segment ++ (wsX30 ++ (wsX3_isOutput ++ wsX3_create)))
theorem gdX3_segment : ∀ w ∈ wsX3_segment, goodWord w = true := List.forall_mem_cons.mpr ⟨rfl, (List.forall_mem_append.mpr ⟨(by decide +kernel), (List.forall_mem_append.mpr ⟨gdX3, (List.forall_mem_append.mpr ⟨gdX3_isOutput, gdX3_create⟩)⟩)⟩)⟩
def woX2_init : List Cond := [.methodLink RX2 3 objectInit, .instanceMethod objectInit, .code objectInit ⟨#[0xb1]⟩ 1 none, .fieldLink RX2 9 "SpoolRows$Writer" "kind" "I", .fieldLink RX2 15 "SpoolRows$Writer" "destination" "I"]
def wsX2_init : List Cond := .code yX2_init cX2_init 3 none :: (woX2_init ++ wsX20)
theorem gdX2_init : ∀ w ∈ wsX2_init, goodWord w = true := List.forall_mem_cons.mpr ⟨rfl, (List.forall_mem_append.mpr ⟨(by decide +kernel), gdX2⟩)⟩
def woX0_writer : List Cond := [.fieldLink RX0 115 "SpoolRows" "writerCount" "I", .fieldLink RX0 17 "SpoolRows" "writers" "[LSpoolRows$Writer;", .classLink RX0 15 RX2, .instantiable RX2 3, .initialized RX2, .methodLink RX0 118 yX2_init, .instanceMethod yX2_init]
def wsX0_writer : List Cond := .code yX0_writer cX0_writer 4 (some .int) :: (woX0_writer ++ (wsX00 ++ (wsX20 ++ wsX2_init)))
theorem gdX0_writer : ∀ w ∈ wsX0_writer, goodWord w = true := List.forall_mem_cons.mpr ⟨rfl, (List.forall_mem_append.mpr ⟨(by decide +kernel), (List.forall_mem_append.mpr ⟨gdX0, (List.forall_mem_append.mpr ⟨gdX2, gdX2_init⟩)⟩)⟩)⟩
def woX3_writer : List Cond := [.fieldLink RX3 70 "SpoolRowsModel" "writers" "I", .fieldLink RX3 53 "SpoolRowsModel" "criteria" "[I"]
def wsX3_writer : List Cond := .code yX3_writer cX3_writer 2 (some .int) :: (woX3_writer ++ wsX30)
theorem gdX3_writer : ∀ w ∈ wsX3_writer, goodWord w = true := List.forall_mem_cons.mpr ⟨rfl, (List.forall_mem_append.mpr ⟨(by decide +kernel), gdX3⟩)⟩
def woX0_writerOf : List Cond := [.fieldLink RX0 115 "SpoolRows" "writerCount" "I", .methodLink RX0 48 yX0_isWithin, .static yX0_isWithin, .initialized RX0, .fieldLink RX0 17 "SpoolRows" "writers" "[LSpoolRows$Writer;"]
def wsX0_writerOf : List Cond := .code yX0_writerOf cX0_writerOf 2 (some (.object "SpoolRows$Writer")) :: (woX0_writerOf ++ (wsX00 ++ wsX0_isWithin))
theorem gdX0_writerOf : ∀ w ∈ wsX0_writerOf, goodWord w = true := List.forall_mem_cons.mpr ⟨rfl, (List.forall_mem_append.mpr ⟨(by decide +kernel), (List.forall_mem_append.mpr ⟨gdX0, gdX0_isWithin⟩)⟩)⟩
def woX1_mayBePrinted : List Cond := [.fieldLink RX1 9 "SpoolRows$Output" "state" "I", .fieldLink RX1 40 "SpoolRows$Output" "held" "Z", .fieldLink RX1 43 "SpoolRows$Output" "lines" "I"]
def wsX1_mayBePrinted : List Cond := .code yX1_mayBePrinted cX1_mayBePrinted 1 (some .boolean) :: (woX1_mayBePrinted ++ wsX10)
theorem gdX1_mayBePrinted : ∀ w ∈ wsX1_mayBePrinted, goodWord w = true := List.forall_mem_cons.mpr ⟨rfl, (List.forall_mem_append.mpr ⟨(by decide +kernel), gdX1⟩)⟩
def woX2_suits : List Cond := [.fieldLink RX2 9 "SpoolRows$Writer" "kind" "I", .fieldLink RX2 18 "SpoolRows$Output" "kind" "I", .fieldLink RX2 15 "SpoolRows$Writer" "destination" "I", .fieldLink RX2 21 "SpoolRows$Output" "destination" "I"]
def wsX2_suits : List Cond := .code yX2_suits cX2_suits 2 (some .boolean) :: (woX2_suits ++ (wsX20 ++ wsX10))
theorem gdX2_suits : ∀ w ∈ wsX2_suits, goodWord w = true := List.forall_mem_cons.mpr ⟨rfl, (List.forall_mem_append.mpr ⟨(by decide +kernel), (List.forall_mem_append.mpr ⟨gdX2, gdX1⟩)⟩)⟩
def woX1_comesBefore : List Cond := [.fieldLink RX1 30 "SpoolRows$Output" "priority" "I", .fieldLink RX1 18 "SpoolRows$Output" "job" "I", .fieldLink RX1 15 "SpoolRows$Output" "number" "I"]
def wsX1_comesBefore : List Cond := .code yX1_comesBefore cX1_comesBefore 2 (some .boolean) :: (woX1_comesBefore ++ wsX10)
theorem gdX1_comesBefore : ∀ w ∈ wsX1_comesBefore, goodWord w = true := List.forall_mem_cons.mpr ⟨rfl, (List.forall_mem_append.mpr ⟨(by decide +kernel), gdX1⟩)⟩
def woX0_firstFor : List Cond := [.fieldLink RX0 52 "SpoolRows" "outputCount" "I", .fieldLink RX0 11 "SpoolRows" "outputs" "[LSpoolRows$Output;", .methodLink RX0 194 yX1_mayBePrinted, .instanceMethod yX1_mayBePrinted, .selects RX1 yX1_mayBePrinted yX1_mayBePrinted, .initialized RX1, .methodLink RX0 197 yX2_suits, .instanceMethod yX2_suits, .selects RX2 yX2_suits yX2_suits, .initialized RX2, .methodLink RX0 200 yX1_comesBefore, .instanceMethod yX1_comesBefore, .selects RX1 yX1_comesBefore yX1_comesBefore]
def wsX0_firstFor : List Cond := .code yX0_firstFor cX0_firstFor 5 (some (.object "SpoolRows$Output")) :: (woX0_firstFor ++ (wsX00 ++ (wsX1_mayBePrinted ++ (wsX2_suits ++ wsX1_comesBefore))))
theorem gdX0_firstFor : ∀ w ∈ wsX0_firstFor, goodWord w = true := List.forall_mem_cons.mpr ⟨rfl, (List.forall_mem_append.mpr ⟨(by decide +kernel), (List.forall_mem_append.mpr ⟨gdX0, (List.forall_mem_append.mpr ⟨gdX1_mayBePrinted, (List.forall_mem_append.mpr ⟨gdX2_suits, gdX1_comesBefore⟩)⟩)⟩)⟩)⟩
def woX0_next : List Cond := [.methodLink RX0 121 yX0_writerOf, .instanceMethod yX0_writerOf, .selects RX0 yX0_writerOf yX0_writerOf, .initialized RX0, .fieldLink RX0 125 "SpoolRows$Writer" "taken" "LSpoolRows$Output;", .methodLink RX0 129 yX0_firstFor, .instanceMethod yX0_firstFor, .selects RX0 yX0_firstFor yX0_firstFor, .fieldLink RX0 71 "SpoolRows$Output" "state" "I", .fieldLink RX0 63 "SpoolRows$Output" "number" "I"]
def wsX0_next : List Cond := .code yX0_next cX0_next 4 (some .int) :: (woX0_next ++ (wsX20 ++ (wsX10 ++ (wsX0_writerOf ++ wsX0_firstFor))))
theorem gdX0_next : ∀ w ∈ wsX0_next, goodWord w = true := List.forall_mem_cons.mpr ⟨rfl, (List.forall_mem_append.mpr ⟨(by decide +kernel), (List.forall_mem_append.mpr ⟨gdX2, (List.forall_mem_append.mpr ⟨gdX1, (List.forall_mem_append.mpr ⟨gdX0_writerOf, gdX0_firstFor⟩)⟩)⟩)⟩)⟩
def woX3_isWriter : List Cond := [.fieldLink RX3 70 "SpoolRowsModel" "writers" "I"]
def wsX3_isWriter : List Cond := .code yX3_isWriter cX3_isWriter 2 (some .boolean) :: (woX3_isWriter ++ wsX30)
theorem gdX3_isWriter : ∀ w ∈ wsX3_isWriter, goodWord w = true := List.forall_mem_cons.mpr ⟨rfl, (List.forall_mem_append.mpr ⟨(by decide +kernel), gdX3⟩)⟩
def woX3_fits : List Cond := [.fieldLink RX3 13 "SpoolRowsModel" "classes" "[I", .fieldLink RX3 19 "SpoolRowsModel" "destinations" "[I"]
def wsX3_fits : List Cond := .code yX3_fits cX3_fits 3 (some .boolean) :: (woX3_fits ++ wsX30)
theorem gdX3_fits : ∀ w ∈ wsX3_fits, goodWord w = true := List.forall_mem_cons.mpr ⟨rfl, (List.forall_mem_append.mpr ⟨(by decide +kernel), gdX3⟩)⟩
def woX3_next : List Cond := [.methodLink RX3 100 yX3_isWriter, .instanceMethod yX3_isWriter, .selects RX3 yX3_isWriter yX3_isWriter, .initialized RX3, .fieldLink RX3 56 "SpoolRowsModel" "has" "[I", .fieldLink RX3 67 "SpoolRowsModel" "outputs" "I", .fieldLink RX3 25 "SpoolRowsModel" "states" "[I", .fieldLink RX3 41 "SpoolRowsModel" "held" "[Z", .fieldLink RX3 28 "SpoolRowsModel" "lines" "[I", .fieldLink RX3 53 "SpoolRowsModel" "criteria" "[I", .methodLink RX3 103 yX3_fits, .instanceMethod yX3_fits, .selects RX3 yX3_fits yX3_fits, .fieldLink RX3 22 "SpoolRowsModel" "priorities" "[I", .fieldLink RX3 7 "SpoolRowsModel" "jobs" "[I"]
def wsX3_next : List Cond := .code yX3_next cX3_next 5 (some .int) :: (woX3_next ++ (wsX30 ++ (wsX3_isWriter ++ wsX3_fits)))
theorem gdX3_next : ∀ w ∈ wsX3_next, goodWord w = true := List.forall_mem_cons.mpr ⟨rfl, (List.forall_mem_append.mpr ⟨(by decide +kernel), (List.forall_mem_append.mpr ⟨gdX3, (List.forall_mem_append.mpr ⟨gdX3_isWriter, gdX3_fits⟩)⟩)⟩)⟩
def woX1_pagesToPrint : List Cond := [.methodLink RX1 46 yX1_pageCount, .instanceMethod yX1_pageCount, .selects RX1 yX1_pageCount yX1_pageCount, .initialized RX1, .fieldLink RX1 24 "SpoolRows$Output" "copies" "I", .fieldLink RX1 50 "SpoolRows$Output" "printed" "I"]
def wsX1_pagesToPrint : List Cond := .code yX1_pagesToPrint cX1_pagesToPrint 1 (some .int) :: (woX1_pagesToPrint ++ (wsX10 ++ wsX1_pageCount))
theorem gdX1_pagesToPrint : ∀ w ∈ wsX1_pagesToPrint, goodWord w = true := List.forall_mem_cons.mpr ⟨rfl, (List.forall_mem_append.mpr ⟨(by decide +kernel), (List.forall_mem_append.mpr ⟨gdX1, gdX1_pageCount⟩)⟩)⟩
def woX0_noteInOrder : List Cond := [.fieldLink RX0 176 "SpoolRows" "printedCount" "I", .fieldLink RX0 21 "SpoolRows" "printedOrder" "[I", .fieldLink RX0 63 "SpoolRows$Output" "number" "I"]
def wsX0_noteInOrder : List Cond := .code yX0_noteInOrder cX0_noteInOrder 2 none :: (woX0_noteInOrder ++ (wsX00 ++ wsX10))
theorem gdX0_noteInOrder : ∀ w ∈ wsX0_noteInOrder, goodWord w = true := List.forall_mem_cons.mpr ⟨rfl, (List.forall_mem_append.mpr ⟨(by decide +kernel), (List.forall_mem_append.mpr ⟨gdX0, gdX1⟩)⟩)⟩
def woX0_print : List Cond := [.methodLink RX0 121 yX0_writerOf, .instanceMethod yX0_writerOf, .selects RX0 yX0_writerOf yX0_writerOf, .initialized RX0, .fieldLink RX0 125 "SpoolRows$Writer" "taken" "LSpoolRows$Output;", .methodLink RX0 133 yX1_pagesToPrint, .instanceMethod yX1_pagesToPrint, .selects RX1 yX1_pagesToPrint yX1_pagesToPrint, .initialized RX1, .methodLink RX0 32 Lib.Math.min.name, .static Lib.Math.min.name, .initialized "java/lang/Math", .code Lib.Math.min.name Lib.Math.min.code 2 (some .int), .fieldLink RX0 137 "SpoolRows$Output" "printed" "I", .fieldLink RX0 140 "SpoolRows" "pagesPrinted" "I", .methodLink RX0 143 yX0_noteInOrder, .instanceMethod yX0_noteInOrder, .selects RX0 yX0_noteInOrder yX0_noteInOrder, .methodLink RX0 146 yX0_letGo, .instanceMethod yX0_letGo, .selects RX0 yX0_letGo yX0_letGo]
def wsX0_print : List Cond := .code yX0_print cX0_print 6 (some .int) :: (woX0_print ++ (wsX20 ++ (wsX10 ++ (wsX00 ++ (wsX0_writerOf ++ (wsX1_pagesToPrint ++ (wsX0_noteInOrder ++ wsX0_letGo)))))))
theorem gdX0_print : ∀ w ∈ wsX0_print, goodWord w = true := List.forall_mem_cons.mpr ⟨rfl, (List.forall_mem_append.mpr ⟨(by decide +kernel), (List.forall_mem_append.mpr ⟨gdX2, (List.forall_mem_append.mpr ⟨gdX1, (List.forall_mem_append.mpr ⟨gdX0, (List.forall_mem_append.mpr ⟨gdX0_writerOf, (List.forall_mem_append.mpr ⟨gdX1_pagesToPrint, (List.forall_mem_append.mpr ⟨gdX0_noteInOrder, gdX0_letGo⟩)⟩)⟩)⟩)⟩)⟩)⟩)⟩
def woX3_print : List Cond := [.methodLink RX3 100 yX3_isWriter, .instanceMethod yX3_isWriter, .selects RX3 yX3_isWriter yX3_isWriter, .initialized RX3, .fieldLink RX3 56 "SpoolRowsModel" "has" "[I", .methodLink RX3 77 yX3_pagesOf, .instanceMethod yX3_pagesOf, .selects RX3 yX3_pagesOf yX3_pagesOf, .fieldLink RX3 16 "SpoolRowsModel" "copies" "[I", .fieldLink RX3 34 "SpoolRowsModel" "done" "[I", .fieldLink RX3 107 "SpoolRowsModel" "pagesPrinted" "I", .methodLink RX3 96 yX3_goes, .instanceMethod yX3_goes, .selects RX3 yX3_goes yX3_goes, .fieldLink RX3 59 "SpoolRowsModel" "printed" "[I", .fieldLink RX3 110 "SpoolRowsModel" "finished" "I"]
def wsX3_print : List Cond := .code yX3_print cX3_print 6 (some .int) :: (woX3_print ++ (wsX30 ++ (wsX3_isWriter ++ (wsX3_pagesOf ++ wsX3_goes))))
theorem gdX3_print : ∀ w ∈ wsX3_print, goodWord w = true := List.forall_mem_cons.mpr ⟨rfl, (List.forall_mem_append.mpr ⟨(by decide +kernel), (List.forall_mem_append.mpr ⟨gdX3, (List.forall_mem_append.mpr ⟨gdX3_isWriter, (List.forall_mem_append.mpr ⟨gdX3_pagesOf, gdX3_goes⟩)⟩)⟩)⟩)⟩
def woX1_lastCheckpoint : List Cond := [.fieldLink RX1 50 "SpoolRows$Output" "printed" "I"]
def wsX1_lastCheckpoint : List Cond := .code yX1_lastCheckpoint cX1_lastCheckpoint 1 (some .int) :: (woX1_lastCheckpoint ++ wsX10)
theorem gdX1_lastCheckpoint : ∀ w ∈ wsX1_lastCheckpoint, goodWord w = true := List.forall_mem_cons.mpr ⟨rfl, (List.forall_mem_append.mpr ⟨(by decide +kernel), gdX1⟩)⟩
def woX0_cut : List Cond := [.methodLink RX0 121 yX0_writerOf, .instanceMethod yX0_writerOf, .selects RX0 yX0_writerOf yX0_writerOf, .initialized RX0, .fieldLink RX0 125 "SpoolRows$Writer" "taken" "LSpoolRows$Output;", .methodLink RX0 149 yX1_lastCheckpoint, .instanceMethod yX1_lastCheckpoint, .selects RX1 yX1_lastCheckpoint yX1_lastCheckpoint, .initialized RX1, .fieldLink RX0 152 "SpoolRows$Output" "purgeWaits" "Z", .methodLink RX0 146 yX0_letGo, .instanceMethod yX0_letGo, .selects RX0 yX0_letGo yX0_letGo, .fieldLink RX0 155 "SpoolRows" "pagesAgain" "I", .fieldLink RX0 137 "SpoolRows$Output" "printed" "I"]
def wsX0_cut : List Cond := .code yX0_cut cX0_cut 5 (some .int) :: (woX0_cut ++ (wsX20 ++ (wsX10 ++ (wsX00 ++ (wsX0_writerOf ++ (wsX1_lastCheckpoint ++ wsX0_letGo))))))
theorem gdX0_cut : ∀ w ∈ wsX0_cut, goodWord w = true := List.forall_mem_cons.mpr ⟨rfl, (List.forall_mem_append.mpr ⟨(by decide +kernel), (List.forall_mem_append.mpr ⟨gdX2, (List.forall_mem_append.mpr ⟨gdX1, (List.forall_mem_append.mpr ⟨gdX0, (List.forall_mem_append.mpr ⟨gdX0_writerOf, (List.forall_mem_append.mpr ⟨gdX1_lastCheckpoint, gdX0_letGo⟩)⟩)⟩)⟩)⟩)⟩)⟩
def woX3_cut : List Cond := [.methodLink RX3 100 yX3_isWriter, .instanceMethod yX3_isWriter, .selects RX3 yX3_isWriter yX3_isWriter, .initialized RX3, .fieldLink RX3 56 "SpoolRowsModel" "has" "[I", .fieldLink RX3 34 "SpoolRowsModel" "done" "[I", .fieldLink RX3 44 "SpoolRowsModel" "waits" "[Z", .methodLink RX3 96 yX3_goes, .instanceMethod yX3_goes, .selects RX3 yX3_goes yX3_goes, .fieldLink RX3 113 "SpoolRowsModel" "again" "I"]
def wsX3_cut : List Cond := .code yX3_cut cX3_cut 4 (some .int) :: (woX3_cut ++ (wsX30 ++ (wsX3_isWriter ++ wsX3_goes)))
theorem gdX3_cut : ∀ w ∈ wsX3_cut, goodWord w = true := List.forall_mem_cons.mpr ⟨rfl, (List.forall_mem_append.mpr ⟨(by decide +kernel), (List.forall_mem_append.mpr ⟨gdX3, (List.forall_mem_append.mpr ⟨gdX3_isWriter, gdX3_goes⟩)⟩)⟩)⟩
def woX0_purge : List Cond := [.methodLink RX0 66 yX0_outputOf, .instanceMethod yX0_outputOf, .selects RX0 yX0_outputOf yX0_outputOf, .initialized RX0, .methodLink RX0 90 yX1_isGone, .instanceMethod yX1_isGone, .selects RX1 yX1_isGone yX1_isGone, .initialized RX1, .fieldLink RX0 71 "SpoolRows$Output" "state" "I", .fieldLink RX0 152 "SpoolRows$Output" "purgeWaits" "Z", .methodLink RX0 146 yX0_letGo, .instanceMethod yX0_letGo, .selects RX0 yX0_letGo yX0_letGo]
def wsX0_purge : List Cond := .code yX0_purge cX0_purge 3 (some .int) :: (woX0_purge ++ (wsX10 ++ (wsX0_outputOf ++ (wsX1_isGone ++ wsX0_letGo))))
theorem gdX0_purge : ∀ w ∈ wsX0_purge, goodWord w = true := List.forall_mem_cons.mpr ⟨rfl, (List.forall_mem_append.mpr ⟨(by decide +kernel), (List.forall_mem_append.mpr ⟨gdX1, (List.forall_mem_append.mpr ⟨gdX0_outputOf, (List.forall_mem_append.mpr ⟨gdX1_isGone, gdX0_letGo⟩)⟩)⟩)⟩)⟩
def woX3_purge : List Cond := [.methodLink RX3 89 yX3_isOutput, .instanceMethod yX3_isOutput, .selects RX3 yX3_isOutput yX3_isOutput, .initialized RX3, .methodLink RX3 73 yX3_isGone, .instanceMethod yX3_isGone, .selects RX3 yX3_isGone yX3_isGone, .fieldLink RX3 25 "SpoolRowsModel" "states" "[I", .fieldLink RX3 44 "SpoolRowsModel" "waits" "[Z", .methodLink RX3 96 yX3_goes, .instanceMethod yX3_goes, .selects RX3 yX3_goes yX3_goes]
def wsX3_purge : List Cond := .code yX3_purge cX3_purge 2 (some .int) :: (woX3_purge ++ (wsX30 ++ (wsX3_isOutput ++ (wsX3_isGone ++ wsX3_goes))))
theorem gdX3_purge : ∀ w ∈ wsX3_purge, goodWord w = true := List.forall_mem_cons.mpr ⟨rfl, (List.forall_mem_append.mpr ⟨(by decide +kernel), (List.forall_mem_append.mpr ⟨gdX3, (List.forall_mem_append.mpr ⟨gdX3_isOutput, (List.forall_mem_append.mpr ⟨gdX3_isGone, gdX3_goes⟩)⟩)⟩)⟩)⟩
def woX1_isOpenOrReleased : List Cond := [.fieldLink RX1 9 "SpoolRows$Output" "state" "I"]
def wsX1_isOpenOrReleased : List Cond := .code yX1_isOpenOrReleased cX1_isOpenOrReleased 1 (some .boolean) :: (woX1_isOpenOrReleased ++ wsX10)
theorem gdX1_isOpenOrReleased : ∀ w ∈ wsX1_isOpenOrReleased, goodWord w = true := List.forall_mem_cons.mpr ⟨rfl, (List.forall_mem_append.mpr ⟨(by decide +kernel), gdX1⟩)⟩
def woX0_hold : List Cond := [.methodLink RX0 66 yX0_outputOf, .instanceMethod yX0_outputOf, .selects RX0 yX0_outputOf yX0_outputOf, .initialized RX0, .methodLink RX0 158 yX1_isOpenOrReleased, .instanceMethod yX1_isOpenOrReleased, .selects RX1 yX1_isOpenOrReleased yX1_isOpenOrReleased, .initialized RX1, .fieldLink RX0 161 "SpoolRows$Output" "held" "Z"]
def wsX0_hold : List Cond := .code yX0_hold cX0_hold 5 (some .int) :: (woX0_hold ++ (wsX10 ++ (wsX0_outputOf ++ wsX1_isOpenOrReleased)))
theorem gdX0_hold : ∀ w ∈ wsX0_hold, goodWord w = true := List.forall_mem_cons.mpr ⟨rfl, (List.forall_mem_append.mpr ⟨(by decide +kernel), (List.forall_mem_append.mpr ⟨gdX1, (List.forall_mem_append.mpr ⟨gdX0_outputOf, gdX1_isOpenOrReleased⟩)⟩)⟩)⟩
def woX3_isStill : List Cond := [.fieldLink RX3 25 "SpoolRowsModel" "states" "[I"]
def wsX3_isStill : List Cond := .code yX3_isStill cX3_isStill 2 (some .boolean) :: (woX3_isStill ++ wsX30)
theorem gdX3_isStill : ∀ w ∈ wsX3_isStill, goodWord w = true := List.forall_mem_cons.mpr ⟨rfl, (List.forall_mem_append.mpr ⟨(by decide +kernel), gdX3⟩)⟩
def woX3_hold : List Cond := [.methodLink RX3 89 yX3_isOutput, .instanceMethod yX3_isOutput, .selects RX3 yX3_isOutput yX3_isOutput, .initialized RX3, .methodLink RX3 116 yX3_isStill, .instanceMethod yX3_isStill, .selects RX3 yX3_isStill yX3_isStill, .fieldLink RX3 41 "SpoolRowsModel" "held" "[Z"]
def wsX3_hold : List Cond := .code yX3_hold cX3_hold 4 (some .int) :: (woX3_hold ++ (wsX30 ++ (wsX3_isOutput ++ wsX3_isStill)))
theorem gdX3_hold : ∀ w ∈ wsX3_hold, goodWord w = true := List.forall_mem_cons.mpr ⟨rfl, (List.forall_mem_append.mpr ⟨(by decide +kernel), (List.forall_mem_append.mpr ⟨gdX3, (List.forall_mem_append.mpr ⟨gdX3_isOutput, gdX3_isStill⟩)⟩)⟩)⟩
def woX0_route : List Cond := [.methodLink RX0 66 yX0_outputOf, .instanceMethod yX0_outputOf, .selects RX0 yX0_outputOf yX0_outputOf, .initialized RX0, .methodLink RX0 48 yX0_isWithin, .static yX0_isWithin, .methodLink RX0 158 yX1_isOpenOrReleased, .instanceMethod yX1_isOpenOrReleased, .selects RX1 yX1_isOpenOrReleased yX1_isOpenOrReleased, .initialized RX1, .fieldLink RX0 164 "SpoolRows$Output" "priority" "I", .fieldLink RX0 167 "SpoolRows$Output" "destination" "I"]
def wsX0_route : List Cond := .code yX0_route cX0_route 5 (some .int) :: (woX0_route ++ (wsX10 ++ (wsX0_outputOf ++ (wsX0_isWithin ++ wsX1_isOpenOrReleased))))
theorem gdX0_route : ∀ w ∈ wsX0_route, goodWord w = true := List.forall_mem_cons.mpr ⟨rfl, (List.forall_mem_append.mpr ⟨(by decide +kernel), (List.forall_mem_append.mpr ⟨gdX1, (List.forall_mem_append.mpr ⟨gdX0_outputOf, (List.forall_mem_append.mpr ⟨gdX0_isWithin, gdX1_isOpenOrReleased⟩)⟩)⟩)⟩)⟩
def woX3_route : List Cond := [.methodLink RX3 89 yX3_isOutput, .instanceMethod yX3_isOutput, .selects RX3 yX3_isOutput yX3_isOutput, .initialized RX3, .methodLink RX3 116 yX3_isStill, .instanceMethod yX3_isStill, .selects RX3 yX3_isStill yX3_isStill, .fieldLink RX3 22 "SpoolRowsModel" "priorities" "[I", .fieldLink RX3 19 "SpoolRowsModel" "destinations" "[I"]
def wsX3_route : List Cond := .code yX3_route cX3_route 4 (some .int) :: (woX3_route ++ (wsX30 ++ (wsX3_isOutput ++ wsX3_isStill)))
theorem gdX3_route : ∀ w ∈ wsX3_route, goodWord w = true := List.forall_mem_cons.mpr ⟨rfl, (List.forall_mem_append.mpr ⟨(by decide +kernel), (List.forall_mem_append.mpr ⟨gdX3, (List.forall_mem_append.mpr ⟨gdX3_isOutput, gdX3_isStill⟩)⟩)⟩)⟩
def woX0_isThere : List Cond := [.methodLink RX0 66 yX0_outputOf, .instanceMethod yX0_outputOf, .selects RX0 yX0_outputOf yX0_outputOf, .initialized RX0, .methodLink RX0 90 yX1_isGone, .instanceMethod yX1_isGone, .selects RX1 yX1_isGone yX1_isGone, .initialized RX1]
def wsX0_isThere : List Cond := .code yX0_isThere cX0_isThere 3 (some .boolean) :: (woX0_isThere ++ (wsX0_outputOf ++ wsX1_isGone))
theorem gdX0_isThere : ∀ w ∈ wsX0_isThere, goodWord w = true := List.forall_mem_cons.mpr ⟨rfl, (List.forall_mem_append.mpr ⟨(by decide +kernel), (List.forall_mem_append.mpr ⟨gdX0_outputOf, gdX1_isGone⟩)⟩)⟩
def woX0_search : List Cond := [.methodLink RX0 48 yX0_isWithin, .static yX0_isWithin, .initialized RX0, .fieldLink RX0 170 "SpoolRows" "keptLines" "I", .fieldLink RX0 25 "SpoolRows" "lineSigns" "[I", .fieldLink RX0 28 "SpoolRows" "lineOutputs" "[I", .methodLink RX0 173 yX0_isThere, .instanceMethod yX0_isThere, .selects RX0 yX0_isThere yX0_isThere]
def wsX0_search : List Cond := .code yX0_search cX0_search 4 (some .int) :: (woX0_search ++ (wsX00 ++ (wsX0_isWithin ++ wsX0_isThere)))
theorem gdX0_search : ∀ w ∈ wsX0_search, goodWord w = true := List.forall_mem_cons.mpr ⟨rfl, (List.forall_mem_append.mpr ⟨(by decide +kernel), (List.forall_mem_append.mpr ⟨gdX0, (List.forall_mem_append.mpr ⟨gdX0_isWithin, gdX0_isThere⟩)⟩)⟩)⟩
def woX3_search : List Cond := [.fieldLink RX3 93 "SpoolRowsModel" "all" "I", .fieldLink RX3 50 "SpoolRowsModel" "signs" "[I", .fieldLink RX3 47 "SpoolRowsModel" "owners" "[I", .methodLink RX3 73 yX3_isGone, .instanceMethod yX3_isGone, .selects RX3 yX3_isGone yX3_isGone, .initialized RX3]
def wsX3_search : List Cond := .code yX3_search cX3_search 4 (some .int) :: (woX3_search ++ (wsX30 ++ wsX3_isGone))
theorem gdX3_search : ∀ w ∈ wsX3_search, goodWord w = true := List.forall_mem_cons.mpr ⟨rfl, (List.forall_mem_append.mpr ⟨(by decide +kernel), (List.forall_mem_append.mpr ⟨gdX3, gdX3_isGone⟩)⟩)⟩
def woX0_order : List Cond := [.fieldLink RX0 176 "SpoolRows" "printedCount" "I", .methodLink RX0 48 yX0_isWithin, .static yX0_isWithin, .initialized RX0, .fieldLink RX0 21 "SpoolRows" "printedOrder" "[I"]
def wsX0_order : List Cond := .code yX0_order cX0_order 2 (some .int) :: (woX0_order ++ (wsX00 ++ wsX0_isWithin))
theorem gdX0_order : ∀ w ∈ wsX0_order, goodWord w = true := List.forall_mem_cons.mpr ⟨rfl, (List.forall_mem_append.mpr ⟨(by decide +kernel), (List.forall_mem_append.mpr ⟨gdX0, gdX0_isWithin⟩)⟩)⟩
def woX3_order : List Cond := [.fieldLink RX3 110 "SpoolRowsModel" "finished" "I", .fieldLink RX3 59 "SpoolRowsModel" "printed" "[I"]
def wsX3_order : List Cond := .code yX3_order cX3_order 2 (some .int) :: (woX3_order ++ wsX30)
theorem gdX3_order : ∀ w ∈ wsX3_order, goodWord w = true := List.forall_mem_cons.mpr ⟨rfl, (List.forall_mem_append.mpr ⟨(by decide +kernel), gdX3⟩)⟩
def woX1_copiesLeft : List Cond := [.methodLink RX1 46 yX1_pageCount, .instanceMethod yX1_pageCount, .selects RX1 yX1_pageCount yX1_pageCount, .initialized RX1, .fieldLink RX1 24 "SpoolRows$Output" "copies" "I", .fieldLink RX1 50 "SpoolRows$Output" "printed" "I"]
def wsX1_copiesLeft : List Cond := .code yX1_copiesLeft cX1_copiesLeft 2 (some .int) :: (woX1_copiesLeft ++ (wsX10 ++ wsX1_pageCount))
theorem gdX1_copiesLeft : ∀ w ∈ wsX1_copiesLeft, goodWord w = true := List.forall_mem_cons.mpr ⟨rfl, (List.forall_mem_append.mpr ⟨(by decide +kernel), (List.forall_mem_append.mpr ⟨gdX1, gdX1_pageCount⟩)⟩)⟩
def woX0_state : List Cond := [.methodLink RX0 66 yX0_outputOf, .instanceMethod yX0_outputOf, .selects RX0 yX0_outputOf yX0_outputOf, .initialized RX0, .fieldLink RX0 161 "SpoolRows$Output" "held" "Z", .fieldLink RX0 71 "SpoolRows$Output" "state" "I", .fieldLink RX0 103 "SpoolRows$Output" "lines" "I", .methodLink RX0 179 yX1_pageCount, .instanceMethod yX1_pageCount, .selects RX1 yX1_pageCount yX1_pageCount, .initialized RX1, .fieldLink RX0 137 "SpoolRows$Output" "printed" "I", .fieldLink RX0 96 "SpoolRows$Output" "job" "I", .methodLink RX0 182 yX1_copiesLeft, .instanceMethod yX1_copiesLeft, .selects RX1 yX1_copiesLeft yX1_copiesLeft]
def wsX0_state : List Cond := .code yX0_state cX0_state 4 (some .int) :: (woX0_state ++ (wsX10 ++ (wsX0_outputOf ++ (wsX1_pageCount ++ wsX1_copiesLeft))))
theorem gdX0_state : ∀ w ∈ wsX0_state, goodWord w = true := List.forall_mem_cons.mpr ⟨rfl, (List.forall_mem_append.mpr ⟨(by decide +kernel), (List.forall_mem_append.mpr ⟨gdX1, (List.forall_mem_append.mpr ⟨gdX0_outputOf, (List.forall_mem_append.mpr ⟨gdX1_pageCount, gdX1_copiesLeft⟩)⟩)⟩)⟩)⟩
def woX3_state : List Cond := [.methodLink RX3 89 yX3_isOutput, .instanceMethod yX3_isOutput, .selects RX3 yX3_isOutput yX3_isOutput, .initialized RX3, .methodLink RX3 77 yX3_pagesOf, .instanceMethod yX3_pagesOf, .selects RX3 yX3_pagesOf yX3_pagesOf, .fieldLink RX3 25 "SpoolRowsModel" "states" "[I", .fieldLink RX3 41 "SpoolRowsModel" "held" "[Z", .fieldLink RX3 28 "SpoolRowsModel" "lines" "[I", .fieldLink RX3 34 "SpoolRowsModel" "done" "[I", .fieldLink RX3 7 "SpoolRowsModel" "jobs" "[I", .fieldLink RX3 16 "SpoolRowsModel" "copies" "[I"]
def wsX3_state : List Cond := .code yX3_state cX3_state 4 (some .int) :: (woX3_state ++ (wsX30 ++ (wsX3_isOutput ++ wsX3_pagesOf)))
theorem gdX3_state : ∀ w ∈ wsX3_state, goodWord w = true := List.forall_mem_cons.mpr ⟨rfl, (List.forall_mem_append.mpr ⟨(by decide +kernel), (List.forall_mem_append.mpr ⟨gdX3, (List.forall_mem_append.mpr ⟨gdX3_isOutput, gdX3_pagesOf⟩)⟩)⟩)⟩
def woX0_outputsThere : List Cond := [.fieldLink RX0 52 "SpoolRows" "outputCount" "I", .fieldLink RX0 11 "SpoolRows" "outputs" "[LSpoolRows$Output;", .methodLink RX0 90 yX1_isGone, .instanceMethod yX1_isGone, .selects RX1 yX1_isGone yX1_isGone, .initialized RX1]
def wsX0_outputsThere : List Cond := .code yX0_outputsThere cX0_outputsThere 3 (some .int) :: (woX0_outputsThere ++ (wsX00 ++ wsX1_isGone))
theorem gdX0_outputsThere : ∀ w ∈ wsX0_outputsThere, goodWord w = true := List.forall_mem_cons.mpr ⟨rfl, (List.forall_mem_append.mpr ⟨(by decide +kernel), (List.forall_mem_append.mpr ⟨gdX0, gdX1_isGone⟩)⟩)⟩
def woX0_count : List Cond := [.fieldLink RX0 41 "SpoolRows" "freePages" "I", .methodLink RX0 185 yX0_outputsThere, .instanceMethod yX0_outputsThere, .selects RX0 yX0_outputsThere yX0_outputsThere, .initialized RX0, .fieldLink RX0 115 "SpoolRows" "writerCount" "I", .fieldLink RX0 140 "SpoolRows" "pagesPrinted" "I", .fieldLink RX0 155 "SpoolRows" "pagesAgain" "I"]
def wsX0_count : List Cond := .code yX0_count cX0_count 2 (some .int) :: (woX0_count ++ (wsX00 ++ wsX0_outputsThere))
theorem gdX0_count : ∀ w ∈ wsX0_count, goodWord w = true := List.forall_mem_cons.mpr ⟨rfl, (List.forall_mem_append.mpr ⟨(by decide +kernel), (List.forall_mem_append.mpr ⟨gdX0, gdX0_outputsThere⟩)⟩)⟩
def woX3_count : List Cond := [.fieldLink RX3 67 "SpoolRowsModel" "outputs" "I", .methodLink RX3 73 yX3_isGone, .instanceMethod yX3_isGone, .selects RX3 yX3_isGone yX3_isGone, .initialized RX3, .methodLink RX3 81 yX3_free, .instanceMethod yX3_free, .selects RX3 yX3_free yX3_free, .fieldLink RX3 70 "SpoolRowsModel" "writers" "I", .fieldLink RX3 107 "SpoolRowsModel" "pagesPrinted" "I", .fieldLink RX3 113 "SpoolRowsModel" "again" "I"]
def wsX3_count : List Cond := .code yX3_count cX3_count 4 (some .int) :: (woX3_count ++ (wsX30 ++ (wsX3_isGone ++ wsX3_free)))
theorem gdX3_count : ∀ w ∈ wsX3_count, goodWord w = true := List.forall_mem_cons.mpr ⟨rfl, (List.forall_mem_append.mpr ⟨(by decide +kernel), (List.forall_mem_append.mpr ⟨gdX3, (List.forall_mem_append.mpr ⟨gdX3_isGone, gdX3_free⟩)⟩)⟩)⟩
end
section
theorem ggX0_hasOutputThere_X1_isGone : GoodIn wsX0_hasOutputThere wsX1_isGone := fun w h => ⟨List.mem_cons_of_mem _ (List.mem_append_right _ (List.mem_append_right _ (List.mem_append_right _ h))), good_of_word (gdX1_isGone w h)⟩
theorem gX0_hasOutputThere_X1_isGone : GoodIn wsX0_hasOutputThere (wsV RX0 90 RX1 yX1_isGone wsX1_isGone) := goodIn_app (goodIn_r _ [4, 5, 6, 7] (by decide +kernel) (by decide +kernel)) ggX0_hasOutputThere_X1_isGone
theorem ggX0_addOutput_X1_init : GoodIn wsX0_addOutput wsX1_init := fun w h => ⟨List.mem_cons_of_mem _ (List.mem_append_right _ (List.mem_append_right _ (List.mem_append_right _ h))), good_of_word (gdX1_init w h)⟩
theorem gX0_addOutput_X1_init : GoodIn wsX0_addOutput (wsX1_init) := ggX0_addOutput_X1_init
theorem ggX0_output_X0_isWithin : GoodIn wsX0_output wsX0_isWithin := fun w h => ⟨List.mem_cons_of_mem _ (List.mem_append_right _ (List.mem_append_right _ (List.mem_append_right _ (List.mem_append_left _ h)))), good_of_word (gdX0_isWithin w h)⟩
theorem gX0_output_X0_isWithin : GoodIn wsX0_output (va_wsS RX0 48 yX0_isWithin wsX0_isWithin) := goodIn_app (goodIn_r _ [1, 2, 3] (by decide +kernel) (by decide +kernel)) ggX0_output_X0_isWithin
theorem ggX0_output_X0_hasOutputThere : GoodIn wsX0_output wsX0_hasOutputThere := fun w h => ⟨List.mem_cons_of_mem _ (List.mem_append_right _ (List.mem_append_right _ (List.mem_append_right _ (List.mem_append_right _ (List.mem_append_left _ h))))), good_of_word (gdX0_hasOutputThere w h)⟩
theorem gX0_output_X0_hasOutputThere : GoodIn wsX0_output (wsV RX0 55 RX0 yX0_hasOutputThere wsX0_hasOutputThere) := goodIn_app (goodIn_r _ [7, 8, 9, 3] (by decide +kernel) (by decide +kernel)) ggX0_output_X0_hasOutputThere
theorem ggX0_output_X0_addOutput : GoodIn wsX0_output wsX0_addOutput := fun w h => ⟨List.mem_cons_of_mem _ (List.mem_append_right _ (List.mem_append_right _ (List.mem_append_right _ (List.mem_append_right _ (List.mem_append_right _ h))))), good_of_word (gdX0_addOutput w h)⟩
theorem gX0_output_X0_addOutput : GoodIn wsX0_output (wsV RX0 59 RX0 yX0_addOutput wsX0_addOutput) := goodIn_app (goodIn_r _ [10, 11, 12, 3] (by decide +kernel) (by decide +kernel)) ggX0_output_X0_addOutput
theorem ggX3_free_X3_isGone : GoodIn wsX3_free wsX3_isGone := fun w h => ⟨List.mem_cons_of_mem _ (List.mem_append_right _ (List.mem_append_right _ (List.mem_append_left _ h))), good_of_word (gdX3_isGone w h)⟩
theorem gX3_free_X3_isGone : GoodIn wsX3_free (wsV RX3 73 RX3 yX3_isGone wsX3_isGone) := goodIn_app (goodIn_r _ [3, 4, 5, 6] (by decide +kernel) (by decide +kernel)) ggX3_free_X3_isGone
theorem ggX3_free_X3_pagesOf : GoodIn wsX3_free wsX3_pagesOf := fun w h => ⟨List.mem_cons_of_mem _ (List.mem_append_right _ (List.mem_append_right _ (List.mem_append_right _ h))), good_of_word (gdX3_pagesOf w h)⟩
theorem gX3_free_X3_pagesOf : GoodIn wsX3_free (wsV RX3 77 RX3 yX3_pagesOf wsX3_pagesOf) := goodIn_app (goodIn_r _ [7, 8, 9, 6] (by decide +kernel) (by decide +kernel)) ggX3_free_X3_pagesOf
theorem ggX3_output_X3_isGone : GoodIn wsX3_output wsX3_isGone := fun w h => ⟨List.mem_cons_of_mem _ (List.mem_append_right _ (List.mem_append_right _ (List.mem_append_left _ h))), good_of_word (gdX3_isGone w h)⟩
theorem gX3_output_X3_isGone : GoodIn wsX3_output (wsV RX3 73 RX3 yX3_isGone wsX3_isGone) := goodIn_app (goodIn_r _ [3, 4, 5, 6] (by decide +kernel) (by decide +kernel)) ggX3_output_X3_isGone
theorem ggX3_output_X3_free : GoodIn wsX3_output wsX3_free := fun w h => ⟨List.mem_cons_of_mem _ (List.mem_append_right _ (List.mem_append_right _ (List.mem_append_right _ (List.mem_append_left _ h)))), good_of_word (gdX3_free w h)⟩
theorem gX3_output_X3_free : GoodIn wsX3_output (wsV RX3 81 RX3 yX3_free wsX3_free) := goodIn_app (goodIn_r _ [7, 8, 9, 6] (by decide +kernel) (by decide +kernel)) ggX3_output_X3_free
theorem ggX3_output_X3_create : GoodIn wsX3_output wsX3_create := fun w h => ⟨List.mem_cons_of_mem _ (List.mem_append_right _ (List.mem_append_right _ (List.mem_append_right _ (List.mem_append_right _ h)))), good_of_word (gdX3_create w h)⟩
theorem gX3_output_X3_create : GoodIn wsX3_output (wsV RX3 85 RX3 yX3_create wsX3_create) := goodIn_app (goodIn_r _ [11, 12, 13, 6] (by decide +kernel) (by decide +kernel)) ggX3_output_X3_create
theorem ggX0_outputOf_X0_isWithin : GoodIn wsX0_outputOf wsX0_isWithin := fun w h => ⟨List.mem_cons_of_mem _ (List.mem_append_right _ (List.mem_append_right _ h)), good_of_word (gdX0_isWithin w h)⟩
theorem gX0_outputOf_X0_isWithin : GoodIn wsX0_outputOf (va_wsS RX0 48 yX0_isWithin wsX0_isWithin) := goodIn_app (goodIn_r _ [2, 3, 4] (by decide +kernel) (by decide +kernel)) ggX0_outputOf_X0_isWithin
theorem ggX0_hasRoomForLine_X1_needsPage : GoodIn wsX0_hasRoomForLine wsX1_needsPage := fun w h => ⟨List.mem_cons_of_mem _ (List.mem_append_right _ (List.mem_append_right _ h)), good_of_word (gdX1_needsPage w h)⟩
theorem gX0_hasRoomForLine_X1_needsPage : GoodIn wsX0_hasRoomForLine (wsV RX0 191 RX1 yX1_needsPage wsX1_needsPage) := goodIn_app (goodIn_r _ [3, 4, 5, 6] (by decide +kernel) (by decide +kernel)) ggX0_hasRoomForLine_X1_needsPage
theorem ggX0_takeLine_X1_needsPage : GoodIn wsX0_takeLine wsX1_needsPage := fun w h => ⟨List.mem_cons_of_mem _ (List.mem_append_right _ (List.mem_append_right _ (List.mem_append_right _ h))), good_of_word (gdX1_needsPage w h)⟩
theorem gX0_takeLine_X1_needsPage : GoodIn wsX0_takeLine (wsV RX0 191 RX1 yX1_needsPage wsX1_needsPage) := goodIn_app (goodIn_r _ [1, 2, 3, 4] (by decide +kernel) (by decide +kernel)) ggX0_takeLine_X1_needsPage
theorem ggX0_line_X0_outputOf : GoodIn wsX0_line wsX0_outputOf := fun w h => ⟨List.mem_cons_of_mem _ (List.mem_append_right _ (List.mem_append_right _ (List.mem_append_left _ h))), good_of_word (gdX0_outputOf w h)⟩
theorem gX0_line_X0_outputOf : GoodIn wsX0_line (wsV RX0 66 RX0 yX0_outputOf wsX0_outputOf) := goodIn_app (goodIn_r _ [1, 2, 3, 4] (by decide +kernel) (by decide +kernel)) ggX0_line_X0_outputOf
theorem ggX0_line_X0_isWithin : GoodIn wsX0_line wsX0_isWithin := fun w h => ⟨List.mem_cons_of_mem _ (List.mem_append_right _ (List.mem_append_right _ (List.mem_append_right _ (List.mem_append_left _ h)))), good_of_word (gdX0_isWithin w h)⟩
theorem gX0_line_X0_isWithin : GoodIn wsX0_line (va_wsS RX0 48 yX0_isWithin wsX0_isWithin) := goodIn_app (goodIn_r _ [6, 7, 4] (by decide +kernel) (by decide +kernel)) ggX0_line_X0_isWithin
theorem ggX0_line_X1_isAtLimit : GoodIn wsX0_line wsX1_isAtLimit := fun w h => ⟨List.mem_cons_of_mem _ (List.mem_append_right _ (List.mem_append_right _ (List.mem_append_right _ (List.mem_append_right _ (List.mem_append_left _ h))))), good_of_word (gdX1_isAtLimit w h)⟩
theorem gX0_line_X1_isAtLimit : GoodIn wsX0_line (wsV RX0 74 RX1 yX1_isAtLimit wsX1_isAtLimit) := goodIn_app (goodIn_r _ [9, 10, 11, 12] (by decide +kernel) (by decide +kernel)) ggX0_line_X1_isAtLimit
theorem ggX0_line_X0_hasRoomForLine : GoodIn wsX0_line wsX0_hasRoomForLine := fun w h => ⟨List.mem_cons_of_mem _ (List.mem_append_right _ (List.mem_append_right _ (List.mem_append_right _ (List.mem_append_right _ (List.mem_append_right _ (List.mem_append_left _ h)))))), good_of_word (gdX0_hasRoomForLine w h)⟩
theorem gX0_line_X0_hasRoomForLine : GoodIn wsX0_line (wsV RX0 82 RX0 yX0_hasRoomForLine wsX0_hasRoomForLine) := goodIn_app (goodIn_r _ [14, 15, 16, 4] (by decide +kernel) (by decide +kernel)) ggX0_line_X0_hasRoomForLine
theorem ggX0_line_X0_takeLine : GoodIn wsX0_line wsX0_takeLine := fun w h => ⟨List.mem_cons_of_mem _ (List.mem_append_right _ (List.mem_append_right _ (List.mem_append_right _ (List.mem_append_right _ (List.mem_append_right _ (List.mem_append_right _ h)))))), good_of_word (gdX0_takeLine w h)⟩
theorem gX0_line_X0_takeLine : GoodIn wsX0_line (wsV RX0 86 RX0 yX0_takeLine wsX0_takeLine) := goodIn_app (goodIn_r _ [17, 18, 19, 4] (by decide +kernel) (by decide +kernel)) ggX0_line_X0_takeLine
theorem ggX3_line_X3_isOutput : GoodIn wsX3_line wsX3_isOutput := fun w h => ⟨List.mem_cons_of_mem _ (List.mem_append_right _ (List.mem_append_right _ (List.mem_append_left _ h))), good_of_word (gdX3_isOutput w h)⟩
theorem gX3_line_X3_isOutput : GoodIn wsX3_line (wsV RX3 89 RX3 yX3_isOutput wsX3_isOutput) := goodIn_app (goodIn_r _ [1, 2, 3, 4] (by decide +kernel) (by decide +kernel)) ggX3_line_X3_isOutput
theorem ggX3_line_X3_free : GoodIn wsX3_line wsX3_free := fun w h => ⟨List.mem_cons_of_mem _ (List.mem_append_right _ (List.mem_append_right _ (List.mem_append_right _ h))), good_of_word (gdX3_free w h)⟩
theorem gX3_line_X3_free : GoodIn wsX3_line (wsV RX3 81 RX3 yX3_free wsX3_free) := goodIn_app (goodIn_r _ [10, 11, 12, 4] (by decide +kernel) (by decide +kernel)) ggX3_line_X3_free
theorem ggX0_limit_X0_outputOf : GoodIn wsX0_limit wsX0_outputOf := fun w h => ⟨List.mem_cons_of_mem _ (List.mem_append_right _ (List.mem_append_right _ (List.mem_append_left _ h))), good_of_word (gdX0_outputOf w h)⟩
theorem gX0_limit_X0_outputOf : GoodIn wsX0_limit (wsV RX0 66 RX0 yX0_outputOf wsX0_outputOf) := goodIn_app (goodIn_r _ [1, 2, 3, 4] (by decide +kernel) (by decide +kernel)) ggX0_limit_X0_outputOf
theorem ggX0_limit_X1_isGone : GoodIn wsX0_limit wsX1_isGone := fun w h => ⟨List.mem_cons_of_mem _ (List.mem_append_right _ (List.mem_append_right _ (List.mem_append_right _ h))), good_of_word (gdX1_isGone w h)⟩
theorem gX0_limit_X1_isGone : GoodIn wsX0_limit (wsV RX0 90 RX1 yX1_isGone wsX1_isGone) := goodIn_app (goodIn_r _ [5, 6, 7, 8] (by decide +kernel) (by decide +kernel)) ggX0_limit_X1_isGone
theorem ggX3_limit_X3_isOutput : GoodIn wsX3_limit wsX3_isOutput := fun w h => ⟨List.mem_cons_of_mem _ (List.mem_append_right _ (List.mem_append_right _ (List.mem_append_left _ h))), good_of_word (gdX3_isOutput w h)⟩
theorem gX3_limit_X3_isOutput : GoodIn wsX3_limit (wsV RX3 89 RX3 yX3_isOutput wsX3_isOutput) := goodIn_app (goodIn_r _ [1, 2, 3, 4] (by decide +kernel) (by decide +kernel)) ggX3_limit_X3_isOutput
theorem ggX3_limit_X3_isGone : GoodIn wsX3_limit wsX3_isGone := fun w h => ⟨List.mem_cons_of_mem _ (List.mem_append_right _ (List.mem_append_right _ (List.mem_append_right _ h))), good_of_word (gdX3_isGone w h)⟩
theorem gX3_limit_X3_isGone : GoodIn wsX3_limit (wsV RX3 73 RX3 yX3_isGone wsX3_isGone) := goodIn_app (goodIn_r _ [5, 6, 7, 4] (by decide +kernel) (by decide +kernel)) ggX3_limit_X3_isGone
theorem ggX0_letGo_X1_pageCount : GoodIn wsX0_letGo wsX1_pageCount := fun w h => ⟨List.mem_cons_of_mem _ (List.mem_append_right _ (List.mem_append_right _ (List.mem_append_right _ h))), good_of_word (gdX1_pageCount w h)⟩
theorem gX0_letGo_X1_pageCount : GoodIn wsX0_letGo (wsV RX0 179 RX1 yX1_pageCount wsX1_pageCount) := goodIn_app (goodIn_r _ [4, 5, 6, 7] (by decide +kernel) (by decide +kernel)) ggX0_letGo_X1_pageCount
theorem ggX0_releaseOrPurge_X0_letGo : GoodIn wsX0_releaseOrPurge wsX0_letGo := fun w h => ⟨List.mem_cons_of_mem _ (List.mem_append_right _ (List.mem_append_right _ h)), good_of_word (gdX0_letGo w h)⟩
theorem gX0_releaseOrPurge_X0_letGo : GoodIn wsX0_releaseOrPurge (wsV RX0 146 RX0 yX0_letGo wsX0_letGo) := goodIn_app (goodIn_r _ [2, 3, 4, 5] (by decide +kernel) (by decide +kernel)) ggX0_releaseOrPurge_X0_letGo
theorem ggX0_end_X0_releaseOrPurge : GoodIn wsX0_end wsX0_releaseOrPurge := fun w h => ⟨List.mem_cons_of_mem _ (List.mem_append_right _ (List.mem_append_right _ (List.mem_append_right _ h))), good_of_word (gdX0_releaseOrPurge w h)⟩
theorem gX0_end_X0_releaseOrPurge : GoodIn wsX0_end (wsV RX0 99 RX0 yX0_releaseOrPurge wsX0_releaseOrPurge) := goodIn_app (goodIn_r _ [5, 6, 7, 8] (by decide +kernel) (by decide +kernel)) ggX0_end_X0_releaseOrPurge
theorem ggX3_end_X3_goes : GoodIn wsX3_end wsX3_goes := fun w h => ⟨List.mem_cons_of_mem _ (List.mem_append_right _ (List.mem_append_right _ h)), good_of_word (gdX3_goes w h)⟩
theorem gX3_end_X3_goes : GoodIn wsX3_end (wsV RX3 96 RX3 yX3_goes wsX3_goes) := goodIn_app (goodIn_r _ [5, 6, 7, 8] (by decide +kernel) (by decide +kernel)) ggX3_end_X3_goes
theorem ggX0_segment_X0_outputOf : GoodIn wsX0_segment wsX0_outputOf := fun w h => ⟨List.mem_cons_of_mem _ (List.mem_append_right _ (List.mem_append_right _ (List.mem_append_right _ (List.mem_append_left _ h)))), good_of_word (gdX0_outputOf w h)⟩
theorem gX0_segment_X0_outputOf : GoodIn wsX0_segment (wsV RX0 66 RX0 yX0_outputOf wsX0_outputOf) := goodIn_app (goodIn_r _ [1, 2, 3, 4] (by decide +kernel) (by decide +kernel)) ggX0_segment_X0_outputOf
theorem ggX0_segment_X0_addOutput : GoodIn wsX0_segment wsX0_addOutput := fun w h => ⟨List.mem_cons_of_mem _ (List.mem_append_right _ (List.mem_append_right _ (List.mem_append_right _ (List.mem_append_right _ (List.mem_append_left _ h))))), good_of_word (gdX0_addOutput w h)⟩
theorem gX0_segment_X0_addOutput : GoodIn wsX0_segment (wsV RX0 59 RX0 yX0_addOutput wsX0_addOutput) := goodIn_app (goodIn_r _ [11, 12, 13, 4] (by decide +kernel) (by decide +kernel)) ggX0_segment_X0_addOutput
theorem ggX0_segment_X1_takeSettingsOf : GoodIn wsX0_segment wsX1_takeSettingsOf := fun w h => ⟨List.mem_cons_of_mem _ (List.mem_append_right _ (List.mem_append_right _ (List.mem_append_right _ (List.mem_append_right _ (List.mem_append_right _ h))))), good_of_word (gdX1_takeSettingsOf w h)⟩
theorem gX0_segment_X1_takeSettingsOf : GoodIn wsX0_segment (wsV RX0 112 RX1 yX1_takeSettingsOf wsX1_takeSettingsOf) := goodIn_app (goodIn_r _ [14, 15, 16, 17] (by decide +kernel) (by decide +kernel)) ggX0_segment_X1_takeSettingsOf
theorem ggX3_segment_X3_isOutput : GoodIn wsX3_segment wsX3_isOutput := fun w h => ⟨List.mem_cons_of_mem _ (List.mem_append_right _ (List.mem_append_right _ (List.mem_append_left _ h))), good_of_word (gdX3_isOutput w h)⟩
theorem gX3_segment_X3_isOutput : GoodIn wsX3_segment (wsV RX3 89 RX3 yX3_isOutput wsX3_isOutput) := goodIn_app (goodIn_r _ [1, 2, 3, 4] (by decide +kernel) (by decide +kernel)) ggX3_segment_X3_isOutput
theorem ggX3_segment_X3_create : GoodIn wsX3_segment wsX3_create := fun w h => ⟨List.mem_cons_of_mem _ (List.mem_append_right _ (List.mem_append_right _ (List.mem_append_right _ h))), good_of_word (gdX3_create w h)⟩
theorem gX3_segment_X3_create : GoodIn wsX3_segment (wsV RX3 85 RX3 yX3_create wsX3_create) := goodIn_app (goodIn_r _ [13, 14, 15, 4] (by decide +kernel) (by decide +kernel)) ggX3_segment_X3_create
theorem ggX0_writer_X2_init : GoodIn wsX0_writer wsX2_init := fun w h => ⟨List.mem_cons_of_mem _ (List.mem_append_right _ (List.mem_append_right _ (List.mem_append_right _ h))), good_of_word (gdX2_init w h)⟩
theorem gX0_writer_X2_init : GoodIn wsX0_writer (wsX2_init) := ggX0_writer_X2_init
theorem ggX0_writerOf_X0_isWithin : GoodIn wsX0_writerOf wsX0_isWithin := fun w h => ⟨List.mem_cons_of_mem _ (List.mem_append_right _ (List.mem_append_right _ h)), good_of_word (gdX0_isWithin w h)⟩
theorem gX0_writerOf_X0_isWithin : GoodIn wsX0_writerOf (va_wsS RX0 48 yX0_isWithin wsX0_isWithin) := goodIn_app (goodIn_r _ [2, 3, 4] (by decide +kernel) (by decide +kernel)) ggX0_writerOf_X0_isWithin
theorem ggX0_firstFor_X1_mayBePrinted : GoodIn wsX0_firstFor wsX1_mayBePrinted := fun w h => ⟨List.mem_cons_of_mem _ (List.mem_append_right _ (List.mem_append_right _ (List.mem_append_left _ h))), good_of_word (gdX1_mayBePrinted w h)⟩
theorem gX0_firstFor_X1_mayBePrinted : GoodIn wsX0_firstFor (wsV RX0 194 RX1 yX1_mayBePrinted wsX1_mayBePrinted) := goodIn_app (goodIn_r _ [3, 4, 5, 6] (by decide +kernel) (by decide +kernel)) ggX0_firstFor_X1_mayBePrinted
theorem ggX0_firstFor_X2_suits : GoodIn wsX0_firstFor wsX2_suits := fun w h => ⟨List.mem_cons_of_mem _ (List.mem_append_right _ (List.mem_append_right _ (List.mem_append_right _ (List.mem_append_left _ h)))), good_of_word (gdX2_suits w h)⟩
theorem gX0_firstFor_X2_suits : GoodIn wsX0_firstFor (wsV RX0 197 RX2 yX2_suits wsX2_suits) := goodIn_app (goodIn_r _ [7, 8, 9, 10] (by decide +kernel) (by decide +kernel)) ggX0_firstFor_X2_suits
theorem ggX0_firstFor_X1_comesBefore : GoodIn wsX0_firstFor wsX1_comesBefore := fun w h => ⟨List.mem_cons_of_mem _ (List.mem_append_right _ (List.mem_append_right _ (List.mem_append_right _ (List.mem_append_right _ h)))), good_of_word (gdX1_comesBefore w h)⟩
theorem gX0_firstFor_X1_comesBefore : GoodIn wsX0_firstFor (wsV RX0 200 RX1 yX1_comesBefore wsX1_comesBefore) := goodIn_app (goodIn_r _ [11, 12, 13, 6] (by decide +kernel) (by decide +kernel)) ggX0_firstFor_X1_comesBefore
theorem ggX0_next_X0_writerOf : GoodIn wsX0_next wsX0_writerOf := fun w h => ⟨List.mem_cons_of_mem _ (List.mem_append_right _ (List.mem_append_right _ (List.mem_append_right _ (List.mem_append_left _ h)))), good_of_word (gdX0_writerOf w h)⟩
theorem gX0_next_X0_writerOf : GoodIn wsX0_next (wsV RX0 121 RX0 yX0_writerOf wsX0_writerOf) := goodIn_app (goodIn_r _ [1, 2, 3, 4] (by decide +kernel) (by decide +kernel)) ggX0_next_X0_writerOf
theorem ggX0_next_X0_firstFor : GoodIn wsX0_next wsX0_firstFor := fun w h => ⟨List.mem_cons_of_mem _ (List.mem_append_right _ (List.mem_append_right _ (List.mem_append_right _ (List.mem_append_right _ h)))), good_of_word (gdX0_firstFor w h)⟩
theorem gX0_next_X0_firstFor : GoodIn wsX0_next (wsV RX0 129 RX0 yX0_firstFor wsX0_firstFor) := goodIn_app (goodIn_r _ [6, 7, 8, 4] (by decide +kernel) (by decide +kernel)) ggX0_next_X0_firstFor
theorem ggX3_next_X3_isWriter : GoodIn wsX3_next wsX3_isWriter := fun w h => ⟨List.mem_cons_of_mem _ (List.mem_append_right _ (List.mem_append_right _ (List.mem_append_left _ h))), good_of_word (gdX3_isWriter w h)⟩
theorem gX3_next_X3_isWriter : GoodIn wsX3_next (wsV RX3 100 RX3 yX3_isWriter wsX3_isWriter) := goodIn_app (goodIn_r _ [1, 2, 3, 4] (by decide +kernel) (by decide +kernel)) ggX3_next_X3_isWriter
theorem ggX3_next_X3_fits : GoodIn wsX3_next wsX3_fits := fun w h => ⟨List.mem_cons_of_mem _ (List.mem_append_right _ (List.mem_append_right _ (List.mem_append_right _ h))), good_of_word (gdX3_fits w h)⟩
theorem gX3_next_X3_fits : GoodIn wsX3_next (wsV RX3 103 RX3 yX3_fits wsX3_fits) := goodIn_app (goodIn_r _ [11, 12, 13, 4] (by decide +kernel) (by decide +kernel)) ggX3_next_X3_fits
theorem ggX1_pagesToPrint_X1_pageCount : GoodIn wsX1_pagesToPrint wsX1_pageCount := fun w h => ⟨List.mem_cons_of_mem _ (List.mem_append_right _ (List.mem_append_right _ h)), good_of_word (gdX1_pageCount w h)⟩
theorem gX1_pagesToPrint_X1_pageCount : GoodIn wsX1_pagesToPrint (wsV RX1 46 RX1 yX1_pageCount wsX1_pageCount) := goodIn_app (goodIn_r _ [1, 2, 3, 4] (by decide +kernel) (by decide +kernel)) ggX1_pagesToPrint_X1_pageCount
theorem ggX0_print_X0_writerOf : GoodIn wsX0_print wsX0_writerOf := fun w h => ⟨List.mem_cons_of_mem _ (List.mem_append_right _ (List.mem_append_right _ (List.mem_append_right _ (List.mem_append_right _ (List.mem_append_left _ h))))), good_of_word (gdX0_writerOf w h)⟩
theorem gX0_print_X0_writerOf : GoodIn wsX0_print (wsV RX0 121 RX0 yX0_writerOf wsX0_writerOf) := goodIn_app (goodIn_r _ [1, 2, 3, 4] (by decide +kernel) (by decide +kernel)) ggX0_print_X0_writerOf
theorem ggX0_print_X1_pagesToPrint : GoodIn wsX0_print wsX1_pagesToPrint := fun w h => ⟨List.mem_cons_of_mem _ (List.mem_append_right _ (List.mem_append_right _ (List.mem_append_right _ (List.mem_append_right _ (List.mem_append_right _ (List.mem_append_left _ h)))))), good_of_word (gdX1_pagesToPrint w h)⟩
theorem gX0_print_X1_pagesToPrint : GoodIn wsX0_print (wsV RX0 133 RX1 yX1_pagesToPrint wsX1_pagesToPrint) := goodIn_app (goodIn_r _ [6, 7, 8, 9] (by decide +kernel) (by decide +kernel)) ggX0_print_X1_pagesToPrint
theorem ggX0_print_X0_noteInOrder : GoodIn wsX0_print wsX0_noteInOrder := fun w h => ⟨List.mem_cons_of_mem _ (List.mem_append_right _ (List.mem_append_right _ (List.mem_append_right _ (List.mem_append_right _ (List.mem_append_right _ (List.mem_append_right _ (List.mem_append_left _ h))))))), good_of_word (gdX0_noteInOrder w h)⟩
theorem gX0_print_X0_noteInOrder : GoodIn wsX0_print (wsV RX0 143 RX0 yX0_noteInOrder wsX0_noteInOrder) := goodIn_app (goodIn_r _ [16, 17, 18, 4] (by decide +kernel) (by decide +kernel)) ggX0_print_X0_noteInOrder
theorem ggX0_print_X0_letGo : GoodIn wsX0_print wsX0_letGo := fun w h => ⟨List.mem_cons_of_mem _ (List.mem_append_right _ (List.mem_append_right _ (List.mem_append_right _ (List.mem_append_right _ (List.mem_append_right _ (List.mem_append_right _ (List.mem_append_right _ h))))))), good_of_word (gdX0_letGo w h)⟩
theorem gX0_print_X0_letGo : GoodIn wsX0_print (wsV RX0 146 RX0 yX0_letGo wsX0_letGo) := goodIn_app (goodIn_r _ [19, 20, 21, 4] (by decide +kernel) (by decide +kernel)) ggX0_print_X0_letGo
theorem ggX3_print_X3_isWriter : GoodIn wsX3_print wsX3_isWriter := fun w h => ⟨List.mem_cons_of_mem _ (List.mem_append_right _ (List.mem_append_right _ (List.mem_append_left _ h))), good_of_word (gdX3_isWriter w h)⟩
theorem gX3_print_X3_isWriter : GoodIn wsX3_print (wsV RX3 100 RX3 yX3_isWriter wsX3_isWriter) := goodIn_app (goodIn_r _ [1, 2, 3, 4] (by decide +kernel) (by decide +kernel)) ggX3_print_X3_isWriter
theorem ggX3_print_X3_pagesOf : GoodIn wsX3_print wsX3_pagesOf := fun w h => ⟨List.mem_cons_of_mem _ (List.mem_append_right _ (List.mem_append_right _ (List.mem_append_right _ (List.mem_append_left _ h)))), good_of_word (gdX3_pagesOf w h)⟩
theorem gX3_print_X3_pagesOf : GoodIn wsX3_print (wsV RX3 77 RX3 yX3_pagesOf wsX3_pagesOf) := goodIn_app (goodIn_r _ [6, 7, 8, 4] (by decide +kernel) (by decide +kernel)) ggX3_print_X3_pagesOf
theorem ggX3_print_X3_goes : GoodIn wsX3_print wsX3_goes := fun w h => ⟨List.mem_cons_of_mem _ (List.mem_append_right _ (List.mem_append_right _ (List.mem_append_right _ (List.mem_append_right _ h)))), good_of_word (gdX3_goes w h)⟩
theorem gX3_print_X3_goes : GoodIn wsX3_print (wsV RX3 96 RX3 yX3_goes wsX3_goes) := goodIn_app (goodIn_r _ [12, 13, 14, 4] (by decide +kernel) (by decide +kernel)) ggX3_print_X3_goes
theorem ggX0_cut_X0_writerOf : GoodIn wsX0_cut wsX0_writerOf := fun w h => ⟨List.mem_cons_of_mem _ (List.mem_append_right _ (List.mem_append_right _ (List.mem_append_right _ (List.mem_append_right _ (List.mem_append_left _ h))))), good_of_word (gdX0_writerOf w h)⟩
theorem gX0_cut_X0_writerOf : GoodIn wsX0_cut (wsV RX0 121 RX0 yX0_writerOf wsX0_writerOf) := goodIn_app (goodIn_r _ [1, 2, 3, 4] (by decide +kernel) (by decide +kernel)) ggX0_cut_X0_writerOf
theorem ggX0_cut_X1_lastCheckpoint : GoodIn wsX0_cut wsX1_lastCheckpoint := fun w h => ⟨List.mem_cons_of_mem _ (List.mem_append_right _ (List.mem_append_right _ (List.mem_append_right _ (List.mem_append_right _ (List.mem_append_right _ (List.mem_append_left _ h)))))), good_of_word (gdX1_lastCheckpoint w h)⟩
theorem gX0_cut_X1_lastCheckpoint : GoodIn wsX0_cut (wsV RX0 149 RX1 yX1_lastCheckpoint wsX1_lastCheckpoint) := goodIn_app (goodIn_r _ [6, 7, 8, 9] (by decide +kernel) (by decide +kernel)) ggX0_cut_X1_lastCheckpoint
theorem ggX0_cut_X0_letGo : GoodIn wsX0_cut wsX0_letGo := fun w h => ⟨List.mem_cons_of_mem _ (List.mem_append_right _ (List.mem_append_right _ (List.mem_append_right _ (List.mem_append_right _ (List.mem_append_right _ (List.mem_append_right _ h)))))), good_of_word (gdX0_letGo w h)⟩
theorem gX0_cut_X0_letGo : GoodIn wsX0_cut (wsV RX0 146 RX0 yX0_letGo wsX0_letGo) := goodIn_app (goodIn_r _ [11, 12, 13, 4] (by decide +kernel) (by decide +kernel)) ggX0_cut_X0_letGo
theorem ggX3_cut_X3_isWriter : GoodIn wsX3_cut wsX3_isWriter := fun w h => ⟨List.mem_cons_of_mem _ (List.mem_append_right _ (List.mem_append_right _ (List.mem_append_left _ h))), good_of_word (gdX3_isWriter w h)⟩
theorem gX3_cut_X3_isWriter : GoodIn wsX3_cut (wsV RX3 100 RX3 yX3_isWriter wsX3_isWriter) := goodIn_app (goodIn_r _ [1, 2, 3, 4] (by decide +kernel) (by decide +kernel)) ggX3_cut_X3_isWriter
theorem ggX3_cut_X3_goes : GoodIn wsX3_cut wsX3_goes := fun w h => ⟨List.mem_cons_of_mem _ (List.mem_append_right _ (List.mem_append_right _ (List.mem_append_right _ h))), good_of_word (gdX3_goes w h)⟩
theorem gX3_cut_X3_goes : GoodIn wsX3_cut (wsV RX3 96 RX3 yX3_goes wsX3_goes) := goodIn_app (goodIn_r _ [8, 9, 10, 4] (by decide +kernel) (by decide +kernel)) ggX3_cut_X3_goes
theorem ggX0_purge_X0_outputOf : GoodIn wsX0_purge wsX0_outputOf := fun w h => ⟨List.mem_cons_of_mem _ (List.mem_append_right _ (List.mem_append_right _ (List.mem_append_left _ h))), good_of_word (gdX0_outputOf w h)⟩
theorem gX0_purge_X0_outputOf : GoodIn wsX0_purge (wsV RX0 66 RX0 yX0_outputOf wsX0_outputOf) := goodIn_app (goodIn_r _ [1, 2, 3, 4] (by decide +kernel) (by decide +kernel)) ggX0_purge_X0_outputOf
theorem ggX0_purge_X1_isGone : GoodIn wsX0_purge wsX1_isGone := fun w h => ⟨List.mem_cons_of_mem _ (List.mem_append_right _ (List.mem_append_right _ (List.mem_append_right _ (List.mem_append_left _ h)))), good_of_word (gdX1_isGone w h)⟩
theorem gX0_purge_X1_isGone : GoodIn wsX0_purge (wsV RX0 90 RX1 yX1_isGone wsX1_isGone) := goodIn_app (goodIn_r _ [5, 6, 7, 8] (by decide +kernel) (by decide +kernel)) ggX0_purge_X1_isGone
theorem ggX0_purge_X0_letGo : GoodIn wsX0_purge wsX0_letGo := fun w h => ⟨List.mem_cons_of_mem _ (List.mem_append_right _ (List.mem_append_right _ (List.mem_append_right _ (List.mem_append_right _ h)))), good_of_word (gdX0_letGo w h)⟩
theorem gX0_purge_X0_letGo : GoodIn wsX0_purge (wsV RX0 146 RX0 yX0_letGo wsX0_letGo) := goodIn_app (goodIn_r _ [11, 12, 13, 4] (by decide +kernel) (by decide +kernel)) ggX0_purge_X0_letGo
theorem ggX3_purge_X3_isOutput : GoodIn wsX3_purge wsX3_isOutput := fun w h => ⟨List.mem_cons_of_mem _ (List.mem_append_right _ (List.mem_append_right _ (List.mem_append_left _ h))), good_of_word (gdX3_isOutput w h)⟩
theorem gX3_purge_X3_isOutput : GoodIn wsX3_purge (wsV RX3 89 RX3 yX3_isOutput wsX3_isOutput) := goodIn_app (goodIn_r _ [1, 2, 3, 4] (by decide +kernel) (by decide +kernel)) ggX3_purge_X3_isOutput
theorem ggX3_purge_X3_isGone : GoodIn wsX3_purge wsX3_isGone := fun w h => ⟨List.mem_cons_of_mem _ (List.mem_append_right _ (List.mem_append_right _ (List.mem_append_right _ (List.mem_append_left _ h)))), good_of_word (gdX3_isGone w h)⟩
theorem gX3_purge_X3_isGone : GoodIn wsX3_purge (wsV RX3 73 RX3 yX3_isGone wsX3_isGone) := goodIn_app (goodIn_r _ [5, 6, 7, 4] (by decide +kernel) (by decide +kernel)) ggX3_purge_X3_isGone
theorem ggX3_purge_X3_goes : GoodIn wsX3_purge wsX3_goes := fun w h => ⟨List.mem_cons_of_mem _ (List.mem_append_right _ (List.mem_append_right _ (List.mem_append_right _ (List.mem_append_right _ h)))), good_of_word (gdX3_goes w h)⟩
theorem gX3_purge_X3_goes : GoodIn wsX3_purge (wsV RX3 96 RX3 yX3_goes wsX3_goes) := goodIn_app (goodIn_r _ [10, 11, 12, 4] (by decide +kernel) (by decide +kernel)) ggX3_purge_X3_goes
theorem ggX0_hold_X0_outputOf : GoodIn wsX0_hold wsX0_outputOf := fun w h => ⟨List.mem_cons_of_mem _ (List.mem_append_right _ (List.mem_append_right _ (List.mem_append_left _ h))), good_of_word (gdX0_outputOf w h)⟩
theorem gX0_hold_X0_outputOf : GoodIn wsX0_hold (wsV RX0 66 RX0 yX0_outputOf wsX0_outputOf) := goodIn_app (goodIn_r _ [1, 2, 3, 4] (by decide +kernel) (by decide +kernel)) ggX0_hold_X0_outputOf
theorem ggX0_hold_X1_isOpenOrReleased : GoodIn wsX0_hold wsX1_isOpenOrReleased := fun w h => ⟨List.mem_cons_of_mem _ (List.mem_append_right _ (List.mem_append_right _ (List.mem_append_right _ h))), good_of_word (gdX1_isOpenOrReleased w h)⟩
theorem gX0_hold_X1_isOpenOrReleased : GoodIn wsX0_hold (wsV RX0 158 RX1 yX1_isOpenOrReleased wsX1_isOpenOrReleased) := goodIn_app (goodIn_r _ [5, 6, 7, 8] (by decide +kernel) (by decide +kernel)) ggX0_hold_X1_isOpenOrReleased
theorem ggX3_hold_X3_isOutput : GoodIn wsX3_hold wsX3_isOutput := fun w h => ⟨List.mem_cons_of_mem _ (List.mem_append_right _ (List.mem_append_right _ (List.mem_append_left _ h))), good_of_word (gdX3_isOutput w h)⟩
theorem gX3_hold_X3_isOutput : GoodIn wsX3_hold (wsV RX3 89 RX3 yX3_isOutput wsX3_isOutput) := goodIn_app (goodIn_r _ [1, 2, 3, 4] (by decide +kernel) (by decide +kernel)) ggX3_hold_X3_isOutput
theorem ggX3_hold_X3_isStill : GoodIn wsX3_hold wsX3_isStill := fun w h => ⟨List.mem_cons_of_mem _ (List.mem_append_right _ (List.mem_append_right _ (List.mem_append_right _ h))), good_of_word (gdX3_isStill w h)⟩
theorem gX3_hold_X3_isStill : GoodIn wsX3_hold (wsV RX3 116 RX3 yX3_isStill wsX3_isStill) := goodIn_app (goodIn_r _ [5, 6, 7, 4] (by decide +kernel) (by decide +kernel)) ggX3_hold_X3_isStill
theorem ggX0_route_X0_outputOf : GoodIn wsX0_route wsX0_outputOf := fun w h => ⟨List.mem_cons_of_mem _ (List.mem_append_right _ (List.mem_append_right _ (List.mem_append_left _ h))), good_of_word (gdX0_outputOf w h)⟩
theorem gX0_route_X0_outputOf : GoodIn wsX0_route (wsV RX0 66 RX0 yX0_outputOf wsX0_outputOf) := goodIn_app (goodIn_r _ [1, 2, 3, 4] (by decide +kernel) (by decide +kernel)) ggX0_route_X0_outputOf
theorem ggX0_route_X0_isWithin : GoodIn wsX0_route wsX0_isWithin := fun w h => ⟨List.mem_cons_of_mem _ (List.mem_append_right _ (List.mem_append_right _ (List.mem_append_right _ (List.mem_append_left _ h)))), good_of_word (gdX0_isWithin w h)⟩
theorem gX0_route_X0_isWithin : GoodIn wsX0_route (va_wsS RX0 48 yX0_isWithin wsX0_isWithin) := goodIn_app (goodIn_r _ [5, 6, 4] (by decide +kernel) (by decide +kernel)) ggX0_route_X0_isWithin
theorem ggX0_route_X1_isOpenOrReleased : GoodIn wsX0_route wsX1_isOpenOrReleased := fun w h => ⟨List.mem_cons_of_mem _ (List.mem_append_right _ (List.mem_append_right _ (List.mem_append_right _ (List.mem_append_right _ h)))), good_of_word (gdX1_isOpenOrReleased w h)⟩
theorem gX0_route_X1_isOpenOrReleased : GoodIn wsX0_route (wsV RX0 158 RX1 yX1_isOpenOrReleased wsX1_isOpenOrReleased) := goodIn_app (goodIn_r _ [7, 8, 9, 10] (by decide +kernel) (by decide +kernel)) ggX0_route_X1_isOpenOrReleased
theorem ggX3_route_X3_isOutput : GoodIn wsX3_route wsX3_isOutput := fun w h => ⟨List.mem_cons_of_mem _ (List.mem_append_right _ (List.mem_append_right _ (List.mem_append_left _ h))), good_of_word (gdX3_isOutput w h)⟩
theorem gX3_route_X3_isOutput : GoodIn wsX3_route (wsV RX3 89 RX3 yX3_isOutput wsX3_isOutput) := goodIn_app (goodIn_r _ [1, 2, 3, 4] (by decide +kernel) (by decide +kernel)) ggX3_route_X3_isOutput
theorem ggX3_route_X3_isStill : GoodIn wsX3_route wsX3_isStill := fun w h => ⟨List.mem_cons_of_mem _ (List.mem_append_right _ (List.mem_append_right _ (List.mem_append_right _ h))), good_of_word (gdX3_isStill w h)⟩
theorem gX3_route_X3_isStill : GoodIn wsX3_route (wsV RX3 116 RX3 yX3_isStill wsX3_isStill) := goodIn_app (goodIn_r _ [5, 6, 7, 4] (by decide +kernel) (by decide +kernel)) ggX3_route_X3_isStill
theorem ggX0_isThere_X0_outputOf : GoodIn wsX0_isThere wsX0_outputOf := fun w h => ⟨List.mem_cons_of_mem _ (List.mem_append_right _ (List.mem_append_left _ h)), good_of_word (gdX0_outputOf w h)⟩
theorem gX0_isThere_X0_outputOf : GoodIn wsX0_isThere (wsV RX0 66 RX0 yX0_outputOf wsX0_outputOf) := goodIn_app (goodIn_r _ [1, 2, 3, 4] (by decide +kernel) (by decide +kernel)) ggX0_isThere_X0_outputOf
theorem ggX0_isThere_X1_isGone : GoodIn wsX0_isThere wsX1_isGone := fun w h => ⟨List.mem_cons_of_mem _ (List.mem_append_right _ (List.mem_append_right _ h)), good_of_word (gdX1_isGone w h)⟩
theorem gX0_isThere_X1_isGone : GoodIn wsX0_isThere (wsV RX0 90 RX1 yX1_isGone wsX1_isGone) := goodIn_app (goodIn_r _ [5, 6, 7, 8] (by decide +kernel) (by decide +kernel)) ggX0_isThere_X1_isGone
theorem ggX0_search_X0_isWithin : GoodIn wsX0_search wsX0_isWithin := fun w h => ⟨List.mem_cons_of_mem _ (List.mem_append_right _ (List.mem_append_right _ (List.mem_append_left _ h))), good_of_word (gdX0_isWithin w h)⟩
theorem gX0_search_X0_isWithin : GoodIn wsX0_search (va_wsS RX0 48 yX0_isWithin wsX0_isWithin) := goodIn_app (goodIn_r _ [1, 2, 3] (by decide +kernel) (by decide +kernel)) ggX0_search_X0_isWithin
theorem ggX0_search_X0_isThere : GoodIn wsX0_search wsX0_isThere := fun w h => ⟨List.mem_cons_of_mem _ (List.mem_append_right _ (List.mem_append_right _ (List.mem_append_right _ h))), good_of_word (gdX0_isThere w h)⟩
theorem gX0_search_X0_isThere : GoodIn wsX0_search (wsV RX0 173 RX0 yX0_isThere wsX0_isThere) := goodIn_app (goodIn_r _ [7, 8, 9, 3] (by decide +kernel) (by decide +kernel)) ggX0_search_X0_isThere
theorem ggX3_search_X3_isGone : GoodIn wsX3_search wsX3_isGone := fun w h => ⟨List.mem_cons_of_mem _ (List.mem_append_right _ (List.mem_append_right _ h)), good_of_word (gdX3_isGone w h)⟩
theorem gX3_search_X3_isGone : GoodIn wsX3_search (wsV RX3 73 RX3 yX3_isGone wsX3_isGone) := goodIn_app (goodIn_r _ [4, 5, 6, 7] (by decide +kernel) (by decide +kernel)) ggX3_search_X3_isGone
theorem ggX0_order_X0_isWithin : GoodIn wsX0_order wsX0_isWithin := fun w h => ⟨List.mem_cons_of_mem _ (List.mem_append_right _ (List.mem_append_right _ h)), good_of_word (gdX0_isWithin w h)⟩
theorem gX0_order_X0_isWithin : GoodIn wsX0_order (va_wsS RX0 48 yX0_isWithin wsX0_isWithin) := goodIn_app (goodIn_r _ [2, 3, 4] (by decide +kernel) (by decide +kernel)) ggX0_order_X0_isWithin
theorem ggX1_copiesLeft_X1_pageCount : GoodIn wsX1_copiesLeft wsX1_pageCount := fun w h => ⟨List.mem_cons_of_mem _ (List.mem_append_right _ (List.mem_append_right _ h)), good_of_word (gdX1_pageCount w h)⟩
theorem gX1_copiesLeft_X1_pageCount : GoodIn wsX1_copiesLeft (wsV RX1 46 RX1 yX1_pageCount wsX1_pageCount) := goodIn_app (goodIn_r _ [1, 2, 3, 4] (by decide +kernel) (by decide +kernel)) ggX1_copiesLeft_X1_pageCount
theorem ggX0_state_X0_outputOf : GoodIn wsX0_state wsX0_outputOf := fun w h => ⟨List.mem_cons_of_mem _ (List.mem_append_right _ (List.mem_append_right _ (List.mem_append_left _ h))), good_of_word (gdX0_outputOf w h)⟩
theorem gX0_state_X0_outputOf : GoodIn wsX0_state (wsV RX0 66 RX0 yX0_outputOf wsX0_outputOf) := goodIn_app (goodIn_r _ [1, 2, 3, 4] (by decide +kernel) (by decide +kernel)) ggX0_state_X0_outputOf
theorem ggX0_state_X1_pageCount : GoodIn wsX0_state wsX1_pageCount := fun w h => ⟨List.mem_cons_of_mem _ (List.mem_append_right _ (List.mem_append_right _ (List.mem_append_right _ (List.mem_append_left _ h)))), good_of_word (gdX1_pageCount w h)⟩
theorem gX0_state_X1_pageCount : GoodIn wsX0_state (wsV RX0 179 RX1 yX1_pageCount wsX1_pageCount) := goodIn_app (goodIn_r _ [8, 9, 10, 11] (by decide +kernel) (by decide +kernel)) ggX0_state_X1_pageCount
theorem ggX0_state_X1_copiesLeft : GoodIn wsX0_state wsX1_copiesLeft := fun w h => ⟨List.mem_cons_of_mem _ (List.mem_append_right _ (List.mem_append_right _ (List.mem_append_right _ (List.mem_append_right _ h)))), good_of_word (gdX1_copiesLeft w h)⟩
theorem gX0_state_X1_copiesLeft : GoodIn wsX0_state (wsV RX0 182 RX1 yX1_copiesLeft wsX1_copiesLeft) := goodIn_app (goodIn_r _ [14, 15, 16, 11] (by decide +kernel) (by decide +kernel)) ggX0_state_X1_copiesLeft
theorem ggX3_state_X3_isOutput : GoodIn wsX3_state wsX3_isOutput := fun w h => ⟨List.mem_cons_of_mem _ (List.mem_append_right _ (List.mem_append_right _ (List.mem_append_left _ h))), good_of_word (gdX3_isOutput w h)⟩
theorem gX3_state_X3_isOutput : GoodIn wsX3_state (wsV RX3 89 RX3 yX3_isOutput wsX3_isOutput) := goodIn_app (goodIn_r _ [1, 2, 3, 4] (by decide +kernel) (by decide +kernel)) ggX3_state_X3_isOutput
theorem ggX3_state_X3_pagesOf : GoodIn wsX3_state wsX3_pagesOf := fun w h => ⟨List.mem_cons_of_mem _ (List.mem_append_right _ (List.mem_append_right _ (List.mem_append_right _ h))), good_of_word (gdX3_pagesOf w h)⟩
theorem gX3_state_X3_pagesOf : GoodIn wsX3_state (wsV RX3 77 RX3 yX3_pagesOf wsX3_pagesOf) := goodIn_app (goodIn_r _ [5, 6, 7, 4] (by decide +kernel) (by decide +kernel)) ggX3_state_X3_pagesOf
theorem ggX0_outputsThere_X1_isGone : GoodIn wsX0_outputsThere wsX1_isGone := fun w h => ⟨List.mem_cons_of_mem _ (List.mem_append_right _ (List.mem_append_right _ h)), good_of_word (gdX1_isGone w h)⟩
theorem gX0_outputsThere_X1_isGone : GoodIn wsX0_outputsThere (wsV RX0 90 RX1 yX1_isGone wsX1_isGone) := goodIn_app (goodIn_r _ [3, 4, 5, 6] (by decide +kernel) (by decide +kernel)) ggX0_outputsThere_X1_isGone
theorem ggX0_count_X0_outputsThere : GoodIn wsX0_count wsX0_outputsThere := fun w h => ⟨List.mem_cons_of_mem _ (List.mem_append_right _ (List.mem_append_right _ h)), good_of_word (gdX0_outputsThere w h)⟩
theorem gX0_count_X0_outputsThere : GoodIn wsX0_count (wsV RX0 185 RX0 yX0_outputsThere wsX0_outputsThere) := goodIn_app (goodIn_r _ [2, 3, 4, 5] (by decide +kernel) (by decide +kernel)) ggX0_count_X0_outputsThere
theorem ggX3_count_X3_isGone : GoodIn wsX3_count wsX3_isGone := fun w h => ⟨List.mem_cons_of_mem _ (List.mem_append_right _ (List.mem_append_right _ (List.mem_append_left _ h))), good_of_word (gdX3_isGone w h)⟩
theorem gX3_count_X3_isGone : GoodIn wsX3_count (wsV RX3 73 RX3 yX3_isGone wsX3_isGone) := goodIn_app (goodIn_r _ [2, 3, 4, 5] (by decide +kernel) (by decide +kernel)) ggX3_count_X3_isGone
theorem ggX3_count_X3_free : GoodIn wsX3_count wsX3_free := fun w h => ⟨List.mem_cons_of_mem _ (List.mem_append_right _ (List.mem_append_right _ (List.mem_append_right _ h))), good_of_word (gdX3_free w h)⟩
theorem gX3_count_X3_free : GoodIn wsX3_count (wsV RX3 81 RX3 yX3_free wsX3_free) := goodIn_app (goodIn_r _ [6, 7, 8, 5] (by decide +kernel) (by decide +kernel)) ggX3_count_X3_free
end
section
theorem inX0 : ∀ w ∈ wsX00, w ∈ lw_tbl := by decide +kernel
theorem inX1 : ∀ w ∈ wsX10, w ∈ lw_tbl := by decide +kernel
theorem inX2 : ∀ w ∈ wsX20, w ∈ lw_tbl := by decide +kernel
theorem inX3 : ∀ w ∈ wsX30, w ∈ lw_tbl := by decide +kernel
theorem tcL_cell : Cond.code yL_cell cL_cell 2 (some .int) ∈ lw_tbl := List.mem_append_right _ (List.mem_append_right _ (List.mem_append_left _ (List.mem_of_getElem? (i := 67) rfl)))
set_option maxRecDepth 40000 in
theorem toL_cell : ∀ w ∈ woL_cell, w ∈ lw_tbl := by decide +kernel
theorem tbL_cell : ∀ w ∈ wsL_cell, w ∈ lw_tbl := List.forall_mem_cons.mpr ⟨tcL_cell, toL_cell⟩
theorem tcX0_init : Cond.code yX0_init cX0_init 3 none ∈ lw_tbl := List.mem_append_right _ (List.mem_append_left _ (List.mem_of_getElem? (i := 10) rfl))
set_option maxRecDepth 40000 in
theorem toX0_init : ∀ w ∈ woX0_init, w ∈ lw_tbl := by decide +kernel
theorem tbX0_init : ∀ w ∈ wsX0_init, w ∈ lw_tbl := List.forall_mem_cons.mpr ⟨tcX0_init, (List.forall_mem_append.mpr ⟨toX0_init, inX0⟩)⟩
theorem tcX3_init : Cond.code yX3_init cX3_init 2 none ∈ lw_tbl := List.mem_append_right _ (List.mem_append_right _ (List.mem_append_left _ (List.mem_of_getElem? (i := 72) rfl)))
set_option maxRecDepth 40000 in
theorem toX3_init : ∀ w ∈ woX3_init, w ∈ lw_tbl := by decide +kernel
theorem tbX3_init : ∀ w ∈ wsX3_init, w ∈ lw_tbl := List.forall_mem_cons.mpr ⟨tcX3_init, (List.forall_mem_append.mpr ⟨toX3_init, inX3⟩)⟩
theorem tcX0_isWithin : Cond.code yX0_isWithin cX0_isWithin 3 (some .boolean) ∈ lw_tbl := List.mem_append_right _ (List.mem_append_left _ (List.mem_of_getElem? (i := 72) rfl))
set_option maxRecDepth 40000 in
theorem toX0_isWithin : ∀ w ∈ woX0_isWithin, w ∈ lw_tbl := by decide +kernel
theorem tbX0_isWithin : ∀ w ∈ wsX0_isWithin, w ∈ lw_tbl := List.forall_mem_cons.mpr ⟨tcX0_isWithin, toX0_isWithin⟩
theorem tcX1_isGone : Cond.code yX1_isGone cX1_isGone 1 (some .boolean) ∈ lw_tbl := List.mem_append_right _ (List.mem_append_left _ (List.mem_of_getElem? (i := 80) rfl))
set_option maxRecDepth 40000 in
theorem toX1_isGone : ∀ w ∈ woX1_isGone, w ∈ lw_tbl := by decide +kernel
theorem tbX1_isGone : ∀ w ∈ wsX1_isGone, w ∈ lw_tbl := List.forall_mem_cons.mpr ⟨tcX1_isGone, (List.forall_mem_append.mpr ⟨toX1_isGone, inX1⟩)⟩
theorem tcX0_hasOutputThere : Cond.code yX0_hasOutputThere cX0_hasOutputThere 3 (some .boolean) ∈ lw_tbl := List.mem_append_right _ (List.mem_append_left _ (List.mem_of_getElem? (i := 76) rfl))
set_option maxRecDepth 40000 in
theorem toX0_hasOutputThere : ∀ w ∈ woX0_hasOutputThere, w ∈ lw_tbl := by decide +kernel
theorem tbX0_hasOutputThere : ∀ w ∈ wsX0_hasOutputThere, w ∈ lw_tbl := List.forall_mem_cons.mpr ⟨tcX0_hasOutputThere, (List.forall_mem_append.mpr ⟨toX0_hasOutputThere, (List.forall_mem_append.mpr ⟨inX0, (List.forall_mem_append.mpr ⟨inX1, tbX1_isGone⟩)⟩)⟩)⟩
theorem tcX1_init : Cond.code yX1_init cX1_init 5 none ∈ lw_tbl := List.mem_append_right _ (List.mem_append_left _ (List.mem_of_getElem? (i := 88) rfl))
set_option maxRecDepth 40000 in
theorem toX1_init : ∀ w ∈ woX1_init, w ∈ lw_tbl := by decide +kernel
theorem tbX1_init : ∀ w ∈ wsX1_init, w ∈ lw_tbl := List.forall_mem_cons.mpr ⟨tcX1_init, (List.forall_mem_append.mpr ⟨toX1_init, inX1⟩)⟩
theorem tcX0_addOutput : Cond.code yX0_addOutput cX0_addOutput 5 (some (.object "SpoolRows$Output")) ∈ lw_tbl := List.mem_append_right _ (List.mem_append_left _ (List.mem_of_getElem? (i := 84) rfl))
set_option maxRecDepth 40000 in
theorem toX0_addOutput : ∀ w ∈ woX0_addOutput, w ∈ lw_tbl := by decide +kernel
theorem tbX0_addOutput : ∀ w ∈ wsX0_addOutput, w ∈ lw_tbl := List.forall_mem_cons.mpr ⟨tcX0_addOutput, (List.forall_mem_append.mpr ⟨toX0_addOutput, (List.forall_mem_append.mpr ⟨inX1, (List.forall_mem_append.mpr ⟨inX0, tbX1_init⟩)⟩)⟩)⟩
theorem tcX0_output : Cond.code yX0_output cX0_output 4 (some .int) ∈ lw_tbl := List.mem_append_right _ (List.mem_append_left _ (List.mem_of_getElem? (i := 69) rfl))
set_option maxRecDepth 40000 in
theorem toX0_output : ∀ w ∈ woX0_output, w ∈ lw_tbl := by decide +kernel
theorem tbX0_output : ∀ w ∈ wsX0_output, w ∈ lw_tbl := List.forall_mem_cons.mpr ⟨tcX0_output, (List.forall_mem_append.mpr ⟨toX0_output, (List.forall_mem_append.mpr ⟨inX0, (List.forall_mem_append.mpr ⟨inX1, (List.forall_mem_append.mpr ⟨tbX0_isWithin, (List.forall_mem_append.mpr ⟨tbX0_hasOutputThere, tbX0_addOutput⟩)⟩)⟩)⟩)⟩)⟩
theorem tcX3_isGone : Cond.code yX3_isGone cX3_isGone 2 (some .boolean) ∈ lw_tbl := List.mem_append_right _ (List.mem_append_right _ (List.mem_append_left _ (List.mem_of_getElem? (i := 156) rfl)))
set_option maxRecDepth 40000 in
theorem toX3_isGone : ∀ w ∈ woX3_isGone, w ∈ lw_tbl := by decide +kernel
theorem tbX3_isGone : ∀ w ∈ wsX3_isGone, w ∈ lw_tbl := List.forall_mem_cons.mpr ⟨tcX3_isGone, (List.forall_mem_append.mpr ⟨toX3_isGone, inX3⟩)⟩
theorem tcX3_pagesOf : Cond.code yX3_pagesOf cX3_pagesOf 2 (some .int) ∈ lw_tbl := List.mem_append_right _ (List.mem_append_right _ (List.mem_append_left _ (List.mem_of_getElem? (i := 164) rfl)))
set_option maxRecDepth 40000 in
theorem toX3_pagesOf : ∀ w ∈ woX3_pagesOf, w ∈ lw_tbl := by decide +kernel
theorem tbX3_pagesOf : ∀ w ∈ wsX3_pagesOf, w ∈ lw_tbl := List.forall_mem_cons.mpr ⟨tcX3_pagesOf, (List.forall_mem_append.mpr ⟨toX3_pagesOf, inX3⟩)⟩
theorem tcX3_free : Cond.code yX3_free cX3_free 3 (some .int) ∈ lw_tbl := List.mem_append_right _ (List.mem_append_right _ (List.mem_append_left _ (List.mem_of_getElem? (i := 160) rfl)))
set_option maxRecDepth 40000 in
theorem toX3_free : ∀ w ∈ woX3_free, w ∈ lw_tbl := by decide +kernel
theorem tbX3_free : ∀ w ∈ wsX3_free, w ∈ lw_tbl := List.forall_mem_cons.mpr ⟨tcX3_free, (List.forall_mem_append.mpr ⟨toX3_free, (List.forall_mem_append.mpr ⟨inX3, (List.forall_mem_append.mpr ⟨tbX3_isGone, tbX3_pagesOf⟩)⟩)⟩)⟩
theorem tcX3_create : Cond.code yX3_create cX3_create 6 none ∈ lw_tbl := List.mem_append_right _ (List.mem_append_right _ (List.mem_append_left _ (List.mem_of_getElem? (i := 168) rfl)))
set_option maxRecDepth 40000 in
theorem toX3_create : ∀ w ∈ woX3_create, w ∈ lw_tbl := by decide +kernel
theorem tbX3_create : ∀ w ∈ wsX3_create, w ∈ lw_tbl := List.forall_mem_cons.mpr ⟨tcX3_create, (List.forall_mem_append.mpr ⟨toX3_create, inX3⟩)⟩
theorem tcX3_output : Cond.code yX3_output cX3_output 6 (some .int) ∈ lw_tbl := List.mem_append_right _ (List.mem_append_right _ (List.mem_append_left _ (List.mem_of_getElem? (i := 152) rfl)))
set_option maxRecDepth 40000 in
theorem toX3_output : ∀ w ∈ woX3_output, w ∈ lw_tbl := by decide +kernel
theorem tbX3_output : ∀ w ∈ wsX3_output, w ∈ lw_tbl := List.forall_mem_cons.mpr ⟨tcX3_output, (List.forall_mem_append.mpr ⟨toX3_output, (List.forall_mem_append.mpr ⟨inX3, (List.forall_mem_append.mpr ⟨tbX3_isGone, (List.forall_mem_append.mpr ⟨tbX3_free, tbX3_create⟩)⟩)⟩)⟩)⟩
theorem tcX0_outputOf : Cond.code yX0_outputOf cX0_outputOf 2 (some (.object "SpoolRows$Output")) ∈ lw_tbl := List.mem_append_right _ (List.mem_append_left _ (List.mem_of_getElem? (i := 151) rfl))
set_option maxRecDepth 40000 in
theorem toX0_outputOf : ∀ w ∈ woX0_outputOf, w ∈ lw_tbl := by decide +kernel
theorem tbX0_outputOf : ∀ w ∈ wsX0_outputOf, w ∈ lw_tbl := List.forall_mem_cons.mpr ⟨tcX0_outputOf, (List.forall_mem_append.mpr ⟨toX0_outputOf, (List.forall_mem_append.mpr ⟨inX0, tbX0_isWithin⟩)⟩)⟩
theorem tcX1_isAtLimit : Cond.code yX1_isAtLimit cX1_isAtLimit 1 (some .boolean) ∈ lw_tbl := List.mem_append_right _ (List.mem_append_left _ (List.mem_of_getElem? (i := 156) rfl))
set_option maxRecDepth 40000 in
theorem toX1_isAtLimit : ∀ w ∈ woX1_isAtLimit, w ∈ lw_tbl := by decide +kernel
theorem tbX1_isAtLimit : ∀ w ∈ wsX1_isAtLimit, w ∈ lw_tbl := List.forall_mem_cons.mpr ⟨tcX1_isAtLimit, (List.forall_mem_append.mpr ⟨toX1_isAtLimit, inX1⟩)⟩
theorem tcX1_needsPage : Cond.code yX1_needsPage cX1_needsPage 1 (some .boolean) ∈ lw_tbl := List.mem_append_right _ (List.mem_append_left _ (List.mem_of_getElem? (i := 164) rfl))
set_option maxRecDepth 40000 in
theorem toX1_needsPage : ∀ w ∈ woX1_needsPage, w ∈ lw_tbl := by decide +kernel
theorem tbX1_needsPage : ∀ w ∈ wsX1_needsPage, w ∈ lw_tbl := List.forall_mem_cons.mpr ⟨tcX1_needsPage, (List.forall_mem_append.mpr ⟨toX1_needsPage, inX1⟩)⟩
theorem tcX0_hasRoomForLine : Cond.code yX0_hasRoomForLine cX0_hasRoomForLine 2 (some .boolean) ∈ lw_tbl := List.mem_append_right _ (List.mem_append_left _ (List.mem_of_getElem? (i := 160) rfl))
set_option maxRecDepth 40000 in
theorem toX0_hasRoomForLine : ∀ w ∈ woX0_hasRoomForLine, w ∈ lw_tbl := by decide +kernel
theorem tbX0_hasRoomForLine : ∀ w ∈ wsX0_hasRoomForLine, w ∈ lw_tbl := List.forall_mem_cons.mpr ⟨tcX0_hasRoomForLine, (List.forall_mem_append.mpr ⟨toX0_hasRoomForLine, (List.forall_mem_append.mpr ⟨inX0, tbX1_needsPage⟩)⟩)⟩
theorem tcX0_takeLine : Cond.code yX0_takeLine cX0_takeLine 3 none ∈ lw_tbl := List.mem_append_right _ (List.mem_append_left _ (List.mem_of_getElem? (i := 168) rfl))
set_option maxRecDepth 40000 in
theorem toX0_takeLine : ∀ w ∈ woX0_takeLine, w ∈ lw_tbl := by decide +kernel
theorem tbX0_takeLine : ∀ w ∈ wsX0_takeLine, w ∈ lw_tbl := List.forall_mem_cons.mpr ⟨tcX0_takeLine, (List.forall_mem_append.mpr ⟨toX0_takeLine, (List.forall_mem_append.mpr ⟨inX0, (List.forall_mem_append.mpr ⟨inX1, tbX1_needsPage⟩)⟩)⟩)⟩
theorem tcX0_line : Cond.code yX0_line cX0_line 5 (some .int) ∈ lw_tbl := List.mem_append_right _ (List.mem_append_left _ (List.mem_of_getElem? (i := 147) rfl))
set_option maxRecDepth 40000 in
theorem toX0_line : ∀ w ∈ woX0_line, w ∈ lw_tbl := by decide +kernel
theorem tbX0_line : ∀ w ∈ wsX0_line, w ∈ lw_tbl := List.forall_mem_cons.mpr ⟨tcX0_line, (List.forall_mem_append.mpr ⟨toX0_line, (List.forall_mem_append.mpr ⟨inX1, (List.forall_mem_append.mpr ⟨tbX0_outputOf, (List.forall_mem_append.mpr ⟨tbX0_isWithin, (List.forall_mem_append.mpr ⟨tbX1_isAtLimit, (List.forall_mem_append.mpr ⟨tbX0_hasRoomForLine, tbX0_takeLine⟩)⟩)⟩)⟩)⟩)⟩)⟩
theorem tcX3_isOutput : Cond.code yX3_isOutput cX3_isOutput 2 (some .boolean) ∈ lw_tbl := List.mem_append_right _ (List.mem_append_right _ (List.mem_append_left _ (List.mem_of_getElem? (i := 176) rfl)))
set_option maxRecDepth 40000 in
theorem toX3_isOutput : ∀ w ∈ woX3_isOutput, w ∈ lw_tbl := by decide +kernel
theorem tbX3_isOutput : ∀ w ∈ wsX3_isOutput, w ∈ lw_tbl := List.forall_mem_cons.mpr ⟨tcX3_isOutput, (List.forall_mem_append.mpr ⟨toX3_isOutput, inX3⟩)⟩
theorem tcX3_line : Cond.code yX3_line cX3_line 4 (some .int) ∈ lw_tbl := List.mem_append_right _ (List.mem_append_right _ (List.mem_append_left _ (List.mem_of_getElem? (i := 172) rfl)))
set_option maxRecDepth 40000 in
theorem toX3_line : ∀ w ∈ woX3_line, w ∈ lw_tbl := by decide +kernel
theorem tbX3_line : ∀ w ∈ wsX3_line, w ∈ lw_tbl := List.forall_mem_cons.mpr ⟨tcX3_line, (List.forall_mem_append.mpr ⟨toX3_line, (List.forall_mem_append.mpr ⟨inX3, (List.forall_mem_append.mpr ⟨tbX3_isOutput, tbX3_free⟩)⟩)⟩)⟩
theorem tcX0_limit : Cond.code yX0_limit cX0_limit 5 (some .int) ∈ lw_tbl := List.mem_append_right _ (List.mem_append_left _ (List.mem_of_getElem? (i := 172) rfl))
set_option maxRecDepth 40000 in
theorem toX0_limit : ∀ w ∈ woX0_limit, w ∈ lw_tbl := by decide +kernel
theorem tbX0_limit : ∀ w ∈ wsX0_limit, w ∈ lw_tbl := List.forall_mem_cons.mpr ⟨tcX0_limit, (List.forall_mem_append.mpr ⟨toX0_limit, (List.forall_mem_append.mpr ⟨inX1, (List.forall_mem_append.mpr ⟨tbX0_outputOf, tbX1_isGone⟩)⟩)⟩)⟩
theorem tcX3_limit : Cond.code yX3_limit cX3_limit 4 (some .int) ∈ lw_tbl := List.mem_append_right _ (List.mem_append_right _ (List.mem_append_left _ (List.mem_of_getElem? (i := 181) rfl)))
set_option maxRecDepth 40000 in
theorem toX3_limit : ∀ w ∈ woX3_limit, w ∈ lw_tbl := by decide +kernel
theorem tbX3_limit : ∀ w ∈ wsX3_limit, w ∈ lw_tbl := List.forall_mem_cons.mpr ⟨tcX3_limit, (List.forall_mem_append.mpr ⟨toX3_limit, (List.forall_mem_append.mpr ⟨inX3, (List.forall_mem_append.mpr ⟨tbX3_isOutput, tbX3_isGone⟩)⟩)⟩)⟩
theorem tcX1_pageCount : Cond.code yX1_pageCount cX1_pageCount 1 (some .int) ∈ lw_tbl := List.mem_append_right _ (List.mem_append_left _ (List.mem_of_getElem? (i := 188) rfl))
set_option maxRecDepth 40000 in
theorem toX1_pageCount : ∀ w ∈ woX1_pageCount, w ∈ lw_tbl := by decide +kernel
theorem tbX1_pageCount : ∀ w ∈ wsX1_pageCount, w ∈ lw_tbl := List.forall_mem_cons.mpr ⟨tcX1_pageCount, (List.forall_mem_append.mpr ⟨toX1_pageCount, inX1⟩)⟩
theorem tcX0_letGo : Cond.code yX0_letGo cX0_letGo 3 none ∈ lw_tbl := List.mem_append_right _ (List.mem_append_left _ (List.mem_of_getElem? (i := 184) rfl))
set_option maxRecDepth 40000 in
theorem toX0_letGo : ∀ w ∈ woX0_letGo, w ∈ lw_tbl := by decide +kernel
theorem tbX0_letGo : ∀ w ∈ wsX0_letGo, w ∈ lw_tbl := List.forall_mem_cons.mpr ⟨tcX0_letGo, (List.forall_mem_append.mpr ⟨toX0_letGo, (List.forall_mem_append.mpr ⟨inX1, (List.forall_mem_append.mpr ⟨inX0, tbX1_pageCount⟩)⟩)⟩)⟩
theorem tcX0_releaseOrPurge : Cond.code yX0_releaseOrPurge cX0_releaseOrPurge 2 none ∈ lw_tbl := List.mem_append_right _ (List.mem_append_left _ (List.mem_of_getElem? (i := 180) rfl))
set_option maxRecDepth 40000 in
theorem toX0_releaseOrPurge : ∀ w ∈ woX0_releaseOrPurge, w ∈ lw_tbl := by decide +kernel
theorem tbX0_releaseOrPurge : ∀ w ∈ wsX0_releaseOrPurge, w ∈ lw_tbl := List.forall_mem_cons.mpr ⟨tcX0_releaseOrPurge, (List.forall_mem_append.mpr ⟨toX0_releaseOrPurge, (List.forall_mem_append.mpr ⟨inX1, tbX0_letGo⟩)⟩)⟩
theorem tcX0_end : Cond.code yX0_end cX0_end 5 (some .int) ∈ lw_tbl := List.mem_append_right _ (List.mem_append_left _ (List.mem_of_getElem? (i := 176) rfl))
set_option maxRecDepth 40000 in
theorem toX0_end : ∀ w ∈ woX0_end, w ∈ lw_tbl := by decide +kernel
theorem tbX0_end : ∀ w ∈ wsX0_end, w ∈ lw_tbl := List.forall_mem_cons.mpr ⟨tcX0_end, (List.forall_mem_append.mpr ⟨toX0_end, (List.forall_mem_append.mpr ⟨inX0, (List.forall_mem_append.mpr ⟨inX1, tbX0_releaseOrPurge⟩)⟩)⟩)⟩
theorem tcX3_goes : Cond.code yX3_goes cX3_goes 3 none ∈ lw_tbl := List.mem_append_right _ (List.mem_append_right _ (List.mem_append_left _ (List.mem_of_getElem? (i := 189) rfl)))
set_option maxRecDepth 40000 in
theorem toX3_goes : ∀ w ∈ woX3_goes, w ∈ lw_tbl := by decide +kernel
theorem tbX3_goes : ∀ w ∈ wsX3_goes, w ∈ lw_tbl := List.forall_mem_cons.mpr ⟨tcX3_goes, (List.forall_mem_append.mpr ⟨toX3_goes, inX3⟩)⟩
theorem tcX3_end : Cond.code yX3_end cX3_end 4 (some .int) ∈ lw_tbl := List.mem_append_right _ (List.mem_append_right _ (List.mem_append_left _ (List.mem_of_getElem? (i := 185) rfl)))
set_option maxRecDepth 40000 in
theorem toX3_end : ∀ w ∈ woX3_end, w ∈ lw_tbl := by decide +kernel
theorem tbX3_end : ∀ w ∈ wsX3_end, w ∈ lw_tbl := List.forall_mem_cons.mpr ⟨tcX3_end, (List.forall_mem_append.mpr ⟨toX3_end, (List.forall_mem_append.mpr ⟨inX3, tbX3_goes⟩)⟩)⟩
theorem tcX1_takeSettingsOf : Cond.code yX1_takeSettingsOf cX1_takeSettingsOf 2 none ∈ lw_tbl := List.mem_append_right _ (List.mem_append_left _ (List.mem_of_getElem? (i := 196) rfl))
set_option maxRecDepth 40000 in
theorem toX1_takeSettingsOf : ∀ w ∈ woX1_takeSettingsOf, w ∈ lw_tbl := by decide +kernel
theorem tbX1_takeSettingsOf : ∀ w ∈ wsX1_takeSettingsOf, w ∈ lw_tbl := List.forall_mem_cons.mpr ⟨tcX1_takeSettingsOf, (List.forall_mem_append.mpr ⟨toX1_takeSettingsOf, inX1⟩)⟩
theorem tcX0_segment : Cond.code yX0_segment cX0_segment 4 (some .int) ∈ lw_tbl := List.mem_append_right _ (List.mem_append_left _ (List.mem_of_getElem? (i := 192) rfl))
set_option maxRecDepth 40000 in
theorem toX0_segment : ∀ w ∈ woX0_segment, w ∈ lw_tbl := by decide +kernel
theorem tbX0_segment : ∀ w ∈ wsX0_segment, w ∈ lw_tbl := List.forall_mem_cons.mpr ⟨tcX0_segment, (List.forall_mem_append.mpr ⟨toX0_segment, (List.forall_mem_append.mpr ⟨inX1, (List.forall_mem_append.mpr ⟨inX0, (List.forall_mem_append.mpr ⟨tbX0_outputOf, (List.forall_mem_append.mpr ⟨tbX0_addOutput, tbX1_takeSettingsOf⟩)⟩)⟩)⟩)⟩)⟩
theorem tcX3_segment : Cond.code yX3_segment cX3_segment 2 (some .int) ∈ lw_tbl := List.mem_append_right _ (List.mem_append_right _ (List.mem_append_left _ (List.mem_of_getElem? (i := 193) rfl)))
set_option maxRecDepth 40000 in
theorem toX3_segment : ∀ w ∈ woX3_segment, w ∈ lw_tbl := by decide +kernel
theorem tbX3_segment : ∀ w ∈ wsX3_segment, w ∈ lw_tbl := List.forall_mem_cons.mpr ⟨tcX3_segment, (List.forall_mem_append.mpr ⟨toX3_segment, (List.forall_mem_append.mpr ⟨inX3, (List.forall_mem_append.mpr ⟨tbX3_isOutput, tbX3_create⟩)⟩)⟩)⟩
theorem tcX2_init : Cond.code yX2_init cX2_init 3 none ∈ lw_tbl := List.mem_append_right _ (List.mem_append_left _ (List.mem_of_getElem? (i := 204) rfl))
set_option maxRecDepth 40000 in
theorem toX2_init : ∀ w ∈ woX2_init, w ∈ lw_tbl := by decide +kernel
theorem tbX2_init : ∀ w ∈ wsX2_init, w ∈ lw_tbl := List.forall_mem_cons.mpr ⟨tcX2_init, (List.forall_mem_append.mpr ⟨toX2_init, inX2⟩)⟩
theorem tcX0_writer : Cond.code yX0_writer cX0_writer 4 (some .int) ∈ lw_tbl := List.mem_append_right _ (List.mem_append_left _ (List.mem_of_getElem? (i := 200) rfl))
set_option maxRecDepth 40000 in
theorem toX0_writer : ∀ w ∈ woX0_writer, w ∈ lw_tbl := by decide +kernel
theorem tbX0_writer : ∀ w ∈ wsX0_writer, w ∈ lw_tbl := List.forall_mem_cons.mpr ⟨tcX0_writer, (List.forall_mem_append.mpr ⟨toX0_writer, (List.forall_mem_append.mpr ⟨inX0, (List.forall_mem_append.mpr ⟨inX2, tbX2_init⟩)⟩)⟩)⟩
theorem tcX3_writer : Cond.code yX3_writer cX3_writer 2 (some .int) ∈ lw_tbl := List.mem_append_right _ (List.mem_append_right _ (List.mem_append_left _ (List.mem_of_getElem? (i := 197) rfl)))
set_option maxRecDepth 40000 in
theorem toX3_writer : ∀ w ∈ woX3_writer, w ∈ lw_tbl := by decide +kernel
theorem tbX3_writer : ∀ w ∈ wsX3_writer, w ∈ lw_tbl := List.forall_mem_cons.mpr ⟨tcX3_writer, (List.forall_mem_append.mpr ⟨toX3_writer, inX3⟩)⟩
theorem tcX0_writerOf : Cond.code yX0_writerOf cX0_writerOf 2 (some (.object "SpoolRows$Writer")) ∈ lw_tbl := List.mem_append_right _ (List.mem_append_left _ (List.mem_of_getElem? (i := 223) rfl))
set_option maxRecDepth 40000 in
theorem toX0_writerOf : ∀ w ∈ woX0_writerOf, w ∈ lw_tbl := by decide +kernel
theorem tbX0_writerOf : ∀ w ∈ wsX0_writerOf, w ∈ lw_tbl := List.forall_mem_cons.mpr ⟨tcX0_writerOf, (List.forall_mem_append.mpr ⟨toX0_writerOf, (List.forall_mem_append.mpr ⟨inX0, tbX0_isWithin⟩)⟩)⟩
theorem tcX1_mayBePrinted : Cond.code yX1_mayBePrinted cX1_mayBePrinted 1 (some .boolean) ∈ lw_tbl := List.mem_append_right _ (List.mem_append_left _ (List.mem_of_getElem? (i := 231) rfl))
set_option maxRecDepth 40000 in
theorem toX1_mayBePrinted : ∀ w ∈ woX1_mayBePrinted, w ∈ lw_tbl := by decide +kernel
theorem tbX1_mayBePrinted : ∀ w ∈ wsX1_mayBePrinted, w ∈ lw_tbl := List.forall_mem_cons.mpr ⟨tcX1_mayBePrinted, (List.forall_mem_append.mpr ⟨toX1_mayBePrinted, inX1⟩)⟩
theorem tcX2_suits : Cond.code yX2_suits cX2_suits 2 (some .boolean) ∈ lw_tbl := List.mem_append_right _ (List.mem_append_left _ (List.mem_of_getElem? (i := 235) rfl))
set_option maxRecDepth 40000 in
theorem toX2_suits : ∀ w ∈ woX2_suits, w ∈ lw_tbl := by decide +kernel
theorem tbX2_suits : ∀ w ∈ wsX2_suits, w ∈ lw_tbl := List.forall_mem_cons.mpr ⟨tcX2_suits, (List.forall_mem_append.mpr ⟨toX2_suits, (List.forall_mem_append.mpr ⟨inX2, inX1⟩)⟩)⟩
theorem tcX1_comesBefore : Cond.code yX1_comesBefore cX1_comesBefore 2 (some .boolean) ∈ lw_tbl := List.mem_append_right _ (List.mem_append_left _ (List.mem_of_getElem? (i := 239) rfl))
set_option maxRecDepth 40000 in
theorem toX1_comesBefore : ∀ w ∈ woX1_comesBefore, w ∈ lw_tbl := by decide +kernel
theorem tbX1_comesBefore : ∀ w ∈ wsX1_comesBefore, w ∈ lw_tbl := List.forall_mem_cons.mpr ⟨tcX1_comesBefore, (List.forall_mem_append.mpr ⟨toX1_comesBefore, inX1⟩)⟩
theorem tcX0_firstFor : Cond.code yX0_firstFor cX0_firstFor 5 (some (.object "SpoolRows$Output")) ∈ lw_tbl := List.mem_append_right _ (List.mem_append_left _ (List.mem_of_getElem? (i := 227) rfl))
set_option maxRecDepth 40000 in
theorem toX0_firstFor : ∀ w ∈ woX0_firstFor, w ∈ lw_tbl := by decide +kernel
theorem tbX0_firstFor : ∀ w ∈ wsX0_firstFor, w ∈ lw_tbl := List.forall_mem_cons.mpr ⟨tcX0_firstFor, (List.forall_mem_append.mpr ⟨toX0_firstFor, (List.forall_mem_append.mpr ⟨inX0, (List.forall_mem_append.mpr ⟨tbX1_mayBePrinted, (List.forall_mem_append.mpr ⟨tbX2_suits, tbX1_comesBefore⟩)⟩)⟩)⟩)⟩
theorem tcX0_next : Cond.code yX0_next cX0_next 4 (some .int) ∈ lw_tbl := List.mem_append_right _ (List.mem_append_left _ (List.mem_of_getElem? (i := 219) rfl))
set_option maxRecDepth 40000 in
theorem toX0_next : ∀ w ∈ woX0_next, w ∈ lw_tbl := by decide +kernel
theorem tbX0_next : ∀ w ∈ wsX0_next, w ∈ lw_tbl := List.forall_mem_cons.mpr ⟨tcX0_next, (List.forall_mem_append.mpr ⟨toX0_next, (List.forall_mem_append.mpr ⟨inX2, (List.forall_mem_append.mpr ⟨inX1, (List.forall_mem_append.mpr ⟨tbX0_writerOf, tbX0_firstFor⟩)⟩)⟩)⟩)⟩
theorem tcX3_isWriter : Cond.code yX3_isWriter cX3_isWriter 2 (some .boolean) ∈ lw_tbl := List.mem_append_right _ (List.mem_append_right _ (List.mem_append_left _ (List.mem_of_getElem? (i := 205) rfl)))
set_option maxRecDepth 40000 in
theorem toX3_isWriter : ∀ w ∈ woX3_isWriter, w ∈ lw_tbl := by decide +kernel
theorem tbX3_isWriter : ∀ w ∈ wsX3_isWriter, w ∈ lw_tbl := List.forall_mem_cons.mpr ⟨tcX3_isWriter, (List.forall_mem_append.mpr ⟨toX3_isWriter, inX3⟩)⟩
theorem tcX3_fits : Cond.code yX3_fits cX3_fits 3 (some .boolean) ∈ lw_tbl := List.mem_append_right _ (List.mem_append_right _ (List.mem_append_left _ (List.mem_of_getElem? (i := 209) rfl)))
set_option maxRecDepth 40000 in
theorem toX3_fits : ∀ w ∈ woX3_fits, w ∈ lw_tbl := by decide +kernel
theorem tbX3_fits : ∀ w ∈ wsX3_fits, w ∈ lw_tbl := List.forall_mem_cons.mpr ⟨tcX3_fits, (List.forall_mem_append.mpr ⟨toX3_fits, inX3⟩)⟩
theorem tcX3_next : Cond.code yX3_next cX3_next 5 (some .int) ∈ lw_tbl := List.mem_append_right _ (List.mem_append_right _ (List.mem_append_left _ (List.mem_of_getElem? (i := 201) rfl)))
set_option maxRecDepth 40000 in
theorem toX3_next : ∀ w ∈ woX3_next, w ∈ lw_tbl := by decide +kernel
theorem tbX3_next : ∀ w ∈ wsX3_next, w ∈ lw_tbl := List.forall_mem_cons.mpr ⟨tcX3_next, (List.forall_mem_append.mpr ⟨toX3_next, (List.forall_mem_append.mpr ⟨inX3, (List.forall_mem_append.mpr ⟨tbX3_isWriter, tbX3_fits⟩)⟩)⟩)⟩
theorem tcX1_pagesToPrint : Cond.code yX1_pagesToPrint cX1_pagesToPrint 1 (some .int) ∈ lw_tbl := List.mem_append_right _ (List.mem_append_right _ (List.mem_append_left _ (List.mem_of_getElem? (i := 7) rfl)))
set_option maxRecDepth 40000 in
theorem toX1_pagesToPrint : ∀ w ∈ woX1_pagesToPrint, w ∈ lw_tbl := by decide +kernel
theorem tbX1_pagesToPrint : ∀ w ∈ wsX1_pagesToPrint, w ∈ lw_tbl := List.forall_mem_cons.mpr ⟨tcX1_pagesToPrint, (List.forall_mem_append.mpr ⟨toX1_pagesToPrint, (List.forall_mem_append.mpr ⟨inX1, tbX1_pageCount⟩)⟩)⟩
theorem tcX0_noteInOrder : Cond.code yX0_noteInOrder cX0_noteInOrder 2 none ∈ lw_tbl := List.mem_append_right _ (List.mem_append_right _ (List.mem_append_left _ (List.mem_of_getElem? (i := 12) rfl)))
set_option maxRecDepth 40000 in
theorem toX0_noteInOrder : ∀ w ∈ woX0_noteInOrder, w ∈ lw_tbl := by decide +kernel
theorem tbX0_noteInOrder : ∀ w ∈ wsX0_noteInOrder, w ∈ lw_tbl := List.forall_mem_cons.mpr ⟨tcX0_noteInOrder, (List.forall_mem_append.mpr ⟨toX0_noteInOrder, (List.forall_mem_append.mpr ⟨inX0, inX1⟩)⟩)⟩
theorem tcX0_print : Cond.code yX0_print cX0_print 6 (some .int) ∈ lw_tbl := List.mem_append_right _ (List.mem_append_right _ (List.mem_append_left _ (List.mem_of_getElem? (i := 3) rfl)))
set_option maxRecDepth 40000 in
theorem toX0_print : ∀ w ∈ woX0_print, w ∈ lw_tbl := by decide +kernel
theorem tbX0_print : ∀ w ∈ wsX0_print, w ∈ lw_tbl := List.forall_mem_cons.mpr ⟨tcX0_print, (List.forall_mem_append.mpr ⟨toX0_print, (List.forall_mem_append.mpr ⟨inX2, (List.forall_mem_append.mpr ⟨inX1, (List.forall_mem_append.mpr ⟨inX0, (List.forall_mem_append.mpr ⟨tbX0_writerOf, (List.forall_mem_append.mpr ⟨tbX1_pagesToPrint, (List.forall_mem_append.mpr ⟨tbX0_noteInOrder, tbX0_letGo⟩)⟩)⟩)⟩)⟩)⟩)⟩)⟩
theorem tcX3_print : Cond.code yX3_print cX3_print 6 (some .int) ∈ lw_tbl := List.mem_append_right _ (List.mem_append_right _ (List.mem_append_left _ (List.mem_of_getElem? (i := 213) rfl)))
set_option maxRecDepth 40000 in
theorem toX3_print : ∀ w ∈ woX3_print, w ∈ lw_tbl := by decide +kernel
theorem tbX3_print : ∀ w ∈ wsX3_print, w ∈ lw_tbl := List.forall_mem_cons.mpr ⟨tcX3_print, (List.forall_mem_append.mpr ⟨toX3_print, (List.forall_mem_append.mpr ⟨inX3, (List.forall_mem_append.mpr ⟨tbX3_isWriter, (List.forall_mem_append.mpr ⟨tbX3_pagesOf, tbX3_goes⟩)⟩)⟩)⟩)⟩
theorem tcX1_lastCheckpoint : Cond.code yX1_lastCheckpoint cX1_lastCheckpoint 1 (some .int) ∈ lw_tbl := List.mem_append_right _ (List.mem_append_right _ (List.mem_append_left _ (List.mem_of_getElem? (i := 20) rfl)))
set_option maxRecDepth 40000 in
theorem toX1_lastCheckpoint : ∀ w ∈ woX1_lastCheckpoint, w ∈ lw_tbl := by decide +kernel
theorem tbX1_lastCheckpoint : ∀ w ∈ wsX1_lastCheckpoint, w ∈ lw_tbl := List.forall_mem_cons.mpr ⟨tcX1_lastCheckpoint, (List.forall_mem_append.mpr ⟨toX1_lastCheckpoint, inX1⟩)⟩
theorem tcX0_cut : Cond.code yX0_cut cX0_cut 5 (some .int) ∈ lw_tbl := List.mem_append_right _ (List.mem_append_right _ (List.mem_append_left _ (List.mem_of_getElem? (i := 16) rfl)))
set_option maxRecDepth 40000 in
theorem toX0_cut : ∀ w ∈ woX0_cut, w ∈ lw_tbl := by decide +kernel
theorem tbX0_cut : ∀ w ∈ wsX0_cut, w ∈ lw_tbl := List.forall_mem_cons.mpr ⟨tcX0_cut, (List.forall_mem_append.mpr ⟨toX0_cut, (List.forall_mem_append.mpr ⟨inX2, (List.forall_mem_append.mpr ⟨inX1, (List.forall_mem_append.mpr ⟨inX0, (List.forall_mem_append.mpr ⟨tbX0_writerOf, (List.forall_mem_append.mpr ⟨tbX1_lastCheckpoint, tbX0_letGo⟩)⟩)⟩)⟩)⟩)⟩)⟩
theorem tcX3_cut : Cond.code yX3_cut cX3_cut 4 (some .int) ∈ lw_tbl := List.mem_append_right _ (List.mem_append_right _ (List.mem_append_left _ (List.mem_of_getElem? (i := 217) rfl)))
set_option maxRecDepth 40000 in
theorem toX3_cut : ∀ w ∈ woX3_cut, w ∈ lw_tbl := by decide +kernel
theorem tbX3_cut : ∀ w ∈ wsX3_cut, w ∈ lw_tbl := List.forall_mem_cons.mpr ⟨tcX3_cut, (List.forall_mem_append.mpr ⟨toX3_cut, (List.forall_mem_append.mpr ⟨inX3, (List.forall_mem_append.mpr ⟨tbX3_isWriter, tbX3_goes⟩)⟩)⟩)⟩
theorem tcX0_purge : Cond.code yX0_purge cX0_purge 3 (some .int) ∈ lw_tbl := List.mem_append_right _ (List.mem_append_right _ (List.mem_append_left _ (List.mem_of_getElem? (i := 24) rfl)))
set_option maxRecDepth 40000 in
theorem toX0_purge : ∀ w ∈ woX0_purge, w ∈ lw_tbl := by decide +kernel
theorem tbX0_purge : ∀ w ∈ wsX0_purge, w ∈ lw_tbl := List.forall_mem_cons.mpr ⟨tcX0_purge, (List.forall_mem_append.mpr ⟨toX0_purge, (List.forall_mem_append.mpr ⟨inX1, (List.forall_mem_append.mpr ⟨tbX0_outputOf, (List.forall_mem_append.mpr ⟨tbX1_isGone, tbX0_letGo⟩)⟩)⟩)⟩)⟩
theorem tcX3_purge : Cond.code yX3_purge cX3_purge 2 (some .int) ∈ lw_tbl := List.mem_append_right _ (List.mem_append_right _ (List.mem_append_left _ (List.mem_of_getElem? (i := 221) rfl)))
set_option maxRecDepth 40000 in
theorem toX3_purge : ∀ w ∈ woX3_purge, w ∈ lw_tbl := by decide +kernel
theorem tbX3_purge : ∀ w ∈ wsX3_purge, w ∈ lw_tbl := List.forall_mem_cons.mpr ⟨tcX3_purge, (List.forall_mem_append.mpr ⟨toX3_purge, (List.forall_mem_append.mpr ⟨inX3, (List.forall_mem_append.mpr ⟨tbX3_isOutput, (List.forall_mem_append.mpr ⟨tbX3_isGone, tbX3_goes⟩)⟩)⟩)⟩)⟩
theorem tcX1_isOpenOrReleased : Cond.code yX1_isOpenOrReleased cX1_isOpenOrReleased 1 (some .boolean) ∈ lw_tbl := List.mem_append_right _ (List.mem_append_right _ (List.mem_append_left _ (List.mem_of_getElem? (i := 32) rfl)))
set_option maxRecDepth 40000 in
theorem toX1_isOpenOrReleased : ∀ w ∈ woX1_isOpenOrReleased, w ∈ lw_tbl := by decide +kernel
theorem tbX1_isOpenOrReleased : ∀ w ∈ wsX1_isOpenOrReleased, w ∈ lw_tbl := List.forall_mem_cons.mpr ⟨tcX1_isOpenOrReleased, (List.forall_mem_append.mpr ⟨toX1_isOpenOrReleased, inX1⟩)⟩
theorem tcX0_hold : Cond.code yX0_hold cX0_hold 5 (some .int) ∈ lw_tbl := List.mem_append_right _ (List.mem_append_right _ (List.mem_append_left _ (List.mem_of_getElem? (i := 28) rfl)))
set_option maxRecDepth 40000 in
theorem toX0_hold : ∀ w ∈ woX0_hold, w ∈ lw_tbl := by decide +kernel
theorem tbX0_hold : ∀ w ∈ wsX0_hold, w ∈ lw_tbl := List.forall_mem_cons.mpr ⟨tcX0_hold, (List.forall_mem_append.mpr ⟨toX0_hold, (List.forall_mem_append.mpr ⟨inX1, (List.forall_mem_append.mpr ⟨tbX0_outputOf, tbX1_isOpenOrReleased⟩)⟩)⟩)⟩
theorem tcX3_isStill : Cond.code yX3_isStill cX3_isStill 2 (some .boolean) ∈ lw_tbl := List.mem_append_right _ (List.mem_append_right _ (List.mem_append_left _ (List.mem_of_getElem? (i := 229) rfl)))
set_option maxRecDepth 40000 in
theorem toX3_isStill : ∀ w ∈ woX3_isStill, w ∈ lw_tbl := by decide +kernel
theorem tbX3_isStill : ∀ w ∈ wsX3_isStill, w ∈ lw_tbl := List.forall_mem_cons.mpr ⟨tcX3_isStill, (List.forall_mem_append.mpr ⟨toX3_isStill, inX3⟩)⟩
theorem tcX3_hold : Cond.code yX3_hold cX3_hold 4 (some .int) ∈ lw_tbl := List.mem_append_right _ (List.mem_append_right _ (List.mem_append_left _ (List.mem_of_getElem? (i := 225) rfl)))
set_option maxRecDepth 40000 in
theorem toX3_hold : ∀ w ∈ woX3_hold, w ∈ lw_tbl := by decide +kernel
theorem tbX3_hold : ∀ w ∈ wsX3_hold, w ∈ lw_tbl := List.forall_mem_cons.mpr ⟨tcX3_hold, (List.forall_mem_append.mpr ⟨toX3_hold, (List.forall_mem_append.mpr ⟨inX3, (List.forall_mem_append.mpr ⟨tbX3_isOutput, tbX3_isStill⟩)⟩)⟩)⟩
theorem tcX0_route : Cond.code yX0_route cX0_route 5 (some .int) ∈ lw_tbl := List.mem_append_right _ (List.mem_append_right _ (List.mem_append_left _ (List.mem_of_getElem? (i := 36) rfl)))
set_option maxRecDepth 40000 in
theorem toX0_route : ∀ w ∈ woX0_route, w ∈ lw_tbl := by decide +kernel
theorem tbX0_route : ∀ w ∈ wsX0_route, w ∈ lw_tbl := List.forall_mem_cons.mpr ⟨tcX0_route, (List.forall_mem_append.mpr ⟨toX0_route, (List.forall_mem_append.mpr ⟨inX1, (List.forall_mem_append.mpr ⟨tbX0_outputOf, (List.forall_mem_append.mpr ⟨tbX0_isWithin, tbX1_isOpenOrReleased⟩)⟩)⟩)⟩)⟩
theorem tcX3_route : Cond.code yX3_route cX3_route 4 (some .int) ∈ lw_tbl := List.mem_append_right _ (List.mem_append_right _ (List.mem_append_left _ (List.mem_of_getElem? (i := 233) rfl)))
set_option maxRecDepth 40000 in
theorem toX3_route : ∀ w ∈ woX3_route, w ∈ lw_tbl := by decide +kernel
theorem tbX3_route : ∀ w ∈ wsX3_route, w ∈ lw_tbl := List.forall_mem_cons.mpr ⟨tcX3_route, (List.forall_mem_append.mpr ⟨toX3_route, (List.forall_mem_append.mpr ⟨inX3, (List.forall_mem_append.mpr ⟨tbX3_isOutput, tbX3_isStill⟩)⟩)⟩)⟩
theorem tcX0_isThere : Cond.code yX0_isThere cX0_isThere 3 (some .boolean) ∈ lw_tbl := List.mem_append_right _ (List.mem_append_right _ (List.mem_append_left _ (List.mem_of_getElem? (i := 44) rfl)))
set_option maxRecDepth 40000 in
theorem toX0_isThere : ∀ w ∈ woX0_isThere, w ∈ lw_tbl := by decide +kernel
theorem tbX0_isThere : ∀ w ∈ wsX0_isThere, w ∈ lw_tbl := List.forall_mem_cons.mpr ⟨tcX0_isThere, (List.forall_mem_append.mpr ⟨toX0_isThere, (List.forall_mem_append.mpr ⟨tbX0_outputOf, tbX1_isGone⟩)⟩)⟩
theorem tcX0_search : Cond.code yX0_search cX0_search 4 (some .int) ∈ lw_tbl := List.mem_append_right _ (List.mem_append_right _ (List.mem_append_left _ (List.mem_of_getElem? (i := 40) rfl)))
set_option maxRecDepth 40000 in
theorem toX0_search : ∀ w ∈ woX0_search, w ∈ lw_tbl := by decide +kernel
theorem tbX0_search : ∀ w ∈ wsX0_search, w ∈ lw_tbl := List.forall_mem_cons.mpr ⟨tcX0_search, (List.forall_mem_append.mpr ⟨toX0_search, (List.forall_mem_append.mpr ⟨inX0, (List.forall_mem_append.mpr ⟨tbX0_isWithin, tbX0_isThere⟩)⟩)⟩)⟩
theorem tcX3_search : Cond.code yX3_search cX3_search 4 (some .int) ∈ lw_tbl := List.mem_append_right _ (List.mem_append_right _ (List.mem_append_left _ (List.mem_of_getElem? (i := 237) rfl)))
set_option maxRecDepth 40000 in
theorem toX3_search : ∀ w ∈ woX3_search, w ∈ lw_tbl := by decide +kernel
theorem tbX3_search : ∀ w ∈ wsX3_search, w ∈ lw_tbl := List.forall_mem_cons.mpr ⟨tcX3_search, (List.forall_mem_append.mpr ⟨toX3_search, (List.forall_mem_append.mpr ⟨inX3, tbX3_isGone⟩)⟩)⟩
theorem tcX0_order : Cond.code yX0_order cX0_order 2 (some .int) ∈ lw_tbl := List.mem_append_right _ (List.mem_append_right _ (List.mem_append_left _ (List.mem_of_getElem? (i := 48) rfl)))
set_option maxRecDepth 40000 in
theorem toX0_order : ∀ w ∈ woX0_order, w ∈ lw_tbl := by decide +kernel
theorem tbX0_order : ∀ w ∈ wsX0_order, w ∈ lw_tbl := List.forall_mem_cons.mpr ⟨tcX0_order, (List.forall_mem_append.mpr ⟨toX0_order, (List.forall_mem_append.mpr ⟨inX0, tbX0_isWithin⟩)⟩)⟩
theorem tcX3_order : Cond.code yX3_order cX3_order 2 (some .int) ∈ lw_tbl := List.mem_append_right _ (List.mem_append_right _ (List.mem_append_right _ (List.mem_of_getElem? (i := 1) rfl)))
set_option maxRecDepth 40000 in
theorem toX3_order : ∀ w ∈ woX3_order, w ∈ lw_tbl := by decide +kernel
theorem tbX3_order : ∀ w ∈ wsX3_order, w ∈ lw_tbl := List.forall_mem_cons.mpr ⟨tcX3_order, (List.forall_mem_append.mpr ⟨toX3_order, inX3⟩)⟩
theorem tcX1_copiesLeft : Cond.code yX1_copiesLeft cX1_copiesLeft 2 (some .int) ∈ lw_tbl := List.mem_append_right _ (List.mem_append_right _ (List.mem_append_left _ (List.mem_of_getElem? (i := 56) rfl)))
set_option maxRecDepth 40000 in
theorem toX1_copiesLeft : ∀ w ∈ woX1_copiesLeft, w ∈ lw_tbl := by decide +kernel
theorem tbX1_copiesLeft : ∀ w ∈ wsX1_copiesLeft, w ∈ lw_tbl := List.forall_mem_cons.mpr ⟨tcX1_copiesLeft, (List.forall_mem_append.mpr ⟨toX1_copiesLeft, (List.forall_mem_append.mpr ⟨inX1, tbX1_pageCount⟩)⟩)⟩
theorem tcX0_state : Cond.code yX0_state cX0_state 4 (some .int) ∈ lw_tbl := List.mem_append_right _ (List.mem_append_right _ (List.mem_append_left _ (List.mem_of_getElem? (i := 52) rfl)))
set_option maxRecDepth 40000 in
theorem toX0_state : ∀ w ∈ woX0_state, w ∈ lw_tbl := by decide +kernel
theorem tbX0_state : ∀ w ∈ wsX0_state, w ∈ lw_tbl := List.forall_mem_cons.mpr ⟨tcX0_state, (List.forall_mem_append.mpr ⟨toX0_state, (List.forall_mem_append.mpr ⟨inX1, (List.forall_mem_append.mpr ⟨tbX0_outputOf, (List.forall_mem_append.mpr ⟨tbX1_pageCount, tbX1_copiesLeft⟩)⟩)⟩)⟩)⟩
theorem tcX3_state : Cond.code yX3_state cX3_state 4 (some .int) ∈ lw_tbl := List.mem_append_right _ (List.mem_append_right _ (List.mem_append_right _ (List.mem_of_getElem? (i := 5) rfl)))
set_option maxRecDepth 40000 in
theorem toX3_state : ∀ w ∈ woX3_state, w ∈ lw_tbl := by decide +kernel
theorem tbX3_state : ∀ w ∈ wsX3_state, w ∈ lw_tbl := List.forall_mem_cons.mpr ⟨tcX3_state, (List.forall_mem_append.mpr ⟨toX3_state, (List.forall_mem_append.mpr ⟨inX3, (List.forall_mem_append.mpr ⟨tbX3_isOutput, tbX3_pagesOf⟩)⟩)⟩)⟩
theorem tcX0_outputsThere : Cond.code yX0_outputsThere cX0_outputsThere 3 (some .int) ∈ lw_tbl := List.mem_append_right _ (List.mem_append_right _ (List.mem_append_left _ (List.mem_of_getElem? (i := 64) rfl)))
set_option maxRecDepth 40000 in
theorem toX0_outputsThere : ∀ w ∈ woX0_outputsThere, w ∈ lw_tbl := by decide +kernel
theorem tbX0_outputsThere : ∀ w ∈ wsX0_outputsThere, w ∈ lw_tbl := List.forall_mem_cons.mpr ⟨tcX0_outputsThere, (List.forall_mem_append.mpr ⟨toX0_outputsThere, (List.forall_mem_append.mpr ⟨inX0, tbX1_isGone⟩)⟩)⟩
theorem tcX0_count : Cond.code yX0_count cX0_count 2 (some .int) ∈ lw_tbl := List.mem_append_right _ (List.mem_append_right _ (List.mem_append_left _ (List.mem_of_getElem? (i := 60) rfl)))
set_option maxRecDepth 40000 in
theorem toX0_count : ∀ w ∈ woX0_count, w ∈ lw_tbl := by decide +kernel
theorem tbX0_count : ∀ w ∈ wsX0_count, w ∈ lw_tbl := List.forall_mem_cons.mpr ⟨tcX0_count, (List.forall_mem_append.mpr ⟨toX0_count, (List.forall_mem_append.mpr ⟨inX0, tbX0_outputsThere⟩)⟩)⟩
theorem tcX3_count : Cond.code yX3_count cX3_count 4 (some .int) ∈ lw_tbl := List.mem_append_right _ (List.mem_append_right _ (List.mem_append_right _ (List.mem_of_getElem? (i := 9) rfl)))
set_option maxRecDepth 40000 in
theorem toX3_count : ∀ w ∈ woX3_count, w ∈ lw_tbl := by decide +kernel
theorem tbX3_count : ∀ w ∈ wsX3_count, w ∈ lw_tbl := List.forall_mem_cons.mpr ⟨tcX3_count, (List.forall_mem_append.mpr ⟨toX3_count, (List.forall_mem_append.mpr ⟨inX3, (List.forall_mem_append.mpr ⟨tbX3_isGone, tbX3_free⟩)⟩)⟩)⟩
theorem ggL_law_L_cell : GoodIn lw_tbl wsL_cell := fun w h => ⟨tbL_cell w h, good_of_word (gdL_cell w h)⟩
theorem gL_law_L_cell : GoodIn lw_tbl (va_wsS RL 9 yL_cell wsL_cell) := goodIn_app (goodIn_of _ (by decide +kernel)) ggL_law_L_cell
theorem ggL_law_X0_init : GoodIn lw_tbl wsX0_init := fun w h => ⟨tbX0_init w h, good_of_word (gdX0_init w h)⟩
theorem gL_law_X0_init : GoodIn lw_tbl (wsX0_init) := ggL_law_X0_init
theorem ggL_law_X3_init : GoodIn lw_tbl wsX3_init := fun w h => ⟨tbX3_init w h, good_of_word (gdX3_init w h)⟩
theorem gL_law_X3_init : GoodIn lw_tbl (wsX3_init) := ggL_law_X3_init
theorem ggL_law_X0_output : GoodIn lw_tbl wsX0_output := fun w h => ⟨tbX0_output w h, good_of_word (gdX0_output w h)⟩
theorem gL_law_X0_output : GoodIn lw_tbl (wsV RL 21 RX0 yX0_output wsX0_output) := goodIn_app (goodIn_of _ (by decide +kernel)) ggL_law_X0_output
theorem ggL_law_X3_output : GoodIn lw_tbl wsX3_output := fun w h => ⟨tbX3_output w h, good_of_word (gdX3_output w h)⟩
theorem gL_law_X3_output : GoodIn lw_tbl (wsV RL 25 RX3 yX3_output wsX3_output) := goodIn_app (goodIn_of _ (by decide +kernel)) ggL_law_X3_output
theorem ggL_law_X0_line : GoodIn lw_tbl wsX0_line := fun w h => ⟨tbX0_line w h, good_of_word (gdX0_line w h)⟩
theorem gL_law_X0_line : GoodIn lw_tbl (wsV RL 26 RX0 yX0_line wsX0_line) := goodIn_app (goodIn_of _ (by decide +kernel)) ggL_law_X0_line
theorem ggL_law_X3_line : GoodIn lw_tbl wsX3_line := fun w h => ⟨tbX3_line w h, good_of_word (gdX3_line w h)⟩
theorem gL_law_X3_line : GoodIn lw_tbl (wsV RL 30 RX3 yX3_line wsX3_line) := goodIn_app (goodIn_of _ (by decide +kernel)) ggL_law_X3_line
theorem ggL_law_X0_limit : GoodIn lw_tbl wsX0_limit := fun w h => ⟨tbX0_limit w h, good_of_word (gdX0_limit w h)⟩
theorem gL_law_X0_limit : GoodIn lw_tbl (wsV RL 31 RX0 yX0_limit wsX0_limit) := goodIn_app (goodIn_of _ (by decide +kernel)) ggL_law_X0_limit
theorem ggL_law_X3_limit : GoodIn lw_tbl wsX3_limit := fun w h => ⟨tbX3_limit w h, good_of_word (gdX3_limit w h)⟩
theorem gL_law_X3_limit : GoodIn lw_tbl (wsV RL 35 RX3 yX3_limit wsX3_limit) := goodIn_app (goodIn_of _ (by decide +kernel)) ggL_law_X3_limit
theorem ggL_law_X0_end : GoodIn lw_tbl wsX0_end := fun w h => ⟨tbX0_end w h, good_of_word (gdX0_end w h)⟩
theorem gL_law_X0_end : GoodIn lw_tbl (wsV RL 36 RX0 yX0_end wsX0_end) := goodIn_app (goodIn_of _ (by decide +kernel)) ggL_law_X0_end
theorem ggL_law_X3_end : GoodIn lw_tbl wsX3_end := fun w h => ⟨tbX3_end w h, good_of_word (gdX3_end w h)⟩
theorem gL_law_X3_end : GoodIn lw_tbl (wsV RL 40 RX3 yX3_end wsX3_end) := goodIn_app (goodIn_of _ (by decide +kernel)) ggL_law_X3_end
theorem ggL_law_X0_segment : GoodIn lw_tbl wsX0_segment := fun w h => ⟨tbX0_segment w h, good_of_word (gdX0_segment w h)⟩
theorem gL_law_X0_segment : GoodIn lw_tbl (wsV RL 41 RX0 yX0_segment wsX0_segment) := goodIn_app (goodIn_of _ (by decide +kernel)) ggL_law_X0_segment
theorem ggL_law_X3_segment : GoodIn lw_tbl wsX3_segment := fun w h => ⟨tbX3_segment w h, good_of_word (gdX3_segment w h)⟩
theorem gL_law_X3_segment : GoodIn lw_tbl (wsV RL 44 RX3 yX3_segment wsX3_segment) := goodIn_app (goodIn_of _ (by decide +kernel)) ggL_law_X3_segment
theorem ggL_law_X0_writer : GoodIn lw_tbl wsX0_writer := fun w h => ⟨tbX0_writer w h, good_of_word (gdX0_writer w h)⟩
theorem gL_law_X0_writer : GoodIn lw_tbl (wsV RL 45 RX0 yX0_writer wsX0_writer) := goodIn_app (goodIn_of _ (by decide +kernel)) ggL_law_X0_writer
theorem ggL_law_X3_writer : GoodIn lw_tbl wsX3_writer := fun w h => ⟨tbX3_writer w h, good_of_word (gdX3_writer w h)⟩
theorem gL_law_X3_writer : GoodIn lw_tbl (wsV RL 48 RX3 yX3_writer wsX3_writer) := goodIn_app (goodIn_of _ (by decide +kernel)) ggL_law_X3_writer
theorem ggL_law_X0_next : GoodIn lw_tbl wsX0_next := fun w h => ⟨tbX0_next w h, good_of_word (gdX0_next w h)⟩
theorem gL_law_X0_next : GoodIn lw_tbl (wsV RL 49 RX0 yX0_next wsX0_next) := goodIn_app (goodIn_of _ (by decide +kernel)) ggL_law_X0_next
theorem ggL_law_X3_next : GoodIn lw_tbl wsX3_next := fun w h => ⟨tbX3_next w h, good_of_word (gdX3_next w h)⟩
theorem gL_law_X3_next : GoodIn lw_tbl (wsV RL 52 RX3 yX3_next wsX3_next) := goodIn_app (goodIn_of _ (by decide +kernel)) ggL_law_X3_next
theorem ggL_law_X0_print : GoodIn lw_tbl wsX0_print := fun w h => ⟨tbX0_print w h, good_of_word (gdX0_print w h)⟩
theorem gL_law_X0_print : GoodIn lw_tbl (wsV RL 53 RX0 yX0_print wsX0_print) := goodIn_app (goodIn_of _ (by decide +kernel)) ggL_law_X0_print
theorem ggL_law_X3_print : GoodIn lw_tbl wsX3_print := fun w h => ⟨tbX3_print w h, good_of_word (gdX3_print w h)⟩
theorem gL_law_X3_print : GoodIn lw_tbl (wsV RL 56 RX3 yX3_print wsX3_print) := goodIn_app (goodIn_of _ (by decide +kernel)) ggL_law_X3_print
theorem ggL_law_X0_cut : GoodIn lw_tbl wsX0_cut := fun w h => ⟨tbX0_cut w h, good_of_word (gdX0_cut w h)⟩
theorem gL_law_X0_cut : GoodIn lw_tbl (wsV RL 57 RX0 yX0_cut wsX0_cut) := goodIn_app (goodIn_of _ (by decide +kernel)) ggL_law_X0_cut
theorem ggL_law_X3_cut : GoodIn lw_tbl wsX3_cut := fun w h => ⟨tbX3_cut w h, good_of_word (gdX3_cut w h)⟩
theorem gL_law_X3_cut : GoodIn lw_tbl (wsV RL 60 RX3 yX3_cut wsX3_cut) := goodIn_app (goodIn_of _ (by decide +kernel)) ggL_law_X3_cut
theorem ggL_law_X0_purge : GoodIn lw_tbl wsX0_purge := fun w h => ⟨tbX0_purge w h, good_of_word (gdX0_purge w h)⟩
theorem gL_law_X0_purge : GoodIn lw_tbl (wsV RL 61 RX0 yX0_purge wsX0_purge) := goodIn_app (goodIn_of _ (by decide +kernel)) ggL_law_X0_purge
theorem ggL_law_X3_purge : GoodIn lw_tbl wsX3_purge := fun w h => ⟨tbX3_purge w h, good_of_word (gdX3_purge w h)⟩
theorem gL_law_X3_purge : GoodIn lw_tbl (wsV RL 64 RX3 yX3_purge wsX3_purge) := goodIn_app (goodIn_of _ (by decide +kernel)) ggL_law_X3_purge
theorem ggL_law_X0_hold : GoodIn lw_tbl wsX0_hold := fun w h => ⟨tbX0_hold w h, good_of_word (gdX0_hold w h)⟩
theorem gL_law_X0_hold : GoodIn lw_tbl (wsV RL 65 RX0 yX0_hold wsX0_hold) := goodIn_app (goodIn_of _ (by decide +kernel)) ggL_law_X0_hold
theorem ggL_law_X3_hold : GoodIn lw_tbl wsX3_hold := fun w h => ⟨tbX3_hold w h, good_of_word (gdX3_hold w h)⟩
theorem gL_law_X3_hold : GoodIn lw_tbl (wsV RL 69 RX3 yX3_hold wsX3_hold) := goodIn_app (goodIn_of _ (by decide +kernel)) ggL_law_X3_hold
theorem ggL_law_X0_route : GoodIn lw_tbl wsX0_route := fun w h => ⟨tbX0_route w h, good_of_word (gdX0_route w h)⟩
theorem gL_law_X0_route : GoodIn lw_tbl (wsV RL 70 RX0 yX0_route wsX0_route) := goodIn_app (goodIn_of _ (by decide +kernel)) ggL_law_X0_route
theorem ggL_law_X3_route : GoodIn lw_tbl wsX3_route := fun w h => ⟨tbX3_route w h, good_of_word (gdX3_route w h)⟩
theorem gL_law_X3_route : GoodIn lw_tbl (wsV RL 73 RX3 yX3_route wsX3_route) := goodIn_app (goodIn_of _ (by decide +kernel)) ggL_law_X3_route
theorem ggL_law_X0_search : GoodIn lw_tbl wsX0_search := fun w h => ⟨tbX0_search w h, good_of_word (gdX0_search w h)⟩
theorem gL_law_X0_search : GoodIn lw_tbl (wsV RL 74 RX0 yX0_search wsX0_search) := goodIn_app (goodIn_of _ (by decide +kernel)) ggL_law_X0_search
theorem ggL_law_X3_search : GoodIn lw_tbl wsX3_search := fun w h => ⟨tbX3_search w h, good_of_word (gdX3_search w h)⟩
theorem gL_law_X3_search : GoodIn lw_tbl (wsV RL 77 RX3 yX3_search wsX3_search) := goodIn_app (goodIn_of _ (by decide +kernel)) ggL_law_X3_search
theorem ggL_law_X0_order : GoodIn lw_tbl wsX0_order := fun w h => ⟨tbX0_order w h, good_of_word (gdX0_order w h)⟩
theorem gL_law_X0_order : GoodIn lw_tbl (wsV RL 78 RX0 yX0_order wsX0_order) := goodIn_app (goodIn_of _ (by decide +kernel)) ggL_law_X0_order
theorem ggL_law_X3_order : GoodIn lw_tbl wsX3_order := fun w h => ⟨tbX3_order w h, good_of_word (gdX3_order w h)⟩
theorem gL_law_X3_order : GoodIn lw_tbl (wsV RL 81 RX3 yX3_order wsX3_order) := goodIn_app (goodIn_of _ (by decide +kernel)) ggL_law_X3_order
theorem ggL_law_X0_state : GoodIn lw_tbl wsX0_state := fun w h => ⟨tbX0_state w h, good_of_word (gdX0_state w h)⟩
theorem gL_law_X0_state : GoodIn lw_tbl (wsV RL 82 RX0 yX0_state wsX0_state) := goodIn_app (goodIn_of _ (by decide +kernel)) ggL_law_X0_state
theorem ggL_law_X3_state : GoodIn lw_tbl wsX3_state := fun w h => ⟨tbX3_state w h, good_of_word (gdX3_state w h)⟩
theorem gL_law_X3_state : GoodIn lw_tbl (wsV RL 85 RX3 yX3_state wsX3_state) := goodIn_app (goodIn_of _ (by decide +kernel)) ggL_law_X3_state
theorem ggL_law_X0_count : GoodIn lw_tbl wsX0_count := fun w h => ⟨tbX0_count w h, good_of_word (gdX0_count w h)⟩
theorem gL_law_X0_count : GoodIn lw_tbl (wsV RL 86 RX0 yX0_count wsX0_count) := goodIn_app (goodIn_of _ (by decide +kernel)) ggL_law_X0_count
theorem ggL_law_X3_count : GoodIn lw_tbl wsX3_count := fun w h => ⟨tbX3_count w h, good_of_word (gdX3_count w h)⟩
theorem gL_law_X3_count : GoodIn lw_tbl (wsV RL 89 RX3 yX3_count wsX3_count) := goodIn_app (goodIn_of _ (by decide +kernel)) ggL_law_X3_count
/-! THE CLAIM OUT OF ONE WALK OF THE LAW'S BODY. Your part is whole_start (and what it stands on); all else here is the same for every law, but numbers. -/
def R_law : String := "SpoolRowsLaw"
def lw_P (b : Addr) (xs : List Int32) (args : Array Value) (s : State) : Prop := args = #[.ref b] ∧ s.IntsAt b xs ∧ xs.length ≤ 2049 ∧ (Jvm.Cond.and given_1 narrow_1).before args s = true
def lw_Q (_ : Array Value) (s : State) (o : Outcome) (t : State) : Prop := o = .returned (some (.int 1)) ∧ Framed s o t [] 600000 7302250
def lw_Z (below : List Frame) (a : Array Value) (s : State) : State → Prop := fun t => ∃ o, t.status = .running ∧ Ended t below o ∧ lw_Q a s o t
/-- the law's own end, with 1 on the stack, nothing written that was there before, its room as the claim has it -/
theorem lw_ret {p : Program} {l : Launch} {e : Env} {s : State} {m : MethodId} {below : List Frame} {meth : Method} {c : Code} {b : Nat} (hx : p.tables.exec = Jvm.exec) (hb : c.code = code) (hr : meth.sig.returnType = ret) (hlocks : meth.locks = false) {pc : Nat} {H : Heap} {ls : Array Slot} (hdg : decode code pc = .ok (.ireturn, 1)) : W p l e room_1 s m #[Value.ref b] below meth c H [] 600000 7302250 (lw_Z below #[Value.ref b] s) (F0 m pc ls [.int 1]) := by
  intro T hT X
  obtain ⟨fs, hret, hrun, hended, hW, hframe⟩ := X.leave (v := some (.int 1)) (hlocks := hlocks) (fun h => by rw [hr] at h; cases h)
  have hmeth' : T.vm.method? m = some meth := X.method'
  refine ⟨T.setFrames fs, ?_, .returned (some (.int 1)), hrun, hended, rfl, ⟨_, rfl⟩, hW, hframe⟩
  jvm_step X.here [X.here.top, hx, hb, hdg, hmeth', hr, ret, narrow_b1]
  (try refine ⟨rfl, ?_⟩); (try refine ⟨rfl, ?_⟩)
  first | (intro acts; rw [hret _ acts rfl rfl rfl]) | rw [hret _ _ rfl rfl rfl]
  exact Steps.refl _
/-- what holds at the law's entry: the machine, the code, the tables' words (any of lw_tbl by 'hts w (by decide +kernel)'), the script of L ints xs at the cell b, what the Statement gives of the start (any of its parts by flat_of_before) -/
def lw_At (p : Program) (s : State) (m : MethodId) (meth : Method) (c : Code) (b L : Nat) (xs : Nat → Int32) : Prop :=
  p.tables.exec = Jvm.exec ∧ c.code = code ∧ meth.sig.returnType = ret ∧ c.maxLocals = 4 ∧ s.vm.findClass R_law = some m.cls ∧ (∀ w ∈ lw_tbl, w.before #[Value.ref b] s = true) ∧ va_X b L xs s s.heap ∧ b < s.heap.size ∧ meth.locks = false ∧ (Jvm.Cond.and given_1 narrow_1).before #[Value.ref b] s = true
end
section
theorem dX1_isGone_0 : decode cX1_isGone 0 = .ok (.aload_n 0, 1) := by decide +kernel
theorem dX1_isGone_1 : decode cX1_isGone 1 = .ok (.getfield 9, 3) := by decide +kernel
theorem dX1_isGone_4 : decode cX1_isGone 4 = .ok (.iconst 4, 1) := by decide +kernel
theorem dX1_isGone_5 : decode cX1_isGone 5 = .ok (.if_icmp .eq 11, 3) := by decide +kernel
theorem dX1_isGone_8 : decode cX1_isGone 8 = .ok (.aload_n 0, 1) := by decide +kernel
theorem dX1_isGone_9 : decode cX1_isGone 9 = .ok (.getfield 9, 3) := by decide +kernel
theorem dX1_isGone_12 : decode cX1_isGone 12 = .ok (.iconst 5, 1) := by decide +kernel
theorem dX1_isGone_13 : decode cX1_isGone 13 = .ok (.if_icmp .ne 7, 3) := by decide +kernel
theorem dX1_isGone_16 : decode cX1_isGone 16 = .ok (.iconst 1, 1) := by decide +kernel
theorem dX1_isGone_17 : decode cX1_isGone 17 = .ok (.goto 4, 3) := by decide +kernel
theorem dX1_isGone_20 : decode cX1_isGone 20 = .ok (.iconst 0, 1) := by decide +kernel
theorem dX1_isGone_21 : decode cX1_isGone 21 = .ok (.ireturn, 1) := by decide +kernel
theorem dX1_init_0 : decode cX1_init 0 = .ok (.aload_n 0, 1) := by decide +kernel
theorem dX1_init_1 : decode cX1_init 1 = .ok (.invokespecial 3, 3) := by decide +kernel
theorem dX1_init_4 : decode cX1_init 4 = .ok (.aload_n 0, 1) := by decide +kernel
theorem dX1_init_5 : decode cX1_init 5 = .ok (.iconst 1, 1) := by decide +kernel
theorem dX1_init_6 : decode cX1_init 6 = .ok (.putfield 9, 3) := by decide +kernel
theorem dX1_init_9 : decode cX1_init 9 = .ok (.aload_n 0, 1) := by decide +kernel
theorem dX1_init_10 : decode cX1_init 10 = .ok (.iload_n 1, 1) := by decide +kernel
theorem dX1_init_11 : decode cX1_init 11 = .ok (.putfield 15, 3) := by decide +kernel
theorem dX1_init_14 : decode cX1_init 14 = .ok (.aload_n 0, 1) := by decide +kernel
theorem dX1_init_15 : decode cX1_init 15 = .ok (.iload_n 2, 1) := by decide +kernel
theorem dX1_init_16 : decode cX1_init 16 = .ok (.putfield 18, 3) := by decide +kernel
theorem dX1_init_19 : decode cX1_init 19 = .ok (.aload_n 0, 1) := by decide +kernel
theorem dX1_init_20 : decode cX1_init 20 = .ok (.iload_n 3, 1) := by decide +kernel
theorem dX1_init_21 : decode cX1_init 21 = .ok (.putfield 21, 3) := by decide +kernel
theorem dX1_init_24 : decode cX1_init 24 = .ok (.aload_n 0, 1) := by decide +kernel
theorem dX1_init_25 : decode cX1_init 25 = .ok (.iload 4, 2) := by decide +kernel
theorem dX1_init_27 : decode cX1_init 27 = .ok (.putfield 24, 3) := by decide +kernel
theorem dX1_init_30 : decode cX1_init 30 = .ok (.return_, 1) := by decide +kernel
theorem dX1_isAtLimit_0 : decode cX1_isAtLimit 0 = .ok (.aload_n 0, 1) := by decide +kernel
theorem dX1_isAtLimit_1 : decode cX1_isAtLimit 1 = .ok (.getfield 33, 3) := by decide +kernel
theorem dX1_isAtLimit_4 : decode cX1_isAtLimit 4 = .ok (.ifCond .le 18, 3) := by decide +kernel
theorem dX1_isAtLimit_7 : decode cX1_isAtLimit 7 = .ok (.aload_n 0, 1) := by decide +kernel
theorem dX1_isAtLimit_8 : decode cX1_isAtLimit 8 = .ok (.getfield 43, 3) := by decide +kernel
theorem dX1_isAtLimit_11 : decode cX1_isAtLimit 11 = .ok (.aload_n 0, 1) := by decide +kernel
theorem dX1_isAtLimit_12 : decode cX1_isAtLimit 12 = .ok (.getfield 33, 3) := by decide +kernel
theorem dX1_isAtLimit_15 : decode cX1_isAtLimit 15 = .ok (.if_icmp .lt 7, 3) := by decide +kernel
theorem dX1_isAtLimit_18 : decode cX1_isAtLimit 18 = .ok (.iconst 1, 1) := by decide +kernel
theorem dX1_isAtLimit_19 : decode cX1_isAtLimit 19 = .ok (.goto 4, 3) := by decide +kernel
theorem dX1_isAtLimit_22 : decode cX1_isAtLimit 22 = .ok (.iconst 0, 1) := by decide +kernel
theorem dX1_isAtLimit_23 : decode cX1_isAtLimit 23 = .ok (.ireturn, 1) := by decide +kernel
theorem dX1_needsPage_0 : decode cX1_needsPage 0 = .ok (.aload_n 0, 1) := by decide +kernel
theorem dX1_needsPage_1 : decode cX1_needsPage 1 = .ok (.getfield 43, 3) := by decide +kernel
theorem dX1_needsPage_4 : decode cX1_needsPage 4 = .ok (.bipush 8, 2) := by decide +kernel
theorem dX1_needsPage_6 : decode cX1_needsPage 6 = .ok (.irem, 1) := by decide +kernel
theorem dX1_needsPage_7 : decode cX1_needsPage 7 = .ok (.ifCond .ne 7, 3) := by decide +kernel
theorem dX1_needsPage_10 : decode cX1_needsPage 10 = .ok (.iconst 1, 1) := by decide +kernel
theorem dX1_needsPage_11 : decode cX1_needsPage 11 = .ok (.goto 4, 3) := by decide +kernel
theorem dX1_needsPage_14 : decode cX1_needsPage 14 = .ok (.iconst 0, 1) := by decide +kernel
theorem dX1_needsPage_15 : decode cX1_needsPage 15 = .ok (.ireturn, 1) := by decide +kernel
theorem dX1_pageCount_0 : decode cX1_pageCount 0 = .ok (.aload_n 0, 1) := by decide +kernel
theorem dX1_pageCount_1 : decode cX1_pageCount 1 = .ok (.getfield 43, 3) := by decide +kernel
theorem dX1_pageCount_4 : decode cX1_pageCount 4 = .ok (.bipush 8, 2) := by decide +kernel
theorem dX1_pageCount_6 : decode cX1_pageCount 6 = .ok (.iadd, 1) := by decide +kernel
theorem dX1_pageCount_7 : decode cX1_pageCount 7 = .ok (.iconst 1, 1) := by decide +kernel
theorem dX1_pageCount_8 : decode cX1_pageCount 8 = .ok (.isub, 1) := by decide +kernel
theorem dX1_pageCount_9 : decode cX1_pageCount 9 = .ok (.bipush 8, 2) := by decide +kernel
theorem dX1_pageCount_11 : decode cX1_pageCount 11 = .ok (.idiv, 1) := by decide +kernel
theorem dX1_pageCount_12 : decode cX1_pageCount 12 = .ok (.ireturn, 1) := by decide +kernel
theorem dX1_takeSettingsOf_0 : decode cX1_takeSettingsOf 0 = .ok (.aload_n 0, 1) := by decide +kernel
theorem dX1_takeSettingsOf_1 : decode cX1_takeSettingsOf 1 = .ok (.aload_n 1, 1) := by decide +kernel
theorem dX1_takeSettingsOf_2 : decode cX1_takeSettingsOf 2 = .ok (.getfield 27, 3) := by decide +kernel
theorem dX1_takeSettingsOf_5 : decode cX1_takeSettingsOf 5 = .ok (.putfield 27, 3) := by decide +kernel
theorem dX1_takeSettingsOf_8 : decode cX1_takeSettingsOf 8 = .ok (.aload_n 0, 1) := by decide +kernel
theorem dX1_takeSettingsOf_9 : decode cX1_takeSettingsOf 9 = .ok (.aload_n 1, 1) := by decide +kernel
theorem dX1_takeSettingsOf_10 : decode cX1_takeSettingsOf 10 = .ok (.getfield 30, 3) := by decide +kernel
theorem dX1_takeSettingsOf_13 : decode cX1_takeSettingsOf 13 = .ok (.putfield 30, 3) := by decide +kernel
theorem dX1_takeSettingsOf_16 : decode cX1_takeSettingsOf 16 = .ok (.aload_n 0, 1) := by decide +kernel
theorem dX1_takeSettingsOf_17 : decode cX1_takeSettingsOf 17 = .ok (.aload_n 1, 1) := by decide +kernel
theorem dX1_takeSettingsOf_18 : decode cX1_takeSettingsOf 18 = .ok (.getfield 33, 3) := by decide +kernel
theorem dX1_takeSettingsOf_21 : decode cX1_takeSettingsOf 21 = .ok (.putfield 33, 3) := by decide +kernel
theorem dX1_takeSettingsOf_24 : decode cX1_takeSettingsOf 24 = .ok (.aload_n 0, 1) := by decide +kernel
theorem dX1_takeSettingsOf_25 : decode cX1_takeSettingsOf 25 = .ok (.aload_n 1, 1) := by decide +kernel
theorem dX1_takeSettingsOf_26 : decode cX1_takeSettingsOf 26 = .ok (.getfield 36, 3) := by decide +kernel
theorem dX1_takeSettingsOf_29 : decode cX1_takeSettingsOf 29 = .ok (.putfield 36, 3) := by decide +kernel
theorem dX1_takeSettingsOf_32 : decode cX1_takeSettingsOf 32 = .ok (.aload_n 0, 1) := by decide +kernel
theorem dX1_takeSettingsOf_33 : decode cX1_takeSettingsOf 33 = .ok (.aload_n 1, 1) := by decide +kernel
theorem dX1_takeSettingsOf_34 : decode cX1_takeSettingsOf 34 = .ok (.getfield 40, 3) := by decide +kernel
theorem dX1_takeSettingsOf_37 : decode cX1_takeSettingsOf 37 = .ok (.putfield 40, 3) := by decide +kernel
theorem dX1_takeSettingsOf_40 : decode cX1_takeSettingsOf 40 = .ok (.return_, 1) := by decide +kernel
theorem dX2_init_0 : decode cX2_init 0 = .ok (.aload_n 0, 1) := by decide +kernel
theorem dX2_init_1 : decode cX2_init 1 = .ok (.invokespecial 3, 3) := by decide +kernel
theorem dX2_init_4 : decode cX2_init 4 = .ok (.aload_n 0, 1) := by decide +kernel
theorem dX2_init_5 : decode cX2_init 5 = .ok (.iload_n 1, 1) := by decide +kernel
theorem dX2_init_6 : decode cX2_init 6 = .ok (.putfield 9, 3) := by decide +kernel
theorem dX2_init_9 : decode cX2_init 9 = .ok (.aload_n 0, 1) := by decide +kernel
theorem dX2_init_10 : decode cX2_init 10 = .ok (.iload_n 2, 1) := by decide +kernel
theorem dX2_init_11 : decode cX2_init 11 = .ok (.putfield 15, 3) := by decide +kernel
theorem dX2_init_14 : decode cX2_init 14 = .ok (.return_, 1) := by decide +kernel
theorem dX1_mayBePrinted_0 : decode cX1_mayBePrinted 0 = .ok (.aload_n 0, 1) := by decide +kernel
theorem dX1_mayBePrinted_1 : decode cX1_mayBePrinted 1 = .ok (.getfield 9, 3) := by decide +kernel
theorem dX1_mayBePrinted_4 : decode cX1_mayBePrinted 4 = .ok (.iconst 2, 1) := by decide +kernel
theorem dX1_mayBePrinted_5 : decode cX1_mayBePrinted 5 = .ok (.if_icmp .ne 21, 3) := by decide +kernel
theorem dX1_mayBePrinted_8 : decode cX1_mayBePrinted 8 = .ok (.aload_n 0, 1) := by decide +kernel
theorem dX1_mayBePrinted_9 : decode cX1_mayBePrinted 9 = .ok (.getfield 40, 3) := by decide +kernel
theorem dX1_mayBePrinted_12 : decode cX1_mayBePrinted 12 = .ok (.ifCond .ne 14, 3) := by decide +kernel
theorem dX1_mayBePrinted_15 : decode cX1_mayBePrinted 15 = .ok (.aload_n 0, 1) := by decide +kernel
theorem dX1_mayBePrinted_16 : decode cX1_mayBePrinted 16 = .ok (.getfield 43, 3) := by decide +kernel
theorem dX1_mayBePrinted_19 : decode cX1_mayBePrinted 19 = .ok (.ifCond .le 7, 3) := by decide +kernel
theorem dX1_mayBePrinted_22 : decode cX1_mayBePrinted 22 = .ok (.iconst 1, 1) := by decide +kernel
theorem dX1_mayBePrinted_23 : decode cX1_mayBePrinted 23 = .ok (.goto 4, 3) := by decide +kernel
theorem dX1_mayBePrinted_26 : decode cX1_mayBePrinted 26 = .ok (.iconst 0, 1) := by decide +kernel
theorem dX1_mayBePrinted_27 : decode cX1_mayBePrinted 27 = .ok (.ireturn, 1) := by decide +kernel
theorem dX2_suits_0 : decode cX2_suits 0 = .ok (.aload_n 0, 1) := by decide +kernel
theorem dX2_suits_1 : decode cX2_suits 1 = .ok (.getfield 9, 3) := by decide +kernel
theorem dX2_suits_4 : decode cX2_suits 4 = .ok (.bipush 8, 2) := by decide +kernel
theorem dX2_suits_6 : decode cX2_suits 6 = .ok (.if_icmp .eq 14, 3) := by decide +kernel
theorem dX2_suits_9 : decode cX2_suits 9 = .ok (.aload_n 0, 1) := by decide +kernel
theorem dX2_suits_10 : decode cX2_suits 10 = .ok (.getfield 9, 3) := by decide +kernel
theorem dX2_suits_13 : decode cX2_suits 13 = .ok (.aload_n 1, 1) := by decide +kernel
theorem dX2_suits_14 : decode cX2_suits 14 = .ok (.getfield 18, 3) := by decide +kernel
theorem dX2_suits_17 : decode cX2_suits 17 = .ok (.if_icmp .ne 26, 3) := by decide +kernel
theorem dX2_suits_20 : decode cX2_suits 20 = .ok (.aload_n 0, 1) := by decide +kernel
theorem dX2_suits_21 : decode cX2_suits 21 = .ok (.getfield 15, 3) := by decide +kernel
theorem dX2_suits_24 : decode cX2_suits 24 = .ok (.iconst (-1), 1) := by decide +kernel
theorem dX2_suits_25 : decode cX2_suits 25 = .ok (.if_icmp .eq 14, 3) := by decide +kernel
theorem dX2_suits_28 : decode cX2_suits 28 = .ok (.aload_n 0, 1) := by decide +kernel
theorem dX2_suits_29 : decode cX2_suits 29 = .ok (.getfield 15, 3) := by decide +kernel
theorem dX2_suits_32 : decode cX2_suits 32 = .ok (.aload_n 1, 1) := by decide +kernel
theorem dX2_suits_33 : decode cX2_suits 33 = .ok (.getfield 21, 3) := by decide +kernel
theorem dX2_suits_36 : decode cX2_suits 36 = .ok (.if_icmp .ne 7, 3) := by decide +kernel
theorem dX2_suits_39 : decode cX2_suits 39 = .ok (.iconst 1, 1) := by decide +kernel
theorem dX2_suits_40 : decode cX2_suits 40 = .ok (.goto 4, 3) := by decide +kernel
theorem dX2_suits_43 : decode cX2_suits 43 = .ok (.iconst 0, 1) := by decide +kernel
theorem dX2_suits_44 : decode cX2_suits 44 = .ok (.ireturn, 1) := by decide +kernel
theorem dX1_comesBefore_0 : decode cX1_comesBefore 0 = .ok (.aload_n 0, 1) := by decide +kernel
theorem dX1_comesBefore_1 : decode cX1_comesBefore 1 = .ok (.getfield 30, 3) := by decide +kernel
theorem dX1_comesBefore_4 : decode cX1_comesBefore 4 = .ok (.aload_n 1, 1) := by decide +kernel
theorem dX1_comesBefore_5 : decode cX1_comesBefore 5 = .ok (.getfield 30, 3) := by decide +kernel
theorem dX1_comesBefore_8 : decode cX1_comesBefore 8 = .ok (.if_icmp .eq 20, 3) := by decide +kernel
theorem dX1_comesBefore_11 : decode cX1_comesBefore 11 = .ok (.aload_n 0, 1) := by decide +kernel
theorem dX1_comesBefore_12 : decode cX1_comesBefore 12 = .ok (.getfield 30, 3) := by decide +kernel
theorem dX1_comesBefore_15 : decode cX1_comesBefore 15 = .ok (.aload_n 1, 1) := by decide +kernel
theorem dX1_comesBefore_16 : decode cX1_comesBefore 16 = .ok (.getfield 30, 3) := by decide +kernel
theorem dX1_comesBefore_19 : decode cX1_comesBefore 19 = .ok (.if_icmp .le 7, 3) := by decide +kernel
theorem dX1_comesBefore_22 : decode cX1_comesBefore 22 = .ok (.iconst 1, 1) := by decide +kernel
theorem dX1_comesBefore_23 : decode cX1_comesBefore 23 = .ok (.goto 4, 3) := by decide +kernel
theorem dX1_comesBefore_26 : decode cX1_comesBefore 26 = .ok (.iconst 0, 1) := by decide +kernel
theorem dX1_comesBefore_27 : decode cX1_comesBefore 27 = .ok (.ireturn, 1) := by decide +kernel
theorem dX1_comesBefore_28 : decode cX1_comesBefore 28 = .ok (.aload_n 0, 1) := by decide +kernel
theorem dX1_comesBefore_29 : decode cX1_comesBefore 29 = .ok (.getfield 18, 3) := by decide +kernel
theorem dX1_comesBefore_32 : decode cX1_comesBefore 32 = .ok (.aload_n 1, 1) := by decide +kernel
theorem dX1_comesBefore_33 : decode cX1_comesBefore 33 = .ok (.getfield 18, 3) := by decide +kernel
theorem dX1_comesBefore_36 : decode cX1_comesBefore 36 = .ok (.if_icmp .eq 20, 3) := by decide +kernel
theorem dX1_comesBefore_39 : decode cX1_comesBefore 39 = .ok (.aload_n 0, 1) := by decide +kernel
theorem dX1_comesBefore_40 : decode cX1_comesBefore 40 = .ok (.getfield 18, 3) := by decide +kernel
theorem dX1_comesBefore_43 : decode cX1_comesBefore 43 = .ok (.aload_n 1, 1) := by decide +kernel
theorem dX1_comesBefore_44 : decode cX1_comesBefore 44 = .ok (.getfield 18, 3) := by decide +kernel
theorem dX1_comesBefore_47 : decode cX1_comesBefore 47 = .ok (.if_icmp .ge 7, 3) := by decide +kernel
theorem dX1_comesBefore_50 : decode cX1_comesBefore 50 = .ok (.iconst 1, 1) := by decide +kernel
theorem dX1_comesBefore_51 : decode cX1_comesBefore 51 = .ok (.goto 4, 3) := by decide +kernel
theorem dX1_comesBefore_54 : decode cX1_comesBefore 54 = .ok (.iconst 0, 1) := by decide +kernel
theorem dX1_comesBefore_55 : decode cX1_comesBefore 55 = .ok (.ireturn, 1) := by decide +kernel
theorem dX1_comesBefore_56 : decode cX1_comesBefore 56 = .ok (.aload_n 0, 1) := by decide +kernel
theorem dX1_comesBefore_57 : decode cX1_comesBefore 57 = .ok (.getfield 15, 3) := by decide +kernel
theorem dX1_comesBefore_60 : decode cX1_comesBefore 60 = .ok (.aload_n 1, 1) := by decide +kernel
theorem dX1_comesBefore_61 : decode cX1_comesBefore 61 = .ok (.getfield 15, 3) := by decide +kernel
theorem dX1_comesBefore_64 : decode cX1_comesBefore 64 = .ok (.if_icmp .ge 7, 3) := by decide +kernel
theorem dX1_comesBefore_67 : decode cX1_comesBefore 67 = .ok (.iconst 1, 1) := by decide +kernel
theorem dX1_comesBefore_68 : decode cX1_comesBefore 68 = .ok (.goto 4, 3) := by decide +kernel
theorem dX1_comesBefore_71 : decode cX1_comesBefore 71 = .ok (.iconst 0, 1) := by decide +kernel
theorem dX1_comesBefore_72 : decode cX1_comesBefore 72 = .ok (.ireturn, 1) := by decide +kernel
theorem dX1_pagesToPrint_0 : decode cX1_pagesToPrint 0 = .ok (.aload_n 0, 1) := by decide +kernel
theorem dX1_pagesToPrint_1 : decode cX1_pagesToPrint 1 = .ok (.invokevirtual 46, 3) := by decide +kernel
theorem dX1_pagesToPrint_4 : decode cX1_pagesToPrint 4 = .ok (.aload_n 0, 1) := by decide +kernel
theorem dX1_pagesToPrint_5 : decode cX1_pagesToPrint 5 = .ok (.getfield 24, 3) := by decide +kernel
theorem dX1_pagesToPrint_8 : decode cX1_pagesToPrint 8 = .ok (.imul, 1) := by decide +kernel
theorem dX1_pagesToPrint_9 : decode cX1_pagesToPrint 9 = .ok (.aload_n 0, 1) := by decide +kernel
theorem dX1_pagesToPrint_10 : decode cX1_pagesToPrint 10 = .ok (.getfield 50, 3) := by decide +kernel
theorem dX1_pagesToPrint_13 : decode cX1_pagesToPrint 13 = .ok (.isub, 1) := by decide +kernel
theorem dX1_pagesToPrint_14 : decode cX1_pagesToPrint 14 = .ok (.ireturn, 1) := by decide +kernel
theorem dX1_lastCheckpoint_0 : decode cX1_lastCheckpoint 0 = .ok (.aload_n 0, 1) := by decide +kernel
theorem dX1_lastCheckpoint_1 : decode cX1_lastCheckpoint 1 = .ok (.getfield 50, 3) := by decide +kernel
theorem dX1_lastCheckpoint_4 : decode cX1_lastCheckpoint 4 = .ok (.aload_n 0, 1) := by decide +kernel
theorem dX1_lastCheckpoint_5 : decode cX1_lastCheckpoint 5 = .ok (.getfield 50, 3) := by decide +kernel
theorem dX1_lastCheckpoint_8 : decode cX1_lastCheckpoint 8 = .ok (.iconst 4, 1) := by decide +kernel
theorem dX1_lastCheckpoint_9 : decode cX1_lastCheckpoint 9 = .ok (.irem, 1) := by decide +kernel
theorem dX1_lastCheckpoint_10 : decode cX1_lastCheckpoint 10 = .ok (.isub, 1) := by decide +kernel
theorem dX1_lastCheckpoint_11 : decode cX1_lastCheckpoint 11 = .ok (.ireturn, 1) := by decide +kernel
theorem dX1_isOpenOrReleased_0 : decode cX1_isOpenOrReleased 0 = .ok (.aload_n 0, 1) := by decide +kernel
theorem dX1_isOpenOrReleased_1 : decode cX1_isOpenOrReleased 1 = .ok (.getfield 9, 3) := by decide +kernel
theorem dX1_isOpenOrReleased_4 : decode cX1_isOpenOrReleased 4 = .ok (.iconst 1, 1) := by decide +kernel
theorem dX1_isOpenOrReleased_5 : decode cX1_isOpenOrReleased 5 = .ok (.if_icmp .eq 11, 3) := by decide +kernel
theorem dX1_isOpenOrReleased_8 : decode cX1_isOpenOrReleased 8 = .ok (.aload_n 0, 1) := by decide +kernel
theorem dX1_isOpenOrReleased_9 : decode cX1_isOpenOrReleased 9 = .ok (.getfield 9, 3) := by decide +kernel
theorem dX1_isOpenOrReleased_12 : decode cX1_isOpenOrReleased 12 = .ok (.iconst 2, 1) := by decide +kernel
theorem dX1_isOpenOrReleased_13 : decode cX1_isOpenOrReleased 13 = .ok (.if_icmp .ne 7, 3) := by decide +kernel
theorem dX1_isOpenOrReleased_16 : decode cX1_isOpenOrReleased 16 = .ok (.iconst 1, 1) := by decide +kernel
theorem dX1_isOpenOrReleased_17 : decode cX1_isOpenOrReleased 17 = .ok (.goto 4, 3) := by decide +kernel
theorem dX1_isOpenOrReleased_20 : decode cX1_isOpenOrReleased 20 = .ok (.iconst 0, 1) := by decide +kernel
theorem dX1_isOpenOrReleased_21 : decode cX1_isOpenOrReleased 21 = .ok (.ireturn, 1) := by decide +kernel
theorem dX1_copiesLeft_0 : decode cX1_copiesLeft 0 = .ok (.aload_n 0, 1) := by decide +kernel
theorem dX1_copiesLeft_1 : decode cX1_copiesLeft 1 = .ok (.invokevirtual 46, 3) := by decide +kernel
theorem dX1_copiesLeft_4 : decode cX1_copiesLeft 4 = .ok (.istore_n 1, 1) := by decide +kernel
theorem dX1_copiesLeft_5 : decode cX1_copiesLeft 5 = .ok (.iload_n 1, 1) := by decide +kernel
theorem dX1_copiesLeft_6 : decode cX1_copiesLeft 6 = .ok (.ifCond .ne 10, 3) := by decide +kernel
theorem dX1_copiesLeft_9 : decode cX1_copiesLeft 9 = .ok (.aload_n 0, 1) := by decide +kernel
theorem dX1_copiesLeft_10 : decode cX1_copiesLeft 10 = .ok (.getfield 24, 3) := by decide +kernel
theorem dX1_copiesLeft_13 : decode cX1_copiesLeft 13 = .ok (.goto 14, 3) := by decide +kernel
theorem dX1_copiesLeft_16 : decode cX1_copiesLeft 16 = .ok (.aload_n 0, 1) := by decide +kernel
theorem dX1_copiesLeft_17 : decode cX1_copiesLeft 17 = .ok (.getfield 24, 3) := by decide +kernel
theorem dX1_copiesLeft_20 : decode cX1_copiesLeft 20 = .ok (.aload_n 0, 1) := by decide +kernel
theorem dX1_copiesLeft_21 : decode cX1_copiesLeft 21 = .ok (.getfield 50, 3) := by decide +kernel
theorem dX1_copiesLeft_24 : decode cX1_copiesLeft 24 = .ok (.iload_n 1, 1) := by decide +kernel
theorem dX1_copiesLeft_25 : decode cX1_copiesLeft 25 = .ok (.idiv, 1) := by decide +kernel
theorem dX1_copiesLeft_26 : decode cX1_copiesLeft 26 = .ok (.isub, 1) := by decide +kernel
theorem dX1_copiesLeft_27 : decode cX1_copiesLeft 27 = .ok (.ireturn, 1) := by decide +kernel
end
section
theorem dX0_init_0 : decode cX0_init 0 = .ok (.aload_n 0, 1) := by decide +kernel
theorem dX0_init_1 : decode cX0_init 1 = .ok (.invokespecial 1, 3) := by decide +kernel
theorem dX0_init_4 : decode cX0_init 4 = .ok (.aload_n 0, 1) := by decide +kernel
theorem dX0_init_5 : decode cX0_init 5 = .ok (.sipush 1000, 3) := by decide +kernel
theorem dX0_init_8 : decode cX0_init 8 = .ok (.anewarray 9, 3) := by decide +kernel
theorem dX0_init_11 : decode cX0_init 11 = .ok (.putfield 11, 3) := by decide +kernel
theorem dX0_init_14 : decode cX0_init 14 = .ok (.aload_n 0, 1) := by decide +kernel
theorem dX0_init_15 : decode cX0_init 15 = .ok (.bipush 9, 2) := by decide +kernel
theorem dX0_init_17 : decode cX0_init 17 = .ok (.anewarray 15, 3) := by decide +kernel
theorem dX0_init_20 : decode cX0_init 20 = .ok (.putfield 17, 3) := by decide +kernel
theorem dX0_init_23 : decode cX0_init 23 = .ok (.aload_n 0, 1) := by decide +kernel
theorem dX0_init_24 : decode cX0_init 24 = .ok (.sipush 1000, 3) := by decide +kernel
theorem dX0_init_27 : decode cX0_init 27 = .ok (.newarray .int, 2) := by decide +kernel
theorem dX0_init_29 : decode cX0_init 29 = .ok (.putfield 21, 3) := by decide +kernel
theorem dX0_init_32 : decode cX0_init 32 = .ok (.aload_n 0, 1) := by decide +kernel
theorem dX0_init_33 : decode cX0_init 33 = .ok (.sipush 512, 3) := by decide +kernel
theorem dX0_init_36 : decode cX0_init 36 = .ok (.newarray .int, 2) := by decide +kernel
theorem dX0_init_38 : decode cX0_init 38 = .ok (.putfield 25, 3) := by decide +kernel
theorem dX0_init_41 : decode cX0_init 41 = .ok (.aload_n 0, 1) := by decide +kernel
theorem dX0_init_42 : decode cX0_init 42 = .ok (.sipush 512, 3) := by decide +kernel
theorem dX0_init_45 : decode cX0_init 45 = .ok (.newarray .int, 2) := by decide +kernel
theorem dX0_init_47 : decode cX0_init 47 = .ok (.putfield 28, 3) := by decide +kernel
theorem dX0_init_50 : decode cX0_init 50 = .ok (.iconst 0, 1) := by decide +kernel
theorem dX0_init_51 : decode cX0_init 51 = .ok (.iload_n 1, 1) := by decide +kernel
theorem dX0_init_52 : decode cX0_init 52 = .ok (.ldc 31, 2) := by decide +kernel
theorem dX0_init_54 : decode cX0_init 54 = .ok (.invokestatic 32, 3) := by decide +kernel
theorem dX0_init_57 : decode cX0_init 57 = .ok (.invokestatic 38, 3) := by decide +kernel
theorem dX0_init_60 : decode cX0_init 60 = .ok (.istore_n 2, 1) := by decide +kernel
theorem dX0_init_61 : decode cX0_init 61 = .ok (.aload_n 0, 1) := by decide +kernel
theorem dX0_init_62 : decode cX0_init 62 = .ok (.iload_n 2, 1) := by decide +kernel
theorem dX0_init_63 : decode cX0_init 63 = .ok (.putfield 41, 3) := by decide +kernel
theorem dX0_init_66 : decode cX0_init 66 = .ok (.aload_n 0, 1) := by decide +kernel
theorem dX0_init_67 : decode cX0_init 67 = .ok (.iload_n 2, 1) := by decide +kernel
theorem dX0_init_68 : decode cX0_init 68 = .ok (.bipush 8, 2) := by decide +kernel
theorem dX0_init_70 : decode cX0_init 70 = .ok (.idiv, 1) := by decide +kernel
theorem dX0_init_71 : decode cX0_init 71 = .ok (.putfield 45, 3) := by decide +kernel
theorem dX0_init_74 : decode cX0_init 74 = .ok (.return_, 1) := by decide +kernel
theorem dX0_isWithin_0 : decode cX0_isWithin 0 = .ok (.iload_n 0, 1) := by decide +kernel
theorem dX0_isWithin_1 : decode cX0_isWithin 1 = .ok (.iload_n 1, 1) := by decide +kernel
theorem dX0_isWithin_2 : decode cX0_isWithin 2 = .ok (.if_icmp .lt 12, 3) := by decide +kernel
theorem dX0_isWithin_5 : decode cX0_isWithin 5 = .ok (.iload_n 0, 1) := by decide +kernel
theorem dX0_isWithin_6 : decode cX0_isWithin 6 = .ok (.iload_n 2, 1) := by decide +kernel
theorem dX0_isWithin_7 : decode cX0_isWithin 7 = .ok (.if_icmp .gt 7, 3) := by decide +kernel
theorem dX0_isWithin_10 : decode cX0_isWithin 10 = .ok (.iconst 1, 1) := by decide +kernel
theorem dX0_isWithin_11 : decode cX0_isWithin 11 = .ok (.goto 4, 3) := by decide +kernel
theorem dX0_isWithin_14 : decode cX0_isWithin 14 = .ok (.iconst 0, 1) := by decide +kernel
theorem dX0_isWithin_15 : decode cX0_isWithin 15 = .ok (.ireturn, 1) := by decide +kernel
theorem dX0_hasOutputThere_0 : decode cX0_hasOutputThere 0 = .ok (.iconst 0, 1) := by decide +kernel
theorem dX0_hasOutputThere_1 : decode cX0_hasOutputThere 1 = .ok (.istore_n 2, 1) := by decide +kernel
theorem dX0_hasOutputThere_2 : decode cX0_hasOutputThere 2 = .ok (.iload_n 2, 1) := by decide +kernel
theorem dX0_hasOutputThere_3 : decode cX0_hasOutputThere 3 = .ok (.aload_n 0, 1) := by decide +kernel
theorem dX0_hasOutputThere_4 : decode cX0_hasOutputThere 4 = .ok (.getfield 52, 3) := by decide +kernel
theorem dX0_hasOutputThere_7 : decode cX0_hasOutputThere 7 = .ok (.if_icmp .ge 36, 3) := by decide +kernel
theorem dX0_hasOutputThere_10 : decode cX0_hasOutputThere 10 = .ok (.aload_n 0, 1) := by decide +kernel
theorem dX0_hasOutputThere_11 : decode cX0_hasOutputThere 11 = .ok (.getfield 11, 3) := by decide +kernel
theorem dX0_hasOutputThere_14 : decode cX0_hasOutputThere 14 = .ok (.iload_n 2, 1) := by decide +kernel
theorem dX0_hasOutputThere_15 : decode cX0_hasOutputThere 15 = .ok (.aaload, 1) := by decide +kernel
theorem dX0_hasOutputThere_16 : decode cX0_hasOutputThere 16 = .ok (.getfield 96, 3) := by decide +kernel
theorem dX0_hasOutputThere_19 : decode cX0_hasOutputThere 19 = .ok (.iload_n 1, 1) := by decide +kernel
theorem dX0_hasOutputThere_20 : decode cX0_hasOutputThere 20 = .ok (.if_icmp .ne 17, 3) := by decide +kernel
theorem dX0_hasOutputThere_23 : decode cX0_hasOutputThere 23 = .ok (.aload_n 0, 1) := by decide +kernel
theorem dX0_hasOutputThere_24 : decode cX0_hasOutputThere 24 = .ok (.getfield 11, 3) := by decide +kernel
theorem dX0_hasOutputThere_27 : decode cX0_hasOutputThere 27 = .ok (.iload_n 2, 1) := by decide +kernel
theorem dX0_hasOutputThere_28 : decode cX0_hasOutputThere 28 = .ok (.aaload, 1) := by decide +kernel
theorem dX0_hasOutputThere_29 : decode cX0_hasOutputThere 29 = .ok (.invokevirtual 90, 3) := by decide +kernel
theorem dX0_hasOutputThere_32 : decode cX0_hasOutputThere 32 = .ok (.ifCond .ne 5, 3) := by decide +kernel
theorem dX0_hasOutputThere_35 : decode cX0_hasOutputThere 35 = .ok (.iconst 1, 1) := by decide +kernel
theorem dX0_hasOutputThere_36 : decode cX0_hasOutputThere 36 = .ok (.ireturn, 1) := by decide +kernel
theorem dX0_hasOutputThere_37 : decode cX0_hasOutputThere 37 = .ok (.iinc 2 1, 3) := by decide +kernel
theorem dX0_hasOutputThere_40 : decode cX0_hasOutputThere 40 = .ok (.goto (-38), 3) := by decide +kernel
theorem dX0_hasOutputThere_43 : decode cX0_hasOutputThere 43 = .ok (.iconst 0, 1) := by decide +kernel
theorem dX0_hasOutputThere_44 : decode cX0_hasOutputThere 44 = .ok (.ireturn, 1) := by decide +kernel
theorem dX0_addOutput_0 : decode cX0_addOutput 0 = .ok (.new 9, 3) := by decide +kernel
theorem dX0_addOutput_3 : decode cX0_addOutput 3 = .ok (.dup, 1) := by decide +kernel
theorem dX0_addOutput_4 : decode cX0_addOutput 4 = .ok (.aload_n 0, 1) := by decide +kernel
theorem dX0_addOutput_5 : decode cX0_addOutput 5 = .ok (.getfield 52, 3) := by decide +kernel
theorem dX0_addOutput_8 : decode cX0_addOutput 8 = .ok (.iconst 1, 1) := by decide +kernel
theorem dX0_addOutput_9 : decode cX0_addOutput 9 = .ok (.iadd, 1) := by decide +kernel
theorem dX0_addOutput_10 : decode cX0_addOutput 10 = .ok (.iload_n 1, 1) := by decide +kernel
theorem dX0_addOutput_11 : decode cX0_addOutput 11 = .ok (.iload_n 2, 1) := by decide +kernel
theorem dX0_addOutput_12 : decode cX0_addOutput 12 = .ok (.iload_n 3, 1) := by decide +kernel
theorem dX0_addOutput_13 : decode cX0_addOutput 13 = .ok (.invokespecial 188, 3) := by decide +kernel
theorem dX0_addOutput_16 : decode cX0_addOutput 16 = .ok (.astore 4, 2) := by decide +kernel
theorem dX0_addOutput_18 : decode cX0_addOutput 18 = .ok (.aload_n 0, 1) := by decide +kernel
theorem dX0_addOutput_19 : decode cX0_addOutput 19 = .ok (.getfield 11, 3) := by decide +kernel
theorem dX0_addOutput_22 : decode cX0_addOutput 22 = .ok (.aload_n 0, 1) := by decide +kernel
theorem dX0_addOutput_23 : decode cX0_addOutput 23 = .ok (.getfield 52, 3) := by decide +kernel
theorem dX0_addOutput_26 : decode cX0_addOutput 26 = .ok (.aload 4, 2) := by decide +kernel
theorem dX0_addOutput_28 : decode cX0_addOutput 28 = .ok (.aastore, 1) := by decide +kernel
theorem dX0_addOutput_29 : decode cX0_addOutput 29 = .ok (.aload_n 0, 1) := by decide +kernel
theorem dX0_addOutput_30 : decode cX0_addOutput 30 = .ok (.dup, 1) := by decide +kernel
theorem dX0_addOutput_31 : decode cX0_addOutput 31 = .ok (.getfield 52, 3) := by decide +kernel
theorem dX0_addOutput_34 : decode cX0_addOutput 34 = .ok (.iconst 1, 1) := by decide +kernel
theorem dX0_addOutput_35 : decode cX0_addOutput 35 = .ok (.iadd, 1) := by decide +kernel
theorem dX0_addOutput_36 : decode cX0_addOutput 36 = .ok (.putfield 52, 3) := by decide +kernel
theorem dX0_addOutput_39 : decode cX0_addOutput 39 = .ok (.aload 4, 2) := by decide +kernel
theorem dX0_addOutput_41 : decode cX0_addOutput 41 = .ok (.areturn, 1) := by decide +kernel
theorem dX0_output_0 : decode cX0_output 0 = .ok (.iload_n 1, 1) := by decide +kernel
theorem dX0_output_1 : decode cX0_output 1 = .ok (.iconst 1, 1) := by decide +kernel
theorem dX0_output_2 : decode cX0_output 2 = .ok (.sipush 9999, 3) := by decide +kernel
theorem dX0_output_5 : decode cX0_output 5 = .ok (.invokestatic 48, 3) := by decide +kernel
theorem dX0_output_8 : decode cX0_output 8 = .ok (.ifCond .eq 23, 3) := by decide +kernel
theorem dX0_output_11 : decode cX0_output 11 = .ok (.iload_n 2, 1) := by decide +kernel
theorem dX0_output_12 : decode cX0_output 12 = .ok (.iconst 0, 1) := by decide +kernel
theorem dX0_output_13 : decode cX0_output 13 = .ok (.bipush 7, 2) := by decide +kernel
theorem dX0_output_15 : decode cX0_output 15 = .ok (.invokestatic 48, 3) := by decide +kernel
theorem dX0_output_18 : decode cX0_output 18 = .ok (.ifCond .eq 13, 3) := by decide +kernel
theorem dX0_output_21 : decode cX0_output 21 = .ok (.iload_n 3, 1) := by decide +kernel
theorem dX0_output_22 : decode cX0_output 22 = .ok (.iconst 1, 1) := by decide +kernel
theorem dX0_output_23 : decode cX0_output 23 = .ok (.bipush 9, 2) := by decide +kernel
theorem dX0_output_25 : decode cX0_output 25 = .ok (.invokestatic 48, 3) := by decide +kernel
theorem dX0_output_28 : decode cX0_output 28 = .ok (.ifCond .ne 5, 3) := by decide +kernel
theorem dX0_output_31 : decode cX0_output 31 = .ok (.iconst (-1), 1) := by decide +kernel
theorem dX0_output_32 : decode cX0_output 32 = .ok (.ireturn, 1) := by decide +kernel
theorem dX0_output_33 : decode cX0_output 33 = .ok (.aload_n 0, 1) := by decide +kernel
theorem dX0_output_34 : decode cX0_output 34 = .ok (.getfield 52, 3) := by decide +kernel
theorem dX0_output_37 : decode cX0_output 37 = .ok (.sipush 1000, 3) := by decide +kernel
theorem dX0_output_40 : decode cX0_output 40 = .ok (.if_icmp .ge 22, 3) := by decide +kernel
theorem dX0_output_43 : decode cX0_output 43 = .ok (.aload_n 0, 1) := by decide +kernel
theorem dX0_output_44 : decode cX0_output 44 = .ok (.getfield 41, 3) := by decide +kernel
theorem dX0_output_47 : decode cX0_output 47 = .ok (.aload_n 0, 1) := by decide +kernel
theorem dX0_output_48 : decode cX0_output 48 = .ok (.getfield 45, 3) := by decide +kernel
theorem dX0_output_51 : decode cX0_output 51 = .ok (.if_icmp .gt 13, 3) := by decide +kernel
theorem dX0_output_54 : decode cX0_output 54 = .ok (.aload_n 0, 1) := by decide +kernel
theorem dX0_output_55 : decode cX0_output 55 = .ok (.iload_n 1, 1) := by decide +kernel
theorem dX0_output_56 : decode cX0_output 56 = .ok (.invokevirtual 55, 3) := by decide +kernel
theorem dX0_output_59 : decode cX0_output 59 = .ok (.ifCond .ne 5, 3) := by decide +kernel
theorem dX0_output_62 : decode cX0_output 62 = .ok (.iconst 0, 1) := by decide +kernel
theorem dX0_output_63 : decode cX0_output 63 = .ok (.ireturn, 1) := by decide +kernel
theorem dX0_output_64 : decode cX0_output 64 = .ok (.aload_n 0, 1) := by decide +kernel
theorem dX0_output_65 : decode cX0_output 65 = .ok (.iload_n 1, 1) := by decide +kernel
theorem dX0_output_66 : decode cX0_output 66 = .ok (.iload_n 2, 1) := by decide +kernel
theorem dX0_output_67 : decode cX0_output 67 = .ok (.iload_n 3, 1) := by decide +kernel
theorem dX0_output_68 : decode cX0_output 68 = .ok (.invokevirtual 59, 3) := by decide +kernel
theorem dX0_output_71 : decode cX0_output 71 = .ok (.getfield 63, 3) := by decide +kernel
theorem dX0_output_74 : decode cX0_output 74 = .ok (.ireturn, 1) := by decide +kernel
theorem dX0_outputOf_0 : decode cX0_outputOf 0 = .ok (.iload_n 1, 1) := by decide +kernel
theorem dX0_outputOf_1 : decode cX0_outputOf 1 = .ok (.iconst 1, 1) := by decide +kernel
theorem dX0_outputOf_2 : decode cX0_outputOf 2 = .ok (.aload_n 0, 1) := by decide +kernel
theorem dX0_outputOf_3 : decode cX0_outputOf 3 = .ok (.getfield 52, 3) := by decide +kernel
theorem dX0_outputOf_6 : decode cX0_outputOf 6 = .ok (.invokestatic 48, 3) := by decide +kernel
theorem dX0_outputOf_9 : decode cX0_outputOf 9 = .ok (.ifCond .eq 14, 3) := by decide +kernel
theorem dX0_outputOf_12 : decode cX0_outputOf 12 = .ok (.aload_n 0, 1) := by decide +kernel
theorem dX0_outputOf_13 : decode cX0_outputOf 13 = .ok (.getfield 11, 3) := by decide +kernel
theorem dX0_outputOf_16 : decode cX0_outputOf 16 = .ok (.iload_n 1, 1) := by decide +kernel
theorem dX0_outputOf_17 : decode cX0_outputOf 17 = .ok (.iconst 1, 1) := by decide +kernel
theorem dX0_outputOf_18 : decode cX0_outputOf 18 = .ok (.isub, 1) := by decide +kernel
theorem dX0_outputOf_19 : decode cX0_outputOf 19 = .ok (.aaload, 1) := by decide +kernel
theorem dX0_outputOf_20 : decode cX0_outputOf 20 = .ok (.goto 4, 3) := by decide +kernel
theorem dX0_outputOf_23 : decode cX0_outputOf 23 = .ok (.aconst_null, 1) := by decide +kernel
theorem dX0_outputOf_24 : decode cX0_outputOf 24 = .ok (.areturn, 1) := by decide +kernel
theorem dX0_hasRoomForLine_0 : decode cX0_hasRoomForLine 0 = .ok (.aload_n 0, 1) := by decide +kernel
theorem dX0_hasRoomForLine_1 : decode cX0_hasRoomForLine 1 = .ok (.getfield 170, 3) := by decide +kernel
theorem dX0_hasRoomForLine_4 : decode cX0_hasRoomForLine 4 = .ok (.sipush 512, 3) := by decide +kernel
theorem dX0_hasRoomForLine_7 : decode cX0_hasRoomForLine 7 = .ok (.if_icmp .ge 21, 3) := by decide +kernel
theorem dX0_hasRoomForLine_10 : decode cX0_hasRoomForLine 10 = .ok (.aload_n 0, 1) := by decide +kernel
theorem dX0_hasRoomForLine_11 : decode cX0_hasRoomForLine 11 = .ok (.getfield 41, 3) := by decide +kernel
theorem dX0_hasRoomForLine_14 : decode cX0_hasRoomForLine 14 = .ok (.ifCond .gt 10, 3) := by decide +kernel
theorem dX0_hasRoomForLine_17 : decode cX0_hasRoomForLine 17 = .ok (.aload_n 1, 1) := by decide +kernel
theorem dX0_hasRoomForLine_18 : decode cX0_hasRoomForLine 18 = .ok (.invokevirtual 191, 3) := by decide +kernel
theorem dX0_hasRoomForLine_21 : decode cX0_hasRoomForLine 21 = .ok (.ifCond .ne 7, 3) := by decide +kernel
theorem dX0_hasRoomForLine_24 : decode cX0_hasRoomForLine 24 = .ok (.iconst 1, 1) := by decide +kernel
theorem dX0_hasRoomForLine_25 : decode cX0_hasRoomForLine 25 = .ok (.goto 4, 3) := by decide +kernel
theorem dX0_hasRoomForLine_28 : decode cX0_hasRoomForLine 28 = .ok (.iconst 0, 1) := by decide +kernel
theorem dX0_hasRoomForLine_29 : decode cX0_hasRoomForLine 29 = .ok (.ireturn, 1) := by decide +kernel
theorem dX0_takeLine_0 : decode cX0_takeLine 0 = .ok (.aload_n 1, 1) := by decide +kernel
theorem dX0_takeLine_1 : decode cX0_takeLine 1 = .ok (.invokevirtual 191, 3) := by decide +kernel
theorem dX0_takeLine_4 : decode cX0_takeLine 4 = .ok (.ifCond .eq 13, 3) := by decide +kernel
theorem dX0_takeLine_7 : decode cX0_takeLine 7 = .ok (.aload_n 0, 1) := by decide +kernel
theorem dX0_takeLine_8 : decode cX0_takeLine 8 = .ok (.dup, 1) := by decide +kernel
theorem dX0_takeLine_9 : decode cX0_takeLine 9 = .ok (.getfield 41, 3) := by decide +kernel
theorem dX0_takeLine_12 : decode cX0_takeLine 12 = .ok (.iconst 1, 1) := by decide +kernel
theorem dX0_takeLine_13 : decode cX0_takeLine 13 = .ok (.isub, 1) := by decide +kernel
theorem dX0_takeLine_14 : decode cX0_takeLine 14 = .ok (.putfield 41, 3) := by decide +kernel
theorem dX0_takeLine_17 : decode cX0_takeLine 17 = .ok (.aload_n 1, 1) := by decide +kernel
theorem dX0_takeLine_18 : decode cX0_takeLine 18 = .ok (.dup, 1) := by decide +kernel
theorem dX0_takeLine_19 : decode cX0_takeLine 19 = .ok (.getfield 103, 3) := by decide +kernel
theorem dX0_takeLine_22 : decode cX0_takeLine 22 = .ok (.iconst 1, 1) := by decide +kernel
theorem dX0_takeLine_23 : decode cX0_takeLine 23 = .ok (.iadd, 1) := by decide +kernel
theorem dX0_takeLine_24 : decode cX0_takeLine 24 = .ok (.putfield 103, 3) := by decide +kernel
theorem dX0_takeLine_27 : decode cX0_takeLine 27 = .ok (.iload_n 2, 1) := by decide +kernel
theorem dX0_takeLine_28 : decode cX0_takeLine 28 = .ok (.sipush 256, 3) := by decide +kernel
theorem dX0_takeLine_31 : decode cX0_takeLine 31 = .ok (.idiv, 1) := by decide +kernel
theorem dX0_takeLine_32 : decode cX0_takeLine 32 = .ok (.ifCond .le 40, 3) := by decide +kernel
theorem dX0_takeLine_35 : decode cX0_takeLine 35 = .ok (.aload_n 0, 1) := by decide +kernel
theorem dX0_takeLine_36 : decode cX0_takeLine 36 = .ok (.getfield 25, 3) := by decide +kernel
theorem dX0_takeLine_39 : decode cX0_takeLine 39 = .ok (.aload_n 0, 1) := by decide +kernel
theorem dX0_takeLine_40 : decode cX0_takeLine 40 = .ok (.getfield 170, 3) := by decide +kernel
theorem dX0_takeLine_43 : decode cX0_takeLine 43 = .ok (.iload_n 2, 1) := by decide +kernel
theorem dX0_takeLine_44 : decode cX0_takeLine 44 = .ok (.sipush 256, 3) := by decide +kernel
theorem dX0_takeLine_47 : decode cX0_takeLine 47 = .ok (.irem, 1) := by decide +kernel
theorem dX0_takeLine_48 : decode cX0_takeLine 48 = .ok (.iastore, 1) := by decide +kernel
theorem dX0_takeLine_49 : decode cX0_takeLine 49 = .ok (.aload_n 0, 1) := by decide +kernel
theorem dX0_takeLine_50 : decode cX0_takeLine 50 = .ok (.getfield 28, 3) := by decide +kernel
theorem dX0_takeLine_53 : decode cX0_takeLine 53 = .ok (.aload_n 0, 1) := by decide +kernel
theorem dX0_takeLine_54 : decode cX0_takeLine 54 = .ok (.getfield 170, 3) := by decide +kernel
theorem dX0_takeLine_57 : decode cX0_takeLine 57 = .ok (.aload_n 1, 1) := by decide +kernel
theorem dX0_takeLine_58 : decode cX0_takeLine 58 = .ok (.getfield 63, 3) := by decide +kernel
theorem dX0_takeLine_61 : decode cX0_takeLine 61 = .ok (.iastore, 1) := by decide +kernel
theorem dX0_takeLine_62 : decode cX0_takeLine 62 = .ok (.aload_n 0, 1) := by decide +kernel
theorem dX0_takeLine_63 : decode cX0_takeLine 63 = .ok (.dup, 1) := by decide +kernel
theorem dX0_takeLine_64 : decode cX0_takeLine 64 = .ok (.getfield 170, 3) := by decide +kernel
theorem dX0_takeLine_67 : decode cX0_takeLine 67 = .ok (.iconst 1, 1) := by decide +kernel
theorem dX0_takeLine_68 : decode cX0_takeLine 68 = .ok (.iadd, 1) := by decide +kernel
theorem dX0_takeLine_69 : decode cX0_takeLine 69 = .ok (.putfield 170, 3) := by decide +kernel
theorem dX0_takeLine_72 : decode cX0_takeLine 72 = .ok (.return_, 1) := by decide +kernel
theorem dX0_line_0 : decode cX0_line 0 = .ok (.aload_n 0, 1) := by decide +kernel
theorem dX0_line_1 : decode cX0_line 1 = .ok (.iload_n 1, 1) := by decide +kernel
theorem dX0_line_2 : decode cX0_line 2 = .ok (.invokevirtual 66, 3) := by decide +kernel
theorem dX0_line_5 : decode cX0_line 5 = .ok (.astore_n 3, 1) := by decide +kernel
theorem dX0_line_6 : decode cX0_line 6 = .ok (.aload_n 3, 1) := by decide +kernel
theorem dX0_line_7 : decode cX0_line 7 = .ok (.ifnull 13, 3) := by decide +kernel
theorem dX0_line_10 : decode cX0_line 10 = .ok (.iload_n 2, 1) := by decide +kernel
theorem dX0_line_11 : decode cX0_line 11 = .ok (.iconst 0, 1) := by decide +kernel
theorem dX0_line_12 : decode cX0_line 12 = .ok (.ldc 70, 2) := by decide +kernel
theorem dX0_line_14 : decode cX0_line 14 = .ok (.invokestatic 48, 3) := by decide +kernel
theorem dX0_line_17 : decode cX0_line 17 = .ok (.ifCond .ne 5, 3) := by decide +kernel
theorem dX0_line_20 : decode cX0_line 20 = .ok (.iconst (-1), 1) := by decide +kernel
theorem dX0_line_21 : decode cX0_line 21 = .ok (.ireturn, 1) := by decide +kernel
theorem dX0_line_22 : decode cX0_line 22 = .ok (.aload_n 3, 1) := by decide +kernel
theorem dX0_line_23 : decode cX0_line 23 = .ok (.getfield 71, 3) := by decide +kernel
theorem dX0_line_26 : decode cX0_line 26 = .ok (.iconst 1, 1) := by decide +kernel
theorem dX0_line_27 : decode cX0_line 27 = .ok (.if_icmp .eq 6, 3) := by decide +kernel
theorem dX0_line_30 : decode cX0_line 30 = .ok (.bipush (-2), 2) := by decide +kernel
theorem dX0_line_32 : decode cX0_line 32 = .ok (.ireturn, 1) := by decide +kernel
theorem dX0_line_33 : decode cX0_line 33 = .ok (.aload_n 3, 1) := by decide +kernel
theorem dX0_line_34 : decode cX0_line 34 = .ok (.invokevirtual 74, 3) := by decide +kernel
theorem dX0_line_37 : decode cX0_line 37 = .ok (.istore 4, 2) := by decide +kernel
theorem dX0_line_39 : decode cX0_line 39 = .ok (.iload 4, 2) := by decide +kernel
theorem dX0_line_41 : decode cX0_line 41 = .ok (.ifCond .eq 12, 3) := by decide +kernel
theorem dX0_line_44 : decode cX0_line 44 = .ok (.aload_n 3, 1) := by decide +kernel
theorem dX0_line_45 : decode cX0_line 45 = .ok (.getfield 78, 3) := by decide +kernel
theorem dX0_line_48 : decode cX0_line 48 = .ok (.ifCond .eq 5, 3) := by decide +kernel
theorem dX0_line_51 : decode cX0_line 51 = .ok (.iconst 0, 1) := by decide +kernel
theorem dX0_line_52 : decode cX0_line 52 = .ok (.ireturn, 1) := by decide +kernel
theorem dX0_line_53 : decode cX0_line 53 = .ok (.aload_n 0, 1) := by decide +kernel
theorem dX0_line_54 : decode cX0_line 54 = .ok (.aload_n 3, 1) := by decide +kernel
theorem dX0_line_55 : decode cX0_line 55 = .ok (.invokevirtual 82, 3) := by decide +kernel
theorem dX0_line_58 : decode cX0_line 58 = .ok (.ifCond .ne 6, 3) := by decide +kernel
theorem dX0_line_61 : decode cX0_line 61 = .ok (.bipush (-3), 2) := by decide +kernel
theorem dX0_line_63 : decode cX0_line 63 = .ok (.ireturn, 1) := by decide +kernel
theorem dX0_line_64 : decode cX0_line 64 = .ok (.aload_n 0, 1) := by decide +kernel
theorem dX0_line_65 : decode cX0_line 65 = .ok (.aload_n 3, 1) := by decide +kernel
theorem dX0_line_66 : decode cX0_line 66 = .ok (.iload_n 2, 1) := by decide +kernel
theorem dX0_line_67 : decode cX0_line 67 = .ok (.invokevirtual 86, 3) := by decide +kernel
theorem dX0_line_70 : decode cX0_line 70 = .ok (.iload 4, 2) := by decide +kernel
theorem dX0_line_72 : decode cX0_line 72 = .ok (.ifCond .eq 7, 3) := by decide +kernel
theorem dX0_line_75 : decode cX0_line 75 = .ok (.iconst 2, 1) := by decide +kernel
theorem dX0_line_76 : decode cX0_line 76 = .ok (.goto 4, 3) := by decide +kernel
theorem dX0_line_79 : decode cX0_line 79 = .ok (.iconst 1, 1) := by decide +kernel
theorem dX0_line_80 : decode cX0_line 80 = .ok (.ireturn, 1) := by decide +kernel
theorem dX0_limit_0 : decode cX0_limit 0 = .ok (.aload_n 0, 1) := by decide +kernel
theorem dX0_limit_1 : decode cX0_limit 1 = .ok (.iload_n 1, 1) := by decide +kernel
theorem dX0_limit_2 : decode cX0_limit 2 = .ok (.invokevirtual 66, 3) := by decide +kernel
theorem dX0_limit_5 : decode cX0_limit 5 = .ok (.astore 4, 2) := by decide +kernel
theorem dX0_limit_7 : decode cX0_limit 7 = .ok (.aload 4, 2) := by decide +kernel
theorem dX0_limit_9 : decode cX0_limit 9 = .ok (.ifnull 7, 3) := by decide +kernel
theorem dX0_limit_12 : decode cX0_limit 12 = .ok (.iload_n 2, 1) := by decide +kernel
theorem dX0_limit_13 : decode cX0_limit 13 = .ok (.ifCond .ge 5, 3) := by decide +kernel
theorem dX0_limit_16 : decode cX0_limit 16 = .ok (.iconst (-1), 1) := by decide +kernel
theorem dX0_limit_17 : decode cX0_limit 17 = .ok (.ireturn, 1) := by decide +kernel
theorem dX0_limit_18 : decode cX0_limit 18 = .ok (.aload 4, 2) := by decide +kernel
theorem dX0_limit_20 : decode cX0_limit 20 = .ok (.invokevirtual 90, 3) := by decide +kernel
theorem dX0_limit_23 : decode cX0_limit 23 = .ok (.ifCond .eq 6, 3) := by decide +kernel
theorem dX0_limit_26 : decode cX0_limit 26 = .ok (.bipush (-2), 2) := by decide +kernel
theorem dX0_limit_28 : decode cX0_limit 28 = .ok (.ireturn, 1) := by decide +kernel
theorem dX0_limit_29 : decode cX0_limit 29 = .ok (.aload 4, 2) := by decide +kernel
theorem dX0_limit_31 : decode cX0_limit 31 = .ok (.iload_n 2, 1) := by decide +kernel
theorem dX0_limit_32 : decode cX0_limit 32 = .ok (.putfield 93, 3) := by decide +kernel
theorem dX0_limit_35 : decode cX0_limit 35 = .ok (.aload 4, 2) := by decide +kernel
theorem dX0_limit_37 : decode cX0_limit 37 = .ok (.iload_n 3, 1) := by decide +kernel
theorem dX0_limit_38 : decode cX0_limit 38 = .ok (.putfield 78, 3) := by decide +kernel
theorem dX0_limit_41 : decode cX0_limit 41 = .ok (.iconst 1, 1) := by decide +kernel
theorem dX0_limit_42 : decode cX0_limit 42 = .ok (.ireturn, 1) := by decide +kernel
theorem dX0_letGo_0 : decode cX0_letGo 0 = .ok (.aload_n 1, 1) := by decide +kernel
theorem dX0_letGo_1 : decode cX0_letGo 1 = .ok (.iload_n 2, 1) := by decide +kernel
theorem dX0_letGo_2 : decode cX0_letGo 2 = .ok (.putfield 71, 3) := by decide +kernel
theorem dX0_letGo_5 : decode cX0_letGo 5 = .ok (.aload_n 1, 1) := by decide +kernel
theorem dX0_letGo_6 : decode cX0_letGo 6 = .ok (.iconst 0, 1) := by decide +kernel
theorem dX0_letGo_7 : decode cX0_letGo 7 = .ok (.putfield 161, 3) := by decide +kernel
theorem dX0_letGo_10 : decode cX0_letGo 10 = .ok (.aload_n 0, 1) := by decide +kernel
theorem dX0_letGo_11 : decode cX0_letGo 11 = .ok (.dup, 1) := by decide +kernel
theorem dX0_letGo_12 : decode cX0_letGo 12 = .ok (.getfield 41, 3) := by decide +kernel
theorem dX0_letGo_15 : decode cX0_letGo 15 = .ok (.aload_n 1, 1) := by decide +kernel
theorem dX0_letGo_16 : decode cX0_letGo 16 = .ok (.invokevirtual 179, 3) := by decide +kernel
theorem dX0_letGo_19 : decode cX0_letGo 19 = .ok (.iadd, 1) := by decide +kernel
theorem dX0_letGo_20 : decode cX0_letGo 20 = .ok (.putfield 41, 3) := by decide +kernel
theorem dX0_letGo_23 : decode cX0_letGo 23 = .ok (.return_, 1) := by decide +kernel
theorem dX0_releaseOrPurge_0 : decode cX0_releaseOrPurge 0 = .ok (.aload_n 1, 1) := by decide +kernel
theorem dX0_releaseOrPurge_1 : decode cX0_releaseOrPurge 1 = .ok (.getfield 103, 3) := by decide +kernel
theorem dX0_releaseOrPurge_4 : decode cX0_releaseOrPurge 4 = .ok (.ifCond .ne 12, 3) := by decide +kernel
theorem dX0_releaseOrPurge_7 : decode cX0_releaseOrPurge 7 = .ok (.aload_n 0, 1) := by decide +kernel
theorem dX0_releaseOrPurge_8 : decode cX0_releaseOrPurge 8 = .ok (.aload_n 1, 1) := by decide +kernel
theorem dX0_releaseOrPurge_9 : decode cX0_releaseOrPurge 9 = .ok (.iconst 5, 1) := by decide +kernel
theorem dX0_releaseOrPurge_10 : decode cX0_releaseOrPurge 10 = .ok (.invokevirtual 146, 3) := by decide +kernel
theorem dX0_releaseOrPurge_13 : decode cX0_releaseOrPurge 13 = .ok (.goto 8, 3) := by decide +kernel
theorem dX0_releaseOrPurge_16 : decode cX0_releaseOrPurge 16 = .ok (.aload_n 1, 1) := by decide +kernel
theorem dX0_releaseOrPurge_17 : decode cX0_releaseOrPurge 17 = .ok (.iconst 2, 1) := by decide +kernel
theorem dX0_releaseOrPurge_18 : decode cX0_releaseOrPurge 18 = .ok (.putfield 71, 3) := by decide +kernel
theorem dX0_releaseOrPurge_21 : decode cX0_releaseOrPurge 21 = .ok (.return_, 1) := by decide +kernel
theorem dX0_end_0 : decode cX0_end 0 = .ok (.iconst 0, 1) := by decide +kernel
theorem dX0_end_1 : decode cX0_end 1 = .ok (.istore_n 2, 1) := by decide +kernel
theorem dX0_end_2 : decode cX0_end 2 = .ok (.iconst 0, 1) := by decide +kernel
theorem dX0_end_3 : decode cX0_end 3 = .ok (.istore_n 3, 1) := by decide +kernel
theorem dX0_end_4 : decode cX0_end 4 = .ok (.iload_n 3, 1) := by decide +kernel
theorem dX0_end_5 : decode cX0_end 5 = .ok (.aload_n 0, 1) := by decide +kernel
theorem dX0_end_6 : decode cX0_end 6 = .ok (.getfield 52, 3) := by decide +kernel
theorem dX0_end_9 : decode cX0_end 9 = .ok (.if_icmp .ge 44, 3) := by decide +kernel
theorem dX0_end_12 : decode cX0_end 12 = .ok (.aload_n 0, 1) := by decide +kernel
theorem dX0_end_13 : decode cX0_end 13 = .ok (.getfield 11, 3) := by decide +kernel
theorem dX0_end_16 : decode cX0_end 16 = .ok (.iload_n 3, 1) := by decide +kernel
theorem dX0_end_17 : decode cX0_end 17 = .ok (.aaload, 1) := by decide +kernel
theorem dX0_end_18 : decode cX0_end 18 = .ok (.astore 4, 2) := by decide +kernel
theorem dX0_end_20 : decode cX0_end 20 = .ok (.aload 4, 2) := by decide +kernel
theorem dX0_end_22 : decode cX0_end 22 = .ok (.getfield 96, 3) := by decide +kernel
theorem dX0_end_25 : decode cX0_end 25 = .ok (.iload_n 1, 1) := by decide +kernel
theorem dX0_end_26 : decode cX0_end 26 = .ok (.if_icmp .ne 21, 3) := by decide +kernel
theorem dX0_end_29 : decode cX0_end 29 = .ok (.aload 4, 2) := by decide +kernel
theorem dX0_end_31 : decode cX0_end 31 = .ok (.getfield 71, 3) := by decide +kernel
theorem dX0_end_34 : decode cX0_end 34 = .ok (.iconst 1, 1) := by decide +kernel
theorem dX0_end_35 : decode cX0_end 35 = .ok (.if_icmp .ne 12, 3) := by decide +kernel
theorem dX0_end_38 : decode cX0_end 38 = .ok (.iinc 2 1, 3) := by decide +kernel
theorem dX0_end_41 : decode cX0_end 41 = .ok (.aload_n 0, 1) := by decide +kernel
theorem dX0_end_42 : decode cX0_end 42 = .ok (.aload 4, 2) := by decide +kernel
theorem dX0_end_44 : decode cX0_end 44 = .ok (.invokevirtual 99, 3) := by decide +kernel
theorem dX0_end_47 : decode cX0_end 47 = .ok (.iinc 3 1, 3) := by decide +kernel
theorem dX0_end_50 : decode cX0_end 50 = .ok (.goto (-46), 3) := by decide +kernel
theorem dX0_end_53 : decode cX0_end 53 = .ok (.iload_n 2, 1) := by decide +kernel
theorem dX0_end_54 : decode cX0_end 54 = .ok (.ireturn, 1) := by decide +kernel
theorem dX0_segment_0 : decode cX0_segment 0 = .ok (.aload_n 0, 1) := by decide +kernel
theorem dX0_segment_1 : decode cX0_segment 1 = .ok (.iload_n 1, 1) := by decide +kernel
theorem dX0_segment_2 : decode cX0_segment 2 = .ok (.invokevirtual 66, 3) := by decide +kernel
theorem dX0_segment_5 : decode cX0_segment 5 = .ok (.astore_n 2, 1) := by decide +kernel
theorem dX0_segment_6 : decode cX0_segment 6 = .ok (.aload_n 2, 1) := by decide +kernel
theorem dX0_segment_7 : decode cX0_segment 7 = .ok (.ifnonnull 5, 3) := by decide +kernel
theorem dX0_segment_10 : decode cX0_segment 10 = .ok (.iconst (-1), 1) := by decide +kernel
theorem dX0_segment_11 : decode cX0_segment 11 = .ok (.ireturn, 1) := by decide +kernel
theorem dX0_segment_12 : decode cX0_segment 12 = .ok (.aload_n 2, 1) := by decide +kernel
theorem dX0_segment_13 : decode cX0_segment 13 = .ok (.getfield 71, 3) := by decide +kernel
theorem dX0_segment_16 : decode cX0_segment 16 = .ok (.iconst 1, 1) := by decide +kernel
theorem dX0_segment_17 : decode cX0_segment 17 = .ok (.if_icmp .ne 10, 3) := by decide +kernel
theorem dX0_segment_20 : decode cX0_segment 20 = .ok (.aload_n 2, 1) := by decide +kernel
theorem dX0_segment_21 : decode cX0_segment 21 = .ok (.getfield 103, 3) := by decide +kernel
theorem dX0_segment_24 : decode cX0_segment 24 = .ok (.ifCond .ne 6, 3) := by decide +kernel
theorem dX0_segment_27 : decode cX0_segment 27 = .ok (.bipush (-2), 2) := by decide +kernel
theorem dX0_segment_29 : decode cX0_segment 29 = .ok (.ireturn, 1) := by decide +kernel
theorem dX0_segment_30 : decode cX0_segment 30 = .ok (.aload_n 0, 1) := by decide +kernel
theorem dX0_segment_31 : decode cX0_segment 31 = .ok (.getfield 52, 3) := by decide +kernel
theorem dX0_segment_34 : decode cX0_segment 34 = .ok (.sipush 1000, 3) := by decide +kernel
theorem dX0_segment_37 : decode cX0_segment 37 = .ok (.if_icmp .lt 5, 3) := by decide +kernel
theorem dX0_segment_40 : decode cX0_segment 40 = .ok (.iconst 0, 1) := by decide +kernel
theorem dX0_segment_41 : decode cX0_segment 41 = .ok (.ireturn, 1) := by decide +kernel
theorem dX0_segment_42 : decode cX0_segment 42 = .ok (.aload_n 0, 1) := by decide +kernel
theorem dX0_segment_43 : decode cX0_segment 43 = .ok (.aload_n 2, 1) := by decide +kernel
theorem dX0_segment_44 : decode cX0_segment 44 = .ok (.getfield 96, 3) := by decide +kernel
theorem dX0_segment_47 : decode cX0_segment 47 = .ok (.aload_n 2, 1) := by decide +kernel
theorem dX0_segment_48 : decode cX0_segment 48 = .ok (.getfield 106, 3) := by decide +kernel
theorem dX0_segment_51 : decode cX0_segment 51 = .ok (.aload_n 2, 1) := by decide +kernel
theorem dX0_segment_52 : decode cX0_segment 52 = .ok (.getfield 109, 3) := by decide +kernel
theorem dX0_segment_55 : decode cX0_segment 55 = .ok (.invokevirtual 59, 3) := by decide +kernel
theorem dX0_segment_58 : decode cX0_segment 58 = .ok (.astore_n 3, 1) := by decide +kernel
theorem dX0_segment_59 : decode cX0_segment 59 = .ok (.aload_n 3, 1) := by decide +kernel
theorem dX0_segment_60 : decode cX0_segment 60 = .ok (.aload_n 2, 1) := by decide +kernel
theorem dX0_segment_61 : decode cX0_segment 61 = .ok (.invokevirtual 112, 3) := by decide +kernel
theorem dX0_segment_64 : decode cX0_segment 64 = .ok (.aload_n 2, 1) := by decide +kernel
theorem dX0_segment_65 : decode cX0_segment 65 = .ok (.iconst 2, 1) := by decide +kernel
theorem dX0_segment_66 : decode cX0_segment 66 = .ok (.putfield 71, 3) := by decide +kernel
theorem dX0_segment_69 : decode cX0_segment 69 = .ok (.aload_n 3, 1) := by decide +kernel
theorem dX0_segment_70 : decode cX0_segment 70 = .ok (.getfield 63, 3) := by decide +kernel
theorem dX0_segment_73 : decode cX0_segment 73 = .ok (.ireturn, 1) := by decide +kernel
theorem dX0_writer_0 : decode cX0_writer 0 = .ok (.iload_n 1, 1) := by decide +kernel
theorem dX0_writer_1 : decode cX0_writer 1 = .ok (.ifCond .ge 5, 3) := by decide +kernel
theorem dX0_writer_4 : decode cX0_writer 4 = .ok (.iconst (-1), 1) := by decide +kernel
theorem dX0_writer_5 : decode cX0_writer 5 = .ok (.ireturn, 1) := by decide +kernel
theorem dX0_writer_6 : decode cX0_writer 6 = .ok (.iload_n 1, 1) := by decide +kernel
theorem dX0_writer_7 : decode cX0_writer 7 = .ok (.bipush 16, 2) := by decide +kernel
theorem dX0_writer_9 : decode cX0_writer 9 = .ok (.irem, 1) := by decide +kernel
theorem dX0_writer_10 : decode cX0_writer 10 = .ok (.istore_n 2, 1) := by decide +kernel
theorem dX0_writer_11 : decode cX0_writer 11 = .ok (.iload_n 1, 1) := by decide +kernel
theorem dX0_writer_12 : decode cX0_writer 12 = .ok (.bipush 16, 2) := by decide +kernel
theorem dX0_writer_14 : decode cX0_writer 14 = .ok (.idiv, 1) := by decide +kernel
theorem dX0_writer_15 : decode cX0_writer 15 = .ok (.iconst 1, 1) := by decide +kernel
theorem dX0_writer_16 : decode cX0_writer 16 = .ok (.isub, 1) := by decide +kernel
theorem dX0_writer_17 : decode cX0_writer 17 = .ok (.istore_n 3, 1) := by decide +kernel
theorem dX0_writer_18 : decode cX0_writer 18 = .ok (.iload_n 2, 1) := by decide +kernel
theorem dX0_writer_19 : decode cX0_writer 19 = .ok (.bipush 8, 2) := by decide +kernel
theorem dX0_writer_21 : decode cX0_writer 21 = .ok (.if_icmp .gt 9, 3) := by decide +kernel
theorem dX0_writer_24 : decode cX0_writer 24 = .ok (.iload_n 3, 1) := by decide +kernel
theorem dX0_writer_25 : decode cX0_writer 25 = .ok (.bipush 8, 2) := by decide +kernel
theorem dX0_writer_27 : decode cX0_writer 27 = .ok (.if_icmp .lt 5, 3) := by decide +kernel
theorem dX0_writer_30 : decode cX0_writer 30 = .ok (.iconst (-1), 1) := by decide +kernel
theorem dX0_writer_31 : decode cX0_writer 31 = .ok (.ireturn, 1) := by decide +kernel
theorem dX0_writer_32 : decode cX0_writer 32 = .ok (.aload_n 0, 1) := by decide +kernel
theorem dX0_writer_33 : decode cX0_writer 33 = .ok (.getfield 115, 3) := by decide +kernel
theorem dX0_writer_36 : decode cX0_writer 36 = .ok (.bipush 9, 2) := by decide +kernel
theorem dX0_writer_38 : decode cX0_writer 38 = .ok (.if_icmp .lt 5, 3) := by decide +kernel
theorem dX0_writer_41 : decode cX0_writer 41 = .ok (.iconst 0, 1) := by decide +kernel
theorem dX0_writer_42 : decode cX0_writer 42 = .ok (.ireturn, 1) := by decide +kernel
theorem dX0_writer_43 : decode cX0_writer 43 = .ok (.aload_n 0, 1) := by decide +kernel
theorem dX0_writer_44 : decode cX0_writer 44 = .ok (.getfield 17, 3) := by decide +kernel
theorem dX0_writer_47 : decode cX0_writer 47 = .ok (.aload_n 0, 1) := by decide +kernel
theorem dX0_writer_48 : decode cX0_writer 48 = .ok (.getfield 115, 3) := by decide +kernel
theorem dX0_writer_51 : decode cX0_writer 51 = .ok (.new 15, 3) := by decide +kernel
theorem dX0_writer_54 : decode cX0_writer 54 = .ok (.dup, 1) := by decide +kernel
theorem dX0_writer_55 : decode cX0_writer 55 = .ok (.iload_n 2, 1) := by decide +kernel
theorem dX0_writer_56 : decode cX0_writer 56 = .ok (.iload_n 3, 1) := by decide +kernel
theorem dX0_writer_57 : decode cX0_writer 57 = .ok (.invokespecial 118, 3) := by decide +kernel
theorem dX0_writer_60 : decode cX0_writer 60 = .ok (.aastore, 1) := by decide +kernel
theorem dX0_writer_61 : decode cX0_writer 61 = .ok (.aload_n 0, 1) := by decide +kernel
theorem dX0_writer_62 : decode cX0_writer 62 = .ok (.dup, 1) := by decide +kernel
theorem dX0_writer_63 : decode cX0_writer 63 = .ok (.getfield 115, 3) := by decide +kernel
theorem dX0_writer_66 : decode cX0_writer 66 = .ok (.iconst 1, 1) := by decide +kernel
theorem dX0_writer_67 : decode cX0_writer 67 = .ok (.iadd, 1) := by decide +kernel
theorem dX0_writer_68 : decode cX0_writer 68 = .ok (.putfield 115, 3) := by decide +kernel
theorem dX0_writer_71 : decode cX0_writer 71 = .ok (.aload_n 0, 1) := by decide +kernel
theorem dX0_writer_72 : decode cX0_writer 72 = .ok (.getfield 115, 3) := by decide +kernel
theorem dX0_writer_75 : decode cX0_writer 75 = .ok (.ireturn, 1) := by decide +kernel
theorem dX0_writerOf_0 : decode cX0_writerOf 0 = .ok (.iload_n 1, 1) := by decide +kernel
theorem dX0_writerOf_1 : decode cX0_writerOf 1 = .ok (.iconst 1, 1) := by decide +kernel
theorem dX0_writerOf_2 : decode cX0_writerOf 2 = .ok (.aload_n 0, 1) := by decide +kernel
theorem dX0_writerOf_3 : decode cX0_writerOf 3 = .ok (.getfield 115, 3) := by decide +kernel
theorem dX0_writerOf_6 : decode cX0_writerOf 6 = .ok (.invokestatic 48, 3) := by decide +kernel
theorem dX0_writerOf_9 : decode cX0_writerOf 9 = .ok (.ifCond .eq 14, 3) := by decide +kernel
theorem dX0_writerOf_12 : decode cX0_writerOf 12 = .ok (.aload_n 0, 1) := by decide +kernel
theorem dX0_writerOf_13 : decode cX0_writerOf 13 = .ok (.getfield 17, 3) := by decide +kernel
theorem dX0_writerOf_16 : decode cX0_writerOf 16 = .ok (.iload_n 1, 1) := by decide +kernel
theorem dX0_writerOf_17 : decode cX0_writerOf 17 = .ok (.iconst 1, 1) := by decide +kernel
theorem dX0_writerOf_18 : decode cX0_writerOf 18 = .ok (.isub, 1) := by decide +kernel
theorem dX0_writerOf_19 : decode cX0_writerOf 19 = .ok (.aaload, 1) := by decide +kernel
theorem dX0_writerOf_20 : decode cX0_writerOf 20 = .ok (.goto 4, 3) := by decide +kernel
theorem dX0_writerOf_23 : decode cX0_writerOf 23 = .ok (.aconst_null, 1) := by decide +kernel
theorem dX0_writerOf_24 : decode cX0_writerOf 24 = .ok (.areturn, 1) := by decide +kernel
theorem dX0_firstFor_0 : decode cX0_firstFor 0 = .ok (.aconst_null, 1) := by decide +kernel
theorem dX0_firstFor_1 : decode cX0_firstFor 1 = .ok (.astore_n 2, 1) := by decide +kernel
theorem dX0_firstFor_2 : decode cX0_firstFor 2 = .ok (.iconst 0, 1) := by decide +kernel
theorem dX0_firstFor_3 : decode cX0_firstFor 3 = .ok (.istore_n 3, 1) := by decide +kernel
theorem dX0_firstFor_4 : decode cX0_firstFor 4 = .ok (.iload_n 3, 1) := by decide +kernel
theorem dX0_firstFor_5 : decode cX0_firstFor 5 = .ok (.aload_n 0, 1) := by decide +kernel
theorem dX0_firstFor_6 : decode cX0_firstFor 6 = .ok (.getfield 52, 3) := by decide +kernel
theorem dX0_firstFor_9 : decode cX0_firstFor 9 = .ok (.if_icmp .ge 50, 3) := by decide +kernel
theorem dX0_firstFor_12 : decode cX0_firstFor 12 = .ok (.aload_n 0, 1) := by decide +kernel
theorem dX0_firstFor_13 : decode cX0_firstFor 13 = .ok (.getfield 11, 3) := by decide +kernel
theorem dX0_firstFor_16 : decode cX0_firstFor 16 = .ok (.iload_n 3, 1) := by decide +kernel
theorem dX0_firstFor_17 : decode cX0_firstFor 17 = .ok (.aaload, 1) := by decide +kernel
theorem dX0_firstFor_18 : decode cX0_firstFor 18 = .ok (.astore 4, 2) := by decide +kernel
theorem dX0_firstFor_20 : decode cX0_firstFor 20 = .ok (.aload 4, 2) := by decide +kernel
theorem dX0_firstFor_22 : decode cX0_firstFor 22 = .ok (.invokevirtual 194, 3) := by decide +kernel
theorem dX0_firstFor_25 : decode cX0_firstFor 25 = .ok (.ifCond .eq 28, 3) := by decide +kernel
theorem dX0_firstFor_28 : decode cX0_firstFor 28 = .ok (.aload_n 1, 1) := by decide +kernel
theorem dX0_firstFor_29 : decode cX0_firstFor 29 = .ok (.aload 4, 2) := by decide +kernel
theorem dX0_firstFor_31 : decode cX0_firstFor 31 = .ok (.invokevirtual 197, 3) := by decide +kernel
theorem dX0_firstFor_34 : decode cX0_firstFor 34 = .ok (.ifCond .eq 19, 3) := by decide +kernel
theorem dX0_firstFor_37 : decode cX0_firstFor 37 = .ok (.aload_n 2, 1) := by decide +kernel
theorem dX0_firstFor_38 : decode cX0_firstFor 38 = .ok (.ifnull 12, 3) := by decide +kernel
theorem dX0_firstFor_41 : decode cX0_firstFor 41 = .ok (.aload 4, 2) := by decide +kernel
theorem dX0_firstFor_43 : decode cX0_firstFor 43 = .ok (.aload_n 2, 1) := by decide +kernel
theorem dX0_firstFor_44 : decode cX0_firstFor 44 = .ok (.invokevirtual 200, 3) := by decide +kernel
theorem dX0_firstFor_47 : decode cX0_firstFor 47 = .ok (.ifCond .eq 6, 3) := by decide +kernel
theorem dX0_firstFor_50 : decode cX0_firstFor 50 = .ok (.aload 4, 2) := by decide +kernel
theorem dX0_firstFor_52 : decode cX0_firstFor 52 = .ok (.astore_n 2, 1) := by decide +kernel
theorem dX0_firstFor_53 : decode cX0_firstFor 53 = .ok (.iinc 3 1, 3) := by decide +kernel
theorem dX0_firstFor_56 : decode cX0_firstFor 56 = .ok (.goto (-52), 3) := by decide +kernel
theorem dX0_firstFor_59 : decode cX0_firstFor 59 = .ok (.aload_n 2, 1) := by decide +kernel
theorem dX0_firstFor_60 : decode cX0_firstFor 60 = .ok (.areturn, 1) := by decide +kernel
theorem dX0_next_0 : decode cX0_next 0 = .ok (.aload_n 0, 1) := by decide +kernel
theorem dX0_next_1 : decode cX0_next 1 = .ok (.iload_n 1, 1) := by decide +kernel
theorem dX0_next_2 : decode cX0_next 2 = .ok (.invokevirtual 121, 3) := by decide +kernel
theorem dX0_next_5 : decode cX0_next 5 = .ok (.astore_n 2, 1) := by decide +kernel
theorem dX0_next_6 : decode cX0_next 6 = .ok (.aload_n 2, 1) := by decide +kernel
theorem dX0_next_7 : decode cX0_next 7 = .ok (.ifnonnull 5, 3) := by decide +kernel
theorem dX0_next_10 : decode cX0_next 10 = .ok (.iconst (-1), 1) := by decide +kernel
theorem dX0_next_11 : decode cX0_next 11 = .ok (.ireturn, 1) := by decide +kernel
theorem dX0_next_12 : decode cX0_next 12 = .ok (.aload_n 2, 1) := by decide +kernel
theorem dX0_next_13 : decode cX0_next 13 = .ok (.getfield 125, 3) := by decide +kernel
theorem dX0_next_16 : decode cX0_next 16 = .ok (.ifnull 6, 3) := by decide +kernel
theorem dX0_next_19 : decode cX0_next 19 = .ok (.bipush (-2), 2) := by decide +kernel
theorem dX0_next_21 : decode cX0_next 21 = .ok (.ireturn, 1) := by decide +kernel
theorem dX0_next_22 : decode cX0_next 22 = .ok (.aload_n 0, 1) := by decide +kernel
theorem dX0_next_23 : decode cX0_next 23 = .ok (.aload_n 2, 1) := by decide +kernel
theorem dX0_next_24 : decode cX0_next 24 = .ok (.invokevirtual 129, 3) := by decide +kernel
theorem dX0_next_27 : decode cX0_next 27 = .ok (.astore_n 3, 1) := by decide +kernel
theorem dX0_next_28 : decode cX0_next 28 = .ok (.aload_n 3, 1) := by decide +kernel
theorem dX0_next_29 : decode cX0_next 29 = .ok (.ifnonnull 5, 3) := by decide +kernel
theorem dX0_next_32 : decode cX0_next 32 = .ok (.iconst 0, 1) := by decide +kernel
theorem dX0_next_33 : decode cX0_next 33 = .ok (.ireturn, 1) := by decide +kernel
theorem dX0_next_34 : decode cX0_next 34 = .ok (.aload_n 3, 1) := by decide +kernel
theorem dX0_next_35 : decode cX0_next 35 = .ok (.iconst 3, 1) := by decide +kernel
theorem dX0_next_36 : decode cX0_next 36 = .ok (.putfield 71, 3) := by decide +kernel
theorem dX0_next_39 : decode cX0_next 39 = .ok (.aload_n 2, 1) := by decide +kernel
theorem dX0_next_40 : decode cX0_next 40 = .ok (.aload_n 3, 1) := by decide +kernel
theorem dX0_next_41 : decode cX0_next 41 = .ok (.putfield 125, 3) := by decide +kernel
theorem dX0_next_44 : decode cX0_next 44 = .ok (.aload_n 3, 1) := by decide +kernel
theorem dX0_next_45 : decode cX0_next 45 = .ok (.getfield 63, 3) := by decide +kernel
theorem dX0_next_48 : decode cX0_next 48 = .ok (.ireturn, 1) := by decide +kernel
theorem dX0_noteInOrder_0 : decode cX0_noteInOrder 0 = .ok (.aload_n 0, 1) := by decide +kernel
theorem dX0_noteInOrder_1 : decode cX0_noteInOrder 1 = .ok (.getfield 176, 3) := by decide +kernel
theorem dX0_noteInOrder_4 : decode cX0_noteInOrder 4 = .ok (.sipush 1000, 3) := by decide +kernel
theorem dX0_noteInOrder_7 : decode cX0_noteInOrder 7 = .ok (.if_icmp .ge 26, 3) := by decide +kernel
theorem dX0_noteInOrder_10 : decode cX0_noteInOrder 10 = .ok (.aload_n 0, 1) := by decide +kernel
theorem dX0_noteInOrder_11 : decode cX0_noteInOrder 11 = .ok (.getfield 21, 3) := by decide +kernel
theorem dX0_noteInOrder_14 : decode cX0_noteInOrder 14 = .ok (.aload_n 0, 1) := by decide +kernel
theorem dX0_noteInOrder_15 : decode cX0_noteInOrder 15 = .ok (.getfield 176, 3) := by decide +kernel
theorem dX0_noteInOrder_18 : decode cX0_noteInOrder 18 = .ok (.aload_n 1, 1) := by decide +kernel
theorem dX0_noteInOrder_19 : decode cX0_noteInOrder 19 = .ok (.getfield 63, 3) := by decide +kernel
theorem dX0_noteInOrder_22 : decode cX0_noteInOrder 22 = .ok (.iastore, 1) := by decide +kernel
theorem dX0_noteInOrder_23 : decode cX0_noteInOrder 23 = .ok (.aload_n 0, 1) := by decide +kernel
theorem dX0_noteInOrder_24 : decode cX0_noteInOrder 24 = .ok (.dup, 1) := by decide +kernel
theorem dX0_noteInOrder_25 : decode cX0_noteInOrder 25 = .ok (.getfield 176, 3) := by decide +kernel
theorem dX0_noteInOrder_28 : decode cX0_noteInOrder 28 = .ok (.iconst 1, 1) := by decide +kernel
theorem dX0_noteInOrder_29 : decode cX0_noteInOrder 29 = .ok (.iadd, 1) := by decide +kernel
theorem dX0_noteInOrder_30 : decode cX0_noteInOrder 30 = .ok (.putfield 176, 3) := by decide +kernel
theorem dX0_noteInOrder_33 : decode cX0_noteInOrder 33 = .ok (.return_, 1) := by decide +kernel
theorem dX0_print_0 : decode cX0_print 0 = .ok (.aload_n 0, 1) := by decide +kernel
theorem dX0_print_1 : decode cX0_print 1 = .ok (.iload_n 1, 1) := by decide +kernel
theorem dX0_print_2 : decode cX0_print 2 = .ok (.invokevirtual 121, 3) := by decide +kernel
theorem dX0_print_5 : decode cX0_print 5 = .ok (.astore_n 3, 1) := by decide +kernel
theorem dX0_print_6 : decode cX0_print 6 = .ok (.aload_n 3, 1) := by decide +kernel
theorem dX0_print_7 : decode cX0_print 7 = .ok (.ifnull 7, 3) := by decide +kernel
theorem dX0_print_10 : decode cX0_print 10 = .ok (.iload_n 2, 1) := by decide +kernel
theorem dX0_print_11 : decode cX0_print 11 = .ok (.ifCond .ge 5, 3) := by decide +kernel
theorem dX0_print_14 : decode cX0_print 14 = .ok (.iconst (-1), 1) := by decide +kernel
theorem dX0_print_15 : decode cX0_print 15 = .ok (.ireturn, 1) := by decide +kernel
theorem dX0_print_16 : decode cX0_print 16 = .ok (.aload_n 3, 1) := by decide +kernel
theorem dX0_print_17 : decode cX0_print 17 = .ok (.getfield 125, 3) := by decide +kernel
theorem dX0_print_20 : decode cX0_print 20 = .ok (.astore 4, 2) := by decide +kernel
theorem dX0_print_22 : decode cX0_print 22 = .ok (.aload 4, 2) := by decide +kernel
theorem dX0_print_24 : decode cX0_print 24 = .ok (.ifnonnull 6, 3) := by decide +kernel
theorem dX0_print_27 : decode cX0_print 27 = .ok (.bipush (-2), 2) := by decide +kernel
theorem dX0_print_29 : decode cX0_print 29 = .ok (.ireturn, 1) := by decide +kernel
theorem dX0_print_30 : decode cX0_print 30 = .ok (.iload_n 2, 1) := by decide +kernel
theorem dX0_print_31 : decode cX0_print 31 = .ok (.aload 4, 2) := by decide +kernel
theorem dX0_print_33 : decode cX0_print 33 = .ok (.invokevirtual 133, 3) := by decide +kernel
theorem dX0_print_36 : decode cX0_print 36 = .ok (.invokestatic 32, 3) := by decide +kernel
theorem dX0_print_39 : decode cX0_print 39 = .ok (.istore 5, 2) := by decide +kernel
theorem dX0_print_41 : decode cX0_print 41 = .ok (.aload 4, 2) := by decide +kernel
theorem dX0_print_43 : decode cX0_print 43 = .ok (.dup, 1) := by decide +kernel
theorem dX0_print_44 : decode cX0_print 44 = .ok (.getfield 137, 3) := by decide +kernel
theorem dX0_print_47 : decode cX0_print 47 = .ok (.iload 5, 2) := by decide +kernel
theorem dX0_print_49 : decode cX0_print 49 = .ok (.iadd, 1) := by decide +kernel
theorem dX0_print_50 : decode cX0_print 50 = .ok (.putfield 137, 3) := by decide +kernel
theorem dX0_print_53 : decode cX0_print 53 = .ok (.aload_n 0, 1) := by decide +kernel
theorem dX0_print_54 : decode cX0_print 54 = .ok (.dup, 1) := by decide +kernel
theorem dX0_print_55 : decode cX0_print 55 = .ok (.getfield 140, 3) := by decide +kernel
theorem dX0_print_58 : decode cX0_print 58 = .ok (.iload 5, 2) := by decide +kernel
theorem dX0_print_60 : decode cX0_print 60 = .ok (.iadd, 1) := by decide +kernel
theorem dX0_print_61 : decode cX0_print 61 = .ok (.putfield 140, 3) := by decide +kernel
theorem dX0_print_64 : decode cX0_print 64 = .ok (.aload 4, 2) := by decide +kernel
theorem dX0_print_66 : decode cX0_print 66 = .ok (.invokevirtual 133, 3) := by decide +kernel
theorem dX0_print_69 : decode cX0_print 69 = .ok (.ifCond .ne 21, 3) := by decide +kernel
theorem dX0_print_72 : decode cX0_print 72 = .ok (.aload_n 3, 1) := by decide +kernel
theorem dX0_print_73 : decode cX0_print 73 = .ok (.aconst_null, 1) := by decide +kernel
theorem dX0_print_74 : decode cX0_print 74 = .ok (.putfield 125, 3) := by decide +kernel
theorem dX0_print_77 : decode cX0_print 77 = .ok (.aload_n 0, 1) := by decide +kernel
theorem dX0_print_78 : decode cX0_print 78 = .ok (.aload 4, 2) := by decide +kernel
theorem dX0_print_80 : decode cX0_print 80 = .ok (.invokevirtual 143, 3) := by decide +kernel
theorem dX0_print_83 : decode cX0_print 83 = .ok (.aload_n 0, 1) := by decide +kernel
theorem dX0_print_84 : decode cX0_print 84 = .ok (.aload 4, 2) := by decide +kernel
theorem dX0_print_86 : decode cX0_print 86 = .ok (.iconst 4, 1) := by decide +kernel
theorem dX0_print_87 : decode cX0_print 87 = .ok (.invokevirtual 146, 3) := by decide +kernel
theorem dX0_print_90 : decode cX0_print 90 = .ok (.iload 5, 2) := by decide +kernel
theorem dX0_print_92 : decode cX0_print 92 = .ok (.ireturn, 1) := by decide +kernel
theorem dX0_cut_0 : decode cX0_cut 0 = .ok (.aload_n 0, 1) := by decide +kernel
theorem dX0_cut_1 : decode cX0_cut 1 = .ok (.iload_n 1, 1) := by decide +kernel
theorem dX0_cut_2 : decode cX0_cut 2 = .ok (.invokevirtual 121, 3) := by decide +kernel
theorem dX0_cut_5 : decode cX0_cut 5 = .ok (.astore_n 2, 1) := by decide +kernel
theorem dX0_cut_6 : decode cX0_cut 6 = .ok (.aload_n 2, 1) := by decide +kernel
theorem dX0_cut_7 : decode cX0_cut 7 = .ok (.ifnonnull 5, 3) := by decide +kernel
theorem dX0_cut_10 : decode cX0_cut 10 = .ok (.iconst (-1), 1) := by decide +kernel
theorem dX0_cut_11 : decode cX0_cut 11 = .ok (.ireturn, 1) := by decide +kernel
theorem dX0_cut_12 : decode cX0_cut 12 = .ok (.aload_n 2, 1) := by decide +kernel
theorem dX0_cut_13 : decode cX0_cut 13 = .ok (.getfield 125, 3) := by decide +kernel
theorem dX0_cut_16 : decode cX0_cut 16 = .ok (.astore_n 3, 1) := by decide +kernel
theorem dX0_cut_17 : decode cX0_cut 17 = .ok (.aload_n 3, 1) := by decide +kernel
theorem dX0_cut_18 : decode cX0_cut 18 = .ok (.ifnonnull 6, 3) := by decide +kernel
theorem dX0_cut_21 : decode cX0_cut 21 = .ok (.bipush (-2), 2) := by decide +kernel
theorem dX0_cut_23 : decode cX0_cut 23 = .ok (.ireturn, 1) := by decide +kernel
theorem dX0_cut_24 : decode cX0_cut 24 = .ok (.aload_n 3, 1) := by decide +kernel
theorem dX0_cut_25 : decode cX0_cut 25 = .ok (.invokevirtual 149, 3) := by decide +kernel
theorem dX0_cut_28 : decode cX0_cut 28 = .ok (.istore 4, 2) := by decide +kernel
theorem dX0_cut_30 : decode cX0_cut 30 = .ok (.aload_n 3, 1) := by decide +kernel
theorem dX0_cut_31 : decode cX0_cut 31 = .ok (.getfield 152, 3) := by decide +kernel
theorem dX0_cut_34 : decode cX0_cut 34 = .ok (.ifCond .eq 17, 3) := by decide +kernel
theorem dX0_cut_37 : decode cX0_cut 37 = .ok (.aload_n 2, 1) := by decide +kernel
theorem dX0_cut_38 : decode cX0_cut 38 = .ok (.aconst_null, 1) := by decide +kernel
theorem dX0_cut_39 : decode cX0_cut 39 = .ok (.putfield 125, 3) := by decide +kernel
theorem dX0_cut_42 : decode cX0_cut 42 = .ok (.aload_n 0, 1) := by decide +kernel
theorem dX0_cut_43 : decode cX0_cut 43 = .ok (.aload_n 3, 1) := by decide +kernel
theorem dX0_cut_44 : decode cX0_cut 44 = .ok (.iconst 5, 1) := by decide +kernel
theorem dX0_cut_45 : decode cX0_cut 45 = .ok (.invokevirtual 146, 3) := by decide +kernel
theorem dX0_cut_48 : decode cX0_cut 48 = .ok (.goto 25, 3) := by decide +kernel
theorem dX0_cut_51 : decode cX0_cut 51 = .ok (.aload_n 0, 1) := by decide +kernel
theorem dX0_cut_52 : decode cX0_cut 52 = .ok (.dup, 1) := by decide +kernel
theorem dX0_cut_53 : decode cX0_cut 53 = .ok (.getfield 155, 3) := by decide +kernel
theorem dX0_cut_56 : decode cX0_cut 56 = .ok (.aload_n 3, 1) := by decide +kernel
theorem dX0_cut_57 : decode cX0_cut 57 = .ok (.getfield 137, 3) := by decide +kernel
theorem dX0_cut_60 : decode cX0_cut 60 = .ok (.iload 4, 2) := by decide +kernel
theorem dX0_cut_62 : decode cX0_cut 62 = .ok (.isub, 1) := by decide +kernel
theorem dX0_cut_63 : decode cX0_cut 63 = .ok (.iadd, 1) := by decide +kernel
theorem dX0_cut_64 : decode cX0_cut 64 = .ok (.putfield 155, 3) := by decide +kernel
theorem dX0_cut_67 : decode cX0_cut 67 = .ok (.aload_n 3, 1) := by decide +kernel
theorem dX0_cut_68 : decode cX0_cut 68 = .ok (.iload 4, 2) := by decide +kernel
theorem dX0_cut_70 : decode cX0_cut 70 = .ok (.putfield 137, 3) := by decide +kernel
theorem dX0_cut_73 : decode cX0_cut 73 = .ok (.iload 4, 2) := by decide +kernel
theorem dX0_cut_75 : decode cX0_cut 75 = .ok (.ireturn, 1) := by decide +kernel
theorem dX0_purge_0 : decode cX0_purge 0 = .ok (.aload_n 0, 1) := by decide +kernel
theorem dX0_purge_1 : decode cX0_purge 1 = .ok (.iload_n 1, 1) := by decide +kernel
theorem dX0_purge_2 : decode cX0_purge 2 = .ok (.invokevirtual 66, 3) := by decide +kernel
theorem dX0_purge_5 : decode cX0_purge 5 = .ok (.astore_n 2, 1) := by decide +kernel
theorem dX0_purge_6 : decode cX0_purge 6 = .ok (.aload_n 2, 1) := by decide +kernel
theorem dX0_purge_7 : decode cX0_purge 7 = .ok (.ifnonnull 5, 3) := by decide +kernel
theorem dX0_purge_10 : decode cX0_purge 10 = .ok (.iconst (-1), 1) := by decide +kernel
theorem dX0_purge_11 : decode cX0_purge 11 = .ok (.ireturn, 1) := by decide +kernel
theorem dX0_purge_12 : decode cX0_purge 12 = .ok (.aload_n 2, 1) := by decide +kernel
theorem dX0_purge_13 : decode cX0_purge 13 = .ok (.invokevirtual 90, 3) := by decide +kernel
theorem dX0_purge_16 : decode cX0_purge 16 = .ok (.ifCond .eq 6, 3) := by decide +kernel
theorem dX0_purge_19 : decode cX0_purge 19 = .ok (.bipush (-2), 2) := by decide +kernel
theorem dX0_purge_21 : decode cX0_purge 21 = .ok (.ireturn, 1) := by decide +kernel
theorem dX0_purge_22 : decode cX0_purge 22 = .ok (.aload_n 2, 1) := by decide +kernel
theorem dX0_purge_23 : decode cX0_purge 23 = .ok (.getfield 71, 3) := by decide +kernel
theorem dX0_purge_26 : decode cX0_purge 26 = .ok (.iconst 3, 1) := by decide +kernel
theorem dX0_purge_27 : decode cX0_purge 27 = .ok (.if_icmp .ne 10, 3) := by decide +kernel
theorem dX0_purge_30 : decode cX0_purge 30 = .ok (.aload_n 2, 1) := by decide +kernel
theorem dX0_purge_31 : decode cX0_purge 31 = .ok (.iconst 1, 1) := by decide +kernel
theorem dX0_purge_32 : decode cX0_purge 32 = .ok (.putfield 152, 3) := by decide +kernel
theorem dX0_purge_35 : decode cX0_purge 35 = .ok (.iconst 0, 1) := by decide +kernel
theorem dX0_purge_36 : decode cX0_purge 36 = .ok (.ireturn, 1) := by decide +kernel
theorem dX0_purge_37 : decode cX0_purge 37 = .ok (.aload_n 0, 1) := by decide +kernel
theorem dX0_purge_38 : decode cX0_purge 38 = .ok (.aload_n 2, 1) := by decide +kernel
theorem dX0_purge_39 : decode cX0_purge 39 = .ok (.iconst 5, 1) := by decide +kernel
theorem dX0_purge_40 : decode cX0_purge 40 = .ok (.invokevirtual 146, 3) := by decide +kernel
theorem dX0_purge_43 : decode cX0_purge 43 = .ok (.iconst 1, 1) := by decide +kernel
theorem dX0_purge_44 : decode cX0_purge 44 = .ok (.ireturn, 1) := by decide +kernel
theorem dX0_hold_0 : decode cX0_hold 0 = .ok (.aload_n 0, 1) := by decide +kernel
theorem dX0_hold_1 : decode cX0_hold 1 = .ok (.iload_n 1, 1) := by decide +kernel
theorem dX0_hold_2 : decode cX0_hold 2 = .ok (.invokevirtual 66, 3) := by decide +kernel
theorem dX0_hold_5 : decode cX0_hold 5 = .ok (.astore_n 3, 1) := by decide +kernel
theorem dX0_hold_6 : decode cX0_hold 6 = .ok (.aload_n 3, 1) := by decide +kernel
theorem dX0_hold_7 : decode cX0_hold 7 = .ok (.ifnonnull 5, 3) := by decide +kernel
theorem dX0_hold_10 : decode cX0_hold 10 = .ok (.iconst (-1), 1) := by decide +kernel
theorem dX0_hold_11 : decode cX0_hold 11 = .ok (.ireturn, 1) := by decide +kernel
theorem dX0_hold_12 : decode cX0_hold 12 = .ok (.aload_n 3, 1) := by decide +kernel
theorem dX0_hold_13 : decode cX0_hold 13 = .ok (.invokevirtual 158, 3) := by decide +kernel
theorem dX0_hold_16 : decode cX0_hold 16 = .ok (.ifCond .ne 6, 3) := by decide +kernel
theorem dX0_hold_19 : decode cX0_hold 19 = .ok (.bipush (-2), 2) := by decide +kernel
theorem dX0_hold_21 : decode cX0_hold 21 = .ok (.ireturn, 1) := by decide +kernel
theorem dX0_hold_22 : decode cX0_hold 22 = .ok (.aload_n 3, 1) := by decide +kernel
theorem dX0_hold_23 : decode cX0_hold 23 = .ok (.getfield 161, 3) := by decide +kernel
theorem dX0_hold_26 : decode cX0_hold 26 = .ok (.ifCond .eq 7, 3) := by decide +kernel
theorem dX0_hold_29 : decode cX0_hold 29 = .ok (.iconst 1, 1) := by decide +kernel
theorem dX0_hold_30 : decode cX0_hold 30 = .ok (.goto 4, 3) := by decide +kernel
theorem dX0_hold_33 : decode cX0_hold 33 = .ok (.iconst 0, 1) := by decide +kernel
theorem dX0_hold_34 : decode cX0_hold 34 = .ok (.istore 4, 2) := by decide +kernel
theorem dX0_hold_36 : decode cX0_hold 36 = .ok (.aload_n 3, 1) := by decide +kernel
theorem dX0_hold_37 : decode cX0_hold 37 = .ok (.iload_n 2, 1) := by decide +kernel
theorem dX0_hold_38 : decode cX0_hold 38 = .ok (.putfield 161, 3) := by decide +kernel
theorem dX0_hold_41 : decode cX0_hold 41 = .ok (.iload 4, 2) := by decide +kernel
theorem dX0_hold_43 : decode cX0_hold 43 = .ok (.ireturn, 1) := by decide +kernel
theorem dX0_route_0 : decode cX0_route 0 = .ok (.aload_n 0, 1) := by decide +kernel
theorem dX0_route_1 : decode cX0_route 1 = .ok (.iload_n 1, 1) := by decide +kernel
theorem dX0_route_2 : decode cX0_route 2 = .ok (.invokevirtual 66, 3) := by decide +kernel
theorem dX0_route_5 : decode cX0_route 5 = .ok (.astore_n 3, 1) := by decide +kernel
theorem dX0_route_6 : decode cX0_route 6 = .ok (.aload_n 3, 1) := by decide +kernel
theorem dX0_route_7 : decode cX0_route 7 = .ok (.ifnull 13, 3) := by decide +kernel
theorem dX0_route_10 : decode cX0_route 10 = .ok (.iload_n 2, 1) := by decide +kernel
theorem dX0_route_11 : decode cX0_route 11 = .ok (.iconst 0, 1) := by decide +kernel
theorem dX0_route_12 : decode cX0_route 12 = .ok (.bipush 63, 2) := by decide +kernel
theorem dX0_route_14 : decode cX0_route 14 = .ok (.invokestatic 48, 3) := by decide +kernel
theorem dX0_route_17 : decode cX0_route 17 = .ok (.ifCond .ne 5, 3) := by decide +kernel
theorem dX0_route_20 : decode cX0_route 20 = .ok (.iconst (-1), 1) := by decide +kernel
theorem dX0_route_21 : decode cX0_route 21 = .ok (.ireturn, 1) := by decide +kernel
theorem dX0_route_22 : decode cX0_route 22 = .ok (.aload_n 3, 1) := by decide +kernel
theorem dX0_route_23 : decode cX0_route 23 = .ok (.invokevirtual 158, 3) := by decide +kernel
theorem dX0_route_26 : decode cX0_route 26 = .ok (.ifCond .ne 6, 3) := by decide +kernel
theorem dX0_route_29 : decode cX0_route 29 = .ok (.bipush (-2), 2) := by decide +kernel
theorem dX0_route_31 : decode cX0_route 31 = .ok (.ireturn, 1) := by decide +kernel
theorem dX0_route_32 : decode cX0_route 32 = .ok (.aload_n 3, 1) := by decide +kernel
theorem dX0_route_33 : decode cX0_route 33 = .ok (.getfield 164, 3) := by decide +kernel
theorem dX0_route_36 : decode cX0_route 36 = .ok (.bipush 8, 2) := by decide +kernel
theorem dX0_route_38 : decode cX0_route 38 = .ok (.imul, 1) := by decide +kernel
theorem dX0_route_39 : decode cX0_route 39 = .ok (.aload_n 3, 1) := by decide +kernel
theorem dX0_route_40 : decode cX0_route 40 = .ok (.getfield 167, 3) := by decide +kernel
theorem dX0_route_43 : decode cX0_route 43 = .ok (.iadd, 1) := by decide +kernel
theorem dX0_route_44 : decode cX0_route 44 = .ok (.istore 4, 2) := by decide +kernel
theorem dX0_route_46 : decode cX0_route 46 = .ok (.aload_n 3, 1) := by decide +kernel
theorem dX0_route_47 : decode cX0_route 47 = .ok (.iload_n 2, 1) := by decide +kernel
theorem dX0_route_48 : decode cX0_route 48 = .ok (.bipush 8, 2) := by decide +kernel
theorem dX0_route_50 : decode cX0_route 50 = .ok (.idiv, 1) := by decide +kernel
theorem dX0_route_51 : decode cX0_route 51 = .ok (.putfield 164, 3) := by decide +kernel
theorem dX0_route_54 : decode cX0_route 54 = .ok (.aload_n 3, 1) := by decide +kernel
theorem dX0_route_55 : decode cX0_route 55 = .ok (.iload_n 2, 1) := by decide +kernel
theorem dX0_route_56 : decode cX0_route 56 = .ok (.bipush 8, 2) := by decide +kernel
theorem dX0_route_58 : decode cX0_route 58 = .ok (.irem, 1) := by decide +kernel
theorem dX0_route_59 : decode cX0_route 59 = .ok (.putfield 167, 3) := by decide +kernel
theorem dX0_route_62 : decode cX0_route 62 = .ok (.iload 4, 2) := by decide +kernel
theorem dX0_route_64 : decode cX0_route 64 = .ok (.ireturn, 1) := by decide +kernel
theorem dX0_isThere_0 : decode cX0_isThere 0 = .ok (.aload_n 0, 1) := by decide +kernel
theorem dX0_isThere_1 : decode cX0_isThere 1 = .ok (.iload_n 1, 1) := by decide +kernel
theorem dX0_isThere_2 : decode cX0_isThere 2 = .ok (.invokevirtual 66, 3) := by decide +kernel
theorem dX0_isThere_5 : decode cX0_isThere 5 = .ok (.astore_n 2, 1) := by decide +kernel
theorem dX0_isThere_6 : decode cX0_isThere 6 = .ok (.aload_n 2, 1) := by decide +kernel
theorem dX0_isThere_7 : decode cX0_isThere 7 = .ok (.ifnull 14, 3) := by decide +kernel
theorem dX0_isThere_10 : decode cX0_isThere 10 = .ok (.aload_n 2, 1) := by decide +kernel
theorem dX0_isThere_11 : decode cX0_isThere 11 = .ok (.invokevirtual 90, 3) := by decide +kernel
theorem dX0_isThere_14 : decode cX0_isThere 14 = .ok (.ifCond .ne 7, 3) := by decide +kernel
theorem dX0_isThere_17 : decode cX0_isThere 17 = .ok (.iconst 1, 1) := by decide +kernel
theorem dX0_isThere_18 : decode cX0_isThere 18 = .ok (.goto 4, 3) := by decide +kernel
theorem dX0_isThere_21 : decode cX0_isThere 21 = .ok (.iconst 0, 1) := by decide +kernel
theorem dX0_isThere_22 : decode cX0_isThere 22 = .ok (.ireturn, 1) := by decide +kernel
theorem dX0_search_0 : decode cX0_search 0 = .ok (.iload_n 1, 1) := by decide +kernel
theorem dX0_search_1 : decode cX0_search 1 = .ok (.iconst 0, 1) := by decide +kernel
theorem dX0_search_2 : decode cX0_search 2 = .ok (.sipush 255, 3) := by decide +kernel
theorem dX0_search_5 : decode cX0_search 5 = .ok (.invokestatic 48, 3) := by decide +kernel
theorem dX0_search_8 : decode cX0_search 8 = .ok (.ifCond .ne 5, 3) := by decide +kernel
theorem dX0_search_11 : decode cX0_search 11 = .ok (.iconst (-1), 1) := by decide +kernel
theorem dX0_search_12 : decode cX0_search 12 = .ok (.ireturn, 1) := by decide +kernel
theorem dX0_search_13 : decode cX0_search 13 = .ok (.iconst 0, 1) := by decide +kernel
theorem dX0_search_14 : decode cX0_search 14 = .ok (.istore_n 2, 1) := by decide +kernel
theorem dX0_search_15 : decode cX0_search 15 = .ok (.iconst 0, 1) := by decide +kernel
theorem dX0_search_16 : decode cX0_search 16 = .ok (.istore_n 3, 1) := by decide +kernel
theorem dX0_search_17 : decode cX0_search 17 = .ok (.iload_n 3, 1) := by decide +kernel
theorem dX0_search_18 : decode cX0_search 18 = .ok (.aload_n 0, 1) := by decide +kernel
theorem dX0_search_19 : decode cX0_search 19 = .ok (.getfield 170, 3) := by decide +kernel
theorem dX0_search_22 : decode cX0_search 22 = .ok (.if_icmp .ge 35, 3) := by decide +kernel
theorem dX0_search_25 : decode cX0_search 25 = .ok (.aload_n 0, 1) := by decide +kernel
theorem dX0_search_26 : decode cX0_search 26 = .ok (.getfield 25, 3) := by decide +kernel
theorem dX0_search_29 : decode cX0_search 29 = .ok (.iload_n 3, 1) := by decide +kernel
theorem dX0_search_30 : decode cX0_search 30 = .ok (.iaload, 1) := by decide +kernel
theorem dX0_search_31 : decode cX0_search 31 = .ok (.iload_n 1, 1) := by decide +kernel
theorem dX0_search_32 : decode cX0_search 32 = .ok (.if_icmp .ne 19, 3) := by decide +kernel
theorem dX0_search_35 : decode cX0_search 35 = .ok (.aload_n 0, 1) := by decide +kernel
theorem dX0_search_36 : decode cX0_search 36 = .ok (.aload_n 0, 1) := by decide +kernel
theorem dX0_search_37 : decode cX0_search 37 = .ok (.getfield 28, 3) := by decide +kernel
theorem dX0_search_40 : decode cX0_search 40 = .ok (.iload_n 3, 1) := by decide +kernel
theorem dX0_search_41 : decode cX0_search 41 = .ok (.iaload, 1) := by decide +kernel
theorem dX0_search_42 : decode cX0_search 42 = .ok (.invokevirtual 173, 3) := by decide +kernel
theorem dX0_search_45 : decode cX0_search 45 = .ok (.ifCond .eq 6, 3) := by decide +kernel
theorem dX0_search_48 : decode cX0_search 48 = .ok (.iinc 2 1, 3) := by decide +kernel
theorem dX0_search_51 : decode cX0_search 51 = .ok (.iinc 3 1, 3) := by decide +kernel
theorem dX0_search_54 : decode cX0_search 54 = .ok (.goto (-37), 3) := by decide +kernel
theorem dX0_search_57 : decode cX0_search 57 = .ok (.iload_n 2, 1) := by decide +kernel
theorem dX0_search_58 : decode cX0_search 58 = .ok (.ireturn, 1) := by decide +kernel
theorem dX0_order_0 : decode cX0_order 0 = .ok (.iload_n 1, 1) := by decide +kernel
theorem dX0_order_1 : decode cX0_order 1 = .ok (.iconst 0, 1) := by decide +kernel
theorem dX0_order_2 : decode cX0_order 2 = .ok (.aload_n 0, 1) := by decide +kernel
theorem dX0_order_3 : decode cX0_order 3 = .ok (.getfield 176, 3) := by decide +kernel
theorem dX0_order_6 : decode cX0_order 6 = .ok (.iconst 1, 1) := by decide +kernel
theorem dX0_order_7 : decode cX0_order 7 = .ok (.isub, 1) := by decide +kernel
theorem dX0_order_8 : decode cX0_order 8 = .ok (.invokestatic 48, 3) := by decide +kernel
theorem dX0_order_11 : decode cX0_order 11 = .ok (.ifCond .eq 12, 3) := by decide +kernel
theorem dX0_order_14 : decode cX0_order 14 = .ok (.aload_n 0, 1) := by decide +kernel
theorem dX0_order_15 : decode cX0_order 15 = .ok (.getfield 21, 3) := by decide +kernel
theorem dX0_order_18 : decode cX0_order 18 = .ok (.iload_n 1, 1) := by decide +kernel
theorem dX0_order_19 : decode cX0_order 19 = .ok (.iaload, 1) := by decide +kernel
theorem dX0_order_20 : decode cX0_order 20 = .ok (.goto 4, 3) := by decide +kernel
theorem dX0_order_23 : decode cX0_order 23 = .ok (.iconst 0, 1) := by decide +kernel
theorem dX0_order_24 : decode cX0_order 24 = .ok (.ireturn, 1) := by decide +kernel
theorem dX0_state_0 : decode cX0_state 0 = .ok (.aload_n 0, 1) := by decide +kernel
theorem dX0_state_1 : decode cX0_state 1 = .ok (.iload_n 1, 1) := by decide +kernel
theorem dX0_state_2 : decode cX0_state 2 = .ok (.invokevirtual 66, 3) := by decide +kernel
theorem dX0_state_5 : decode cX0_state 5 = .ok (.astore_n 3, 1) := by decide +kernel
theorem dX0_state_6 : decode cX0_state 6 = .ok (.aload_n 3, 1) := by decide +kernel
theorem dX0_state_7 : decode cX0_state 7 = .ok (.ifnonnull 5, 3) := by decide +kernel
theorem dX0_state_10 : decode cX0_state 10 = .ok (.iconst (-1), 1) := by decide +kernel
theorem dX0_state_11 : decode cX0_state 11 = .ok (.ireturn, 1) := by decide +kernel
theorem dX0_state_12 : decode cX0_state 12 = .ok (.iload_n 2, 1) := by decide +kernel
theorem dX0_state_13 : decode cX0_state 13 = .ok (.tableswitch 86 0 5 #[39, 61, 66, 71, 76, 81], 39) := by decide +kernel
theorem dX0_state_52 : decode cX0_state 52 = .ok (.aload_n 3, 1) := by decide +kernel
theorem dX0_state_53 : decode cX0_state 53 = .ok (.getfield 161, 3) := by decide +kernel
theorem dX0_state_56 : decode cX0_state 56 = .ok (.ifCond .eq 13, 3) := by decide +kernel
theorem dX0_state_59 : decode cX0_state 59 = .ok (.aload_n 3, 1) := by decide +kernel
theorem dX0_state_60 : decode cX0_state 60 = .ok (.getfield 71, 3) := by decide +kernel
theorem dX0_state_63 : decode cX0_state 63 = .ok (.bipush 6, 2) := by decide +kernel
theorem dX0_state_65 : decode cX0_state 65 = .ok (.iadd, 1) := by decide +kernel
theorem dX0_state_66 : decode cX0_state 66 = .ok (.goto 7, 3) := by decide +kernel
theorem dX0_state_69 : decode cX0_state 69 = .ok (.aload_n 3, 1) := by decide +kernel
theorem dX0_state_70 : decode cX0_state 70 = .ok (.getfield 71, 3) := by decide +kernel
theorem dX0_state_73 : decode cX0_state 73 = .ok (.ireturn, 1) := by decide +kernel
theorem dX0_state_74 : decode cX0_state 74 = .ok (.aload_n 3, 1) := by decide +kernel
theorem dX0_state_75 : decode cX0_state 75 = .ok (.getfield 103, 3) := by decide +kernel
theorem dX0_state_78 : decode cX0_state 78 = .ok (.ireturn, 1) := by decide +kernel
theorem dX0_state_79 : decode cX0_state 79 = .ok (.aload_n 3, 1) := by decide +kernel
theorem dX0_state_80 : decode cX0_state 80 = .ok (.invokevirtual 179, 3) := by decide +kernel
theorem dX0_state_83 : decode cX0_state 83 = .ok (.ireturn, 1) := by decide +kernel
theorem dX0_state_84 : decode cX0_state 84 = .ok (.aload_n 3, 1) := by decide +kernel
theorem dX0_state_85 : decode cX0_state 85 = .ok (.getfield 137, 3) := by decide +kernel
theorem dX0_state_88 : decode cX0_state 88 = .ok (.ireturn, 1) := by decide +kernel
theorem dX0_state_89 : decode cX0_state 89 = .ok (.aload_n 3, 1) := by decide +kernel
theorem dX0_state_90 : decode cX0_state 90 = .ok (.getfield 96, 3) := by decide +kernel
theorem dX0_state_93 : decode cX0_state 93 = .ok (.ireturn, 1) := by decide +kernel
theorem dX0_state_94 : decode cX0_state 94 = .ok (.aload_n 3, 1) := by decide +kernel
theorem dX0_state_95 : decode cX0_state 95 = .ok (.invokevirtual 182, 3) := by decide +kernel
theorem dX0_state_98 : decode cX0_state 98 = .ok (.ireturn, 1) := by decide +kernel
theorem dX0_state_99 : decode cX0_state 99 = .ok (.iconst (-1), 1) := by decide +kernel
theorem dX0_state_100 : decode cX0_state 100 = .ok (.ireturn, 1) := by decide +kernel
theorem dX0_outputsThere_0 : decode cX0_outputsThere 0 = .ok (.iconst 0, 1) := by decide +kernel
theorem dX0_outputsThere_1 : decode cX0_outputsThere 1 = .ok (.istore_n 1, 1) := by decide +kernel
theorem dX0_outputsThere_2 : decode cX0_outputsThere 2 = .ok (.iconst 0, 1) := by decide +kernel
theorem dX0_outputsThere_3 : decode cX0_outputsThere 3 = .ok (.istore_n 2, 1) := by decide +kernel
theorem dX0_outputsThere_4 : decode cX0_outputsThere 4 = .ok (.iload_n 2, 1) := by decide +kernel
theorem dX0_outputsThere_5 : decode cX0_outputsThere 5 = .ok (.aload_n 0, 1) := by decide +kernel
theorem dX0_outputsThere_6 : decode cX0_outputsThere 6 = .ok (.getfield 52, 3) := by decide +kernel
theorem dX0_outputsThere_9 : decode cX0_outputsThere 9 = .ok (.if_icmp .ge 24, 3) := by decide +kernel
theorem dX0_outputsThere_12 : decode cX0_outputsThere 12 = .ok (.aload_n 0, 1) := by decide +kernel
theorem dX0_outputsThere_13 : decode cX0_outputsThere 13 = .ok (.getfield 11, 3) := by decide +kernel
theorem dX0_outputsThere_16 : decode cX0_outputsThere 16 = .ok (.iload_n 2, 1) := by decide +kernel
theorem dX0_outputsThere_17 : decode cX0_outputsThere 17 = .ok (.aaload, 1) := by decide +kernel
theorem dX0_outputsThere_18 : decode cX0_outputsThere 18 = .ok (.invokevirtual 90, 3) := by decide +kernel
theorem dX0_outputsThere_21 : decode cX0_outputsThere 21 = .ok (.ifCond .ne 6, 3) := by decide +kernel
theorem dX0_outputsThere_24 : decode cX0_outputsThere 24 = .ok (.iinc 1 1, 3) := by decide +kernel
theorem dX0_outputsThere_27 : decode cX0_outputsThere 27 = .ok (.iinc 2 1, 3) := by decide +kernel
theorem dX0_outputsThere_30 : decode cX0_outputsThere 30 = .ok (.goto (-26), 3) := by decide +kernel
theorem dX0_outputsThere_33 : decode cX0_outputsThere 33 = .ok (.iload_n 1, 1) := by decide +kernel
theorem dX0_outputsThere_34 : decode cX0_outputsThere 34 = .ok (.ireturn, 1) := by decide +kernel
theorem dX0_count_0 : decode cX0_count 0 = .ok (.iload_n 1, 1) := by decide +kernel
theorem dX0_count_1 : decode cX0_count 1 = .ok (.tableswitch 60 0 4 #[35, 40, 45, 50, 55], 35) := by decide +kernel
theorem dX0_count_36 : decode cX0_count 36 = .ok (.aload_n 0, 1) := by decide +kernel
theorem dX0_count_37 : decode cX0_count 37 = .ok (.getfield 41, 3) := by decide +kernel
theorem dX0_count_40 : decode cX0_count 40 = .ok (.ireturn, 1) := by decide +kernel
theorem dX0_count_41 : decode cX0_count 41 = .ok (.aload_n 0, 1) := by decide +kernel
theorem dX0_count_42 : decode cX0_count 42 = .ok (.invokevirtual 185, 3) := by decide +kernel
theorem dX0_count_45 : decode cX0_count 45 = .ok (.ireturn, 1) := by decide +kernel
theorem dX0_count_46 : decode cX0_count 46 = .ok (.aload_n 0, 1) := by decide +kernel
theorem dX0_count_47 : decode cX0_count 47 = .ok (.getfield 115, 3) := by decide +kernel
theorem dX0_count_50 : decode cX0_count 50 = .ok (.ireturn, 1) := by decide +kernel
theorem dX0_count_51 : decode cX0_count 51 = .ok (.aload_n 0, 1) := by decide +kernel
theorem dX0_count_52 : decode cX0_count 52 = .ok (.getfield 140, 3) := by decide +kernel
theorem dX0_count_55 : decode cX0_count 55 = .ok (.ireturn, 1) := by decide +kernel
theorem dX0_count_56 : decode cX0_count 56 = .ok (.aload_n 0, 1) := by decide +kernel
theorem dX0_count_57 : decode cX0_count 57 = .ok (.getfield 155, 3) := by decide +kernel
theorem dX0_count_60 : decode cX0_count 60 = .ok (.ireturn, 1) := by decide +kernel
theorem dX0_count_61 : decode cX0_count 61 = .ok (.iconst (-1), 1) := by decide +kernel
theorem dX0_count_62 : decode cX0_count 62 = .ok (.ireturn, 1) := by decide +kernel
end
section
theorem dX3_init_0 : decode cX3_init 0 = .ok (.aload_n 0, 1) := by decide +kernel
theorem dX3_init_1 : decode cX3_init 1 = .ok (.invokespecial 1, 3) := by decide +kernel
theorem dX3_init_4 : decode cX3_init 4 = .ok (.aload_n 0, 1) := by decide +kernel
theorem dX3_init_5 : decode cX3_init 5 = .ok (.sipush 1001, 3) := by decide +kernel
theorem dX3_init_8 : decode cX3_init 8 = .ok (.newarray .int, 2) := by decide +kernel
theorem dX3_init_10 : decode cX3_init 10 = .ok (.putfield 7, 3) := by decide +kernel
theorem dX3_init_13 : decode cX3_init 13 = .ok (.aload_n 0, 1) := by decide +kernel
theorem dX3_init_14 : decode cX3_init 14 = .ok (.sipush 1001, 3) := by decide +kernel
theorem dX3_init_17 : decode cX3_init 17 = .ok (.newarray .int, 2) := by decide +kernel
theorem dX3_init_19 : decode cX3_init 19 = .ok (.putfield 13, 3) := by decide +kernel
theorem dX3_init_22 : decode cX3_init 22 = .ok (.aload_n 0, 1) := by decide +kernel
theorem dX3_init_23 : decode cX3_init 23 = .ok (.sipush 1001, 3) := by decide +kernel
theorem dX3_init_26 : decode cX3_init 26 = .ok (.newarray .int, 2) := by decide +kernel
theorem dX3_init_28 : decode cX3_init 28 = .ok (.putfield 16, 3) := by decide +kernel
theorem dX3_init_31 : decode cX3_init 31 = .ok (.aload_n 0, 1) := by decide +kernel
theorem dX3_init_32 : decode cX3_init 32 = .ok (.sipush 1001, 3) := by decide +kernel
theorem dX3_init_35 : decode cX3_init 35 = .ok (.newarray .int, 2) := by decide +kernel
theorem dX3_init_37 : decode cX3_init 37 = .ok (.putfield 19, 3) := by decide +kernel
theorem dX3_init_40 : decode cX3_init 40 = .ok (.aload_n 0, 1) := by decide +kernel
theorem dX3_init_41 : decode cX3_init 41 = .ok (.sipush 1001, 3) := by decide +kernel
theorem dX3_init_44 : decode cX3_init 44 = .ok (.newarray .int, 2) := by decide +kernel
theorem dX3_init_46 : decode cX3_init 46 = .ok (.putfield 22, 3) := by decide +kernel
theorem dX3_init_49 : decode cX3_init 49 = .ok (.aload_n 0, 1) := by decide +kernel
theorem dX3_init_50 : decode cX3_init 50 = .ok (.sipush 1001, 3) := by decide +kernel
theorem dX3_init_53 : decode cX3_init 53 = .ok (.newarray .int, 2) := by decide +kernel
theorem dX3_init_55 : decode cX3_init 55 = .ok (.putfield 25, 3) := by decide +kernel
theorem dX3_init_58 : decode cX3_init 58 = .ok (.aload_n 0, 1) := by decide +kernel
theorem dX3_init_59 : decode cX3_init 59 = .ok (.sipush 1001, 3) := by decide +kernel
theorem dX3_init_62 : decode cX3_init 62 = .ok (.newarray .int, 2) := by decide +kernel
theorem dX3_init_64 : decode cX3_init 64 = .ok (.putfield 28, 3) := by decide +kernel
theorem dX3_init_67 : decode cX3_init 67 = .ok (.aload_n 0, 1) := by decide +kernel
theorem dX3_init_68 : decode cX3_init 68 = .ok (.sipush 1001, 3) := by decide +kernel
theorem dX3_init_71 : decode cX3_init 71 = .ok (.newarray .int, 2) := by decide +kernel
theorem dX3_init_73 : decode cX3_init 73 = .ok (.putfield 31, 3) := by decide +kernel
theorem dX3_init_76 : decode cX3_init 76 = .ok (.aload_n 0, 1) := by decide +kernel
theorem dX3_init_77 : decode cX3_init 77 = .ok (.sipush 1001, 3) := by decide +kernel
theorem dX3_init_80 : decode cX3_init 80 = .ok (.newarray .int, 2) := by decide +kernel
theorem dX3_init_82 : decode cX3_init 82 = .ok (.putfield 34, 3) := by decide +kernel
theorem dX3_init_85 : decode cX3_init 85 = .ok (.aload_n 0, 1) := by decide +kernel
theorem dX3_init_86 : decode cX3_init 86 = .ok (.sipush 1001, 3) := by decide +kernel
theorem dX3_init_89 : decode cX3_init 89 = .ok (.newarray .boolean, 2) := by decide +kernel
theorem dX3_init_91 : decode cX3_init 91 = .ok (.putfield 37, 3) := by decide +kernel
theorem dX3_init_94 : decode cX3_init 94 = .ok (.aload_n 0, 1) := by decide +kernel
theorem dX3_init_95 : decode cX3_init 95 = .ok (.sipush 1001, 3) := by decide +kernel
theorem dX3_init_98 : decode cX3_init 98 = .ok (.newarray .boolean, 2) := by decide +kernel
theorem dX3_init_100 : decode cX3_init 100 = .ok (.putfield 41, 3) := by decide +kernel
theorem dX3_init_103 : decode cX3_init 103 = .ok (.aload_n 0, 1) := by decide +kernel
theorem dX3_init_104 : decode cX3_init 104 = .ok (.sipush 1001, 3) := by decide +kernel
theorem dX3_init_107 : decode cX3_init 107 = .ok (.newarray .boolean, 2) := by decide +kernel
theorem dX3_init_109 : decode cX3_init 109 = .ok (.putfield 44, 3) := by decide +kernel
theorem dX3_init_112 : decode cX3_init 112 = .ok (.aload_n 0, 1) := by decide +kernel
theorem dX3_init_113 : decode cX3_init 113 = .ok (.sipush 1100, 3) := by decide +kernel
theorem dX3_init_116 : decode cX3_init 116 = .ok (.newarray .int, 2) := by decide +kernel
theorem dX3_init_118 : decode cX3_init 118 = .ok (.putfield 47, 3) := by decide +kernel
theorem dX3_init_121 : decode cX3_init 121 = .ok (.aload_n 0, 1) := by decide +kernel
theorem dX3_init_122 : decode cX3_init 122 = .ok (.sipush 1100, 3) := by decide +kernel
theorem dX3_init_125 : decode cX3_init 125 = .ok (.newarray .int, 2) := by decide +kernel
theorem dX3_init_127 : decode cX3_init 127 = .ok (.putfield 50, 3) := by decide +kernel
theorem dX3_init_130 : decode cX3_init 130 = .ok (.aload_n 0, 1) := by decide +kernel
theorem dX3_init_131 : decode cX3_init 131 = .ok (.bipush 10, 2) := by decide +kernel
theorem dX3_init_133 : decode cX3_init 133 = .ok (.newarray .int, 2) := by decide +kernel
theorem dX3_init_135 : decode cX3_init 135 = .ok (.putfield 53, 3) := by decide +kernel
theorem dX3_init_138 : decode cX3_init 138 = .ok (.aload_n 0, 1) := by decide +kernel
theorem dX3_init_139 : decode cX3_init 139 = .ok (.bipush 10, 2) := by decide +kernel
theorem dX3_init_141 : decode cX3_init 141 = .ok (.newarray .int, 2) := by decide +kernel
theorem dX3_init_143 : decode cX3_init 143 = .ok (.putfield 56, 3) := by decide +kernel
theorem dX3_init_146 : decode cX3_init 146 = .ok (.aload_n 0, 1) := by decide +kernel
theorem dX3_init_147 : decode cX3_init 147 = .ok (.sipush 1001, 3) := by decide +kernel
theorem dX3_init_150 : decode cX3_init 150 = .ok (.newarray .int, 2) := by decide +kernel
theorem dX3_init_152 : decode cX3_init 152 = .ok (.putfield 59, 3) := by decide +kernel
theorem dX3_init_155 : decode cX3_init 155 = .ok (.aload_n 0, 1) := by decide +kernel
theorem dX3_init_156 : decode cX3_init 156 = .ok (.iload_n 1, 1) := by decide +kernel
theorem dX3_init_157 : decode cX3_init 157 = .ok (.ifCond .ge 7, 3) := by decide +kernel
theorem dX3_init_160 : decode cX3_init 160 = .ok (.iconst 0, 1) := by decide +kernel
theorem dX3_init_161 : decode cX3_init 161 = .ok (.goto 15, 3) := by decide +kernel
theorem dX3_init_164 : decode cX3_init 164 = .ok (.iload_n 1, 1) := by decide +kernel
theorem dX3_init_165 : decode cX3_init 165 = .ok (.ldc 62, 2) := by decide +kernel
theorem dX3_init_167 : decode cX3_init 167 = .ok (.if_icmp .le 8, 3) := by decide +kernel
theorem dX3_init_170 : decode cX3_init 170 = .ok (.ldc 62, 2) := by decide +kernel
theorem dX3_init_172 : decode cX3_init 172 = .ok (.goto 4, 3) := by decide +kernel
theorem dX3_init_175 : decode cX3_init 175 = .ok (.iload_n 1, 1) := by decide +kernel
theorem dX3_init_176 : decode cX3_init 176 = .ok (.putfield 63, 3) := by decide +kernel
theorem dX3_init_179 : decode cX3_init 179 = .ok (.return_, 1) := by decide +kernel
theorem dX3_isGone_0 : decode cX3_isGone 0 = .ok (.aload_n 0, 1) := by decide +kernel
theorem dX3_isGone_1 : decode cX3_isGone 1 = .ok (.getfield 25, 3) := by decide +kernel
theorem dX3_isGone_4 : decode cX3_isGone 4 = .ok (.iload_n 1, 1) := by decide +kernel
theorem dX3_isGone_5 : decode cX3_isGone 5 = .ok (.iaload, 1) := by decide +kernel
theorem dX3_isGone_6 : decode cX3_isGone 6 = .ok (.iconst 4, 1) := by decide +kernel
theorem dX3_isGone_7 : decode cX3_isGone 7 = .ok (.if_icmp .eq 13, 3) := by decide +kernel
theorem dX3_isGone_10 : decode cX3_isGone 10 = .ok (.aload_n 0, 1) := by decide +kernel
theorem dX3_isGone_11 : decode cX3_isGone 11 = .ok (.getfield 25, 3) := by decide +kernel
theorem dX3_isGone_14 : decode cX3_isGone 14 = .ok (.iload_n 1, 1) := by decide +kernel
theorem dX3_isGone_15 : decode cX3_isGone 15 = .ok (.iaload, 1) := by decide +kernel
theorem dX3_isGone_16 : decode cX3_isGone 16 = .ok (.iconst 5, 1) := by decide +kernel
theorem dX3_isGone_17 : decode cX3_isGone 17 = .ok (.if_icmp .ne 7, 3) := by decide +kernel
theorem dX3_isGone_20 : decode cX3_isGone 20 = .ok (.iconst 1, 1) := by decide +kernel
theorem dX3_isGone_21 : decode cX3_isGone 21 = .ok (.goto 4, 3) := by decide +kernel
theorem dX3_isGone_24 : decode cX3_isGone 24 = .ok (.iconst 0, 1) := by decide +kernel
theorem dX3_isGone_25 : decode cX3_isGone 25 = .ok (.ireturn, 1) := by decide +kernel
theorem dX3_pagesOf_0 : decode cX3_pagesOf 0 = .ok (.aload_n 0, 1) := by decide +kernel
theorem dX3_pagesOf_1 : decode cX3_pagesOf 1 = .ok (.getfield 28, 3) := by decide +kernel
theorem dX3_pagesOf_4 : decode cX3_pagesOf 4 = .ok (.iload_n 1, 1) := by decide +kernel
theorem dX3_pagesOf_5 : decode cX3_pagesOf 5 = .ok (.iaload, 1) := by decide +kernel
theorem dX3_pagesOf_6 : decode cX3_pagesOf 6 = .ok (.bipush 8, 2) := by decide +kernel
theorem dX3_pagesOf_8 : decode cX3_pagesOf 8 = .ok (.iadd, 1) := by decide +kernel
theorem dX3_pagesOf_9 : decode cX3_pagesOf 9 = .ok (.iconst 1, 1) := by decide +kernel
theorem dX3_pagesOf_10 : decode cX3_pagesOf 10 = .ok (.isub, 1) := by decide +kernel
theorem dX3_pagesOf_11 : decode cX3_pagesOf 11 = .ok (.bipush 8, 2) := by decide +kernel
theorem dX3_pagesOf_13 : decode cX3_pagesOf 13 = .ok (.idiv, 1) := by decide +kernel
theorem dX3_pagesOf_14 : decode cX3_pagesOf 14 = .ok (.ireturn, 1) := by decide +kernel
theorem dX3_free_0 : decode cX3_free 0 = .ok (.aload_n 0, 1) := by decide +kernel
theorem dX3_free_1 : decode cX3_free 1 = .ok (.getfield 63, 3) := by decide +kernel
theorem dX3_free_4 : decode cX3_free 4 = .ok (.istore_n 1, 1) := by decide +kernel
theorem dX3_free_5 : decode cX3_free 5 = .ok (.iconst 1, 1) := by decide +kernel
theorem dX3_free_6 : decode cX3_free 6 = .ok (.istore_n 2, 1) := by decide +kernel
theorem dX3_free_7 : decode cX3_free 7 = .ok (.iload_n 2, 1) := by decide +kernel
theorem dX3_free_8 : decode cX3_free 8 = .ok (.aload_n 0, 1) := by decide +kernel
theorem dX3_free_9 : decode cX3_free 9 = .ok (.getfield 67, 3) := by decide +kernel
theorem dX3_free_12 : decode cX3_free 12 = .ok (.if_icmp .gt 29, 3) := by decide +kernel
theorem dX3_free_15 : decode cX3_free 15 = .ok (.iload_n 1, 1) := by decide +kernel
theorem dX3_free_16 : decode cX3_free 16 = .ok (.aload_n 0, 1) := by decide +kernel
theorem dX3_free_17 : decode cX3_free 17 = .ok (.iload_n 2, 1) := by decide +kernel
theorem dX3_free_18 : decode cX3_free 18 = .ok (.invokevirtual 73, 3) := by decide +kernel
theorem dX3_free_21 : decode cX3_free 21 = .ok (.ifCond .eq 7, 3) := by decide +kernel
theorem dX3_free_24 : decode cX3_free 24 = .ok (.iconst 0, 1) := by decide +kernel
theorem dX3_free_25 : decode cX3_free 25 = .ok (.goto 8, 3) := by decide +kernel
theorem dX3_free_28 : decode cX3_free 28 = .ok (.aload_n 0, 1) := by decide +kernel
theorem dX3_free_29 : decode cX3_free 29 = .ok (.iload_n 2, 1) := by decide +kernel
theorem dX3_free_30 : decode cX3_free 30 = .ok (.invokevirtual 77, 3) := by decide +kernel
theorem dX3_free_33 : decode cX3_free 33 = .ok (.isub, 1) := by decide +kernel
theorem dX3_free_34 : decode cX3_free 34 = .ok (.istore_n 1, 1) := by decide +kernel
theorem dX3_free_35 : decode cX3_free 35 = .ok (.iinc 2 1, 3) := by decide +kernel
theorem dX3_free_38 : decode cX3_free 38 = .ok (.goto (-31), 3) := by decide +kernel
theorem dX3_free_41 : decode cX3_free 41 = .ok (.iload_n 1, 1) := by decide +kernel
theorem dX3_free_42 : decode cX3_free 42 = .ok (.ireturn, 1) := by decide +kernel
theorem dX3_create_0 : decode cX3_create 0 = .ok (.aload_n 0, 1) := by decide +kernel
theorem dX3_create_1 : decode cX3_create 1 = .ok (.dup, 1) := by decide +kernel
theorem dX3_create_2 : decode cX3_create 2 = .ok (.getfield 67, 3) := by decide +kernel
theorem dX3_create_5 : decode cX3_create 5 = .ok (.iconst 1, 1) := by decide +kernel
theorem dX3_create_6 : decode cX3_create 6 = .ok (.iadd, 1) := by decide +kernel
theorem dX3_create_7 : decode cX3_create 7 = .ok (.putfield 67, 3) := by decide +kernel
theorem dX3_create_10 : decode cX3_create 10 = .ok (.aload_n 0, 1) := by decide +kernel
theorem dX3_create_11 : decode cX3_create 11 = .ok (.getfield 7, 3) := by decide +kernel
theorem dX3_create_14 : decode cX3_create 14 = .ok (.aload_n 0, 1) := by decide +kernel
theorem dX3_create_15 : decode cX3_create 15 = .ok (.getfield 67, 3) := by decide +kernel
theorem dX3_create_18 : decode cX3_create 18 = .ok (.iload_n 1, 1) := by decide +kernel
theorem dX3_create_19 : decode cX3_create 19 = .ok (.iastore, 1) := by decide +kernel
theorem dX3_create_20 : decode cX3_create 20 = .ok (.aload_n 0, 1) := by decide +kernel
theorem dX3_create_21 : decode cX3_create 21 = .ok (.getfield 13, 3) := by decide +kernel
theorem dX3_create_24 : decode cX3_create 24 = .ok (.aload_n 0, 1) := by decide +kernel
theorem dX3_create_25 : decode cX3_create 25 = .ok (.getfield 67, 3) := by decide +kernel
theorem dX3_create_28 : decode cX3_create 28 = .ok (.iload_n 2, 1) := by decide +kernel
theorem dX3_create_29 : decode cX3_create 29 = .ok (.iastore, 1) := by decide +kernel
theorem dX3_create_30 : decode cX3_create 30 = .ok (.aload_n 0, 1) := by decide +kernel
theorem dX3_create_31 : decode cX3_create 31 = .ok (.getfield 16, 3) := by decide +kernel
theorem dX3_create_34 : decode cX3_create 34 = .ok (.aload_n 0, 1) := by decide +kernel
theorem dX3_create_35 : decode cX3_create 35 = .ok (.getfield 67, 3) := by decide +kernel
theorem dX3_create_38 : decode cX3_create 38 = .ok (.iload_n 3, 1) := by decide +kernel
theorem dX3_create_39 : decode cX3_create 39 = .ok (.iastore, 1) := by decide +kernel
theorem dX3_create_40 : decode cX3_create 40 = .ok (.aload_n 0, 1) := by decide +kernel
theorem dX3_create_41 : decode cX3_create 41 = .ok (.getfield 19, 3) := by decide +kernel
theorem dX3_create_44 : decode cX3_create 44 = .ok (.aload_n 0, 1) := by decide +kernel
theorem dX3_create_45 : decode cX3_create 45 = .ok (.getfield 67, 3) := by decide +kernel
theorem dX3_create_48 : decode cX3_create 48 = .ok (.iload 4, 2) := by decide +kernel
theorem dX3_create_50 : decode cX3_create 50 = .ok (.iastore, 1) := by decide +kernel
theorem dX3_create_51 : decode cX3_create 51 = .ok (.aload_n 0, 1) := by decide +kernel
theorem dX3_create_52 : decode cX3_create 52 = .ok (.getfield 22, 3) := by decide +kernel
theorem dX3_create_55 : decode cX3_create 55 = .ok (.aload_n 0, 1) := by decide +kernel
theorem dX3_create_56 : decode cX3_create 56 = .ok (.getfield 67, 3) := by decide +kernel
theorem dX3_create_59 : decode cX3_create 59 = .ok (.iload 5, 2) := by decide +kernel
theorem dX3_create_61 : decode cX3_create 61 = .ok (.iastore, 1) := by decide +kernel
theorem dX3_create_62 : decode cX3_create 62 = .ok (.aload_n 0, 1) := by decide +kernel
theorem dX3_create_63 : decode cX3_create 63 = .ok (.getfield 25, 3) := by decide +kernel
theorem dX3_create_66 : decode cX3_create 66 = .ok (.aload_n 0, 1) := by decide +kernel
theorem dX3_create_67 : decode cX3_create 67 = .ok (.getfield 67, 3) := by decide +kernel
theorem dX3_create_70 : decode cX3_create 70 = .ok (.iconst 1, 1) := by decide +kernel
theorem dX3_create_71 : decode cX3_create 71 = .ok (.iastore, 1) := by decide +kernel
theorem dX3_create_72 : decode cX3_create 72 = .ok (.return_, 1) := by decide +kernel
theorem dX3_output_0 : decode cX3_output 0 = .ok (.iload_n 1, 1) := by decide +kernel
theorem dX3_output_1 : decode cX3_output 1 = .ok (.iconst 1, 1) := by decide +kernel
theorem dX3_output_2 : decode cX3_output 2 = .ok (.if_icmp .lt 31, 3) := by decide +kernel
theorem dX3_output_5 : decode cX3_output 5 = .ok (.iload_n 1, 1) := by decide +kernel
theorem dX3_output_6 : decode cX3_output 6 = .ok (.sipush 9999, 3) := by decide +kernel
theorem dX3_output_9 : decode cX3_output 9 = .ok (.if_icmp .gt 24, 3) := by decide +kernel
theorem dX3_output_12 : decode cX3_output 12 = .ok (.iload_n 2, 1) := by decide +kernel
theorem dX3_output_13 : decode cX3_output 13 = .ok (.ifCond .lt 20, 3) := by decide +kernel
theorem dX3_output_16 : decode cX3_output 16 = .ok (.iload_n 2, 1) := by decide +kernel
theorem dX3_output_17 : decode cX3_output 17 = .ok (.bipush 7, 2) := by decide +kernel
theorem dX3_output_19 : decode cX3_output 19 = .ok (.if_icmp .gt 14, 3) := by decide +kernel
theorem dX3_output_22 : decode cX3_output 22 = .ok (.iload_n 3, 1) := by decide +kernel
theorem dX3_output_23 : decode cX3_output 23 = .ok (.iconst 1, 1) := by decide +kernel
theorem dX3_output_24 : decode cX3_output 24 = .ok (.if_icmp .lt 9, 3) := by decide +kernel
theorem dX3_output_27 : decode cX3_output 27 = .ok (.iload_n 3, 1) := by decide +kernel
theorem dX3_output_28 : decode cX3_output 28 = .ok (.bipush 9, 2) := by decide +kernel
theorem dX3_output_30 : decode cX3_output 30 = .ok (.if_icmp .le 5, 3) := by decide +kernel
theorem dX3_output_33 : decode cX3_output 33 = .ok (.iconst (-1), 1) := by decide +kernel
theorem dX3_output_34 : decode cX3_output 34 = .ok (.ireturn, 1) := by decide +kernel
theorem dX3_output_35 : decode cX3_output 35 = .ok (.iconst 0, 1) := by decide +kernel
theorem dX3_output_36 : decode cX3_output 36 = .ok (.istore 4, 2) := by decide +kernel
theorem dX3_output_38 : decode cX3_output 38 = .ok (.iconst 1, 1) := by decide +kernel
theorem dX3_output_39 : decode cX3_output 39 = .ok (.istore 5, 2) := by decide +kernel
theorem dX3_output_41 : decode cX3_output 41 = .ok (.iload 5, 2) := by decide +kernel
theorem dX3_output_43 : decode cX3_output 43 = .ok (.aload_n 0, 1) := by decide +kernel
theorem dX3_output_44 : decode cX3_output 44 = .ok (.getfield 67, 3) := by decide +kernel
theorem dX3_output_47 : decode cX3_output 47 = .ok (.if_icmp .gt 41, 3) := by decide +kernel
theorem dX3_output_50 : decode cX3_output 50 = .ok (.iload 4, 2) := by decide +kernel
theorem dX3_output_52 : decode cX3_output 52 = .ok (.ifCond .ne 23, 3) := by decide +kernel
theorem dX3_output_55 : decode cX3_output 55 = .ok (.aload_n 0, 1) := by decide +kernel
theorem dX3_output_56 : decode cX3_output 56 = .ok (.getfield 7, 3) := by decide +kernel
theorem dX3_output_59 : decode cX3_output 59 = .ok (.iload 5, 2) := by decide +kernel
theorem dX3_output_61 : decode cX3_output 61 = .ok (.iaload, 1) := by decide +kernel
theorem dX3_output_62 : decode cX3_output 62 = .ok (.iload_n 1, 1) := by decide +kernel
theorem dX3_output_63 : decode cX3_output 63 = .ok (.if_icmp .ne 16, 3) := by decide +kernel
theorem dX3_output_66 : decode cX3_output 66 = .ok (.aload_n 0, 1) := by decide +kernel
theorem dX3_output_67 : decode cX3_output 67 = .ok (.iload 5, 2) := by decide +kernel
theorem dX3_output_69 : decode cX3_output 69 = .ok (.invokevirtual 73, 3) := by decide +kernel
theorem dX3_output_72 : decode cX3_output 72 = .ok (.ifCond .ne 7, 3) := by decide +kernel
theorem dX3_output_75 : decode cX3_output 75 = .ok (.iconst 1, 1) := by decide +kernel
theorem dX3_output_76 : decode cX3_output 76 = .ok (.goto 4, 3) := by decide +kernel
theorem dX3_output_79 : decode cX3_output 79 = .ok (.iconst 0, 1) := by decide +kernel
theorem dX3_output_80 : decode cX3_output 80 = .ok (.istore 4, 2) := by decide +kernel
theorem dX3_output_82 : decode cX3_output 82 = .ok (.iinc 5 1, 3) := by decide +kernel
theorem dX3_output_85 : decode cX3_output 85 = .ok (.goto (-44), 3) := by decide +kernel
theorem dX3_output_88 : decode cX3_output 88 = .ok (.aload_n 0, 1) := by decide +kernel
theorem dX3_output_89 : decode cX3_output 89 = .ok (.getfield 67, 3) := by decide +kernel
theorem dX3_output_92 : decode cX3_output 92 = .ok (.sipush 1000, 3) := by decide +kernel
theorem dX3_output_95 : decode cX3_output 95 = .ok (.if_icmp .eq 22, 3) := by decide +kernel
theorem dX3_output_98 : decode cX3_output 98 = .ok (.iload 4, 2) := by decide +kernel
theorem dX3_output_100 : decode cX3_output 100 = .ok (.ifCond .ne 19, 3) := by decide +kernel
theorem dX3_output_103 : decode cX3_output 103 = .ok (.aload_n 0, 1) := by decide +kernel
theorem dX3_output_104 : decode cX3_output 104 = .ok (.invokevirtual 81, 3) := by decide +kernel
theorem dX3_output_107 : decode cX3_output 107 = .ok (.aload_n 0, 1) := by decide +kernel
theorem dX3_output_108 : decode cX3_output 108 = .ok (.getfield 63, 3) := by decide +kernel
theorem dX3_output_111 : decode cX3_output 111 = .ok (.bipush 8, 2) := by decide +kernel
theorem dX3_output_113 : decode cX3_output 113 = .ok (.idiv, 1) := by decide +kernel
theorem dX3_output_114 : decode cX3_output 114 = .ok (.if_icmp .gt 5, 3) := by decide +kernel
theorem dX3_output_117 : decode cX3_output 117 = .ok (.iconst 0, 1) := by decide +kernel
theorem dX3_output_118 : decode cX3_output 118 = .ok (.ireturn, 1) := by decide +kernel
theorem dX3_output_119 : decode cX3_output 119 = .ok (.aload_n 0, 1) := by decide +kernel
theorem dX3_output_120 : decode cX3_output 120 = .ok (.iload_n 1, 1) := by decide +kernel
theorem dX3_output_121 : decode cX3_output 121 = .ok (.iload_n 2, 1) := by decide +kernel
theorem dX3_output_122 : decode cX3_output 122 = .ok (.iload_n 3, 1) := by decide +kernel
theorem dX3_output_123 : decode cX3_output 123 = .ok (.iconst 0, 1) := by decide +kernel
theorem dX3_output_124 : decode cX3_output 124 = .ok (.iconst 0, 1) := by decide +kernel
theorem dX3_output_125 : decode cX3_output 125 = .ok (.invokevirtual 85, 3) := by decide +kernel
theorem dX3_output_128 : decode cX3_output 128 = .ok (.aload_n 0, 1) := by decide +kernel
theorem dX3_output_129 : decode cX3_output 129 = .ok (.getfield 67, 3) := by decide +kernel
theorem dX3_output_132 : decode cX3_output 132 = .ok (.ireturn, 1) := by decide +kernel
theorem dX3_isOutput_0 : decode cX3_isOutput 0 = .ok (.iload_n 1, 1) := by decide +kernel
theorem dX3_isOutput_1 : decode cX3_isOutput 1 = .ok (.ifCond .le 15, 3) := by decide +kernel
theorem dX3_isOutput_4 : decode cX3_isOutput 4 = .ok (.iload_n 1, 1) := by decide +kernel
theorem dX3_isOutput_5 : decode cX3_isOutput 5 = .ok (.aload_n 0, 1) := by decide +kernel
theorem dX3_isOutput_6 : decode cX3_isOutput 6 = .ok (.getfield 67, 3) := by decide +kernel
theorem dX3_isOutput_9 : decode cX3_isOutput 9 = .ok (.if_icmp .gt 7, 3) := by decide +kernel
theorem dX3_isOutput_12 : decode cX3_isOutput 12 = .ok (.iconst 1, 1) := by decide +kernel
theorem dX3_isOutput_13 : decode cX3_isOutput 13 = .ok (.goto 4, 3) := by decide +kernel
theorem dX3_isOutput_16 : decode cX3_isOutput 16 = .ok (.iconst 0, 1) := by decide +kernel
theorem dX3_isOutput_17 : decode cX3_isOutput 17 = .ok (.ireturn, 1) := by decide +kernel
theorem dX3_line_0 : decode cX3_line 0 = .ok (.aload_n 0, 1) := by decide +kernel
theorem dX3_line_1 : decode cX3_line 1 = .ok (.iload_n 1, 1) := by decide +kernel
theorem dX3_line_2 : decode cX3_line 2 = .ok (.invokevirtual 89, 3) := by decide +kernel
theorem dX3_line_5 : decode cX3_line 5 = .ok (.ifCond .eq 13, 3) := by decide +kernel
theorem dX3_line_8 : decode cX3_line 8 = .ok (.iload_n 2, 1) := by decide +kernel
theorem dX3_line_9 : decode cX3_line 9 = .ok (.ifCond .lt 9, 3) := by decide +kernel
theorem dX3_line_12 : decode cX3_line 12 = .ok (.iload_n 2, 1) := by decide +kernel
theorem dX3_line_13 : decode cX3_line 13 = .ok (.ldc 92, 2) := by decide +kernel
theorem dX3_line_15 : decode cX3_line 15 = .ok (.if_icmp .le 5, 3) := by decide +kernel
theorem dX3_line_18 : decode cX3_line 18 = .ok (.iconst (-1), 1) := by decide +kernel
theorem dX3_line_19 : decode cX3_line 19 = .ok (.ireturn, 1) := by decide +kernel
theorem dX3_line_20 : decode cX3_line 20 = .ok (.aload_n 0, 1) := by decide +kernel
theorem dX3_line_21 : decode cX3_line 21 = .ok (.getfield 25, 3) := by decide +kernel
theorem dX3_line_24 : decode cX3_line 24 = .ok (.iload_n 1, 1) := by decide +kernel
theorem dX3_line_25 : decode cX3_line 25 = .ok (.iaload, 1) := by decide +kernel
theorem dX3_line_26 : decode cX3_line 26 = .ok (.iconst 1, 1) := by decide +kernel
theorem dX3_line_27 : decode cX3_line 27 = .ok (.if_icmp .eq 6, 3) := by decide +kernel
theorem dX3_line_30 : decode cX3_line 30 = .ok (.bipush (-2), 2) := by decide +kernel
theorem dX3_line_32 : decode cX3_line 32 = .ok (.ireturn, 1) := by decide +kernel
theorem dX3_line_33 : decode cX3_line 33 = .ok (.aload_n 0, 1) := by decide +kernel
theorem dX3_line_34 : decode cX3_line 34 = .ok (.getfield 31, 3) := by decide +kernel
theorem dX3_line_37 : decode cX3_line 37 = .ok (.iload_n 1, 1) := by decide +kernel
theorem dX3_line_38 : decode cX3_line 38 = .ok (.iaload, 1) := by decide +kernel
theorem dX3_line_39 : decode cX3_line 39 = .ok (.ifCond .le 22, 3) := by decide +kernel
theorem dX3_line_42 : decode cX3_line 42 = .ok (.aload_n 0, 1) := by decide +kernel
theorem dX3_line_43 : decode cX3_line 43 = .ok (.getfield 28, 3) := by decide +kernel
theorem dX3_line_46 : decode cX3_line 46 = .ok (.iload_n 1, 1) := by decide +kernel
theorem dX3_line_47 : decode cX3_line 47 = .ok (.iaload, 1) := by decide +kernel
theorem dX3_line_48 : decode cX3_line 48 = .ok (.aload_n 0, 1) := by decide +kernel
theorem dX3_line_49 : decode cX3_line 49 = .ok (.getfield 31, 3) := by decide +kernel
theorem dX3_line_52 : decode cX3_line 52 = .ok (.iload_n 1, 1) := by decide +kernel
theorem dX3_line_53 : decode cX3_line 53 = .ok (.iaload, 1) := by decide +kernel
theorem dX3_line_54 : decode cX3_line 54 = .ok (.if_icmp .lt 7, 3) := by decide +kernel
theorem dX3_line_57 : decode cX3_line 57 = .ok (.iconst 1, 1) := by decide +kernel
theorem dX3_line_58 : decode cX3_line 58 = .ok (.goto 4, 3) := by decide +kernel
theorem dX3_line_61 : decode cX3_line 61 = .ok (.iconst 0, 1) := by decide +kernel
theorem dX3_line_62 : decode cX3_line 62 = .ok (.istore_n 3, 1) := by decide +kernel
theorem dX3_line_63 : decode cX3_line 63 = .ok (.iload_n 3, 1) := by decide +kernel
theorem dX3_line_64 : decode cX3_line 64 = .ok (.ifCond .eq 14, 3) := by decide +kernel
theorem dX3_line_67 : decode cX3_line 67 = .ok (.aload_n 0, 1) := by decide +kernel
theorem dX3_line_68 : decode cX3_line 68 = .ok (.getfield 37, 3) := by decide +kernel
theorem dX3_line_71 : decode cX3_line 71 = .ok (.iload_n 1, 1) := by decide +kernel
theorem dX3_line_72 : decode cX3_line 72 = .ok (.baload, 1) := by decide +kernel
theorem dX3_line_73 : decode cX3_line 73 = .ok (.ifCond .eq 5, 3) := by decide +kernel
theorem dX3_line_76 : decode cX3_line 76 = .ok (.iconst 0, 1) := by decide +kernel
theorem dX3_line_77 : decode cX3_line 77 = .ok (.ireturn, 1) := by decide +kernel
theorem dX3_line_78 : decode cX3_line 78 = .ok (.aload_n 0, 1) := by decide +kernel
theorem dX3_line_79 : decode cX3_line 79 = .ok (.getfield 28, 3) := by decide +kernel
theorem dX3_line_82 : decode cX3_line 82 = .ok (.iload_n 1, 1) := by decide +kernel
theorem dX3_line_83 : decode cX3_line 83 = .ok (.iaload, 1) := by decide +kernel
theorem dX3_line_84 : decode cX3_line 84 = .ok (.bipush 8, 2) := by decide +kernel
theorem dX3_line_86 : decode cX3_line 86 = .ok (.irem, 1) := by decide +kernel
theorem dX3_line_87 : decode cX3_line 87 = .ok (.ifCond .ne 13, 3) := by decide +kernel
theorem dX3_line_90 : decode cX3_line 90 = .ok (.aload_n 0, 1) := by decide +kernel
theorem dX3_line_91 : decode cX3_line 91 = .ok (.invokevirtual 81, 3) := by decide +kernel
theorem dX3_line_94 : decode cX3_line 94 = .ok (.ifCond .ne 6, 3) := by decide +kernel
theorem dX3_line_97 : decode cX3_line 97 = .ok (.bipush (-3), 2) := by decide +kernel
theorem dX3_line_99 : decode cX3_line 99 = .ok (.ireturn, 1) := by decide +kernel
theorem dX3_line_100 : decode cX3_line 100 = .ok (.aload_n 0, 1) := by decide +kernel
theorem dX3_line_101 : decode cX3_line 101 = .ok (.getfield 47, 3) := by decide +kernel
theorem dX3_line_104 : decode cX3_line 104 = .ok (.aload_n 0, 1) := by decide +kernel
theorem dX3_line_105 : decode cX3_line 105 = .ok (.getfield 93, 3) := by decide +kernel
theorem dX3_line_108 : decode cX3_line 108 = .ok (.iload_n 1, 1) := by decide +kernel
theorem dX3_line_109 : decode cX3_line 109 = .ok (.iastore, 1) := by decide +kernel
theorem dX3_line_110 : decode cX3_line 110 = .ok (.aload_n 0, 1) := by decide +kernel
theorem dX3_line_111 : decode cX3_line 111 = .ok (.getfield 50, 3) := by decide +kernel
theorem dX3_line_114 : decode cX3_line 114 = .ok (.aload_n 0, 1) := by decide +kernel
theorem dX3_line_115 : decode cX3_line 115 = .ok (.getfield 93, 3) := by decide +kernel
theorem dX3_line_118 : decode cX3_line 118 = .ok (.iload_n 2, 1) := by decide +kernel
theorem dX3_line_119 : decode cX3_line 119 = .ok (.sipush 256, 3) := by decide +kernel
theorem dX3_line_122 : decode cX3_line 122 = .ok (.idiv, 1) := by decide +kernel
theorem dX3_line_123 : decode cX3_line 123 = .ok (.ifCond .le 11, 3) := by decide +kernel
theorem dX3_line_126 : decode cX3_line 126 = .ok (.iload_n 2, 1) := by decide +kernel
theorem dX3_line_127 : decode cX3_line 127 = .ok (.sipush 256, 3) := by decide +kernel
theorem dX3_line_130 : decode cX3_line 130 = .ok (.irem, 1) := by decide +kernel
theorem dX3_line_131 : decode cX3_line 131 = .ok (.goto 4, 3) := by decide +kernel
theorem dX3_line_134 : decode cX3_line 134 = .ok (.iconst (-1), 1) := by decide +kernel
theorem dX3_line_135 : decode cX3_line 135 = .ok (.iastore, 1) := by decide +kernel
theorem dX3_line_136 : decode cX3_line 136 = .ok (.aload_n 0, 1) := by decide +kernel
theorem dX3_line_137 : decode cX3_line 137 = .ok (.dup, 1) := by decide +kernel
theorem dX3_line_138 : decode cX3_line 138 = .ok (.getfield 93, 3) := by decide +kernel
theorem dX3_line_141 : decode cX3_line 141 = .ok (.iconst 1, 1) := by decide +kernel
theorem dX3_line_142 : decode cX3_line 142 = .ok (.iadd, 1) := by decide +kernel
theorem dX3_line_143 : decode cX3_line 143 = .ok (.putfield 93, 3) := by decide +kernel
theorem dX3_line_146 : decode cX3_line 146 = .ok (.aload_n 0, 1) := by decide +kernel
theorem dX3_line_147 : decode cX3_line 147 = .ok (.getfield 28, 3) := by decide +kernel
theorem dX3_line_150 : decode cX3_line 150 = .ok (.iload_n 1, 1) := by decide +kernel
theorem dX3_line_151 : decode cX3_line 151 = .ok (.dup2, 1) := by decide +kernel
theorem dX3_line_152 : decode cX3_line 152 = .ok (.iaload, 1) := by decide +kernel
theorem dX3_line_153 : decode cX3_line 153 = .ok (.iconst 1, 1) := by decide +kernel
theorem dX3_line_154 : decode cX3_line 154 = .ok (.iadd, 1) := by decide +kernel
theorem dX3_line_155 : decode cX3_line 155 = .ok (.iastore, 1) := by decide +kernel
theorem dX3_line_156 : decode cX3_line 156 = .ok (.iload_n 3, 1) := by decide +kernel
theorem dX3_line_157 : decode cX3_line 157 = .ok (.ifCond .eq 7, 3) := by decide +kernel
theorem dX3_line_160 : decode cX3_line 160 = .ok (.iconst 2, 1) := by decide +kernel
theorem dX3_line_161 : decode cX3_line 161 = .ok (.goto 4, 3) := by decide +kernel
theorem dX3_line_164 : decode cX3_line 164 = .ok (.iconst 1, 1) := by decide +kernel
theorem dX3_line_165 : decode cX3_line 165 = .ok (.ireturn, 1) := by decide +kernel
theorem dX3_limit_0 : decode cX3_limit 0 = .ok (.aload_n 0, 1) := by decide +kernel
theorem dX3_limit_1 : decode cX3_limit 1 = .ok (.iload_n 1, 1) := by decide +kernel
theorem dX3_limit_2 : decode cX3_limit 2 = .ok (.invokevirtual 89, 3) := by decide +kernel
theorem dX3_limit_5 : decode cX3_limit 5 = .ok (.ifCond .eq 7, 3) := by decide +kernel
theorem dX3_limit_8 : decode cX3_limit 8 = .ok (.iload_n 2, 1) := by decide +kernel
theorem dX3_limit_9 : decode cX3_limit 9 = .ok (.ifCond .ge 5, 3) := by decide +kernel
theorem dX3_limit_12 : decode cX3_limit 12 = .ok (.iconst (-1), 1) := by decide +kernel
theorem dX3_limit_13 : decode cX3_limit 13 = .ok (.ireturn, 1) := by decide +kernel
theorem dX3_limit_14 : decode cX3_limit 14 = .ok (.aload_n 0, 1) := by decide +kernel
theorem dX3_limit_15 : decode cX3_limit 15 = .ok (.iload_n 1, 1) := by decide +kernel
theorem dX3_limit_16 : decode cX3_limit 16 = .ok (.invokevirtual 73, 3) := by decide +kernel
theorem dX3_limit_19 : decode cX3_limit 19 = .ok (.ifCond .eq 6, 3) := by decide +kernel
theorem dX3_limit_22 : decode cX3_limit 22 = .ok (.bipush (-2), 2) := by decide +kernel
theorem dX3_limit_24 : decode cX3_limit 24 = .ok (.ireturn, 1) := by decide +kernel
theorem dX3_limit_25 : decode cX3_limit 25 = .ok (.aload_n 0, 1) := by decide +kernel
theorem dX3_limit_26 : decode cX3_limit 26 = .ok (.getfield 31, 3) := by decide +kernel
theorem dX3_limit_29 : decode cX3_limit 29 = .ok (.iload_n 1, 1) := by decide +kernel
theorem dX3_limit_30 : decode cX3_limit 30 = .ok (.iload_n 2, 1) := by decide +kernel
theorem dX3_limit_31 : decode cX3_limit 31 = .ok (.iastore, 1) := by decide +kernel
theorem dX3_limit_32 : decode cX3_limit 32 = .ok (.aload_n 0, 1) := by decide +kernel
theorem dX3_limit_33 : decode cX3_limit 33 = .ok (.getfield 37, 3) := by decide +kernel
theorem dX3_limit_36 : decode cX3_limit 36 = .ok (.iload_n 1, 1) := by decide +kernel
theorem dX3_limit_37 : decode cX3_limit 37 = .ok (.iload_n 3, 1) := by decide +kernel
theorem dX3_limit_38 : decode cX3_limit 38 = .ok (.bastore, 1) := by decide +kernel
theorem dX3_limit_39 : decode cX3_limit 39 = .ok (.iconst 1, 1) := by decide +kernel
theorem dX3_limit_40 : decode cX3_limit 40 = .ok (.ireturn, 1) := by decide +kernel
theorem dX3_goes_0 : decode cX3_goes 0 = .ok (.aload_n 0, 1) := by decide +kernel
theorem dX3_goes_1 : decode cX3_goes 1 = .ok (.getfield 25, 3) := by decide +kernel
theorem dX3_goes_4 : decode cX3_goes 4 = .ok (.iload_n 1, 1) := by decide +kernel
theorem dX3_goes_5 : decode cX3_goes 5 = .ok (.iload_n 2, 1) := by decide +kernel
theorem dX3_goes_6 : decode cX3_goes 6 = .ok (.iastore, 1) := by decide +kernel
theorem dX3_goes_7 : decode cX3_goes 7 = .ok (.aload_n 0, 1) := by decide +kernel
theorem dX3_goes_8 : decode cX3_goes 8 = .ok (.getfield 41, 3) := by decide +kernel
theorem dX3_goes_11 : decode cX3_goes 11 = .ok (.iload_n 1, 1) := by decide +kernel
theorem dX3_goes_12 : decode cX3_goes 12 = .ok (.iconst 0, 1) := by decide +kernel
theorem dX3_goes_13 : decode cX3_goes 13 = .ok (.bastore, 1) := by decide +kernel
theorem dX3_goes_14 : decode cX3_goes 14 = .ok (.return_, 1) := by decide +kernel
theorem dX3_end_0 : decode cX3_end 0 = .ok (.iconst 0, 1) := by decide +kernel
theorem dX3_end_1 : decode cX3_end 1 = .ok (.istore_n 2, 1) := by decide +kernel
theorem dX3_end_2 : decode cX3_end 2 = .ok (.iconst 1, 1) := by decide +kernel
theorem dX3_end_3 : decode cX3_end 3 = .ok (.istore_n 3, 1) := by decide +kernel
theorem dX3_end_4 : decode cX3_end 4 = .ok (.iload_n 3, 1) := by decide +kernel
theorem dX3_end_5 : decode cX3_end 5 = .ok (.aload_n 0, 1) := by decide +kernel
theorem dX3_end_6 : decode cX3_end 6 = .ok (.getfield 67, 3) := by decide +kernel
theorem dX3_end_9 : decode cX3_end 9 = .ok (.if_icmp .gt 60, 3) := by decide +kernel
theorem dX3_end_12 : decode cX3_end 12 = .ok (.aload_n 0, 1) := by decide +kernel
theorem dX3_end_13 : decode cX3_end 13 = .ok (.getfield 7, 3) := by decide +kernel
theorem dX3_end_16 : decode cX3_end 16 = .ok (.iload_n 3, 1) := by decide +kernel
theorem dX3_end_17 : decode cX3_end 17 = .ok (.iaload, 1) := by decide +kernel
theorem dX3_end_18 : decode cX3_end 18 = .ok (.iload_n 1, 1) := by decide +kernel
theorem dX3_end_19 : decode cX3_end 19 = .ok (.if_icmp .ne 44, 3) := by decide +kernel
theorem dX3_end_22 : decode cX3_end 22 = .ok (.aload_n 0, 1) := by decide +kernel
theorem dX3_end_23 : decode cX3_end 23 = .ok (.getfield 25, 3) := by decide +kernel
theorem dX3_end_26 : decode cX3_end 26 = .ok (.iload_n 3, 1) := by decide +kernel
theorem dX3_end_27 : decode cX3_end 27 = .ok (.iaload, 1) := by decide +kernel
theorem dX3_end_28 : decode cX3_end 28 = .ok (.iconst 1, 1) := by decide +kernel
theorem dX3_end_29 : decode cX3_end 29 = .ok (.if_icmp .eq 6, 3) := by decide +kernel
theorem dX3_end_32 : decode cX3_end 32 = .ok (.goto 31, 3) := by decide +kernel
theorem dX3_end_35 : decode cX3_end 35 = .ok (.iinc 2 1, 3) := by decide +kernel
theorem dX3_end_38 : decode cX3_end 38 = .ok (.aload_n 0, 1) := by decide +kernel
theorem dX3_end_39 : decode cX3_end 39 = .ok (.getfield 28, 3) := by decide +kernel
theorem dX3_end_42 : decode cX3_end 42 = .ok (.iload_n 3, 1) := by decide +kernel
theorem dX3_end_43 : decode cX3_end 43 = .ok (.iaload, 1) := by decide +kernel
theorem dX3_end_44 : decode cX3_end 44 = .ok (.ifCond .ne 12, 3) := by decide +kernel
theorem dX3_end_47 : decode cX3_end 47 = .ok (.aload_n 0, 1) := by decide +kernel
theorem dX3_end_48 : decode cX3_end 48 = .ok (.iload_n 3, 1) := by decide +kernel
theorem dX3_end_49 : decode cX3_end 49 = .ok (.iconst 5, 1) := by decide +kernel
theorem dX3_end_50 : decode cX3_end 50 = .ok (.invokevirtual 96, 3) := by decide +kernel
theorem dX3_end_53 : decode cX3_end 53 = .ok (.goto 10, 3) := by decide +kernel
theorem dX3_end_56 : decode cX3_end 56 = .ok (.aload_n 0, 1) := by decide +kernel
theorem dX3_end_57 : decode cX3_end 57 = .ok (.getfield 25, 3) := by decide +kernel
theorem dX3_end_60 : decode cX3_end 60 = .ok (.iload_n 3, 1) := by decide +kernel
theorem dX3_end_61 : decode cX3_end 61 = .ok (.iconst 2, 1) := by decide +kernel
theorem dX3_end_62 : decode cX3_end 62 = .ok (.iastore, 1) := by decide +kernel
theorem dX3_end_63 : decode cX3_end 63 = .ok (.iinc 3 1, 3) := by decide +kernel
theorem dX3_end_66 : decode cX3_end 66 = .ok (.goto (-62), 3) := by decide +kernel
theorem dX3_end_69 : decode cX3_end 69 = .ok (.iload_n 2, 1) := by decide +kernel
theorem dX3_end_70 : decode cX3_end 70 = .ok (.ireturn, 1) := by decide +kernel
theorem dX3_segment_0 : decode cX3_segment 0 = .ok (.aload_n 0, 1) := by decide +kernel
theorem dX3_segment_1 : decode cX3_segment 1 = .ok (.iload_n 1, 1) := by decide +kernel
theorem dX3_segment_2 : decode cX3_segment 2 = .ok (.invokevirtual 89, 3) := by decide +kernel
theorem dX3_segment_5 : decode cX3_segment 5 = .ok (.ifCond .ne 5, 3) := by decide +kernel
theorem dX3_segment_8 : decode cX3_segment 8 = .ok (.iconst (-1), 1) := by decide +kernel
theorem dX3_segment_9 : decode cX3_segment 9 = .ok (.ireturn, 1) := by decide +kernel
theorem dX3_segment_10 : decode cX3_segment 10 = .ok (.aload_n 0, 1) := by decide +kernel
theorem dX3_segment_11 : decode cX3_segment 11 = .ok (.getfield 25, 3) := by decide +kernel
theorem dX3_segment_14 : decode cX3_segment 14 = .ok (.iload_n 1, 1) := by decide +kernel
theorem dX3_segment_15 : decode cX3_segment 15 = .ok (.iaload, 1) := by decide +kernel
theorem dX3_segment_16 : decode cX3_segment 16 = .ok (.iconst 1, 1) := by decide +kernel
theorem dX3_segment_17 : decode cX3_segment 17 = .ok (.if_icmp .ne 12, 3) := by decide +kernel
theorem dX3_segment_20 : decode cX3_segment 20 = .ok (.aload_n 0, 1) := by decide +kernel
theorem dX3_segment_21 : decode cX3_segment 21 = .ok (.getfield 28, 3) := by decide +kernel
theorem dX3_segment_24 : decode cX3_segment 24 = .ok (.iload_n 1, 1) := by decide +kernel
theorem dX3_segment_25 : decode cX3_segment 25 = .ok (.iaload, 1) := by decide +kernel
theorem dX3_segment_26 : decode cX3_segment 26 = .ok (.ifCond .ne 6, 3) := by decide +kernel
theorem dX3_segment_29 : decode cX3_segment 29 = .ok (.bipush (-2), 2) := by decide +kernel
theorem dX3_segment_31 : decode cX3_segment 31 = .ok (.ireturn, 1) := by decide +kernel
theorem dX3_segment_32 : decode cX3_segment 32 = .ok (.aload_n 0, 1) := by decide +kernel
theorem dX3_segment_33 : decode cX3_segment 33 = .ok (.getfield 67, 3) := by decide +kernel
theorem dX3_segment_36 : decode cX3_segment 36 = .ok (.sipush 1000, 3) := by decide +kernel
theorem dX3_segment_39 : decode cX3_segment 39 = .ok (.if_icmp .ne 5, 3) := by decide +kernel
theorem dX3_segment_42 : decode cX3_segment 42 = .ok (.iconst 0, 1) := by decide +kernel
theorem dX3_segment_43 : decode cX3_segment 43 = .ok (.ireturn, 1) := by decide +kernel
theorem dX3_segment_44 : decode cX3_segment 44 = .ok (.aload_n 0, 1) := by decide +kernel
theorem dX3_segment_45 : decode cX3_segment 45 = .ok (.getfield 25, 3) := by decide +kernel
theorem dX3_segment_48 : decode cX3_segment 48 = .ok (.iload_n 1, 1) := by decide +kernel
theorem dX3_segment_49 : decode cX3_segment 49 = .ok (.iconst 2, 1) := by decide +kernel
theorem dX3_segment_50 : decode cX3_segment 50 = .ok (.iastore, 1) := by decide +kernel
theorem dX3_segment_51 : decode cX3_segment 51 = .ok (.aload_n 0, 1) := by decide +kernel
theorem dX3_segment_52 : decode cX3_segment 52 = .ok (.aload_n 0, 1) := by decide +kernel
theorem dX3_segment_53 : decode cX3_segment 53 = .ok (.getfield 7, 3) := by decide +kernel
theorem dX3_segment_56 : decode cX3_segment 56 = .ok (.iload_n 1, 1) := by decide +kernel
theorem dX3_segment_57 : decode cX3_segment 57 = .ok (.iaload, 1) := by decide +kernel
theorem dX3_segment_58 : decode cX3_segment 58 = .ok (.aload_n 0, 1) := by decide +kernel
theorem dX3_segment_59 : decode cX3_segment 59 = .ok (.getfield 13, 3) := by decide +kernel
theorem dX3_segment_62 : decode cX3_segment 62 = .ok (.iload_n 1, 1) := by decide +kernel
theorem dX3_segment_63 : decode cX3_segment 63 = .ok (.iaload, 1) := by decide +kernel
theorem dX3_segment_64 : decode cX3_segment 64 = .ok (.aload_n 0, 1) := by decide +kernel
theorem dX3_segment_65 : decode cX3_segment 65 = .ok (.getfield 16, 3) := by decide +kernel
theorem dX3_segment_68 : decode cX3_segment 68 = .ok (.iload_n 1, 1) := by decide +kernel
theorem dX3_segment_69 : decode cX3_segment 69 = .ok (.iaload, 1) := by decide +kernel
theorem dX3_segment_70 : decode cX3_segment 70 = .ok (.aload_n 0, 1) := by decide +kernel
theorem dX3_segment_71 : decode cX3_segment 71 = .ok (.getfield 19, 3) := by decide +kernel
theorem dX3_segment_74 : decode cX3_segment 74 = .ok (.iload_n 1, 1) := by decide +kernel
theorem dX3_segment_75 : decode cX3_segment 75 = .ok (.iaload, 1) := by decide +kernel
theorem dX3_segment_76 : decode cX3_segment 76 = .ok (.aload_n 0, 1) := by decide +kernel
theorem dX3_segment_77 : decode cX3_segment 77 = .ok (.getfield 22, 3) := by decide +kernel
theorem dX3_segment_80 : decode cX3_segment 80 = .ok (.iload_n 1, 1) := by decide +kernel
theorem dX3_segment_81 : decode cX3_segment 81 = .ok (.iaload, 1) := by decide +kernel
theorem dX3_segment_82 : decode cX3_segment 82 = .ok (.invokevirtual 85, 3) := by decide +kernel
theorem dX3_segment_85 : decode cX3_segment 85 = .ok (.aload_n 0, 1) := by decide +kernel
theorem dX3_segment_86 : decode cX3_segment 86 = .ok (.getfield 31, 3) := by decide +kernel
theorem dX3_segment_89 : decode cX3_segment 89 = .ok (.aload_n 0, 1) := by decide +kernel
theorem dX3_segment_90 : decode cX3_segment 90 = .ok (.getfield 67, 3) := by decide +kernel
theorem dX3_segment_93 : decode cX3_segment 93 = .ok (.aload_n 0, 1) := by decide +kernel
theorem dX3_segment_94 : decode cX3_segment 94 = .ok (.getfield 31, 3) := by decide +kernel
theorem dX3_segment_97 : decode cX3_segment 97 = .ok (.iload_n 1, 1) := by decide +kernel
theorem dX3_segment_98 : decode cX3_segment 98 = .ok (.iaload, 1) := by decide +kernel
theorem dX3_segment_99 : decode cX3_segment 99 = .ok (.iastore, 1) := by decide +kernel
theorem dX3_segment_100 : decode cX3_segment 100 = .ok (.aload_n 0, 1) := by decide +kernel
theorem dX3_segment_101 : decode cX3_segment 101 = .ok (.getfield 37, 3) := by decide +kernel
theorem dX3_segment_104 : decode cX3_segment 104 = .ok (.aload_n 0, 1) := by decide +kernel
theorem dX3_segment_105 : decode cX3_segment 105 = .ok (.getfield 67, 3) := by decide +kernel
theorem dX3_segment_108 : decode cX3_segment 108 = .ok (.aload_n 0, 1) := by decide +kernel
theorem dX3_segment_109 : decode cX3_segment 109 = .ok (.getfield 37, 3) := by decide +kernel
theorem dX3_segment_112 : decode cX3_segment 112 = .ok (.iload_n 1, 1) := by decide +kernel
theorem dX3_segment_113 : decode cX3_segment 113 = .ok (.baload, 1) := by decide +kernel
theorem dX3_segment_114 : decode cX3_segment 114 = .ok (.bastore, 1) := by decide +kernel
theorem dX3_segment_115 : decode cX3_segment 115 = .ok (.aload_n 0, 1) := by decide +kernel
theorem dX3_segment_116 : decode cX3_segment 116 = .ok (.getfield 41, 3) := by decide +kernel
theorem dX3_segment_119 : decode cX3_segment 119 = .ok (.aload_n 0, 1) := by decide +kernel
theorem dX3_segment_120 : decode cX3_segment 120 = .ok (.getfield 67, 3) := by decide +kernel
theorem dX3_segment_123 : decode cX3_segment 123 = .ok (.aload_n 0, 1) := by decide +kernel
theorem dX3_segment_124 : decode cX3_segment 124 = .ok (.getfield 41, 3) := by decide +kernel
theorem dX3_segment_127 : decode cX3_segment 127 = .ok (.iload_n 1, 1) := by decide +kernel
theorem dX3_segment_128 : decode cX3_segment 128 = .ok (.baload, 1) := by decide +kernel
theorem dX3_segment_129 : decode cX3_segment 129 = .ok (.bastore, 1) := by decide +kernel
theorem dX3_segment_130 : decode cX3_segment 130 = .ok (.aload_n 0, 1) := by decide +kernel
theorem dX3_segment_131 : decode cX3_segment 131 = .ok (.getfield 67, 3) := by decide +kernel
theorem dX3_segment_134 : decode cX3_segment 134 = .ok (.ireturn, 1) := by decide +kernel
theorem dX3_writer_0 : decode cX3_writer 0 = .ok (.iload_n 1, 1) := by decide +kernel
theorem dX3_writer_1 : decode cX3_writer 1 = .ok (.ifCond .lt 21, 3) := by decide +kernel
theorem dX3_writer_4 : decode cX3_writer 4 = .ok (.iload_n 1, 1) := by decide +kernel
theorem dX3_writer_5 : decode cX3_writer 5 = .ok (.bipush 16, 2) := by decide +kernel
theorem dX3_writer_7 : decode cX3_writer 7 = .ok (.irem, 1) := by decide +kernel
theorem dX3_writer_8 : decode cX3_writer 8 = .ok (.bipush 8, 2) := by decide +kernel
theorem dX3_writer_10 : decode cX3_writer 10 = .ok (.if_icmp .gt 12, 3) := by decide +kernel
theorem dX3_writer_13 : decode cX3_writer 13 = .ok (.iload_n 1, 1) := by decide +kernel
theorem dX3_writer_14 : decode cX3_writer 14 = .ok (.bipush 16, 2) := by decide +kernel
theorem dX3_writer_16 : decode cX3_writer 16 = .ok (.idiv, 1) := by decide +kernel
theorem dX3_writer_17 : decode cX3_writer 17 = .ok (.bipush 8, 2) := by decide +kernel
theorem dX3_writer_19 : decode cX3_writer 19 = .ok (.if_icmp .le 5, 3) := by decide +kernel
theorem dX3_writer_22 : decode cX3_writer 22 = .ok (.iconst (-1), 1) := by decide +kernel
theorem dX3_writer_23 : decode cX3_writer 23 = .ok (.ireturn, 1) := by decide +kernel
theorem dX3_writer_24 : decode cX3_writer 24 = .ok (.aload_n 0, 1) := by decide +kernel
theorem dX3_writer_25 : decode cX3_writer 25 = .ok (.getfield 70, 3) := by decide +kernel
theorem dX3_writer_28 : decode cX3_writer 28 = .ok (.bipush 9, 2) := by decide +kernel
theorem dX3_writer_30 : decode cX3_writer 30 = .ok (.if_icmp .ne 5, 3) := by decide +kernel
theorem dX3_writer_33 : decode cX3_writer 33 = .ok (.iconst 0, 1) := by decide +kernel
theorem dX3_writer_34 : decode cX3_writer 34 = .ok (.ireturn, 1) := by decide +kernel
theorem dX3_writer_35 : decode cX3_writer 35 = .ok (.aload_n 0, 1) := by decide +kernel
theorem dX3_writer_36 : decode cX3_writer 36 = .ok (.dup, 1) := by decide +kernel
theorem dX3_writer_37 : decode cX3_writer 37 = .ok (.getfield 70, 3) := by decide +kernel
theorem dX3_writer_40 : decode cX3_writer 40 = .ok (.iconst 1, 1) := by decide +kernel
theorem dX3_writer_41 : decode cX3_writer 41 = .ok (.iadd, 1) := by decide +kernel
theorem dX3_writer_42 : decode cX3_writer 42 = .ok (.putfield 70, 3) := by decide +kernel
theorem dX3_writer_45 : decode cX3_writer 45 = .ok (.aload_n 0, 1) := by decide +kernel
theorem dX3_writer_46 : decode cX3_writer 46 = .ok (.getfield 53, 3) := by decide +kernel
theorem dX3_writer_49 : decode cX3_writer 49 = .ok (.aload_n 0, 1) := by decide +kernel
theorem dX3_writer_50 : decode cX3_writer 50 = .ok (.getfield 70, 3) := by decide +kernel
theorem dX3_writer_53 : decode cX3_writer 53 = .ok (.iload_n 1, 1) := by decide +kernel
theorem dX3_writer_54 : decode cX3_writer 54 = .ok (.iastore, 1) := by decide +kernel
theorem dX3_writer_55 : decode cX3_writer 55 = .ok (.aload_n 0, 1) := by decide +kernel
theorem dX3_writer_56 : decode cX3_writer 56 = .ok (.getfield 70, 3) := by decide +kernel
theorem dX3_writer_59 : decode cX3_writer 59 = .ok (.ireturn, 1) := by decide +kernel
theorem dX3_isWriter_0 : decode cX3_isWriter 0 = .ok (.iload_n 1, 1) := by decide +kernel
theorem dX3_isWriter_1 : decode cX3_isWriter 1 = .ok (.ifCond .le 15, 3) := by decide +kernel
theorem dX3_isWriter_4 : decode cX3_isWriter 4 = .ok (.iload_n 1, 1) := by decide +kernel
theorem dX3_isWriter_5 : decode cX3_isWriter 5 = .ok (.aload_n 0, 1) := by decide +kernel
theorem dX3_isWriter_6 : decode cX3_isWriter 6 = .ok (.getfield 70, 3) := by decide +kernel
theorem dX3_isWriter_9 : decode cX3_isWriter 9 = .ok (.if_icmp .gt 7, 3) := by decide +kernel
theorem dX3_isWriter_12 : decode cX3_isWriter 12 = .ok (.iconst 1, 1) := by decide +kernel
theorem dX3_isWriter_13 : decode cX3_isWriter 13 = .ok (.goto 4, 3) := by decide +kernel
theorem dX3_isWriter_16 : decode cX3_isWriter 16 = .ok (.iconst 0, 1) := by decide +kernel
theorem dX3_isWriter_17 : decode cX3_isWriter 17 = .ok (.ireturn, 1) := by decide +kernel
theorem dX3_fits_0 : decode cX3_fits 0 = .ok (.iload_n 2, 1) := by decide +kernel
theorem dX3_fits_1 : decode cX3_fits 1 = .ok (.bipush 16, 2) := by decide +kernel
theorem dX3_fits_3 : decode cX3_fits 3 = .ok (.irem, 1) := by decide +kernel
theorem dX3_fits_4 : decode cX3_fits 4 = .ok (.bipush 8, 2) := by decide +kernel
theorem dX3_fits_6 : decode cX3_fits 6 = .ok (.if_icmp .eq 16, 3) := by decide +kernel
theorem dX3_fits_9 : decode cX3_fits 9 = .ok (.iload_n 2, 1) := by decide +kernel
theorem dX3_fits_10 : decode cX3_fits 10 = .ok (.bipush 16, 2) := by decide +kernel
theorem dX3_fits_12 : decode cX3_fits 12 = .ok (.irem, 1) := by decide +kernel
theorem dX3_fits_13 : decode cX3_fits 13 = .ok (.aload_n 0, 1) := by decide +kernel
theorem dX3_fits_14 : decode cX3_fits 14 = .ok (.getfield 13, 3) := by decide +kernel
theorem dX3_fits_17 : decode cX3_fits 17 = .ok (.iload_n 1, 1) := by decide +kernel
theorem dX3_fits_18 : decode cX3_fits 18 = .ok (.iaload, 1) := by decide +kernel
theorem dX3_fits_19 : decode cX3_fits 19 = .ok (.if_icmp .ne 29, 3) := by decide +kernel
theorem dX3_fits_22 : decode cX3_fits 22 = .ok (.iload_n 2, 1) := by decide +kernel
theorem dX3_fits_23 : decode cX3_fits 23 = .ok (.bipush 16, 2) := by decide +kernel
theorem dX3_fits_25 : decode cX3_fits 25 = .ok (.idiv, 1) := by decide +kernel
theorem dX3_fits_26 : decode cX3_fits 26 = .ok (.ifCond .eq 18, 3) := by decide +kernel
theorem dX3_fits_29 : decode cX3_fits 29 = .ok (.iload_n 2, 1) := by decide +kernel
theorem dX3_fits_30 : decode cX3_fits 30 = .ok (.bipush 16, 2) := by decide +kernel
theorem dX3_fits_32 : decode cX3_fits 32 = .ok (.idiv, 1) := by decide +kernel
theorem dX3_fits_33 : decode cX3_fits 33 = .ok (.iconst 1, 1) := by decide +kernel
theorem dX3_fits_34 : decode cX3_fits 34 = .ok (.isub, 1) := by decide +kernel
theorem dX3_fits_35 : decode cX3_fits 35 = .ok (.aload_n 0, 1) := by decide +kernel
theorem dX3_fits_36 : decode cX3_fits 36 = .ok (.getfield 19, 3) := by decide +kernel
theorem dX3_fits_39 : decode cX3_fits 39 = .ok (.iload_n 1, 1) := by decide +kernel
theorem dX3_fits_40 : decode cX3_fits 40 = .ok (.iaload, 1) := by decide +kernel
theorem dX3_fits_41 : decode cX3_fits 41 = .ok (.if_icmp .ne 7, 3) := by decide +kernel
theorem dX3_fits_44 : decode cX3_fits 44 = .ok (.iconst 1, 1) := by decide +kernel
theorem dX3_fits_45 : decode cX3_fits 45 = .ok (.goto 4, 3) := by decide +kernel
theorem dX3_fits_48 : decode cX3_fits 48 = .ok (.iconst 0, 1) := by decide +kernel
theorem dX3_fits_49 : decode cX3_fits 49 = .ok (.ireturn, 1) := by decide +kernel
theorem dX3_next_0 : decode cX3_next 0 = .ok (.aload_n 0, 1) := by decide +kernel
theorem dX3_next_1 : decode cX3_next 1 = .ok (.iload_n 1, 1) := by decide +kernel
theorem dX3_next_2 : decode cX3_next 2 = .ok (.invokevirtual 100, 3) := by decide +kernel
theorem dX3_next_5 : decode cX3_next 5 = .ok (.ifCond .ne 5, 3) := by decide +kernel
theorem dX3_next_8 : decode cX3_next 8 = .ok (.iconst (-1), 1) := by decide +kernel
theorem dX3_next_9 : decode cX3_next 9 = .ok (.ireturn, 1) := by decide +kernel
theorem dX3_next_10 : decode cX3_next 10 = .ok (.aload_n 0, 1) := by decide +kernel
theorem dX3_next_11 : decode cX3_next 11 = .ok (.getfield 56, 3) := by decide +kernel
theorem dX3_next_14 : decode cX3_next 14 = .ok (.iload_n 1, 1) := by decide +kernel
theorem dX3_next_15 : decode cX3_next 15 = .ok (.iaload, 1) := by decide +kernel
theorem dX3_next_16 : decode cX3_next 16 = .ok (.ifCond .eq 6, 3) := by decide +kernel
theorem dX3_next_19 : decode cX3_next 19 = .ok (.bipush (-2), 2) := by decide +kernel
theorem dX3_next_21 : decode cX3_next 21 = .ok (.ireturn, 1) := by decide +kernel
theorem dX3_next_22 : decode cX3_next 22 = .ok (.iconst 0, 1) := by decide +kernel
theorem dX3_next_23 : decode cX3_next 23 = .ok (.istore_n 2, 1) := by decide +kernel
theorem dX3_next_24 : decode cX3_next 24 = .ok (.iconst 1, 1) := by decide +kernel
theorem dX3_next_25 : decode cX3_next 25 = .ok (.istore_n 3, 1) := by decide +kernel
theorem dX3_next_26 : decode cX3_next 26 = .ok (.iload_n 3, 1) := by decide +kernel
theorem dX3_next_27 : decode cX3_next 27 = .ok (.aload_n 0, 1) := by decide +kernel
theorem dX3_next_28 : decode cX3_next 28 = .ok (.getfield 67, 3) := by decide +kernel
theorem dX3_next_31 : decode cX3_next 31 = .ok (.if_icmp .gt 121, 3) := by decide +kernel
theorem dX3_next_34 : decode cX3_next 34 = .ok (.aload_n 0, 1) := by decide +kernel
theorem dX3_next_35 : decode cX3_next 35 = .ok (.getfield 25, 3) := by decide +kernel
theorem dX3_next_38 : decode cX3_next 38 = .ok (.iload_n 3, 1) := by decide +kernel
theorem dX3_next_39 : decode cX3_next 39 = .ok (.iaload, 1) := by decide +kernel
theorem dX3_next_40 : decode cX3_next 40 = .ok (.iconst 2, 1) := by decide +kernel
theorem dX3_next_41 : decode cX3_next 41 = .ok (.if_icmp .ne 105, 3) := by decide +kernel
theorem dX3_next_44 : decode cX3_next 44 = .ok (.aload_n 0, 1) := by decide +kernel
theorem dX3_next_45 : decode cX3_next 45 = .ok (.getfield 41, 3) := by decide +kernel
theorem dX3_next_48 : decode cX3_next 48 = .ok (.iload_n 3, 1) := by decide +kernel
theorem dX3_next_49 : decode cX3_next 49 = .ok (.baload, 1) := by decide +kernel
theorem dX3_next_50 : decode cX3_next 50 = .ok (.ifCond .ne 96, 3) := by decide +kernel
theorem dX3_next_53 : decode cX3_next 53 = .ok (.aload_n 0, 1) := by decide +kernel
theorem dX3_next_54 : decode cX3_next 54 = .ok (.getfield 28, 3) := by decide +kernel
theorem dX3_next_57 : decode cX3_next 57 = .ok (.iload_n 3, 1) := by decide +kernel
theorem dX3_next_58 : decode cX3_next 58 = .ok (.iaload, 1) := by decide +kernel
theorem dX3_next_59 : decode cX3_next 59 = .ok (.ifCond .eq 87, 3) := by decide +kernel
theorem dX3_next_62 : decode cX3_next 62 = .ok (.aload_n 0, 1) := by decide +kernel
theorem dX3_next_63 : decode cX3_next 63 = .ok (.iload_n 3, 1) := by decide +kernel
theorem dX3_next_64 : decode cX3_next 64 = .ok (.aload_n 0, 1) := by decide +kernel
theorem dX3_next_65 : decode cX3_next 65 = .ok (.getfield 53, 3) := by decide +kernel
theorem dX3_next_68 : decode cX3_next 68 = .ok (.iload_n 1, 1) := by decide +kernel
theorem dX3_next_69 : decode cX3_next 69 = .ok (.iaload, 1) := by decide +kernel
theorem dX3_next_70 : decode cX3_next 70 = .ok (.invokevirtual 103, 3) := by decide +kernel
theorem dX3_next_73 : decode cX3_next 73 = .ok (.ifCond .ne 6, 3) := by decide +kernel
theorem dX3_next_76 : decode cX3_next 76 = .ok (.goto 70, 3) := by decide +kernel
theorem dX3_next_79 : decode cX3_next 79 = .ok (.iload_n 2, 1) := by decide +kernel
theorem dX3_next_80 : decode cX3_next 80 = .ok (.ifCond .eq 48, 3) := by decide +kernel
theorem dX3_next_83 : decode cX3_next 83 = .ok (.aload_n 0, 1) := by decide +kernel
theorem dX3_next_84 : decode cX3_next 84 = .ok (.getfield 22, 3) := by decide +kernel
theorem dX3_next_87 : decode cX3_next 87 = .ok (.iload_n 3, 1) := by decide +kernel
theorem dX3_next_88 : decode cX3_next 88 = .ok (.iaload, 1) := by decide +kernel
theorem dX3_next_89 : decode cX3_next 89 = .ok (.aload_n 0, 1) := by decide +kernel
theorem dX3_next_90 : decode cX3_next 90 = .ok (.getfield 22, 3) := by decide +kernel
theorem dX3_next_93 : decode cX3_next 93 = .ok (.iload_n 2, 1) := by decide +kernel
theorem dX3_next_94 : decode cX3_next 94 = .ok (.iaload, 1) := by decide +kernel
theorem dX3_next_95 : decode cX3_next 95 = .ok (.if_icmp .gt 33, 3) := by decide +kernel
theorem dX3_next_98 : decode cX3_next 98 = .ok (.aload_n 0, 1) := by decide +kernel
theorem dX3_next_99 : decode cX3_next 99 = .ok (.getfield 22, 3) := by decide +kernel
theorem dX3_next_102 : decode cX3_next 102 = .ok (.iload_n 3, 1) := by decide +kernel
theorem dX3_next_103 : decode cX3_next 103 = .ok (.iaload, 1) := by decide +kernel
theorem dX3_next_104 : decode cX3_next 104 = .ok (.aload_n 0, 1) := by decide +kernel
theorem dX3_next_105 : decode cX3_next 105 = .ok (.getfield 22, 3) := by decide +kernel
theorem dX3_next_108 : decode cX3_next 108 = .ok (.iload_n 2, 1) := by decide +kernel
theorem dX3_next_109 : decode cX3_next 109 = .ok (.iaload, 1) := by decide +kernel
theorem dX3_next_110 : decode cX3_next 110 = .ok (.if_icmp .ne 22, 3) := by decide +kernel
theorem dX3_next_113 : decode cX3_next 113 = .ok (.aload_n 0, 1) := by decide +kernel
theorem dX3_next_114 : decode cX3_next 114 = .ok (.getfield 7, 3) := by decide +kernel
theorem dX3_next_117 : decode cX3_next 117 = .ok (.iload_n 3, 1) := by decide +kernel
theorem dX3_next_118 : decode cX3_next 118 = .ok (.iaload, 1) := by decide +kernel
theorem dX3_next_119 : decode cX3_next 119 = .ok (.aload_n 0, 1) := by decide +kernel
theorem dX3_next_120 : decode cX3_next 120 = .ok (.getfield 7, 3) := by decide +kernel
theorem dX3_next_123 : decode cX3_next 123 = .ok (.iload_n 2, 1) := by decide +kernel
theorem dX3_next_124 : decode cX3_next 124 = .ok (.iaload, 1) := by decide +kernel
theorem dX3_next_125 : decode cX3_next 125 = .ok (.if_icmp .ge 7, 3) := by decide +kernel
theorem dX3_next_128 : decode cX3_next 128 = .ok (.iconst 1, 1) := by decide +kernel
theorem dX3_next_129 : decode cX3_next 129 = .ok (.goto 4, 3) := by decide +kernel
theorem dX3_next_132 : decode cX3_next 132 = .ok (.iconst 0, 1) := by decide +kernel
theorem dX3_next_133 : decode cX3_next 133 = .ok (.istore 4, 2) := by decide +kernel
theorem dX3_next_135 : decode cX3_next 135 = .ok (.iload 4, 2) := by decide +kernel
theorem dX3_next_137 : decode cX3_next 137 = .ok (.ifCond .eq 7, 3) := by decide +kernel
theorem dX3_next_140 : decode cX3_next 140 = .ok (.iload_n 3, 1) := by decide +kernel
theorem dX3_next_141 : decode cX3_next 141 = .ok (.goto 4, 3) := by decide +kernel
theorem dX3_next_144 : decode cX3_next 144 = .ok (.iload_n 2, 1) := by decide +kernel
theorem dX3_next_145 : decode cX3_next 145 = .ok (.istore_n 2, 1) := by decide +kernel
theorem dX3_next_146 : decode cX3_next 146 = .ok (.iinc 3 1, 3) := by decide +kernel
theorem dX3_next_149 : decode cX3_next 149 = .ok (.goto (-123), 3) := by decide +kernel
theorem dX3_next_152 : decode cX3_next 152 = .ok (.iload_n 2, 1) := by decide +kernel
theorem dX3_next_153 : decode cX3_next 153 = .ok (.ifCond .ne 5, 3) := by decide +kernel
theorem dX3_next_156 : decode cX3_next 156 = .ok (.iconst 0, 1) := by decide +kernel
theorem dX3_next_157 : decode cX3_next 157 = .ok (.ireturn, 1) := by decide +kernel
theorem dX3_next_158 : decode cX3_next 158 = .ok (.aload_n 0, 1) := by decide +kernel
theorem dX3_next_159 : decode cX3_next 159 = .ok (.getfield 25, 3) := by decide +kernel
theorem dX3_next_162 : decode cX3_next 162 = .ok (.iload_n 2, 1) := by decide +kernel
theorem dX3_next_163 : decode cX3_next 163 = .ok (.iconst 3, 1) := by decide +kernel
theorem dX3_next_164 : decode cX3_next 164 = .ok (.iastore, 1) := by decide +kernel
theorem dX3_next_165 : decode cX3_next 165 = .ok (.aload_n 0, 1) := by decide +kernel
theorem dX3_next_166 : decode cX3_next 166 = .ok (.getfield 56, 3) := by decide +kernel
theorem dX3_next_169 : decode cX3_next 169 = .ok (.iload_n 1, 1) := by decide +kernel
theorem dX3_next_170 : decode cX3_next 170 = .ok (.iload_n 2, 1) := by decide +kernel
theorem dX3_next_171 : decode cX3_next 171 = .ok (.iastore, 1) := by decide +kernel
theorem dX3_next_172 : decode cX3_next 172 = .ok (.iload_n 2, 1) := by decide +kernel
theorem dX3_next_173 : decode cX3_next 173 = .ok (.ireturn, 1) := by decide +kernel
theorem dX3_print_0 : decode cX3_print 0 = .ok (.aload_n 0, 1) := by decide +kernel
theorem dX3_print_1 : decode cX3_print 1 = .ok (.iload_n 1, 1) := by decide +kernel
theorem dX3_print_2 : decode cX3_print 2 = .ok (.invokevirtual 100, 3) := by decide +kernel
theorem dX3_print_5 : decode cX3_print 5 = .ok (.ifCond .eq 7, 3) := by decide +kernel
theorem dX3_print_8 : decode cX3_print 8 = .ok (.iload_n 2, 1) := by decide +kernel
theorem dX3_print_9 : decode cX3_print 9 = .ok (.ifCond .ge 5, 3) := by decide +kernel
theorem dX3_print_12 : decode cX3_print 12 = .ok (.iconst (-1), 1) := by decide +kernel
theorem dX3_print_13 : decode cX3_print 13 = .ok (.ireturn, 1) := by decide +kernel
theorem dX3_print_14 : decode cX3_print 14 = .ok (.aload_n 0, 1) := by decide +kernel
theorem dX3_print_15 : decode cX3_print 15 = .ok (.getfield 56, 3) := by decide +kernel
theorem dX3_print_18 : decode cX3_print 18 = .ok (.iload_n 1, 1) := by decide +kernel
theorem dX3_print_19 : decode cX3_print 19 = .ok (.iaload, 1) := by decide +kernel
theorem dX3_print_20 : decode cX3_print 20 = .ok (.istore_n 3, 1) := by decide +kernel
theorem dX3_print_21 : decode cX3_print 21 = .ok (.iload_n 3, 1) := by decide +kernel
theorem dX3_print_22 : decode cX3_print 22 = .ok (.ifCond .ne 6, 3) := by decide +kernel
theorem dX3_print_25 : decode cX3_print 25 = .ok (.bipush (-2), 2) := by decide +kernel
theorem dX3_print_27 : decode cX3_print 27 = .ok (.ireturn, 1) := by decide +kernel
theorem dX3_print_28 : decode cX3_print 28 = .ok (.aload_n 0, 1) := by decide +kernel
theorem dX3_print_29 : decode cX3_print 29 = .ok (.iload_n 3, 1) := by decide +kernel
theorem dX3_print_30 : decode cX3_print 30 = .ok (.invokevirtual 77, 3) := by decide +kernel
theorem dX3_print_33 : decode cX3_print 33 = .ok (.aload_n 0, 1) := by decide +kernel
theorem dX3_print_34 : decode cX3_print 34 = .ok (.getfield 16, 3) := by decide +kernel
theorem dX3_print_37 : decode cX3_print 37 = .ok (.iload_n 3, 1) := by decide +kernel
theorem dX3_print_38 : decode cX3_print 38 = .ok (.iaload, 1) := by decide +kernel
theorem dX3_print_39 : decode cX3_print 39 = .ok (.imul, 1) := by decide +kernel
theorem dX3_print_40 : decode cX3_print 40 = .ok (.aload_n 0, 1) := by decide +kernel
theorem dX3_print_41 : decode cX3_print 41 = .ok (.getfield 34, 3) := by decide +kernel
theorem dX3_print_44 : decode cX3_print 44 = .ok (.iload_n 3, 1) := by decide +kernel
theorem dX3_print_45 : decode cX3_print 45 = .ok (.iaload, 1) := by decide +kernel
theorem dX3_print_46 : decode cX3_print 46 = .ok (.isub, 1) := by decide +kernel
theorem dX3_print_47 : decode cX3_print 47 = .ok (.istore 4, 2) := by decide +kernel
theorem dX3_print_49 : decode cX3_print 49 = .ok (.iload_n 2, 1) := by decide +kernel
theorem dX3_print_50 : decode cX3_print 50 = .ok (.iload 4, 2) := by decide +kernel
theorem dX3_print_52 : decode cX3_print 52 = .ok (.if_icmp .ge 7, 3) := by decide +kernel
theorem dX3_print_55 : decode cX3_print 55 = .ok (.iload_n 2, 1) := by decide +kernel
theorem dX3_print_56 : decode cX3_print 56 = .ok (.goto 5, 3) := by decide +kernel
theorem dX3_print_59 : decode cX3_print 59 = .ok (.iload 4, 2) := by decide +kernel
theorem dX3_print_61 : decode cX3_print 61 = .ok (.istore 5, 2) := by decide +kernel
theorem dX3_print_63 : decode cX3_print 63 = .ok (.aload_n 0, 1) := by decide +kernel
theorem dX3_print_64 : decode cX3_print 64 = .ok (.getfield 34, 3) := by decide +kernel
theorem dX3_print_67 : decode cX3_print 67 = .ok (.iload_n 3, 1) := by decide +kernel
theorem dX3_print_68 : decode cX3_print 68 = .ok (.dup2, 1) := by decide +kernel
theorem dX3_print_69 : decode cX3_print 69 = .ok (.iaload, 1) := by decide +kernel
theorem dX3_print_70 : decode cX3_print 70 = .ok (.iload 5, 2) := by decide +kernel
theorem dX3_print_72 : decode cX3_print 72 = .ok (.iadd, 1) := by decide +kernel
theorem dX3_print_73 : decode cX3_print 73 = .ok (.iastore, 1) := by decide +kernel
theorem dX3_print_74 : decode cX3_print 74 = .ok (.aload_n 0, 1) := by decide +kernel
theorem dX3_print_75 : decode cX3_print 75 = .ok (.dup, 1) := by decide +kernel
theorem dX3_print_76 : decode cX3_print 76 = .ok (.getfield 107, 3) := by decide +kernel
theorem dX3_print_79 : decode cX3_print 79 = .ok (.iload 5, 2) := by decide +kernel
theorem dX3_print_81 : decode cX3_print 81 = .ok (.iadd, 1) := by decide +kernel
theorem dX3_print_82 : decode cX3_print 82 = .ok (.putfield 107, 3) := by decide +kernel
theorem dX3_print_85 : decode cX3_print 85 = .ok (.iload 5, 2) := by decide +kernel
theorem dX3_print_87 : decode cX3_print 87 = .ok (.iload 4, 2) := by decide +kernel
theorem dX3_print_89 : decode cX3_print 89 = .ok (.if_icmp .ge 6, 3) := by decide +kernel
theorem dX3_print_92 : decode cX3_print 92 = .ok (.iload 5, 2) := by decide +kernel
theorem dX3_print_94 : decode cX3_print 94 = .ok (.ireturn, 1) := by decide +kernel
theorem dX3_print_95 : decode cX3_print 95 = .ok (.aload_n 0, 1) := by decide +kernel
theorem dX3_print_96 : decode cX3_print 96 = .ok (.iload_n 3, 1) := by decide +kernel
theorem dX3_print_97 : decode cX3_print 97 = .ok (.iconst 4, 1) := by decide +kernel
theorem dX3_print_98 : decode cX3_print 98 = .ok (.invokevirtual 96, 3) := by decide +kernel
theorem dX3_print_101 : decode cX3_print 101 = .ok (.aload_n 0, 1) := by decide +kernel
theorem dX3_print_102 : decode cX3_print 102 = .ok (.getfield 59, 3) := by decide +kernel
theorem dX3_print_105 : decode cX3_print 105 = .ok (.aload_n 0, 1) := by decide +kernel
theorem dX3_print_106 : decode cX3_print 106 = .ok (.getfield 110, 3) := by decide +kernel
theorem dX3_print_109 : decode cX3_print 109 = .ok (.iload_n 3, 1) := by decide +kernel
theorem dX3_print_110 : decode cX3_print 110 = .ok (.iastore, 1) := by decide +kernel
theorem dX3_print_111 : decode cX3_print 111 = .ok (.aload_n 0, 1) := by decide +kernel
theorem dX3_print_112 : decode cX3_print 112 = .ok (.dup, 1) := by decide +kernel
theorem dX3_print_113 : decode cX3_print 113 = .ok (.getfield 110, 3) := by decide +kernel
theorem dX3_print_116 : decode cX3_print 116 = .ok (.iconst 1, 1) := by decide +kernel
theorem dX3_print_117 : decode cX3_print 117 = .ok (.iadd, 1) := by decide +kernel
theorem dX3_print_118 : decode cX3_print 118 = .ok (.putfield 110, 3) := by decide +kernel
theorem dX3_print_121 : decode cX3_print 121 = .ok (.aload_n 0, 1) := by decide +kernel
theorem dX3_print_122 : decode cX3_print 122 = .ok (.getfield 56, 3) := by decide +kernel
theorem dX3_print_125 : decode cX3_print 125 = .ok (.iload_n 1, 1) := by decide +kernel
theorem dX3_print_126 : decode cX3_print 126 = .ok (.iconst 0, 1) := by decide +kernel
theorem dX3_print_127 : decode cX3_print 127 = .ok (.iastore, 1) := by decide +kernel
theorem dX3_print_128 : decode cX3_print 128 = .ok (.iload 5, 2) := by decide +kernel
theorem dX3_print_130 : decode cX3_print 130 = .ok (.ireturn, 1) := by decide +kernel
theorem dX3_cut_0 : decode cX3_cut 0 = .ok (.aload_n 0, 1) := by decide +kernel
theorem dX3_cut_1 : decode cX3_cut 1 = .ok (.iload_n 1, 1) := by decide +kernel
theorem dX3_cut_2 : decode cX3_cut 2 = .ok (.invokevirtual 100, 3) := by decide +kernel
theorem dX3_cut_5 : decode cX3_cut 5 = .ok (.ifCond .ne 5, 3) := by decide +kernel
theorem dX3_cut_8 : decode cX3_cut 8 = .ok (.iconst (-1), 1) := by decide +kernel
theorem dX3_cut_9 : decode cX3_cut 9 = .ok (.ireturn, 1) := by decide +kernel
theorem dX3_cut_10 : decode cX3_cut 10 = .ok (.aload_n 0, 1) := by decide +kernel
theorem dX3_cut_11 : decode cX3_cut 11 = .ok (.getfield 56, 3) := by decide +kernel
theorem dX3_cut_14 : decode cX3_cut 14 = .ok (.iload_n 1, 1) := by decide +kernel
theorem dX3_cut_15 : decode cX3_cut 15 = .ok (.iaload, 1) := by decide +kernel
theorem dX3_cut_16 : decode cX3_cut 16 = .ok (.istore_n 2, 1) := by decide +kernel
theorem dX3_cut_17 : decode cX3_cut 17 = .ok (.iload_n 2, 1) := by decide +kernel
theorem dX3_cut_18 : decode cX3_cut 18 = .ok (.ifCond .ne 6, 3) := by decide +kernel
theorem dX3_cut_21 : decode cX3_cut 21 = .ok (.bipush (-2), 2) := by decide +kernel
theorem dX3_cut_23 : decode cX3_cut 23 = .ok (.ireturn, 1) := by decide +kernel
theorem dX3_cut_24 : decode cX3_cut 24 = .ok (.aload_n 0, 1) := by decide +kernel
theorem dX3_cut_25 : decode cX3_cut 25 = .ok (.getfield 34, 3) := by decide +kernel
theorem dX3_cut_28 : decode cX3_cut 28 = .ok (.iload_n 2, 1) := by decide +kernel
theorem dX3_cut_29 : decode cX3_cut 29 = .ok (.iaload, 1) := by decide +kernel
theorem dX3_cut_30 : decode cX3_cut 30 = .ok (.iconst 4, 1) := by decide +kernel
theorem dX3_cut_31 : decode cX3_cut 31 = .ok (.idiv, 1) := by decide +kernel
theorem dX3_cut_32 : decode cX3_cut 32 = .ok (.iconst 4, 1) := by decide +kernel
theorem dX3_cut_33 : decode cX3_cut 33 = .ok (.imul, 1) := by decide +kernel
theorem dX3_cut_34 : decode cX3_cut 34 = .ok (.istore_n 3, 1) := by decide +kernel
theorem dX3_cut_35 : decode cX3_cut 35 = .ok (.aload_n 0, 1) := by decide +kernel
theorem dX3_cut_36 : decode cX3_cut 36 = .ok (.getfield 44, 3) := by decide +kernel
theorem dX3_cut_39 : decode cX3_cut 39 = .ok (.iload_n 2, 1) := by decide +kernel
theorem dX3_cut_40 : decode cX3_cut 40 = .ok (.baload, 1) := by decide +kernel
theorem dX3_cut_41 : decode cX3_cut 41 = .ok (.ifCond .eq 18, 3) := by decide +kernel
theorem dX3_cut_44 : decode cX3_cut 44 = .ok (.aload_n 0, 1) := by decide +kernel
theorem dX3_cut_45 : decode cX3_cut 45 = .ok (.iload_n 2, 1) := by decide +kernel
theorem dX3_cut_46 : decode cX3_cut 46 = .ok (.iconst 5, 1) := by decide +kernel
theorem dX3_cut_47 : decode cX3_cut 47 = .ok (.invokevirtual 96, 3) := by decide +kernel
theorem dX3_cut_50 : decode cX3_cut 50 = .ok (.aload_n 0, 1) := by decide +kernel
theorem dX3_cut_51 : decode cX3_cut 51 = .ok (.getfield 56, 3) := by decide +kernel
theorem dX3_cut_54 : decode cX3_cut 54 = .ok (.iload_n 1, 1) := by decide +kernel
theorem dX3_cut_55 : decode cX3_cut 55 = .ok (.iconst 0, 1) := by decide +kernel
theorem dX3_cut_56 : decode cX3_cut 56 = .ok (.iastore, 1) := by decide +kernel
theorem dX3_cut_57 : decode cX3_cut 57 = .ok (.iload_n 3, 1) := by decide +kernel
theorem dX3_cut_58 : decode cX3_cut 58 = .ok (.ireturn, 1) := by decide +kernel
theorem dX3_cut_59 : decode cX3_cut 59 = .ok (.aload_n 0, 1) := by decide +kernel
theorem dX3_cut_60 : decode cX3_cut 60 = .ok (.dup, 1) := by decide +kernel
theorem dX3_cut_61 : decode cX3_cut 61 = .ok (.getfield 113, 3) := by decide +kernel
theorem dX3_cut_64 : decode cX3_cut 64 = .ok (.aload_n 0, 1) := by decide +kernel
theorem dX3_cut_65 : decode cX3_cut 65 = .ok (.getfield 34, 3) := by decide +kernel
theorem dX3_cut_68 : decode cX3_cut 68 = .ok (.iload_n 2, 1) := by decide +kernel
theorem dX3_cut_69 : decode cX3_cut 69 = .ok (.iaload, 1) := by decide +kernel
theorem dX3_cut_70 : decode cX3_cut 70 = .ok (.iload_n 3, 1) := by decide +kernel
theorem dX3_cut_71 : decode cX3_cut 71 = .ok (.isub, 1) := by decide +kernel
theorem dX3_cut_72 : decode cX3_cut 72 = .ok (.iadd, 1) := by decide +kernel
theorem dX3_cut_73 : decode cX3_cut 73 = .ok (.putfield 113, 3) := by decide +kernel
theorem dX3_cut_76 : decode cX3_cut 76 = .ok (.aload_n 0, 1) := by decide +kernel
theorem dX3_cut_77 : decode cX3_cut 77 = .ok (.getfield 34, 3) := by decide +kernel
theorem dX3_cut_80 : decode cX3_cut 80 = .ok (.iload_n 2, 1) := by decide +kernel
theorem dX3_cut_81 : decode cX3_cut 81 = .ok (.iload_n 3, 1) := by decide +kernel
theorem dX3_cut_82 : decode cX3_cut 82 = .ok (.iastore, 1) := by decide +kernel
theorem dX3_cut_83 : decode cX3_cut 83 = .ok (.iload_n 3, 1) := by decide +kernel
theorem dX3_cut_84 : decode cX3_cut 84 = .ok (.ireturn, 1) := by decide +kernel
theorem dX3_purge_0 : decode cX3_purge 0 = .ok (.aload_n 0, 1) := by decide +kernel
theorem dX3_purge_1 : decode cX3_purge 1 = .ok (.iload_n 1, 1) := by decide +kernel
theorem dX3_purge_2 : decode cX3_purge 2 = .ok (.invokevirtual 89, 3) := by decide +kernel
theorem dX3_purge_5 : decode cX3_purge 5 = .ok (.ifCond .ne 5, 3) := by decide +kernel
theorem dX3_purge_8 : decode cX3_purge 8 = .ok (.iconst (-1), 1) := by decide +kernel
theorem dX3_purge_9 : decode cX3_purge 9 = .ok (.ireturn, 1) := by decide +kernel
theorem dX3_purge_10 : decode cX3_purge 10 = .ok (.aload_n 0, 1) := by decide +kernel
theorem dX3_purge_11 : decode cX3_purge 11 = .ok (.iload_n 1, 1) := by decide +kernel
theorem dX3_purge_12 : decode cX3_purge 12 = .ok (.invokevirtual 73, 3) := by decide +kernel
theorem dX3_purge_15 : decode cX3_purge 15 = .ok (.ifCond .eq 6, 3) := by decide +kernel
theorem dX3_purge_18 : decode cX3_purge 18 = .ok (.bipush (-2), 2) := by decide +kernel
theorem dX3_purge_20 : decode cX3_purge 20 = .ok (.ireturn, 1) := by decide +kernel
theorem dX3_purge_21 : decode cX3_purge 21 = .ok (.aload_n 0, 1) := by decide +kernel
theorem dX3_purge_22 : decode cX3_purge 22 = .ok (.getfield 25, 3) := by decide +kernel
theorem dX3_purge_25 : decode cX3_purge 25 = .ok (.iload_n 1, 1) := by decide +kernel
theorem dX3_purge_26 : decode cX3_purge 26 = .ok (.iaload, 1) := by decide +kernel
theorem dX3_purge_27 : decode cX3_purge 27 = .ok (.iconst 3, 1) := by decide +kernel
theorem dX3_purge_28 : decode cX3_purge 28 = .ok (.if_icmp .ne 12, 3) := by decide +kernel
theorem dX3_purge_31 : decode cX3_purge 31 = .ok (.aload_n 0, 1) := by decide +kernel
theorem dX3_purge_32 : decode cX3_purge 32 = .ok (.getfield 44, 3) := by decide +kernel
theorem dX3_purge_35 : decode cX3_purge 35 = .ok (.iload_n 1, 1) := by decide +kernel
theorem dX3_purge_36 : decode cX3_purge 36 = .ok (.iconst 1, 1) := by decide +kernel
theorem dX3_purge_37 : decode cX3_purge 37 = .ok (.bastore, 1) := by decide +kernel
theorem dX3_purge_38 : decode cX3_purge 38 = .ok (.iconst 0, 1) := by decide +kernel
theorem dX3_purge_39 : decode cX3_purge 39 = .ok (.ireturn, 1) := by decide +kernel
theorem dX3_purge_40 : decode cX3_purge 40 = .ok (.aload_n 0, 1) := by decide +kernel
theorem dX3_purge_41 : decode cX3_purge 41 = .ok (.iload_n 1, 1) := by decide +kernel
theorem dX3_purge_42 : decode cX3_purge 42 = .ok (.iconst 5, 1) := by decide +kernel
theorem dX3_purge_43 : decode cX3_purge 43 = .ok (.invokevirtual 96, 3) := by decide +kernel
theorem dX3_purge_46 : decode cX3_purge 46 = .ok (.iconst 1, 1) := by decide +kernel
theorem dX3_purge_47 : decode cX3_purge 47 = .ok (.ireturn, 1) := by decide +kernel
theorem dX3_isStill_0 : decode cX3_isStill 0 = .ok (.aload_n 0, 1) := by decide +kernel
theorem dX3_isStill_1 : decode cX3_isStill 1 = .ok (.getfield 25, 3) := by decide +kernel
theorem dX3_isStill_4 : decode cX3_isStill 4 = .ok (.iload_n 1, 1) := by decide +kernel
theorem dX3_isStill_5 : decode cX3_isStill 5 = .ok (.iaload, 1) := by decide +kernel
theorem dX3_isStill_6 : decode cX3_isStill 6 = .ok (.iconst 1, 1) := by decide +kernel
theorem dX3_isStill_7 : decode cX3_isStill 7 = .ok (.if_icmp .eq 13, 3) := by decide +kernel
theorem dX3_isStill_10 : decode cX3_isStill 10 = .ok (.aload_n 0, 1) := by decide +kernel
theorem dX3_isStill_11 : decode cX3_isStill 11 = .ok (.getfield 25, 3) := by decide +kernel
theorem dX3_isStill_14 : decode cX3_isStill 14 = .ok (.iload_n 1, 1) := by decide +kernel
theorem dX3_isStill_15 : decode cX3_isStill 15 = .ok (.iaload, 1) := by decide +kernel
theorem dX3_isStill_16 : decode cX3_isStill 16 = .ok (.iconst 2, 1) := by decide +kernel
theorem dX3_isStill_17 : decode cX3_isStill 17 = .ok (.if_icmp .ne 7, 3) := by decide +kernel
theorem dX3_isStill_20 : decode cX3_isStill 20 = .ok (.iconst 1, 1) := by decide +kernel
theorem dX3_isStill_21 : decode cX3_isStill 21 = .ok (.goto 4, 3) := by decide +kernel
theorem dX3_isStill_24 : decode cX3_isStill 24 = .ok (.iconst 0, 1) := by decide +kernel
theorem dX3_isStill_25 : decode cX3_isStill 25 = .ok (.ireturn, 1) := by decide +kernel
theorem dX3_hold_0 : decode cX3_hold 0 = .ok (.aload_n 0, 1) := by decide +kernel
theorem dX3_hold_1 : decode cX3_hold 1 = .ok (.iload_n 1, 1) := by decide +kernel
theorem dX3_hold_2 : decode cX3_hold 2 = .ok (.invokevirtual 89, 3) := by decide +kernel
theorem dX3_hold_5 : decode cX3_hold 5 = .ok (.ifCond .ne 5, 3) := by decide +kernel
theorem dX3_hold_8 : decode cX3_hold 8 = .ok (.iconst (-1), 1) := by decide +kernel
theorem dX3_hold_9 : decode cX3_hold 9 = .ok (.ireturn, 1) := by decide +kernel
theorem dX3_hold_10 : decode cX3_hold 10 = .ok (.aload_n 0, 1) := by decide +kernel
theorem dX3_hold_11 : decode cX3_hold 11 = .ok (.iload_n 1, 1) := by decide +kernel
theorem dX3_hold_12 : decode cX3_hold 12 = .ok (.invokevirtual 116, 3) := by decide +kernel
theorem dX3_hold_15 : decode cX3_hold 15 = .ok (.ifCond .ne 6, 3) := by decide +kernel
theorem dX3_hold_18 : decode cX3_hold 18 = .ok (.bipush (-2), 2) := by decide +kernel
theorem dX3_hold_20 : decode cX3_hold 20 = .ok (.ireturn, 1) := by decide +kernel
theorem dX3_hold_21 : decode cX3_hold 21 = .ok (.aload_n 0, 1) := by decide +kernel
theorem dX3_hold_22 : decode cX3_hold 22 = .ok (.getfield 41, 3) := by decide +kernel
theorem dX3_hold_25 : decode cX3_hold 25 = .ok (.iload_n 1, 1) := by decide +kernel
theorem dX3_hold_26 : decode cX3_hold 26 = .ok (.baload, 1) := by decide +kernel
theorem dX3_hold_27 : decode cX3_hold 27 = .ok (.ifCond .eq 7, 3) := by decide +kernel
theorem dX3_hold_30 : decode cX3_hold 30 = .ok (.iconst 1, 1) := by decide +kernel
theorem dX3_hold_31 : decode cX3_hold 31 = .ok (.goto 4, 3) := by decide +kernel
theorem dX3_hold_34 : decode cX3_hold 34 = .ok (.iconst 0, 1) := by decide +kernel
theorem dX3_hold_35 : decode cX3_hold 35 = .ok (.istore_n 3, 1) := by decide +kernel
theorem dX3_hold_36 : decode cX3_hold 36 = .ok (.aload_n 0, 1) := by decide +kernel
theorem dX3_hold_37 : decode cX3_hold 37 = .ok (.getfield 41, 3) := by decide +kernel
theorem dX3_hold_40 : decode cX3_hold 40 = .ok (.iload_n 1, 1) := by decide +kernel
theorem dX3_hold_41 : decode cX3_hold 41 = .ok (.iload_n 2, 1) := by decide +kernel
theorem dX3_hold_42 : decode cX3_hold 42 = .ok (.bastore, 1) := by decide +kernel
theorem dX3_hold_43 : decode cX3_hold 43 = .ok (.iload_n 3, 1) := by decide +kernel
theorem dX3_hold_44 : decode cX3_hold 44 = .ok (.ireturn, 1) := by decide +kernel
theorem dX3_route_0 : decode cX3_route 0 = .ok (.aload_n 0, 1) := by decide +kernel
theorem dX3_route_1 : decode cX3_route 1 = .ok (.iload_n 1, 1) := by decide +kernel
theorem dX3_route_2 : decode cX3_route 2 = .ok (.invokevirtual 89, 3) := by decide +kernel
theorem dX3_route_5 : decode cX3_route 5 = .ok (.ifCond .eq 13, 3) := by decide +kernel
theorem dX3_route_8 : decode cX3_route 8 = .ok (.iload_n 2, 1) := by decide +kernel
theorem dX3_route_9 : decode cX3_route 9 = .ok (.ifCond .lt 9, 3) := by decide +kernel
theorem dX3_route_12 : decode cX3_route 12 = .ok (.iload_n 2, 1) := by decide +kernel
theorem dX3_route_13 : decode cX3_route 13 = .ok (.bipush 63, 2) := by decide +kernel
theorem dX3_route_15 : decode cX3_route 15 = .ok (.if_icmp .le 5, 3) := by decide +kernel
theorem dX3_route_18 : decode cX3_route 18 = .ok (.iconst (-1), 1) := by decide +kernel
theorem dX3_route_19 : decode cX3_route 19 = .ok (.ireturn, 1) := by decide +kernel
theorem dX3_route_20 : decode cX3_route 20 = .ok (.aload_n 0, 1) := by decide +kernel
theorem dX3_route_21 : decode cX3_route 21 = .ok (.iload_n 1, 1) := by decide +kernel
theorem dX3_route_22 : decode cX3_route 22 = .ok (.invokevirtual 116, 3) := by decide +kernel
theorem dX3_route_25 : decode cX3_route 25 = .ok (.ifCond .ne 6, 3) := by decide +kernel
theorem dX3_route_28 : decode cX3_route 28 = .ok (.bipush (-2), 2) := by decide +kernel
theorem dX3_route_30 : decode cX3_route 30 = .ok (.ireturn, 1) := by decide +kernel
theorem dX3_route_31 : decode cX3_route 31 = .ok (.bipush 8, 2) := by decide +kernel
theorem dX3_route_33 : decode cX3_route 33 = .ok (.aload_n 0, 1) := by decide +kernel
theorem dX3_route_34 : decode cX3_route 34 = .ok (.getfield 22, 3) := by decide +kernel
theorem dX3_route_37 : decode cX3_route 37 = .ok (.iload_n 1, 1) := by decide +kernel
theorem dX3_route_38 : decode cX3_route 38 = .ok (.iaload, 1) := by decide +kernel
theorem dX3_route_39 : decode cX3_route 39 = .ok (.imul, 1) := by decide +kernel
theorem dX3_route_40 : decode cX3_route 40 = .ok (.aload_n 0, 1) := by decide +kernel
theorem dX3_route_41 : decode cX3_route 41 = .ok (.getfield 19, 3) := by decide +kernel
theorem dX3_route_44 : decode cX3_route 44 = .ok (.iload_n 1, 1) := by decide +kernel
theorem dX3_route_45 : decode cX3_route 45 = .ok (.iaload, 1) := by decide +kernel
theorem dX3_route_46 : decode cX3_route 46 = .ok (.iadd, 1) := by decide +kernel
theorem dX3_route_47 : decode cX3_route 47 = .ok (.istore_n 3, 1) := by decide +kernel
theorem dX3_route_48 : decode cX3_route 48 = .ok (.aload_n 0, 1) := by decide +kernel
theorem dX3_route_49 : decode cX3_route 49 = .ok (.getfield 22, 3) := by decide +kernel
theorem dX3_route_52 : decode cX3_route 52 = .ok (.iload_n 1, 1) := by decide +kernel
theorem dX3_route_53 : decode cX3_route 53 = .ok (.iload_n 2, 1) := by decide +kernel
theorem dX3_route_54 : decode cX3_route 54 = .ok (.bipush 8, 2) := by decide +kernel
theorem dX3_route_56 : decode cX3_route 56 = .ok (.idiv, 1) := by decide +kernel
theorem dX3_route_57 : decode cX3_route 57 = .ok (.iastore, 1) := by decide +kernel
theorem dX3_route_58 : decode cX3_route 58 = .ok (.aload_n 0, 1) := by decide +kernel
theorem dX3_route_59 : decode cX3_route 59 = .ok (.getfield 19, 3) := by decide +kernel
theorem dX3_route_62 : decode cX3_route 62 = .ok (.iload_n 1, 1) := by decide +kernel
theorem dX3_route_63 : decode cX3_route 63 = .ok (.iload_n 2, 1) := by decide +kernel
theorem dX3_route_64 : decode cX3_route 64 = .ok (.bipush 8, 2) := by decide +kernel
theorem dX3_route_66 : decode cX3_route 66 = .ok (.irem, 1) := by decide +kernel
theorem dX3_route_67 : decode cX3_route 67 = .ok (.iastore, 1) := by decide +kernel
theorem dX3_route_68 : decode cX3_route 68 = .ok (.iload_n 3, 1) := by decide +kernel
theorem dX3_route_69 : decode cX3_route 69 = .ok (.ireturn, 1) := by decide +kernel
theorem dX3_search_0 : decode cX3_search 0 = .ok (.iload_n 1, 1) := by decide +kernel
theorem dX3_search_1 : decode cX3_search 1 = .ok (.ifCond .lt 10, 3) := by decide +kernel
theorem dX3_search_4 : decode cX3_search 4 = .ok (.iload_n 1, 1) := by decide +kernel
theorem dX3_search_5 : decode cX3_search 5 = .ok (.sipush 255, 3) := by decide +kernel
theorem dX3_search_8 : decode cX3_search 8 = .ok (.if_icmp .le 5, 3) := by decide +kernel
theorem dX3_search_11 : decode cX3_search 11 = .ok (.iconst (-1), 1) := by decide +kernel
theorem dX3_search_12 : decode cX3_search 12 = .ok (.ireturn, 1) := by decide +kernel
theorem dX3_search_13 : decode cX3_search 13 = .ok (.iconst 0, 1) := by decide +kernel
theorem dX3_search_14 : decode cX3_search 14 = .ok (.istore_n 2, 1) := by decide +kernel
theorem dX3_search_15 : decode cX3_search 15 = .ok (.iconst 0, 1) := by decide +kernel
theorem dX3_search_16 : decode cX3_search 16 = .ok (.istore_n 3, 1) := by decide +kernel
theorem dX3_search_17 : decode cX3_search 17 = .ok (.iload_n 3, 1) := by decide +kernel
theorem dX3_search_18 : decode cX3_search 18 = .ok (.aload_n 0, 1) := by decide +kernel
theorem dX3_search_19 : decode cX3_search 19 = .ok (.getfield 93, 3) := by decide +kernel
theorem dX3_search_22 : decode cX3_search 22 = .ok (.if_icmp .ge 40, 3) := by decide +kernel
theorem dX3_search_25 : decode cX3_search 25 = .ok (.iload_n 2, 1) := by decide +kernel
theorem dX3_search_26 : decode cX3_search 26 = .ok (.aload_n 0, 1) := by decide +kernel
theorem dX3_search_27 : decode cX3_search 27 = .ok (.getfield 50, 3) := by decide +kernel
theorem dX3_search_30 : decode cX3_search 30 = .ok (.iload_n 3, 1) := by decide +kernel
theorem dX3_search_31 : decode cX3_search 31 = .ok (.iaload, 1) := by decide +kernel
theorem dX3_search_32 : decode cX3_search 32 = .ok (.iload_n 1, 1) := by decide +kernel
theorem dX3_search_33 : decode cX3_search 33 = .ok (.if_icmp .ne 20, 3) := by decide +kernel
theorem dX3_search_36 : decode cX3_search 36 = .ok (.aload_n 0, 1) := by decide +kernel
theorem dX3_search_37 : decode cX3_search 37 = .ok (.aload_n 0, 1) := by decide +kernel
theorem dX3_search_38 : decode cX3_search 38 = .ok (.getfield 47, 3) := by decide +kernel
theorem dX3_search_41 : decode cX3_search 41 = .ok (.iload_n 3, 1) := by decide +kernel
theorem dX3_search_42 : decode cX3_search 42 = .ok (.iaload, 1) := by decide +kernel
theorem dX3_search_43 : decode cX3_search 43 = .ok (.invokevirtual 73, 3) := by decide +kernel
theorem dX3_search_46 : decode cX3_search 46 = .ok (.ifCond .ne 7, 3) := by decide +kernel
theorem dX3_search_49 : decode cX3_search 49 = .ok (.iconst 1, 1) := by decide +kernel
theorem dX3_search_50 : decode cX3_search 50 = .ok (.goto 4, 3) := by decide +kernel
theorem dX3_search_53 : decode cX3_search 53 = .ok (.iconst 0, 1) := by decide +kernel
theorem dX3_search_54 : decode cX3_search 54 = .ok (.iadd, 1) := by decide +kernel
theorem dX3_search_55 : decode cX3_search 55 = .ok (.istore_n 2, 1) := by decide +kernel
theorem dX3_search_56 : decode cX3_search 56 = .ok (.iinc 3 1, 3) := by decide +kernel
theorem dX3_search_59 : decode cX3_search 59 = .ok (.goto (-42), 3) := by decide +kernel
theorem dX3_search_62 : decode cX3_search 62 = .ok (.iload_n 2, 1) := by decide +kernel
theorem dX3_search_63 : decode cX3_search 63 = .ok (.ireturn, 1) := by decide +kernel
theorem dX3_order_0 : decode cX3_order 0 = .ok (.iload_n 1, 1) := by decide +kernel
theorem dX3_order_1 : decode cX3_order 1 = .ok (.ifCond .lt 20, 3) := by decide +kernel
theorem dX3_order_4 : decode cX3_order 4 = .ok (.iload_n 1, 1) := by decide +kernel
theorem dX3_order_5 : decode cX3_order 5 = .ok (.aload_n 0, 1) := by decide +kernel
theorem dX3_order_6 : decode cX3_order 6 = .ok (.getfield 110, 3) := by decide +kernel
theorem dX3_order_9 : decode cX3_order 9 = .ok (.if_icmp .ge 12, 3) := by decide +kernel
theorem dX3_order_12 : decode cX3_order 12 = .ok (.aload_n 0, 1) := by decide +kernel
theorem dX3_order_13 : decode cX3_order 13 = .ok (.getfield 59, 3) := by decide +kernel
theorem dX3_order_16 : decode cX3_order 16 = .ok (.iload_n 1, 1) := by decide +kernel
theorem dX3_order_17 : decode cX3_order 17 = .ok (.iaload, 1) := by decide +kernel
theorem dX3_order_18 : decode cX3_order 18 = .ok (.goto 4, 3) := by decide +kernel
theorem dX3_order_21 : decode cX3_order 21 = .ok (.iconst 0, 1) := by decide +kernel
theorem dX3_order_22 : decode cX3_order 22 = .ok (.ireturn, 1) := by decide +kernel
theorem dX3_state_0 : decode cX3_state 0 = .ok (.aload_n 0, 1) := by decide +kernel
theorem dX3_state_1 : decode cX3_state 1 = .ok (.iload_n 1, 1) := by decide +kernel
theorem dX3_state_2 : decode cX3_state 2 = .ok (.invokevirtual 89, 3) := by decide +kernel
theorem dX3_state_5 : decode cX3_state 5 = .ok (.ifCond .ne 5, 3) := by decide +kernel
theorem dX3_state_8 : decode cX3_state 8 = .ok (.iconst (-1), 1) := by decide +kernel
theorem dX3_state_9 : decode cX3_state 9 = .ok (.ireturn, 1) := by decide +kernel
theorem dX3_state_10 : decode cX3_state 10 = .ok (.aload_n 0, 1) := by decide +kernel
theorem dX3_state_11 : decode cX3_state 11 = .ok (.iload_n 1, 1) := by decide +kernel
theorem dX3_state_12 : decode cX3_state 12 = .ok (.invokevirtual 77, 3) := by decide +kernel
theorem dX3_state_15 : decode cX3_state 15 = .ok (.istore_n 3, 1) := by decide +kernel
theorem dX3_state_16 : decode cX3_state 16 = .ok (.iload_n 2, 1) := by decide +kernel
theorem dX3_state_17 : decode cX3_state 17 = .ok (.tableswitch 114 0 5 #[39, 62, 69, 71, 78, 85], 39) := by decide +kernel
theorem dX3_state_56 : decode cX3_state 56 = .ok (.aload_n 0, 1) := by decide +kernel
theorem dX3_state_57 : decode cX3_state 57 = .ok (.getfield 25, 3) := by decide +kernel
theorem dX3_state_60 : decode cX3_state 60 = .ok (.iload_n 1, 1) := by decide +kernel
theorem dX3_state_61 : decode cX3_state 61 = .ok (.iaload, 1) := by decide +kernel
theorem dX3_state_62 : decode cX3_state 62 = .ok (.aload_n 0, 1) := by decide +kernel
theorem dX3_state_63 : decode cX3_state 63 = .ok (.getfield 41, 3) := by decide +kernel
theorem dX3_state_66 : decode cX3_state 66 = .ok (.iload_n 1, 1) := by decide +kernel
theorem dX3_state_67 : decode cX3_state 67 = .ok (.baload, 1) := by decide +kernel
theorem dX3_state_68 : decode cX3_state 68 = .ok (.ifCond .eq 8, 3) := by decide +kernel
theorem dX3_state_71 : decode cX3_state 71 = .ok (.bipush 6, 2) := by decide +kernel
theorem dX3_state_73 : decode cX3_state 73 = .ok (.goto 4, 3) := by decide +kernel
theorem dX3_state_76 : decode cX3_state 76 = .ok (.iconst 0, 1) := by decide +kernel
theorem dX3_state_77 : decode cX3_state 77 = .ok (.iadd, 1) := by decide +kernel
theorem dX3_state_78 : decode cX3_state 78 = .ok (.ireturn, 1) := by decide +kernel
theorem dX3_state_79 : decode cX3_state 79 = .ok (.aload_n 0, 1) := by decide +kernel
theorem dX3_state_80 : decode cX3_state 80 = .ok (.getfield 28, 3) := by decide +kernel
theorem dX3_state_83 : decode cX3_state 83 = .ok (.iload_n 1, 1) := by decide +kernel
theorem dX3_state_84 : decode cX3_state 84 = .ok (.iaload, 1) := by decide +kernel
theorem dX3_state_85 : decode cX3_state 85 = .ok (.ireturn, 1) := by decide +kernel
theorem dX3_state_86 : decode cX3_state 86 = .ok (.iload_n 3, 1) := by decide +kernel
theorem dX3_state_87 : decode cX3_state 87 = .ok (.ireturn, 1) := by decide +kernel
theorem dX3_state_88 : decode cX3_state 88 = .ok (.aload_n 0, 1) := by decide +kernel
theorem dX3_state_89 : decode cX3_state 89 = .ok (.getfield 34, 3) := by decide +kernel
theorem dX3_state_92 : decode cX3_state 92 = .ok (.iload_n 1, 1) := by decide +kernel
theorem dX3_state_93 : decode cX3_state 93 = .ok (.iaload, 1) := by decide +kernel
theorem dX3_state_94 : decode cX3_state 94 = .ok (.ireturn, 1) := by decide +kernel
theorem dX3_state_95 : decode cX3_state 95 = .ok (.aload_n 0, 1) := by decide +kernel
theorem dX3_state_96 : decode cX3_state 96 = .ok (.getfield 7, 3) := by decide +kernel
theorem dX3_state_99 : decode cX3_state 99 = .ok (.iload_n 1, 1) := by decide +kernel
theorem dX3_state_100 : decode cX3_state 100 = .ok (.iaload, 1) := by decide +kernel
theorem dX3_state_101 : decode cX3_state 101 = .ok (.ireturn, 1) := by decide +kernel
theorem dX3_state_102 : decode cX3_state 102 = .ok (.iload_n 3, 1) := by decide +kernel
theorem dX3_state_103 : decode cX3_state 103 = .ok (.ifCond .ne 12, 3) := by decide +kernel
theorem dX3_state_106 : decode cX3_state 106 = .ok (.aload_n 0, 1) := by decide +kernel
theorem dX3_state_107 : decode cX3_state 107 = .ok (.getfield 16, 3) := by decide +kernel
theorem dX3_state_110 : decode cX3_state 110 = .ok (.iload_n 1, 1) := by decide +kernel
theorem dX3_state_111 : decode cX3_state 111 = .ok (.iaload, 1) := by decide +kernel
theorem dX3_state_112 : decode cX3_state 112 = .ok (.goto 18, 3) := by decide +kernel
theorem dX3_state_115 : decode cX3_state 115 = .ok (.aload_n 0, 1) := by decide +kernel
theorem dX3_state_116 : decode cX3_state 116 = .ok (.getfield 16, 3) := by decide +kernel
theorem dX3_state_119 : decode cX3_state 119 = .ok (.iload_n 1, 1) := by decide +kernel
theorem dX3_state_120 : decode cX3_state 120 = .ok (.iaload, 1) := by decide +kernel
theorem dX3_state_121 : decode cX3_state 121 = .ok (.aload_n 0, 1) := by decide +kernel
theorem dX3_state_122 : decode cX3_state 122 = .ok (.getfield 34, 3) := by decide +kernel
theorem dX3_state_125 : decode cX3_state 125 = .ok (.iload_n 1, 1) := by decide +kernel
theorem dX3_state_126 : decode cX3_state 126 = .ok (.iaload, 1) := by decide +kernel
theorem dX3_state_127 : decode cX3_state 127 = .ok (.iload_n 3, 1) := by decide +kernel
theorem dX3_state_128 : decode cX3_state 128 = .ok (.idiv, 1) := by decide +kernel
theorem dX3_state_129 : decode cX3_state 129 = .ok (.isub, 1) := by decide +kernel
theorem dX3_state_130 : decode cX3_state 130 = .ok (.ireturn, 1) := by decide +kernel
theorem dX3_state_131 : decode cX3_state 131 = .ok (.iconst (-1), 1) := by decide +kernel
theorem dX3_state_132 : decode cX3_state 132 = .ok (.ireturn, 1) := by decide +kernel
theorem dX3_count_0 : decode cX3_count 0 = .ok (.iconst 0, 1) := by decide +kernel
theorem dX3_count_1 : decode cX3_count 1 = .ok (.istore_n 2, 1) := by decide +kernel
theorem dX3_count_2 : decode cX3_count 2 = .ok (.iconst 1, 1) := by decide +kernel
theorem dX3_count_3 : decode cX3_count 3 = .ok (.istore_n 3, 1) := by decide +kernel
theorem dX3_count_4 : decode cX3_count 4 = .ok (.iload_n 3, 1) := by decide +kernel
theorem dX3_count_5 : decode cX3_count 5 = .ok (.aload_n 0, 1) := by decide +kernel
theorem dX3_count_6 : decode cX3_count 6 = .ok (.getfield 67, 3) := by decide +kernel
theorem dX3_count_9 : decode cX3_count 9 = .ok (.if_icmp .gt 25, 3) := by decide +kernel
theorem dX3_count_12 : decode cX3_count 12 = .ok (.iload_n 2, 1) := by decide +kernel
theorem dX3_count_13 : decode cX3_count 13 = .ok (.aload_n 0, 1) := by decide +kernel
theorem dX3_count_14 : decode cX3_count 14 = .ok (.iload_n 3, 1) := by decide +kernel
theorem dX3_count_15 : decode cX3_count 15 = .ok (.invokevirtual 73, 3) := by decide +kernel
theorem dX3_count_18 : decode cX3_count 18 = .ok (.ifCond .eq 7, 3) := by decide +kernel
theorem dX3_count_21 : decode cX3_count 21 = .ok (.iconst 0, 1) := by decide +kernel
theorem dX3_count_22 : decode cX3_count 22 = .ok (.goto 4, 3) := by decide +kernel
theorem dX3_count_25 : decode cX3_count 25 = .ok (.iconst 1, 1) := by decide +kernel
theorem dX3_count_26 : decode cX3_count 26 = .ok (.iadd, 1) := by decide +kernel
theorem dX3_count_27 : decode cX3_count 27 = .ok (.istore_n 2, 1) := by decide +kernel
theorem dX3_count_28 : decode cX3_count 28 = .ok (.iinc 3 1, 3) := by decide +kernel
theorem dX3_count_31 : decode cX3_count 31 = .ok (.goto (-27), 3) := by decide +kernel
theorem dX3_count_34 : decode cX3_count 34 = .ok (.iload_n 1, 1) := by decide +kernel
theorem dX3_count_35 : decode cX3_count 35 = .ok (.tableswitch 55 0 4 #[33, 38, 40, 45, 50], 33) := by decide +kernel
theorem dX3_count_68 : decode cX3_count 68 = .ok (.aload_n 0, 1) := by decide +kernel
theorem dX3_count_69 : decode cX3_count 69 = .ok (.invokevirtual 81, 3) := by decide +kernel
theorem dX3_count_72 : decode cX3_count 72 = .ok (.ireturn, 1) := by decide +kernel
theorem dX3_count_73 : decode cX3_count 73 = .ok (.iload_n 2, 1) := by decide +kernel
theorem dX3_count_74 : decode cX3_count 74 = .ok (.ireturn, 1) := by decide +kernel
theorem dX3_count_75 : decode cX3_count 75 = .ok (.aload_n 0, 1) := by decide +kernel
theorem dX3_count_76 : decode cX3_count 76 = .ok (.getfield 70, 3) := by decide +kernel
theorem dX3_count_79 : decode cX3_count 79 = .ok (.ireturn, 1) := by decide +kernel
theorem dX3_count_80 : decode cX3_count 80 = .ok (.aload_n 0, 1) := by decide +kernel
theorem dX3_count_81 : decode cX3_count 81 = .ok (.getfield 107, 3) := by decide +kernel
theorem dX3_count_84 : decode cX3_count 84 = .ok (.ireturn, 1) := by decide +kernel
theorem dX3_count_85 : decode cX3_count 85 = .ok (.aload_n 0, 1) := by decide +kernel
theorem dX3_count_86 : decode cX3_count 86 = .ok (.getfield 113, 3) := by decide +kernel
theorem dX3_count_89 : decode cX3_count 89 = .ok (.ireturn, 1) := by decide +kernel
theorem dX3_count_90 : decode cX3_count 90 = .ok (.iconst (-1), 1) := by decide +kernel
theorem dX3_count_91 : decode cX3_count 91 = .ok (.ireturn, 1) := by decide +kernel
end
section
theorem dL_cell_0 : decode cL_cell 0 = .ok (.iload_n 1, 1) := by decide +kernel
theorem dL_cell_1 : decode cL_cell 1 = .ok (.aload_n 0, 1) := by decide +kernel
theorem dL_cell_2 : decode cL_cell 2 = .ok (.arraylength, 1) := by decide +kernel
theorem dL_cell_3 : decode cL_cell 3 = .ok (.if_icmp .ge 9, 3) := by decide +kernel
theorem dL_cell_6 : decode cL_cell 6 = .ok (.aload_n 0, 1) := by decide +kernel
theorem dL_cell_7 : decode cL_cell 7 = .ok (.iload_n 1, 1) := by decide +kernel
theorem dL_cell_8 : decode cL_cell 8 = .ok (.iaload, 1) := by decide +kernel
theorem dL_cell_9 : decode cL_cell 9 = .ok (.goto 4, 3) := by decide +kernel
theorem dL_cell_12 : decode cL_cell 12 = .ok (.iconst 0, 1) := by decide +kernel
theorem dL_cell_13 : decode cL_cell 13 = .ok (.ireturn, 1) := by decide +kernel
theorem dL_law_0 : decode cL_law 0 = .ok (.new 7, 3) := by decide +kernel
theorem dL_law_3 : decode cL_law 3 = .ok (.dup, 1) := by decide +kernel
theorem dL_law_4 : decode cL_law 4 = .ok (.aload_n 0, 1) := by decide +kernel
theorem dL_law_5 : decode cL_law 5 = .ok (.iconst 0, 1) := by decide +kernel
theorem dL_law_6 : decode cL_law 6 = .ok (.invokestatic 9, 3) := by decide +kernel
theorem dL_law_9 : decode cL_law 9 = .ok (.invokespecial 15, 3) := by decide +kernel
theorem dL_law_12 : decode cL_law 12 = .ok (.astore_n 1, 1) := by decide +kernel
theorem dL_law_13 : decode cL_law 13 = .ok (.new 18, 3) := by decide +kernel
theorem dL_law_16 : decode cL_law 16 = .ok (.dup, 1) := by decide +kernel
theorem dL_law_17 : decode cL_law 17 = .ok (.aload_n 0, 1) := by decide +kernel
theorem dL_law_18 : decode cL_law 18 = .ok (.iconst 0, 1) := by decide +kernel
theorem dL_law_19 : decode cL_law 19 = .ok (.invokestatic 9, 3) := by decide +kernel
theorem dL_law_22 : decode cL_law 22 = .ok (.invokespecial 20, 3) := by decide +kernel
theorem dL_law_25 : decode cL_law 25 = .ok (.astore_n 2, 1) := by decide +kernel
theorem dL_law_26 : decode cL_law 26 = .ok (.iconst 1, 1) := by decide +kernel
theorem dL_law_27 : decode cL_law 27 = .ok (.istore_n 3, 1) := by decide +kernel
theorem dL_law_28 : decode cL_law 28 = .ok (.iload_n 3, 1) := by decide +kernel
theorem dL_law_29 : decode cL_law 29 = .ok (.aload_n 0, 1) := by decide +kernel
theorem dL_law_30 : decode cL_law 30 = .ok (.arraylength, 1) := by decide +kernel
theorem dL_law_31 : decode cL_law 31 = .ok (.iconst 4, 1) := by decide +kernel
theorem dL_law_32 : decode cL_law 32 = .ok (.isub, 1) := by decide +kernel
theorem dL_law_33 : decode cL_law 33 = .ok (.if_icmp .gt 583, 3) := by decide +kernel
theorem dL_law_36 : decode cL_law 36 = .ok (.aload_n 0, 1) := by decide +kernel
theorem dL_law_37 : decode cL_law 37 = .ok (.iload_n 3, 1) := by decide +kernel
theorem dL_law_38 : decode cL_law 38 = .ok (.iaload, 1) := by decide +kernel
theorem dL_law_39 : decode cL_law 39 = .ok (.bipush 15, 2) := by decide +kernel
theorem dL_law_41 : decode cL_law 41 = .ok (.iand, 1) := by decide +kernel
theorem dL_law_42 : decode cL_law 42 = .ok (.tableswitch 568 0 15 #[78, 121, 154, 213, 236, 259, 282, 305, 338, 361, 384, 433, 466, 489, 512, 545], 78) := by decide +kernel
theorem dL_law_120 : decode cL_law 120 = .ok (.aload_n 1, 1) := by decide +kernel
theorem dL_law_121 : decode cL_law 121 = .ok (.aload_n 0, 1) := by decide +kernel
theorem dL_law_122 : decode cL_law 122 = .ok (.iload_n 3, 1) := by decide +kernel
theorem dL_law_123 : decode cL_law 123 = .ok (.iconst 1, 1) := by decide +kernel
theorem dL_law_124 : decode cL_law 124 = .ok (.iadd, 1) := by decide +kernel
theorem dL_law_125 : decode cL_law 125 = .ok (.iaload, 1) := by decide +kernel
theorem dL_law_126 : decode cL_law 126 = .ok (.aload_n 0, 1) := by decide +kernel
theorem dL_law_127 : decode cL_law 127 = .ok (.iload_n 3, 1) := by decide +kernel
theorem dL_law_128 : decode cL_law 128 = .ok (.iconst 2, 1) := by decide +kernel
theorem dL_law_129 : decode cL_law 129 = .ok (.iadd, 1) := by decide +kernel
theorem dL_law_130 : decode cL_law 130 = .ok (.iaload, 1) := by decide +kernel
theorem dL_law_131 : decode cL_law 131 = .ok (.aload_n 0, 1) := by decide +kernel
theorem dL_law_132 : decode cL_law 132 = .ok (.iload_n 3, 1) := by decide +kernel
theorem dL_law_133 : decode cL_law 133 = .ok (.iconst 3, 1) := by decide +kernel
theorem dL_law_134 : decode cL_law 134 = .ok (.iadd, 1) := by decide +kernel
theorem dL_law_135 : decode cL_law 135 = .ok (.iaload, 1) := by decide +kernel
theorem dL_law_136 : decode cL_law 136 = .ok (.invokevirtual 21, 3) := by decide +kernel
theorem dL_law_139 : decode cL_law 139 = .ok (.aload_n 2, 1) := by decide +kernel
theorem dL_law_140 : decode cL_law 140 = .ok (.aload_n 0, 1) := by decide +kernel
theorem dL_law_141 : decode cL_law 141 = .ok (.iload_n 3, 1) := by decide +kernel
theorem dL_law_142 : decode cL_law 142 = .ok (.iconst 1, 1) := by decide +kernel
theorem dL_law_143 : decode cL_law 143 = .ok (.iadd, 1) := by decide +kernel
theorem dL_law_144 : decode cL_law 144 = .ok (.iaload, 1) := by decide +kernel
theorem dL_law_145 : decode cL_law 145 = .ok (.aload_n 0, 1) := by decide +kernel
theorem dL_law_146 : decode cL_law 146 = .ok (.iload_n 3, 1) := by decide +kernel
theorem dL_law_147 : decode cL_law 147 = .ok (.iconst 2, 1) := by decide +kernel
theorem dL_law_148 : decode cL_law 148 = .ok (.iadd, 1) := by decide +kernel
theorem dL_law_149 : decode cL_law 149 = .ok (.iaload, 1) := by decide +kernel
theorem dL_law_150 : decode cL_law 150 = .ok (.aload_n 0, 1) := by decide +kernel
theorem dL_law_151 : decode cL_law 151 = .ok (.iload_n 3, 1) := by decide +kernel
theorem dL_law_152 : decode cL_law 152 = .ok (.iconst 3, 1) := by decide +kernel
theorem dL_law_153 : decode cL_law 153 = .ok (.iadd, 1) := by decide +kernel
theorem dL_law_154 : decode cL_law 154 = .ok (.iaload, 1) := by decide +kernel
theorem dL_law_155 : decode cL_law 155 = .ok (.invokevirtual 25, 3) := by decide +kernel
theorem dL_law_158 : decode cL_law 158 = .ok (.if_icmp .eq 452, 3) := by decide +kernel
theorem dL_law_161 : decode cL_law 161 = .ok (.iconst 0, 1) := by decide +kernel
theorem dL_law_162 : decode cL_law 162 = .ok (.ireturn, 1) := by decide +kernel
theorem dL_law_163 : decode cL_law 163 = .ok (.aload_n 1, 1) := by decide +kernel
theorem dL_law_164 : decode cL_law 164 = .ok (.aload_n 0, 1) := by decide +kernel
theorem dL_law_165 : decode cL_law 165 = .ok (.iload_n 3, 1) := by decide +kernel
theorem dL_law_166 : decode cL_law 166 = .ok (.iconst 1, 1) := by decide +kernel
theorem dL_law_167 : decode cL_law 167 = .ok (.iadd, 1) := by decide +kernel
theorem dL_law_168 : decode cL_law 168 = .ok (.iaload, 1) := by decide +kernel
theorem dL_law_169 : decode cL_law 169 = .ok (.aload_n 0, 1) := by decide +kernel
theorem dL_law_170 : decode cL_law 170 = .ok (.iload_n 3, 1) := by decide +kernel
theorem dL_law_171 : decode cL_law 171 = .ok (.iconst 2, 1) := by decide +kernel
theorem dL_law_172 : decode cL_law 172 = .ok (.iadd, 1) := by decide +kernel
theorem dL_law_173 : decode cL_law 173 = .ok (.iaload, 1) := by decide +kernel
theorem dL_law_174 : decode cL_law 174 = .ok (.invokevirtual 26, 3) := by decide +kernel
theorem dL_law_177 : decode cL_law 177 = .ok (.aload_n 2, 1) := by decide +kernel
theorem dL_law_178 : decode cL_law 178 = .ok (.aload_n 0, 1) := by decide +kernel
theorem dL_law_179 : decode cL_law 179 = .ok (.iload_n 3, 1) := by decide +kernel
theorem dL_law_180 : decode cL_law 180 = .ok (.iconst 1, 1) := by decide +kernel
theorem dL_law_181 : decode cL_law 181 = .ok (.iadd, 1) := by decide +kernel
theorem dL_law_182 : decode cL_law 182 = .ok (.iaload, 1) := by decide +kernel
theorem dL_law_183 : decode cL_law 183 = .ok (.aload_n 0, 1) := by decide +kernel
theorem dL_law_184 : decode cL_law 184 = .ok (.iload_n 3, 1) := by decide +kernel
theorem dL_law_185 : decode cL_law 185 = .ok (.iconst 2, 1) := by decide +kernel
theorem dL_law_186 : decode cL_law 186 = .ok (.iadd, 1) := by decide +kernel
theorem dL_law_187 : decode cL_law 187 = .ok (.iaload, 1) := by decide +kernel
theorem dL_law_188 : decode cL_law 188 = .ok (.invokevirtual 30, 3) := by decide +kernel
theorem dL_law_191 : decode cL_law 191 = .ok (.if_icmp .eq 419, 3) := by decide +kernel
theorem dL_law_194 : decode cL_law 194 = .ok (.iconst 0, 1) := by decide +kernel
theorem dL_law_195 : decode cL_law 195 = .ok (.ireturn, 1) := by decide +kernel
theorem dL_law_196 : decode cL_law 196 = .ok (.aload_n 1, 1) := by decide +kernel
theorem dL_law_197 : decode cL_law 197 = .ok (.aload_n 0, 1) := by decide +kernel
theorem dL_law_198 : decode cL_law 198 = .ok (.iload_n 3, 1) := by decide +kernel
theorem dL_law_199 : decode cL_law 199 = .ok (.iconst 1, 1) := by decide +kernel
theorem dL_law_200 : decode cL_law 200 = .ok (.iadd, 1) := by decide +kernel
theorem dL_law_201 : decode cL_law 201 = .ok (.iaload, 1) := by decide +kernel
theorem dL_law_202 : decode cL_law 202 = .ok (.aload_n 0, 1) := by decide +kernel
theorem dL_law_203 : decode cL_law 203 = .ok (.iload_n 3, 1) := by decide +kernel
theorem dL_law_204 : decode cL_law 204 = .ok (.iconst 2, 1) := by decide +kernel
theorem dL_law_205 : decode cL_law 205 = .ok (.iadd, 1) := by decide +kernel
theorem dL_law_206 : decode cL_law 206 = .ok (.iaload, 1) := by decide +kernel
theorem dL_law_207 : decode cL_law 207 = .ok (.aload_n 0, 1) := by decide +kernel
theorem dL_law_208 : decode cL_law 208 = .ok (.iload_n 3, 1) := by decide +kernel
theorem dL_law_209 : decode cL_law 209 = .ok (.iconst 3, 1) := by decide +kernel
theorem dL_law_210 : decode cL_law 210 = .ok (.iadd, 1) := by decide +kernel
theorem dL_law_211 : decode cL_law 211 = .ok (.iaload, 1) := by decide +kernel
theorem dL_law_212 : decode cL_law 212 = .ok (.ifCond .eq 7, 3) := by decide +kernel
theorem dL_law_215 : decode cL_law 215 = .ok (.iconst 1, 1) := by decide +kernel
theorem dL_law_216 : decode cL_law 216 = .ok (.goto 4, 3) := by decide +kernel
theorem dL_law_219 : decode cL_law 219 = .ok (.iconst 0, 1) := by decide +kernel
theorem dL_law_220 : decode cL_law 220 = .ok (.invokevirtual 31, 3) := by decide +kernel
theorem dL_law_223 : decode cL_law 223 = .ok (.aload_n 2, 1) := by decide +kernel
theorem dL_law_224 : decode cL_law 224 = .ok (.aload_n 0, 1) := by decide +kernel
theorem dL_law_225 : decode cL_law 225 = .ok (.iload_n 3, 1) := by decide +kernel
theorem dL_law_226 : decode cL_law 226 = .ok (.iconst 1, 1) := by decide +kernel
theorem dL_law_227 : decode cL_law 227 = .ok (.iadd, 1) := by decide +kernel
theorem dL_law_228 : decode cL_law 228 = .ok (.iaload, 1) := by decide +kernel
theorem dL_law_229 : decode cL_law 229 = .ok (.aload_n 0, 1) := by decide +kernel
theorem dL_law_230 : decode cL_law 230 = .ok (.iload_n 3, 1) := by decide +kernel
theorem dL_law_231 : decode cL_law 231 = .ok (.iconst 2, 1) := by decide +kernel
theorem dL_law_232 : decode cL_law 232 = .ok (.iadd, 1) := by decide +kernel
theorem dL_law_233 : decode cL_law 233 = .ok (.iaload, 1) := by decide +kernel
theorem dL_law_234 : decode cL_law 234 = .ok (.aload_n 0, 1) := by decide +kernel
theorem dL_law_235 : decode cL_law 235 = .ok (.iload_n 3, 1) := by decide +kernel
theorem dL_law_236 : decode cL_law 236 = .ok (.iconst 3, 1) := by decide +kernel
theorem dL_law_237 : decode cL_law 237 = .ok (.iadd, 1) := by decide +kernel
theorem dL_law_238 : decode cL_law 238 = .ok (.iaload, 1) := by decide +kernel
theorem dL_law_239 : decode cL_law 239 = .ok (.ifCond .eq 7, 3) := by decide +kernel
theorem dL_law_242 : decode cL_law 242 = .ok (.iconst 1, 1) := by decide +kernel
theorem dL_law_243 : decode cL_law 243 = .ok (.goto 4, 3) := by decide +kernel
theorem dL_law_246 : decode cL_law 246 = .ok (.iconst 0, 1) := by decide +kernel
theorem dL_law_247 : decode cL_law 247 = .ok (.invokevirtual 35, 3) := by decide +kernel
theorem dL_law_250 : decode cL_law 250 = .ok (.if_icmp .eq 360, 3) := by decide +kernel
theorem dL_law_253 : decode cL_law 253 = .ok (.iconst 0, 1) := by decide +kernel
theorem dL_law_254 : decode cL_law 254 = .ok (.ireturn, 1) := by decide +kernel
theorem dL_law_255 : decode cL_law 255 = .ok (.aload_n 1, 1) := by decide +kernel
theorem dL_law_256 : decode cL_law 256 = .ok (.aload_n 0, 1) := by decide +kernel
theorem dL_law_257 : decode cL_law 257 = .ok (.iload_n 3, 1) := by decide +kernel
theorem dL_law_258 : decode cL_law 258 = .ok (.iconst 1, 1) := by decide +kernel
theorem dL_law_259 : decode cL_law 259 = .ok (.iadd, 1) := by decide +kernel
theorem dL_law_260 : decode cL_law 260 = .ok (.iaload, 1) := by decide +kernel
theorem dL_law_261 : decode cL_law 261 = .ok (.invokevirtual 36, 3) := by decide +kernel
theorem dL_law_264 : decode cL_law 264 = .ok (.aload_n 2, 1) := by decide +kernel
theorem dL_law_265 : decode cL_law 265 = .ok (.aload_n 0, 1) := by decide +kernel
theorem dL_law_266 : decode cL_law 266 = .ok (.iload_n 3, 1) := by decide +kernel
theorem dL_law_267 : decode cL_law 267 = .ok (.iconst 1, 1) := by decide +kernel
theorem dL_law_268 : decode cL_law 268 = .ok (.iadd, 1) := by decide +kernel
theorem dL_law_269 : decode cL_law 269 = .ok (.iaload, 1) := by decide +kernel
theorem dL_law_270 : decode cL_law 270 = .ok (.invokevirtual 40, 3) := by decide +kernel
theorem dL_law_273 : decode cL_law 273 = .ok (.if_icmp .eq 337, 3) := by decide +kernel
theorem dL_law_276 : decode cL_law 276 = .ok (.iconst 0, 1) := by decide +kernel
theorem dL_law_277 : decode cL_law 277 = .ok (.ireturn, 1) := by decide +kernel
theorem dL_law_278 : decode cL_law 278 = .ok (.aload_n 1, 1) := by decide +kernel
theorem dL_law_279 : decode cL_law 279 = .ok (.aload_n 0, 1) := by decide +kernel
theorem dL_law_280 : decode cL_law 280 = .ok (.iload_n 3, 1) := by decide +kernel
theorem dL_law_281 : decode cL_law 281 = .ok (.iconst 1, 1) := by decide +kernel
theorem dL_law_282 : decode cL_law 282 = .ok (.iadd, 1) := by decide +kernel
theorem dL_law_283 : decode cL_law 283 = .ok (.iaload, 1) := by decide +kernel
theorem dL_law_284 : decode cL_law 284 = .ok (.invokevirtual 41, 3) := by decide +kernel
theorem dL_law_287 : decode cL_law 287 = .ok (.aload_n 2, 1) := by decide +kernel
theorem dL_law_288 : decode cL_law 288 = .ok (.aload_n 0, 1) := by decide +kernel
theorem dL_law_289 : decode cL_law 289 = .ok (.iload_n 3, 1) := by decide +kernel
theorem dL_law_290 : decode cL_law 290 = .ok (.iconst 1, 1) := by decide +kernel
theorem dL_law_291 : decode cL_law 291 = .ok (.iadd, 1) := by decide +kernel
theorem dL_law_292 : decode cL_law 292 = .ok (.iaload, 1) := by decide +kernel
theorem dL_law_293 : decode cL_law 293 = .ok (.invokevirtual 44, 3) := by decide +kernel
theorem dL_law_296 : decode cL_law 296 = .ok (.if_icmp .eq 314, 3) := by decide +kernel
theorem dL_law_299 : decode cL_law 299 = .ok (.iconst 0, 1) := by decide +kernel
theorem dL_law_300 : decode cL_law 300 = .ok (.ireturn, 1) := by decide +kernel
theorem dL_law_301 : decode cL_law 301 = .ok (.aload_n 1, 1) := by decide +kernel
theorem dL_law_302 : decode cL_law 302 = .ok (.aload_n 0, 1) := by decide +kernel
theorem dL_law_303 : decode cL_law 303 = .ok (.iload_n 3, 1) := by decide +kernel
theorem dL_law_304 : decode cL_law 304 = .ok (.iconst 1, 1) := by decide +kernel
theorem dL_law_305 : decode cL_law 305 = .ok (.iadd, 1) := by decide +kernel
theorem dL_law_306 : decode cL_law 306 = .ok (.iaload, 1) := by decide +kernel
theorem dL_law_307 : decode cL_law 307 = .ok (.invokevirtual 45, 3) := by decide +kernel
theorem dL_law_310 : decode cL_law 310 = .ok (.aload_n 2, 1) := by decide +kernel
theorem dL_law_311 : decode cL_law 311 = .ok (.aload_n 0, 1) := by decide +kernel
theorem dL_law_312 : decode cL_law 312 = .ok (.iload_n 3, 1) := by decide +kernel
theorem dL_law_313 : decode cL_law 313 = .ok (.iconst 1, 1) := by decide +kernel
theorem dL_law_314 : decode cL_law 314 = .ok (.iadd, 1) := by decide +kernel
theorem dL_law_315 : decode cL_law 315 = .ok (.iaload, 1) := by decide +kernel
theorem dL_law_316 : decode cL_law 316 = .ok (.invokevirtual 48, 3) := by decide +kernel
theorem dL_law_319 : decode cL_law 319 = .ok (.if_icmp .eq 291, 3) := by decide +kernel
theorem dL_law_322 : decode cL_law 322 = .ok (.iconst 0, 1) := by decide +kernel
theorem dL_law_323 : decode cL_law 323 = .ok (.ireturn, 1) := by decide +kernel
theorem dL_law_324 : decode cL_law 324 = .ok (.aload_n 1, 1) := by decide +kernel
theorem dL_law_325 : decode cL_law 325 = .ok (.aload_n 0, 1) := by decide +kernel
theorem dL_law_326 : decode cL_law 326 = .ok (.iload_n 3, 1) := by decide +kernel
theorem dL_law_327 : decode cL_law 327 = .ok (.iconst 1, 1) := by decide +kernel
theorem dL_law_328 : decode cL_law 328 = .ok (.iadd, 1) := by decide +kernel
theorem dL_law_329 : decode cL_law 329 = .ok (.iaload, 1) := by decide +kernel
theorem dL_law_330 : decode cL_law 330 = .ok (.invokevirtual 49, 3) := by decide +kernel
theorem dL_law_333 : decode cL_law 333 = .ok (.aload_n 2, 1) := by decide +kernel
theorem dL_law_334 : decode cL_law 334 = .ok (.aload_n 0, 1) := by decide +kernel
theorem dL_law_335 : decode cL_law 335 = .ok (.iload_n 3, 1) := by decide +kernel
theorem dL_law_336 : decode cL_law 336 = .ok (.iconst 1, 1) := by decide +kernel
theorem dL_law_337 : decode cL_law 337 = .ok (.iadd, 1) := by decide +kernel
theorem dL_law_338 : decode cL_law 338 = .ok (.iaload, 1) := by decide +kernel
theorem dL_law_339 : decode cL_law 339 = .ok (.invokevirtual 52, 3) := by decide +kernel
theorem dL_law_342 : decode cL_law 342 = .ok (.if_icmp .eq 268, 3) := by decide +kernel
theorem dL_law_345 : decode cL_law 345 = .ok (.iconst 0, 1) := by decide +kernel
theorem dL_law_346 : decode cL_law 346 = .ok (.ireturn, 1) := by decide +kernel
theorem dL_law_347 : decode cL_law 347 = .ok (.aload_n 1, 1) := by decide +kernel
theorem dL_law_348 : decode cL_law 348 = .ok (.aload_n 0, 1) := by decide +kernel
theorem dL_law_349 : decode cL_law 349 = .ok (.iload_n 3, 1) := by decide +kernel
theorem dL_law_350 : decode cL_law 350 = .ok (.iconst 1, 1) := by decide +kernel
theorem dL_law_351 : decode cL_law 351 = .ok (.iadd, 1) := by decide +kernel
theorem dL_law_352 : decode cL_law 352 = .ok (.iaload, 1) := by decide +kernel
theorem dL_law_353 : decode cL_law 353 = .ok (.aload_n 0, 1) := by decide +kernel
theorem dL_law_354 : decode cL_law 354 = .ok (.iload_n 3, 1) := by decide +kernel
theorem dL_law_355 : decode cL_law 355 = .ok (.iconst 2, 1) := by decide +kernel
theorem dL_law_356 : decode cL_law 356 = .ok (.iadd, 1) := by decide +kernel
theorem dL_law_357 : decode cL_law 357 = .ok (.iaload, 1) := by decide +kernel
theorem dL_law_358 : decode cL_law 358 = .ok (.invokevirtual 53, 3) := by decide +kernel
theorem dL_law_361 : decode cL_law 361 = .ok (.aload_n 2, 1) := by decide +kernel
theorem dL_law_362 : decode cL_law 362 = .ok (.aload_n 0, 1) := by decide +kernel
theorem dL_law_363 : decode cL_law 363 = .ok (.iload_n 3, 1) := by decide +kernel
theorem dL_law_364 : decode cL_law 364 = .ok (.iconst 1, 1) := by decide +kernel
theorem dL_law_365 : decode cL_law 365 = .ok (.iadd, 1) := by decide +kernel
theorem dL_law_366 : decode cL_law 366 = .ok (.iaload, 1) := by decide +kernel
theorem dL_law_367 : decode cL_law 367 = .ok (.aload_n 0, 1) := by decide +kernel
theorem dL_law_368 : decode cL_law 368 = .ok (.iload_n 3, 1) := by decide +kernel
theorem dL_law_369 : decode cL_law 369 = .ok (.iconst 2, 1) := by decide +kernel
theorem dL_law_370 : decode cL_law 370 = .ok (.iadd, 1) := by decide +kernel
theorem dL_law_371 : decode cL_law 371 = .ok (.iaload, 1) := by decide +kernel
theorem dL_law_372 : decode cL_law 372 = .ok (.invokevirtual 56, 3) := by decide +kernel
theorem dL_law_375 : decode cL_law 375 = .ok (.if_icmp .eq 235, 3) := by decide +kernel
theorem dL_law_378 : decode cL_law 378 = .ok (.iconst 0, 1) := by decide +kernel
theorem dL_law_379 : decode cL_law 379 = .ok (.ireturn, 1) := by decide +kernel
theorem dL_law_380 : decode cL_law 380 = .ok (.aload_n 1, 1) := by decide +kernel
theorem dL_law_381 : decode cL_law 381 = .ok (.aload_n 0, 1) := by decide +kernel
theorem dL_law_382 : decode cL_law 382 = .ok (.iload_n 3, 1) := by decide +kernel
theorem dL_law_383 : decode cL_law 383 = .ok (.iconst 1, 1) := by decide +kernel
theorem dL_law_384 : decode cL_law 384 = .ok (.iadd, 1) := by decide +kernel
theorem dL_law_385 : decode cL_law 385 = .ok (.iaload, 1) := by decide +kernel
theorem dL_law_386 : decode cL_law 386 = .ok (.invokevirtual 57, 3) := by decide +kernel
theorem dL_law_389 : decode cL_law 389 = .ok (.aload_n 2, 1) := by decide +kernel
theorem dL_law_390 : decode cL_law 390 = .ok (.aload_n 0, 1) := by decide +kernel
theorem dL_law_391 : decode cL_law 391 = .ok (.iload_n 3, 1) := by decide +kernel
theorem dL_law_392 : decode cL_law 392 = .ok (.iconst 1, 1) := by decide +kernel
theorem dL_law_393 : decode cL_law 393 = .ok (.iadd, 1) := by decide +kernel
theorem dL_law_394 : decode cL_law 394 = .ok (.iaload, 1) := by decide +kernel
theorem dL_law_395 : decode cL_law 395 = .ok (.invokevirtual 60, 3) := by decide +kernel
theorem dL_law_398 : decode cL_law 398 = .ok (.if_icmp .eq 212, 3) := by decide +kernel
theorem dL_law_401 : decode cL_law 401 = .ok (.iconst 0, 1) := by decide +kernel
theorem dL_law_402 : decode cL_law 402 = .ok (.ireturn, 1) := by decide +kernel
theorem dL_law_403 : decode cL_law 403 = .ok (.aload_n 1, 1) := by decide +kernel
theorem dL_law_404 : decode cL_law 404 = .ok (.aload_n 0, 1) := by decide +kernel
theorem dL_law_405 : decode cL_law 405 = .ok (.iload_n 3, 1) := by decide +kernel
theorem dL_law_406 : decode cL_law 406 = .ok (.iconst 1, 1) := by decide +kernel
theorem dL_law_407 : decode cL_law 407 = .ok (.iadd, 1) := by decide +kernel
theorem dL_law_408 : decode cL_law 408 = .ok (.iaload, 1) := by decide +kernel
theorem dL_law_409 : decode cL_law 409 = .ok (.invokevirtual 61, 3) := by decide +kernel
theorem dL_law_412 : decode cL_law 412 = .ok (.aload_n 2, 1) := by decide +kernel
theorem dL_law_413 : decode cL_law 413 = .ok (.aload_n 0, 1) := by decide +kernel
theorem dL_law_414 : decode cL_law 414 = .ok (.iload_n 3, 1) := by decide +kernel
theorem dL_law_415 : decode cL_law 415 = .ok (.iconst 1, 1) := by decide +kernel
theorem dL_law_416 : decode cL_law 416 = .ok (.iadd, 1) := by decide +kernel
theorem dL_law_417 : decode cL_law 417 = .ok (.iaload, 1) := by decide +kernel
theorem dL_law_418 : decode cL_law 418 = .ok (.invokevirtual 64, 3) := by decide +kernel
theorem dL_law_421 : decode cL_law 421 = .ok (.if_icmp .eq 189, 3) := by decide +kernel
theorem dL_law_424 : decode cL_law 424 = .ok (.iconst 0, 1) := by decide +kernel
theorem dL_law_425 : decode cL_law 425 = .ok (.ireturn, 1) := by decide +kernel
theorem dL_law_426 : decode cL_law 426 = .ok (.aload_n 1, 1) := by decide +kernel
theorem dL_law_427 : decode cL_law 427 = .ok (.aload_n 0, 1) := by decide +kernel
theorem dL_law_428 : decode cL_law 428 = .ok (.iload_n 3, 1) := by decide +kernel
theorem dL_law_429 : decode cL_law 429 = .ok (.iconst 1, 1) := by decide +kernel
theorem dL_law_430 : decode cL_law 430 = .ok (.iadd, 1) := by decide +kernel
theorem dL_law_431 : decode cL_law 431 = .ok (.iaload, 1) := by decide +kernel
theorem dL_law_432 : decode cL_law 432 = .ok (.aload_n 0, 1) := by decide +kernel
theorem dL_law_433 : decode cL_law 433 = .ok (.iload_n 3, 1) := by decide +kernel
theorem dL_law_434 : decode cL_law 434 = .ok (.iconst 2, 1) := by decide +kernel
theorem dL_law_435 : decode cL_law 435 = .ok (.iadd, 1) := by decide +kernel
theorem dL_law_436 : decode cL_law 436 = .ok (.iaload, 1) := by decide +kernel
theorem dL_law_437 : decode cL_law 437 = .ok (.ifCond .eq 7, 3) := by decide +kernel
theorem dL_law_440 : decode cL_law 440 = .ok (.iconst 1, 1) := by decide +kernel
theorem dL_law_441 : decode cL_law 441 = .ok (.goto 4, 3) := by decide +kernel
theorem dL_law_444 : decode cL_law 444 = .ok (.iconst 0, 1) := by decide +kernel
theorem dL_law_445 : decode cL_law 445 = .ok (.invokevirtual 65, 3) := by decide +kernel
theorem dL_law_448 : decode cL_law 448 = .ok (.aload_n 2, 1) := by decide +kernel
theorem dL_law_449 : decode cL_law 449 = .ok (.aload_n 0, 1) := by decide +kernel
theorem dL_law_450 : decode cL_law 450 = .ok (.iload_n 3, 1) := by decide +kernel
theorem dL_law_451 : decode cL_law 451 = .ok (.iconst 1, 1) := by decide +kernel
theorem dL_law_452 : decode cL_law 452 = .ok (.iadd, 1) := by decide +kernel
theorem dL_law_453 : decode cL_law 453 = .ok (.iaload, 1) := by decide +kernel
theorem dL_law_454 : decode cL_law 454 = .ok (.aload_n 0, 1) := by decide +kernel
theorem dL_law_455 : decode cL_law 455 = .ok (.iload_n 3, 1) := by decide +kernel
theorem dL_law_456 : decode cL_law 456 = .ok (.iconst 2, 1) := by decide +kernel
theorem dL_law_457 : decode cL_law 457 = .ok (.iadd, 1) := by decide +kernel
theorem dL_law_458 : decode cL_law 458 = .ok (.iaload, 1) := by decide +kernel
theorem dL_law_459 : decode cL_law 459 = .ok (.ifCond .eq 7, 3) := by decide +kernel
theorem dL_law_462 : decode cL_law 462 = .ok (.iconst 1, 1) := by decide +kernel
theorem dL_law_463 : decode cL_law 463 = .ok (.goto 4, 3) := by decide +kernel
theorem dL_law_466 : decode cL_law 466 = .ok (.iconst 0, 1) := by decide +kernel
theorem dL_law_467 : decode cL_law 467 = .ok (.invokevirtual 69, 3) := by decide +kernel
theorem dL_law_470 : decode cL_law 470 = .ok (.if_icmp .eq 140, 3) := by decide +kernel
theorem dL_law_473 : decode cL_law 473 = .ok (.iconst 0, 1) := by decide +kernel
theorem dL_law_474 : decode cL_law 474 = .ok (.ireturn, 1) := by decide +kernel
theorem dL_law_475 : decode cL_law 475 = .ok (.aload_n 1, 1) := by decide +kernel
theorem dL_law_476 : decode cL_law 476 = .ok (.aload_n 0, 1) := by decide +kernel
theorem dL_law_477 : decode cL_law 477 = .ok (.iload_n 3, 1) := by decide +kernel
theorem dL_law_478 : decode cL_law 478 = .ok (.iconst 1, 1) := by decide +kernel
theorem dL_law_479 : decode cL_law 479 = .ok (.iadd, 1) := by decide +kernel
theorem dL_law_480 : decode cL_law 480 = .ok (.iaload, 1) := by decide +kernel
theorem dL_law_481 : decode cL_law 481 = .ok (.aload_n 0, 1) := by decide +kernel
theorem dL_law_482 : decode cL_law 482 = .ok (.iload_n 3, 1) := by decide +kernel
theorem dL_law_483 : decode cL_law 483 = .ok (.iconst 2, 1) := by decide +kernel
theorem dL_law_484 : decode cL_law 484 = .ok (.iadd, 1) := by decide +kernel
theorem dL_law_485 : decode cL_law 485 = .ok (.iaload, 1) := by decide +kernel
theorem dL_law_486 : decode cL_law 486 = .ok (.invokevirtual 70, 3) := by decide +kernel
theorem dL_law_489 : decode cL_law 489 = .ok (.aload_n 2, 1) := by decide +kernel
theorem dL_law_490 : decode cL_law 490 = .ok (.aload_n 0, 1) := by decide +kernel
theorem dL_law_491 : decode cL_law 491 = .ok (.iload_n 3, 1) := by decide +kernel
theorem dL_law_492 : decode cL_law 492 = .ok (.iconst 1, 1) := by decide +kernel
theorem dL_law_493 : decode cL_law 493 = .ok (.iadd, 1) := by decide +kernel
theorem dL_law_494 : decode cL_law 494 = .ok (.iaload, 1) := by decide +kernel
theorem dL_law_495 : decode cL_law 495 = .ok (.aload_n 0, 1) := by decide +kernel
theorem dL_law_496 : decode cL_law 496 = .ok (.iload_n 3, 1) := by decide +kernel
theorem dL_law_497 : decode cL_law 497 = .ok (.iconst 2, 1) := by decide +kernel
theorem dL_law_498 : decode cL_law 498 = .ok (.iadd, 1) := by decide +kernel
theorem dL_law_499 : decode cL_law 499 = .ok (.iaload, 1) := by decide +kernel
theorem dL_law_500 : decode cL_law 500 = .ok (.invokevirtual 73, 3) := by decide +kernel
theorem dL_law_503 : decode cL_law 503 = .ok (.if_icmp .eq 107, 3) := by decide +kernel
theorem dL_law_506 : decode cL_law 506 = .ok (.iconst 0, 1) := by decide +kernel
theorem dL_law_507 : decode cL_law 507 = .ok (.ireturn, 1) := by decide +kernel
theorem dL_law_508 : decode cL_law 508 = .ok (.aload_n 1, 1) := by decide +kernel
theorem dL_law_509 : decode cL_law 509 = .ok (.aload_n 0, 1) := by decide +kernel
theorem dL_law_510 : decode cL_law 510 = .ok (.iload_n 3, 1) := by decide +kernel
theorem dL_law_511 : decode cL_law 511 = .ok (.iconst 1, 1) := by decide +kernel
theorem dL_law_512 : decode cL_law 512 = .ok (.iadd, 1) := by decide +kernel
theorem dL_law_513 : decode cL_law 513 = .ok (.iaload, 1) := by decide +kernel
theorem dL_law_514 : decode cL_law 514 = .ok (.invokevirtual 74, 3) := by decide +kernel
theorem dL_law_517 : decode cL_law 517 = .ok (.aload_n 2, 1) := by decide +kernel
theorem dL_law_518 : decode cL_law 518 = .ok (.aload_n 0, 1) := by decide +kernel
theorem dL_law_519 : decode cL_law 519 = .ok (.iload_n 3, 1) := by decide +kernel
theorem dL_law_520 : decode cL_law 520 = .ok (.iconst 1, 1) := by decide +kernel
theorem dL_law_521 : decode cL_law 521 = .ok (.iadd, 1) := by decide +kernel
theorem dL_law_522 : decode cL_law 522 = .ok (.iaload, 1) := by decide +kernel
theorem dL_law_523 : decode cL_law 523 = .ok (.invokevirtual 77, 3) := by decide +kernel
theorem dL_law_526 : decode cL_law 526 = .ok (.if_icmp .eq 84, 3) := by decide +kernel
theorem dL_law_529 : decode cL_law 529 = .ok (.iconst 0, 1) := by decide +kernel
theorem dL_law_530 : decode cL_law 530 = .ok (.ireturn, 1) := by decide +kernel
theorem dL_law_531 : decode cL_law 531 = .ok (.aload_n 1, 1) := by decide +kernel
theorem dL_law_532 : decode cL_law 532 = .ok (.aload_n 0, 1) := by decide +kernel
theorem dL_law_533 : decode cL_law 533 = .ok (.iload_n 3, 1) := by decide +kernel
theorem dL_law_534 : decode cL_law 534 = .ok (.iconst 1, 1) := by decide +kernel
theorem dL_law_535 : decode cL_law 535 = .ok (.iadd, 1) := by decide +kernel
theorem dL_law_536 : decode cL_law 536 = .ok (.iaload, 1) := by decide +kernel
theorem dL_law_537 : decode cL_law 537 = .ok (.invokevirtual 78, 3) := by decide +kernel
theorem dL_law_540 : decode cL_law 540 = .ok (.aload_n 2, 1) := by decide +kernel
theorem dL_law_541 : decode cL_law 541 = .ok (.aload_n 0, 1) := by decide +kernel
theorem dL_law_542 : decode cL_law 542 = .ok (.iload_n 3, 1) := by decide +kernel
theorem dL_law_543 : decode cL_law 543 = .ok (.iconst 1, 1) := by decide +kernel
theorem dL_law_544 : decode cL_law 544 = .ok (.iadd, 1) := by decide +kernel
theorem dL_law_545 : decode cL_law 545 = .ok (.iaload, 1) := by decide +kernel
theorem dL_law_546 : decode cL_law 546 = .ok (.invokevirtual 81, 3) := by decide +kernel
theorem dL_law_549 : decode cL_law 549 = .ok (.if_icmp .eq 61, 3) := by decide +kernel
theorem dL_law_552 : decode cL_law 552 = .ok (.iconst 0, 1) := by decide +kernel
theorem dL_law_553 : decode cL_law 553 = .ok (.ireturn, 1) := by decide +kernel
theorem dL_law_554 : decode cL_law 554 = .ok (.aload_n 1, 1) := by decide +kernel
theorem dL_law_555 : decode cL_law 555 = .ok (.aload_n 0, 1) := by decide +kernel
theorem dL_law_556 : decode cL_law 556 = .ok (.iload_n 3, 1) := by decide +kernel
theorem dL_law_557 : decode cL_law 557 = .ok (.iconst 1, 1) := by decide +kernel
theorem dL_law_558 : decode cL_law 558 = .ok (.iadd, 1) := by decide +kernel
theorem dL_law_559 : decode cL_law 559 = .ok (.iaload, 1) := by decide +kernel
theorem dL_law_560 : decode cL_law 560 = .ok (.aload_n 0, 1) := by decide +kernel
theorem dL_law_561 : decode cL_law 561 = .ok (.iload_n 3, 1) := by decide +kernel
theorem dL_law_562 : decode cL_law 562 = .ok (.iconst 2, 1) := by decide +kernel
theorem dL_law_563 : decode cL_law 563 = .ok (.iadd, 1) := by decide +kernel
theorem dL_law_564 : decode cL_law 564 = .ok (.iaload, 1) := by decide +kernel
theorem dL_law_565 : decode cL_law 565 = .ok (.invokevirtual 82, 3) := by decide +kernel
theorem dL_law_568 : decode cL_law 568 = .ok (.aload_n 2, 1) := by decide +kernel
theorem dL_law_569 : decode cL_law 569 = .ok (.aload_n 0, 1) := by decide +kernel
theorem dL_law_570 : decode cL_law 570 = .ok (.iload_n 3, 1) := by decide +kernel
theorem dL_law_571 : decode cL_law 571 = .ok (.iconst 1, 1) := by decide +kernel
theorem dL_law_572 : decode cL_law 572 = .ok (.iadd, 1) := by decide +kernel
theorem dL_law_573 : decode cL_law 573 = .ok (.iaload, 1) := by decide +kernel
theorem dL_law_574 : decode cL_law 574 = .ok (.aload_n 0, 1) := by decide +kernel
theorem dL_law_575 : decode cL_law 575 = .ok (.iload_n 3, 1) := by decide +kernel
theorem dL_law_576 : decode cL_law 576 = .ok (.iconst 2, 1) := by decide +kernel
theorem dL_law_577 : decode cL_law 577 = .ok (.iadd, 1) := by decide +kernel
theorem dL_law_578 : decode cL_law 578 = .ok (.iaload, 1) := by decide +kernel
theorem dL_law_579 : decode cL_law 579 = .ok (.invokevirtual 85, 3) := by decide +kernel
theorem dL_law_582 : decode cL_law 582 = .ok (.if_icmp .eq 28, 3) := by decide +kernel
theorem dL_law_585 : decode cL_law 585 = .ok (.iconst 0, 1) := by decide +kernel
theorem dL_law_586 : decode cL_law 586 = .ok (.ireturn, 1) := by decide +kernel
theorem dL_law_587 : decode cL_law 587 = .ok (.aload_n 1, 1) := by decide +kernel
theorem dL_law_588 : decode cL_law 588 = .ok (.aload_n 0, 1) := by decide +kernel
theorem dL_law_589 : decode cL_law 589 = .ok (.iload_n 3, 1) := by decide +kernel
theorem dL_law_590 : decode cL_law 590 = .ok (.iconst 1, 1) := by decide +kernel
theorem dL_law_591 : decode cL_law 591 = .ok (.iadd, 1) := by decide +kernel
theorem dL_law_592 : decode cL_law 592 = .ok (.iaload, 1) := by decide +kernel
theorem dL_law_593 : decode cL_law 593 = .ok (.invokevirtual 86, 3) := by decide +kernel
theorem dL_law_596 : decode cL_law 596 = .ok (.aload_n 2, 1) := by decide +kernel
theorem dL_law_597 : decode cL_law 597 = .ok (.aload_n 0, 1) := by decide +kernel
theorem dL_law_598 : decode cL_law 598 = .ok (.iload_n 3, 1) := by decide +kernel
theorem dL_law_599 : decode cL_law 599 = .ok (.iconst 1, 1) := by decide +kernel
theorem dL_law_600 : decode cL_law 600 = .ok (.iadd, 1) := by decide +kernel
theorem dL_law_601 : decode cL_law 601 = .ok (.iaload, 1) := by decide +kernel
theorem dL_law_602 : decode cL_law 602 = .ok (.invokevirtual 89, 3) := by decide +kernel
theorem dL_law_605 : decode cL_law 605 = .ok (.if_icmp .eq 5, 3) := by decide +kernel
theorem dL_law_608 : decode cL_law 608 = .ok (.iconst 0, 1) := by decide +kernel
theorem dL_law_609 : decode cL_law 609 = .ok (.ireturn, 1) := by decide +kernel
theorem dL_law_610 : decode cL_law 610 = .ok (.iinc 3 4, 3) := by decide +kernel
theorem dL_law_613 : decode cL_law 613 = .ok (.goto (-585), 3) := by decide +kernel
theorem dL_law_616 : decode cL_law 616 = .ok (.iconst 1, 1) := by decide +kernel
theorem dL_law_617 : decode cL_law 617 = .ok (.ireturn, 1) := by decide +kernel
end
section
/-! worlds of one law: contracts over the whole world, one lower bound z for all that may change -/
abbrev T2 : Type := Nat → Nat → Int32
def upd2 (t : T2) (f i : Nat) (x : Int32) : T2 := fun g => if g = f then upd (t f) i x else t g
theorem upd2_ne {t : T2} {f g i : Nat} {x : Int32} (h : g ≠ f) : upd2 t f i x g = t g := by simp [upd2, h]
theorem upd2_at {t : T2} {f i : Nat} {x : Int32} : upd2 t f i x f i = x := by simp [upd2, upd]
theorem upd2_off {t : T2} {f i k : Nat} {x : Int32} (h : k ≠ i) : upd2 t f i x f k = t f k := by simp [upd2, upd, h]
abbrev tyL (cI cZ cO cW : ClassId) : List (ClassId × FieldType) := [(cI, .int), (cZ, .boolean), (cO, .object "SpoolRows$Output"), (cW, .object "SpoolRows$Writer")]
def wPc (D : va_G) (tys : List (ClassId × FieldType)) (z : Nat) (vs : List Value) (w : va_W) : Array Value → State → Prop := va_Pc vs (fun U => z ≤ U.heap.size ∧ va_P D vwCl w U.heap ∧ va_K D vwCl tys U ∧ va_D (fun q => z ≤ q) w)
def wQi {S : Type} (D : va_G) (z : Nat) (Wf : S → va_W) (post : Int32 → S → Prop) : Array Value → State → Outcome → State → Prop := va_Qi post (fun u t => va_P D vwCl (Wf u) t.heap ∧ va_D (fun q => z ≤ q) (Wf u)) (fun q => z ≤ q)
def wQv {S : Type} (D : va_G) (z : Nat) (Wf : S → va_W) (post : S → Prop) : Array Value → State → Outcome → State → Prop := va_Qv post (fun u t => va_P D vwCl (Wf u) t.heap ∧ va_D (fun q => z ≤ q) (Wf u)) (fun q => z ≤ q)
theorem wPc_blind {D : va_G} {tys : List (ClassId × FieldType)} {z : Nat} {vs : List Value} {w : va_W} : FrameBlind (wPc D tys z vs w) := by
  intro a U g mk q
  obtain ⟨q0, q1, qP, qK, qD⟩ := q
  exact ⟨q0, q1, qP, va_K.moved (u := U) (U := U.calling g mk a) (Vm.Alike.refl U.vm) qK, qD⟩
theorem wPreS {s : State} {H : Heap} {D : va_G} {tys : List (ClassId × FieldType)} {z : Nat} {vs : List Value} {w : va_W} (hz : z ≤ H.size) (hP : va_P D vwCl w H) (hK : va_K D vwCl tys s) (hD : va_D (fun q => z ≤ q) w) : PreS s H (wPc D tys z vs w) vs :=
  ⟨wPc_blind, fun U hU hW => ⟨rfl, by rw [hU]; exact hz, by rw [hU]; exact hP, va_K.moved hW.alike hK, hD⟩⟩
theorem wPreV {s : State} {H : Heap} {D : va_G} {tys : List (ClassId × FieldType)} {z b : Nat} {As : List Value} {w : va_W} {C : String} (hz : z ≤ H.size) (hP : va_P D vwCl w H) (hK : va_K D vwCl tys s) (hD : va_D (fun q => z ≤ q) w) (hr : ∃ cell : Cell, H[b]? = some cell ∧ cell.vm.isStatics = false ∧ s.vm.findClass C = some cell.cls) : PreV s H C b (wPc D tys z (.ref b :: As) w) As :=
  ⟨wPc_blind, hr, fun U hU hW => ⟨rfl, by rw [hU]; exact hz, by rw [hU]; exact hP, va_K.moved hW.alike hK, hD⟩⟩
theorem wpair {α β : Type} {a : α} {b : β} {p : α × β} (h : (a, b) = p) : a = p.1 ∧ b = p.2 := by subst h; exact ⟨rfl, rfl⟩
section WBase
variable {p : Program} {l : Launch} {e : Env} {R : Room} {s : State} {m : MethodId} {args : Array Value} {below : List Frame} {meth : Method} {c : Code} {H : Heap} {locs : List Loc} {cells slots : Nat} {Q : State → Prop}
variable {cc : ByteArray} {pc : Nat} {ls : Array Slot} {rest st0 : List Value} {D : va_G} {z : Nat} {a : Array Value} {H0 : Heap} {mc ms : Nat}
theorem en_met {y : MethodName} {ws ws' : List Cond} {rm : Room} {vs : List Value} {Bd : State → Prop} {Qc : Array Value → State → Outcome → State → Prop} {free : Addr → Prop} {maxL : Nat} {ret : Option FieldType}
    (hy : plainName y.cls = true) (hw : ws = Cond.code y cc maxL ret :: ws') (hle : (lg_sl vs).length ≤ maxL)
    (body : ∀ (p : Program) (e : Env) (s : State) (m : MethodId) (below : List Frame) (meth : Method) (c : Code) (ls : Array Slot), p.tables.exec = Jvm.exec → c.code = cc → c.maxLocals = maxL → meth.sig.returnType = ret → (∀ w ∈ ws, w.before vs.toArray s = true) → s.vm.findClass y.cls = some m.cls → meth.locks = false → meth.name = y.name → Bd s → lv_has ls maxL (lv_args 0 vs) →
      W p l e rm s m vs.toArray below meth c s.heap [] 0 0 (MQ below Qc vs.toArray s mc ms free) (F0 m 0 ls [])) : Met l y ws rm (va_Pc vs Bd) Qc mc ms free := by
  refine Met.ofW (cc := cc) (maxL := maxL) (ret := ret) hy hw ?_
  intro p e s m args below meth c s₁ B hml hv
  obtain ⟨rfl, hv⟩ := hv
  have hl := lv_entry vs (n := maxL) hle
  rw [lg_entry_eq]
  exact body p e s m below meth c _ B.exec B.bytes hml B.returns (atoms_spec (ws := ws) B.pre) (findClass_of_methodNamed B.named) B.notSynchronized (name_of_methodNamed B.named B.method).1 hv hl
theorem w_ri {post : Int32 → Prop} {v : Int32} (hx : p.tables.exec = Jvm.exec) (hb : c.code = cc) (hr : meth.sig.returnType = some .int) (hlocks : meth.locks = false) (hdg : decode cc pc = .ok (.ireturn, 1)) (hp : post v) : W p l e R s m args below meth c s.heap [] 0 0 (MQ below (vp_Si post) args s 0 0 (fun _ => False)) (F0 m pc ls [.int v]) :=
  W.iret hx hb hr (fun t ht _ => ⟨v, rfl, hp, ht⟩) (fun q h => by cases h) hdg hlocks
theorem w_rz {post : Int32 → Prop} {v : Int32} (hx : p.tables.exec = Jvm.exec) (hb : c.code = cc) (hr : meth.sig.returnType = some .boolean) (hn : narrow .boolean (.int v) = .int v) (hlocks : meth.locks = false) (hdg : decode cc pc = .ok (.ireturn, 1)) (hp : post v) : W p l e R s m args below meth c s.heap [] 0 0 (MQ below (vp_Si post) args s 0 0 (fun _ => False)) (F0 m pc ls [.int v]) :=
  W.zret hx hb hr hn (fun t ht _ => ⟨v, rfl, hp, ht⟩) (fun q h => by cases h) hdg hlocks
theorem w_rq {post : Option Nat → Prop} {r : Option Nat} {rt : FieldType} (hx : p.tables.exec = Jvm.exec) (hb : c.code = cc) (hr : meth.sig.returnType = some rt) (hrt : (∃ n, rt = .object n) ∨ ∃ t, rt = .array t) (hlocks : meth.locks = false) (hdg : decode cc pc = .ok (.areturn, 1)) (hp : post r) : W p l e R s m args below meth c s.heap [] 0 0 (MQ below (va_Sq post) args s 0 0 (fun _ => False)) (F0 m pc ls [va_rf r]) :=
  W.aret hx hb hr hrt (va_rf_or r) (fun t ht _ => ⟨r, rfl, hp, ht⟩) (fun q h => by cases h) hdg hlocks
theorem w_iret {S : Type} {Wf : S → va_W} {post : Int32 → S → Prop} {u : S} {v : Int32} (hx : p.tables.exec = Jvm.exec) (hb : c.code = cc) (hr : meth.sig.returnType = some .int) (hlocks : meth.locks = false) (hP : va_P D vwCl (Wf u) H) (hD : va_D (fun q => z ≤ q) (Wf u)) (hS : va_S (fun q => z ≤ q) s.heap H locs) (hdg : decode cc pc = .ok (.ireturn, 1)) (hp : post v u) : W p l e R s m args below meth c H locs cells slots (MQ below (wQi D z Wf post) args s cells slots (fun q => z ≤ q)) (F0 m pc ls [.int v]) :=
  W.iret hx hb hr (fun t ht _ => ⟨⟨v, u, rfl, hp, by rw [ht]; exact hP, hD⟩, hS.F ht⟩) hS.2.2 hdg hlocks
theorem w_vret {S : Type} {Wf : S → va_W} {post : S → Prop} {u : S} (hx : p.tables.exec = Jvm.exec) (hb : c.code = cc) (hr : meth.sig.returnType = none) (hlocks : meth.locks = false) (hP : va_P D vwCl (Wf u) H) (hD : va_D (fun q => z ≤ q) (Wf u)) (hS : va_S (fun q => z ≤ q) s.heap H locs) (hdg : decode cc pc = .ok (.return_, 1)) (hp : post u) : W p l e R s m args below meth c H locs cells slots (MQ below (wQv D z Wf post) args s cells slots (fun q => z ≤ q)) (F0 m pc ls []) :=
  W.vret hx hb hr (fun t ht _ => ⟨⟨u, rfl, hp, by rw [ht]; exact hP, hD⟩, hS.F ht⟩) hS.2.2 hdg hlocks
theorem w_calli {S : Type} {Wf : S → va_W} {post : Int32 → S → Prop} (hr : va_Run p l e R s m args below meth c H locs cells slots mc ms (F0 m pc ls st0) rest (wQi D z Wf post a) (fun q => z ≤ q)) (hS : va_S (fun q => z ≤ q) H0 H locs)
    (kk : ∀ (r : Int32) (u : S) (H1 : Heap) (locs1 : List Loc), post r u → va_P D vwCl (Wf u) H1 → va_D (fun q => z ≤ q) (Wf u) → va_S (fun q => z ≤ q) H0 H1 locs1 → W p l e R s m args below meth c H1 locs1 (cells + mc) (slots + ms) Q (F0 m (pc + 3) ls (.int r :: rest))) : W p l e R s m args below meth c H locs cells slots Q (F0 m pc ls st0) :=
  va_calli hr hS (fun _ _ h => h) (fun _ h => h) (fun r u t H1 locs1 ht _ hp hB _ _ hS1 => kk r u H1 locs1 hp (by rw [← ht]; exact hB.1) hB.2 hS1)
theorem w_callv {S : Type} {Wf : S → va_W} {post : S → Prop} (hr : va_Run p l e R s m args below meth c H locs cells slots mc ms (F0 m pc ls st0) rest (wQv D z Wf post a) (fun q => z ≤ q)) (hS : va_S (fun q => z ≤ q) H0 H locs)
    (kk : ∀ (u : S) (H1 : Heap) (locs1 : List Loc), post u → va_P D vwCl (Wf u) H1 → va_D (fun q => z ≤ q) (Wf u) → va_S (fun q => z ≤ q) H0 H1 locs1 → W p l e R s m args below meth c H1 locs1 (cells + mc) (slots + ms) Q (F0 m (pc + 3) ls rest)) : W p l e R s m args below meth c H locs cells slots Q (F0 m pc ls st0) :=
  va_callv hr hS (fun _ _ h => h) (fun _ h => h) (fun u t H1 locs1 ht _ hp hB _ _ hS1 => kk u H1 locs1 hp (by rw [← ht]; exact hB.1) hB.2 hS1)
end WBase
/-! the reference's world -/
def mdF (adr : Nat → Nat) (τ : T2) : List Value := [.int (τ 0 0), .ref (adr 1), .ref (adr 2), .ref (adr 3), .ref (adr 4), .ref (adr 5), .ref (adr 6), .ref (adr 7), .ref (adr 8), .ref (adr 9), .ref (adr 10), .ref (adr 11), .ref (adr 12), .int (τ 13 0), .ref (adr 14), .ref (adr 15), .int (τ 16 0), .ref (adr 17), .ref (adr 18), .int (τ 19 0), .ref (adr 20), .int (τ 21 0), .int (τ 22 0), .int (τ 23 0)]
def mW (h : Nat) (adr : Nat → Nat) (cI cZ : ClassId) (τ : T2) : va_W := [(h, .inr (3, mdF adr τ)), (adr 1, .inl (cI, 1001, .inl (τ 1))), (adr 2, .inl (cI, 1001, .inl (τ 2))), (adr 3, .inl (cI, 1001, .inl (τ 3))), (adr 4, .inl (cI, 1001, .inl (τ 4))), (adr 5, .inl (cI, 1001, .inl (τ 5))), (adr 6, .inl (cI, 1001, .inl (τ 6))), (adr 7, .inl (cI, 1001, .inl (τ 7))), (adr 8, .inl (cI, 1001, .inl (τ 8))), (adr 9, .inl (cI, 1001, .inl (τ 9))), (adr 10, .inl (cZ, 1001, .inl (τ 10))), (adr 11, .inl (cZ, 1001, .inl (τ 11))), (adr 12, .inl (cZ, 1001, .inl (τ 12))), (adr 14, .inl (cI, 1100, .inl (τ 14))), (adr 15, .inl (cI, 1100, .inl (τ 15))), (adr 17, .inl (cI, 10, .inl (τ 17))), (adr 18, .inl (cI, 10, .inl (τ 18))), (adr 20, .inl (cI, 1001, .inl (τ 20)))]
/-! the class's world -/
def ouF (σ : T2) (j : Nat) : List Value := [.int (σ 20 j), .int (σ 21 j), .int (σ 22 j), .int (σ 23 j), .int (σ 24 j), .int (σ 25 j), .int (σ 26 j), .int (σ 27 j), .int (σ 28 j), .int (σ 29 j), .int (σ 30 j), .int (σ 31 j), .int (σ 32 j)]
def tk (ad : Nat → Nat) (v : Int32) : Option Nat := if v = 0 then none else some (ad (v - 1).toNatClampNeg)
def wrF (ad : Nat → Nat) (σ : T2) (w : Nat) : List Value := [.int (σ 40 w), .int (σ 41 w), va_rf (tk ad (σ 42 w))]
def obF (adr : Nat → Nat) (σ : T2) : List Value := [.int (σ 0 0), .int (σ 1 0), .ref (adr 2), .int (σ 3 0), .ref (adr 4), .int (σ 5 0), .ref (adr 6), .int (σ 7 0), .ref (adr 8), .ref (adr 9), .int (σ 10 0), .int (σ 11 0), .int (σ 12 0)]
def cFx (h : Nat) (adr ad wd : Nat → Nat) (nO nW : Nat) (cI cO cW : ClassId) (σ : T2) : va_W := [(h, .inr (0, obF adr σ)), (adr 2, .inl (cO, 1000, .inr (.inr (.inr (.inr (fun j => if j < nO then some (ad j) else none)))))), (adr 4, .inl (cW, 9, .inr (.inr (.inr (.inr (fun j => if j < nW then some (wd j) else none)))))), (adr 6, .inl (cI, 1000, .inl (σ 6))), (adr 8, .inl (cI, 512, .inl (σ 8))), (adr 9, .inl (cI, 512, .inl (σ 9)))]
def cOu (ad : Nat → Nat) (nO : Nat) (σ : T2) : va_W := (List.range nO).map (fun j => (ad j, .inr (1, ouF σ j)))
def cWr (ad wd : Nat → Nat) (nW : Nat) (σ : T2) : va_W := (List.range nW).map (fun w => (wd w, .inr (2, wrF ad σ w)))
def cWd (h : Nat) (adr ad wd : Nat → Nat) (nO nW : Nat) (cI cO cW : ClassId) (σ : T2) : va_W := cFx h adr ad wd nO nW cI cO cW σ ++ (cOu ad nO σ ++ cWr ad wd nW σ)
theorem mput_0 {h : Nat} {adr : Nat → Nat} {cI cZ : ClassId} {τ : T2} {X : va_W} {v : Int32} : (mW h adr cI cZ τ ++ X).set 0 (h, .inr (3, (mdF adr τ).set 0 (.int v))) = mW h adr cI cZ (upd2 τ 0 0 v) ++ X := rfl
theorem mput_1 {h : Nat} {adr : Nat → Nat} {cI cZ : ClassId} {τ : T2} {X : va_W} {i : Nat} {v : Int32} : (mW h adr cI cZ τ ++ X).set 1 (adr 1, .inl (cI, 1001, .inl (upd (τ 1) i v))) = mW h adr cI cZ (upd2 τ 1 i v) ++ X := rfl
theorem mput_2 {h : Nat} {adr : Nat → Nat} {cI cZ : ClassId} {τ : T2} {X : va_W} {i : Nat} {v : Int32} : (mW h adr cI cZ τ ++ X).set 2 (adr 2, .inl (cI, 1001, .inl (upd (τ 2) i v))) = mW h adr cI cZ (upd2 τ 2 i v) ++ X := rfl
theorem mput_3 {h : Nat} {adr : Nat → Nat} {cI cZ : ClassId} {τ : T2} {X : va_W} {i : Nat} {v : Int32} : (mW h adr cI cZ τ ++ X).set 3 (adr 3, .inl (cI, 1001, .inl (upd (τ 3) i v))) = mW h adr cI cZ (upd2 τ 3 i v) ++ X := rfl
theorem mput_4 {h : Nat} {adr : Nat → Nat} {cI cZ : ClassId} {τ : T2} {X : va_W} {i : Nat} {v : Int32} : (mW h adr cI cZ τ ++ X).set 4 (adr 4, .inl (cI, 1001, .inl (upd (τ 4) i v))) = mW h adr cI cZ (upd2 τ 4 i v) ++ X := rfl
theorem mput_5 {h : Nat} {adr : Nat → Nat} {cI cZ : ClassId} {τ : T2} {X : va_W} {i : Nat} {v : Int32} : (mW h adr cI cZ τ ++ X).set 5 (adr 5, .inl (cI, 1001, .inl (upd (τ 5) i v))) = mW h adr cI cZ (upd2 τ 5 i v) ++ X := rfl
theorem mput_6 {h : Nat} {adr : Nat → Nat} {cI cZ : ClassId} {τ : T2} {X : va_W} {i : Nat} {v : Int32} : (mW h adr cI cZ τ ++ X).set 6 (adr 6, .inl (cI, 1001, .inl (upd (τ 6) i v))) = mW h adr cI cZ (upd2 τ 6 i v) ++ X := rfl
theorem mput_7 {h : Nat} {adr : Nat → Nat} {cI cZ : ClassId} {τ : T2} {X : va_W} {i : Nat} {v : Int32} : (mW h adr cI cZ τ ++ X).set 7 (adr 7, .inl (cI, 1001, .inl (upd (τ 7) i v))) = mW h adr cI cZ (upd2 τ 7 i v) ++ X := rfl
theorem mput_8 {h : Nat} {adr : Nat → Nat} {cI cZ : ClassId} {τ : T2} {X : va_W} {i : Nat} {v : Int32} : (mW h adr cI cZ τ ++ X).set 8 (adr 8, .inl (cI, 1001, .inl (upd (τ 8) i v))) = mW h adr cI cZ (upd2 τ 8 i v) ++ X := rfl
theorem mput_9 {h : Nat} {adr : Nat → Nat} {cI cZ : ClassId} {τ : T2} {X : va_W} {i : Nat} {v : Int32} : (mW h adr cI cZ τ ++ X).set 9 (adr 9, .inl (cI, 1001, .inl (upd (τ 9) i v))) = mW h adr cI cZ (upd2 τ 9 i v) ++ X := rfl
theorem mput_10 {h : Nat} {adr : Nat → Nat} {cI cZ : ClassId} {τ : T2} {X : va_W} {i : Nat} {v : Int32} : (mW h adr cI cZ τ ++ X).set 10 (adr 10, .inl (cZ, 1001, .inl (upd (τ 10) i v))) = mW h adr cI cZ (upd2 τ 10 i v) ++ X := rfl
theorem mput_11 {h : Nat} {adr : Nat → Nat} {cI cZ : ClassId} {τ : T2} {X : va_W} {i : Nat} {v : Int32} : (mW h adr cI cZ τ ++ X).set 11 (adr 11, .inl (cZ, 1001, .inl (upd (τ 11) i v))) = mW h adr cI cZ (upd2 τ 11 i v) ++ X := rfl
theorem mput_12 {h : Nat} {adr : Nat → Nat} {cI cZ : ClassId} {τ : T2} {X : va_W} {i : Nat} {v : Int32} : (mW h adr cI cZ τ ++ X).set 12 (adr 12, .inl (cZ, 1001, .inl (upd (τ 12) i v))) = mW h adr cI cZ (upd2 τ 12 i v) ++ X := rfl
theorem mput_13 {h : Nat} {adr : Nat → Nat} {cI cZ : ClassId} {τ : T2} {X : va_W} {v : Int32} : (mW h adr cI cZ τ ++ X).set 0 (h, .inr (3, (mdF adr τ).set 13 (.int v))) = mW h adr cI cZ (upd2 τ 13 0 v) ++ X := rfl
theorem mput_14 {h : Nat} {adr : Nat → Nat} {cI cZ : ClassId} {τ : T2} {X : va_W} {i : Nat} {v : Int32} : (mW h adr cI cZ τ ++ X).set 13 (adr 14, .inl (cI, 1100, .inl (upd (τ 14) i v))) = mW h adr cI cZ (upd2 τ 14 i v) ++ X := rfl
theorem mput_15 {h : Nat} {adr : Nat → Nat} {cI cZ : ClassId} {τ : T2} {X : va_W} {i : Nat} {v : Int32} : (mW h adr cI cZ τ ++ X).set 14 (adr 15, .inl (cI, 1100, .inl (upd (τ 15) i v))) = mW h adr cI cZ (upd2 τ 15 i v) ++ X := rfl
theorem mput_16 {h : Nat} {adr : Nat → Nat} {cI cZ : ClassId} {τ : T2} {X : va_W} {v : Int32} : (mW h adr cI cZ τ ++ X).set 0 (h, .inr (3, (mdF adr τ).set 16 (.int v))) = mW h adr cI cZ (upd2 τ 16 0 v) ++ X := rfl
theorem mput_17 {h : Nat} {adr : Nat → Nat} {cI cZ : ClassId} {τ : T2} {X : va_W} {i : Nat} {v : Int32} : (mW h adr cI cZ τ ++ X).set 15 (adr 17, .inl (cI, 10, .inl (upd (τ 17) i v))) = mW h adr cI cZ (upd2 τ 17 i v) ++ X := rfl
theorem mput_18 {h : Nat} {adr : Nat → Nat} {cI cZ : ClassId} {τ : T2} {X : va_W} {i : Nat} {v : Int32} : (mW h adr cI cZ τ ++ X).set 16 (adr 18, .inl (cI, 10, .inl (upd (τ 18) i v))) = mW h adr cI cZ (upd2 τ 18 i v) ++ X := rfl
theorem mput_19 {h : Nat} {adr : Nat → Nat} {cI cZ : ClassId} {τ : T2} {X : va_W} {v : Int32} : (mW h adr cI cZ τ ++ X).set 0 (h, .inr (3, (mdF adr τ).set 19 (.int v))) = mW h adr cI cZ (upd2 τ 19 0 v) ++ X := rfl
theorem mput_20 {h : Nat} {adr : Nat → Nat} {cI cZ : ClassId} {τ : T2} {X : va_W} {i : Nat} {v : Int32} : (mW h adr cI cZ τ ++ X).set 17 (adr 20, .inl (cI, 1001, .inl (upd (τ 20) i v))) = mW h adr cI cZ (upd2 τ 20 i v) ++ X := rfl
theorem mput_21 {h : Nat} {adr : Nat → Nat} {cI cZ : ClassId} {τ : T2} {X : va_W} {v : Int32} : (mW h adr cI cZ τ ++ X).set 0 (h, .inr (3, (mdF adr τ).set 21 (.int v))) = mW h adr cI cZ (upd2 τ 21 0 v) ++ X := rfl
theorem mput_22 {h : Nat} {adr : Nat → Nat} {cI cZ : ClassId} {τ : T2} {X : va_W} {v : Int32} : (mW h adr cI cZ τ ++ X).set 0 (h, .inr (3, (mdF adr τ).set 22 (.int v))) = mW h adr cI cZ (upd2 τ 22 0 v) ++ X := rfl
theorem mput_23 {h : Nat} {adr : Nat → Nat} {cI cZ : ClassId} {τ : T2} {X : va_W} {v : Int32} : (mW h adr cI cZ τ ++ X).set 0 (h, .inr (3, (mdF adr τ).set 23 (.int v))) = mW h adr cI cZ (upd2 τ 23 0 v) ++ X := rfl
theorem cput_0 {h : Nat} {adr ad wd : Nat → Nat} {nO nW : Nat} {cI cO cW : ClassId} {σ : T2} {X : va_W} {v : Int32} : (cWd h adr ad wd nO nW cI cO cW σ ++ X).set 0 (h, .inr (0, (obF adr σ).set 0 (.int v))) = cWd h adr ad wd nO nW cI cO cW (upd2 σ 0 0 v) ++ X := rfl
theorem cput_1 {h : Nat} {adr ad wd : Nat → Nat} {nO nW : Nat} {cI cO cW : ClassId} {σ : T2} {X : va_W} {v : Int32} : (cWd h adr ad wd nO nW cI cO cW σ ++ X).set 0 (h, .inr (0, (obF adr σ).set 1 (.int v))) = cWd h adr ad wd nO nW cI cO cW (upd2 σ 1 0 v) ++ X := rfl
theorem cput_3 {h : Nat} {adr ad wd : Nat → Nat} {nO nW : Nat} {cI cO cW : ClassId} {σ : T2} {X : va_W} {v : Int32} : (cWd h adr ad wd nO nW cI cO cW σ ++ X).set 0 (h, .inr (0, (obF adr σ).set 3 (.int v))) = cWd h adr ad wd nO nW cI cO cW (upd2 σ 3 0 v) ++ X := rfl
theorem cput_5 {h : Nat} {adr ad wd : Nat → Nat} {nO nW : Nat} {cI cO cW : ClassId} {σ : T2} {X : va_W} {v : Int32} : (cWd h adr ad wd nO nW cI cO cW σ ++ X).set 0 (h, .inr (0, (obF adr σ).set 5 (.int v))) = cWd h adr ad wd nO nW cI cO cW (upd2 σ 5 0 v) ++ X := rfl
theorem cput_7 {h : Nat} {adr ad wd : Nat → Nat} {nO nW : Nat} {cI cO cW : ClassId} {σ : T2} {X : va_W} {v : Int32} : (cWd h adr ad wd nO nW cI cO cW σ ++ X).set 0 (h, .inr (0, (obF adr σ).set 7 (.int v))) = cWd h adr ad wd nO nW cI cO cW (upd2 σ 7 0 v) ++ X := rfl
theorem cput_10 {h : Nat} {adr ad wd : Nat → Nat} {nO nW : Nat} {cI cO cW : ClassId} {σ : T2} {X : va_W} {v : Int32} : (cWd h adr ad wd nO nW cI cO cW σ ++ X).set 0 (h, .inr (0, (obF adr σ).set 10 (.int v))) = cWd h adr ad wd nO nW cI cO cW (upd2 σ 10 0 v) ++ X := rfl
theorem cput_11 {h : Nat} {adr ad wd : Nat → Nat} {nO nW : Nat} {cI cO cW : ClassId} {σ : T2} {X : va_W} {v : Int32} : (cWd h adr ad wd nO nW cI cO cW σ ++ X).set 0 (h, .inr (0, (obF adr σ).set 11 (.int v))) = cWd h adr ad wd nO nW cI cO cW (upd2 σ 11 0 v) ++ X := rfl
theorem cput_12 {h : Nat} {adr ad wd : Nat → Nat} {nO nW : Nat} {cI cO cW : ClassId} {σ : T2} {X : va_W} {v : Int32} : (cWd h adr ad wd nO nW cI cO cW σ ++ X).set 0 (h, .inr (0, (obF adr σ).set 12 (.int v))) = cWd h adr ad wd nO nW cI cO cW (upd2 σ 12 0 v) ++ X := rfl
theorem cput_6 {h : Nat} {adr ad wd : Nat → Nat} {nO nW : Nat} {cI cO cW : ClassId} {σ : T2} {X : va_W} {i : Nat} {v : Int32} : (cWd h adr ad wd nO nW cI cO cW σ ++ X).set 3 (adr 6, .inl (cI, 1000, .inl (upd (σ 6) i v))) = cWd h adr ad wd nO nW cI cO cW (upd2 σ 6 i v) ++ X := rfl
theorem cput_8 {h : Nat} {adr ad wd : Nat → Nat} {nO nW : Nat} {cI cO cW : ClassId} {σ : T2} {X : va_W} {i : Nat} {v : Int32} : (cWd h adr ad wd nO nW cI cO cW σ ++ X).set 4 (adr 8, .inl (cI, 512, .inl (upd (σ 8) i v))) = cWd h adr ad wd nO nW cI cO cW (upd2 σ 8 i v) ++ X := rfl
theorem cput_9 {h : Nat} {adr ad wd : Nat → Nat} {nO nW : Nat} {cI cO cW : ClassId} {σ : T2} {X : va_W} {i : Nat} {v : Int32} : (cWd h adr ad wd nO nW cI cO cW σ ++ X).set 5 (adr 9, .inl (cI, 512, .inl (upd (σ 9) i v))) = cWd h adr ad wd nO nW cI cO cW (upd2 σ 9 i v) ++ X := rfl
theorem map_set {α : Type} (n j : Nat) (f g : Nat → α) (h : ∀ i, i ≠ j → g i = f i) : ((List.range n).map f).set j (g j) = (List.range n).map g := by
  apply List.ext_getElem?
  intro i
  rw [List.getElem?_set]
  by_cases e : j = i
  · subst e
    by_cases hn : j < n <;> simp [hn]
  · rw [if_neg e]
    by_cases hn : i < n <;> simp [hn, h i (Ne.symm e)]
theorem cFx_len {h : Nat} {adr ad wd : Nat → Nat} {nO nW : Nat} {cI cO cW : ClassId} {σ : T2} {X : va_W} : (cFx h adr ad wd nO nW cI cO cW σ).length = 6 := rfl
theorem cOu_len {ad : Nat → Nat} {nO : Nat} {σ : T2} : (cOu ad nO σ).length = nO := by simp [cOu]
theorem cWr_len {ad wd : Nat → Nat} {nW : Nat} {σ : T2} : (cWr ad wd nW σ).length = nW := by simp [cWr]
theorem cw_out {h : Nat} {adr ad wd : Nat → Nat} {nO nW : Nat} {cI cO cW : ClassId} {σ : T2} {X : va_W} {j : Nat} (hj : j < nO) : (cWd h adr ad wd nO nW cI cO cW σ ++ X)[6 + j]? = some (ad j, .inr (1, ouF σ j)) := by
  have h1 := cFx_len (h := h) (adr := adr) (ad := ad) (wd := wd) (nO := nO) (nW := nW) (cI := cI) (cO := cO) (cW := cW) (σ := σ) (X := X)
  have h2 := cOu_len (ad := ad) (nO := nO) (σ := σ)
  unfold cWd
  rw [List.append_assoc, List.getElem?_append_right (by omega), h1, Nat.add_sub_cancel_left, List.append_assoc, List.getElem?_append_left (by omega)]
  simp [cOu, hj]
theorem cw_wr {h : Nat} {adr ad wd : Nat → Nat} {nO nW : Nat} {cI cO cW : ClassId} {σ : T2} {X : va_W} {w : Nat} (hw : w < nW) : (cWd h adr ad wd nO nW cI cO cW σ ++ X)[6 + nO + w]? = some (wd w, .inr (2, wrF ad σ w)) := by
  have h1 := cFx_len (h := h) (adr := adr) (ad := ad) (wd := wd) (nO := nO) (nW := nW) (cI := cI) (cO := cO) (cW := cW) (σ := σ) (X := X)
  have h2 := cOu_len (ad := ad) (nO := nO) (σ := σ)
  have h3 := cWr_len (ad := ad) (wd := wd) (nW := nW) (σ := σ)
  unfold cWd
  rw [List.append_assoc, List.getElem?_append_right (by omega), h1, List.append_assoc, List.getElem?_append_right (by omega), h2, show 6 + nO + w - 6 - nO = w by omega, List.getElem?_append_left (by omega)]
  simp [cWr, hw]
theorem upd2_lo {σ : T2} {f j : Nat} {v : Int32} (g : Nat) (h : g ≠ f) : upd2 σ f j v g = σ g := upd2_ne h
theorem upd2_row {σ : T2} {f j i : Nat} {v : Int32} (h : i ≠ j) (g : Nat) : upd2 σ f j v g i = σ g i := by
  by_cases e : g = f
  · subst e; exact upd2_off h
  · rw [upd2_ne e]
theorem cFx_hi {h : Nat} {adr ad wd : Nat → Nat} {nO nW : Nat} {cI cO cW : ClassId} {σ : T2} {X : va_W} {f j : Nat} {v : Int32} (hf : 20 ≤ f) : cFx h adr ad wd nO nW cI cO cW (upd2 σ f j v) = cFx h adr ad wd nO nW cI cO cW σ := by
  have q : ∀ g, g < 20 → upd2 σ f j v g = σ g := fun g hg => upd2_ne (by omega)
  simp only [cFx, obF, q 0 (by decide), q 1 (by decide), q 3 (by decide), q 5 (by decide), q 6 (by decide), q 7 (by decide), q 8 (by decide), q 9 (by decide), q 10 (by decide), q 11 (by decide), q 12 (by decide)]
theorem cWr_ne {ad wd : Nat → Nat} {nW : Nat} {σ : T2} {f j : Nat} {v : Int32} (hf : f < 40) : cWr ad wd nW (upd2 σ f j v) = cWr ad wd nW σ := by
  have q : ∀ g, 40 ≤ g → upd2 σ f j v g = σ g := fun g hg => upd2_ne (by omega)
  simp only [cWr, wrF, q 40 (by decide), q 41 (by decide), q 42 (by decide)]
theorem cOu_ne {ad : Nat → Nat} {nO : Nat} {σ : T2} {f j : Nat} {v : Int32} (hf : 33 ≤ f) : cOu ad nO (upd2 σ f j v) = cOu ad nO σ := by
  have q : ∀ g, g < 33 → upd2 σ f j v g = σ g := fun g hg => upd2_ne (by omega)
  simp only [cOu, ouF, q 20 (by decide), q 21 (by decide), q 22 (by decide), q 23 (by decide), q 24 (by decide), q 25 (by decide), q 26 (by decide), q 27 (by decide), q 28 (by decide), q 29 (by decide), q 30 (by decide), q 31 (by decide), q 32 (by decide)]
theorem ouF_set {σ : T2} {j k : Nat} {v : Int32} (hk : k < 13) : ouF (upd2 σ (20 + k) j v) j = (ouF σ j).set k (.int v) := by
  rcases (show k = 0 ∨ k = 1 ∨ k = 2 ∨ k = 3 ∨ k = 4 ∨ k = 5 ∨ k = 6 ∨ k = 7 ∨ k = 8 ∨ k = 9 ∨ k = 10 ∨ k = 11 ∨ k = 12 by omega) with rfl | rfl | rfl | rfl | rfl | rfl | rfl | rfl | rfl | rfl | rfl | rfl | rfl <;> simp [ouF, upd2, upd]
theorem set_mid {α : Type} {a b c x : List α} {n j : Nat} {e : α} (h : a.length = n) (hj : j < b.length) : ((a ++ (b ++ c)) ++ x).set (n + j) e = (a ++ (b.set j e ++ c)) ++ x := by
  rw [List.append_assoc, List.set_append_right _ _ (by omega), h, Nat.add_sub_cancel_left, List.append_assoc, List.set_append_left _ _ hj]
  simp
theorem set_mid2 {α : Type} {a b c x : List α} {n m j : Nat} {e : α} (h : a.length = n) (h2 : b.length = m) (hj : j < c.length) : ((a ++ (b ++ c)) ++ x).set (n + m + j) e = (a ++ (b ++ c.set j e)) ++ x := by
  rw [List.append_assoc, List.set_append_right _ _ (by omega), h, List.append_assoc, List.set_append_right _ _ (by omega), h2, show n + m + j - n - m = j by omega, List.set_append_left _ _ hj]
  simp
theorem cw_set_out {h : Nat} {adr ad wd : Nat → Nat} {nO nW : Nat} {cI cO cW : ClassId} {σ : T2} {X : va_W} {j k f : Nat} {v : Int32} (hf : 20 + k = f) (hk : k < 13) (hj : j < nO) : (cWd h adr ad wd nO nW cI cO cW σ ++ X).set (6 + j) (ad j, .inr (1, (ouF σ j).set k (.int v))) = cWd h adr ad wd nO nW cI cO cW (upd2 σ f j v) ++ X := by
  subst hf
  have e3 : (cOu ad nO σ).set j (ad j, .inr (1, (ouF σ j).set k (.int v))) = cOu ad nO (upd2 σ (20 + k) j v) := by
    rw [← ouF_set hk]
    exact map_set nO j (fun i => ((ad i, .inr (1, ouF σ i)) : Nat × va_E)) (fun i => ((ad i, .inr (1, ouF (upd2 σ (20 + k) j v) i)) : Nat × va_E)) (fun i hi => by simp only [ouF, upd2_row hi])
  unfold cWd
  rw [set_mid (cFx_len (X := X)) (by rw [cOu_len]; exact hj), e3, cFx_hi (X := X) (by omega), cWr_ne (by omega)]
theorem cw_setT {h : Nat} {adr ad wd : Nat → Nat} {nO nW : Nat} {cI cO cW : ClassId} {σ : T2} {X : va_W} {w : Nat} {x : Int32} {v : Option Nat} (hw : w < nW) (hv : tk ad x = v) : (cWd h adr ad wd nO nW cI cO cW σ ++ X).set (6 + nO + w) (wd w, .inr (2, (wrF ad σ w).set 2 (va_rf v))) = cWd h adr ad wd nO nW cI cO cW (upd2 σ 42 w x) ++ X := by
  subst hv
  have e3 : (cWr ad wd nW σ).set w (wd w, .inr (2, (wrF ad σ w).set 2 (va_rf (tk ad x)))) = cWr ad wd nW (upd2 σ 42 w x) := by
    have e4 : (wrF ad σ w).set 2 (va_rf (tk ad x)) = wrF ad (upd2 σ 42 w x) w := by simp [wrF, upd2, upd]
    rw [e4]
    exact map_set nW w (fun i => ((wd i, .inr (2, wrF ad σ i)) : Nat × va_E)) (fun i => ((wd i, .inr (2, wrF ad (upd2 σ 42 w x) i)) : Nat × va_E)) (fun i hi => by simp only [wrF, upd2_row hi])
  unfold cWd
  rw [set_mid2 (cFx_len (X := X)) cOu_len (by rw [cWr_len]; exact hw), e3, cFx_hi (X := X) (by omega), cOu_ne (by omega)]
end
section
def sM_isOutput (τ : T2) (p0 : Int32) : Int32 :=
  if p0 ≤ 0 then 0
  else if (τ 13 0) < p0 then 0
  else 1
def sM_isWriter (τ : T2) (p0 : Int32) : Int32 :=
  if p0 ≤ 0 then 0
  else if (τ 19 0) < p0 then 0
  else 1
def sM_isGone (τ : T2) (p0 : Int32) : Int32 :=
  if (τ 6 p0.toNatClampNeg) = 4 then 1
  else if (τ 6 p0.toNatClampNeg) = 5 then 1
  else 0
def sM_pagesOf (τ : T2) (p0 : Int32) : Int32 :=
  (((τ 7 p0.toNatClampNeg) + 8) - 1) / 8
def sM_free_s (τ : T2) (i : Nat) (a : Int32) : Int32 :=
  if (sM_isGone τ (nI (i + 1))) = 0 then a - (sM_pagesOf τ (nI (i + 1)))
  else a - 0
def sM_free_F (τ : T2) : Nat → Int32
  | 0 => τ 0 0
  | i + 1 => sM_free_s τ i (sM_free_F τ i)
def sM_free_x (τ : T2) (a : Int32) : Int32 :=
  a
def sM_free (τ : T2) : Int32 :=
  sM_free_x τ (sM_free_F τ ((τ 13 0).toNatClampNeg))
def sM_goes (τ : T2) (p0 : Int32) (p1 : Int32) : T2 :=
  upd2 (upd2 τ 6 p0.toNatClampNeg p1) 11 p0.toNatClampNeg (vp_nar .boolean 0)
def sM_create (τ : T2) (p0 : Int32) (p1 : Int32) (p2 : Int32) (p3 : Int32) (p4 : Int32) : T2 :=
  upd2 (upd2 (upd2 (upd2 (upd2 (upd2 (upd2 τ 13 0 ((τ 13 0) + 1)) 1 (((τ 13 0) + 1).toNatClampNeg) p0) 2 (((τ 13 0) + 1).toNatClampNeg) p1) 3 (((τ 13 0) + 1).toNatClampNeg) p2) 4 (((τ 13 0) + 1).toNatClampNeg) p3) 5 (((τ 13 0) + 1).toNatClampNeg) p4) 6 (((τ 13 0) + 1).toNatClampNeg) 1
def sM_fits (τ : T2) (p0 : Int32) (p1 : Int32) : Int32 :=
  if (p1 - p1 / 16 * 16) = 8 then (if (p1 / 16) = 0 then 1
    else if ((p1 / 16) - 1) = (τ 4 p0.toNatClampNeg) then 1
    else 0)
  else if (p1 - p1 / 16 * 16) = (τ 2 p0.toNatClampNeg) then (if (p1 / 16) = 0 then 1
    else if ((p1 / 16) - 1) = (τ 4 p0.toNatClampNeg) then 1
    else 0)
  else 0
def sM_isStill (τ : T2) (p0 : Int32) : Int32 :=
  if (τ 6 p0.toNatClampNeg) = 1 then 1
  else if (τ 6 p0.toNatClampNeg) = 2 then 1
  else 0
def sM_output_s (τ : T2) (p0 : Int32) (p1 : Int32) (p2 : Int32) (i : Nat) (a : Int32) : Int32 :=
  if a = 0 then (if (τ 1 ((nI (i + 1)).toNatClampNeg)) = p0 then (if (sM_isGone τ (nI (i + 1))) = 0 then 1
      else 0)
    else 0)
  else 1
def sM_output_F (τ : T2) (p0 : Int32) (p1 : Int32) (p2 : Int32) : Nat → Int32
  | 0 => 0
  | i + 1 => sM_output_s τ p0 p1 p2 i (sM_output_F τ p0 p1 p2 i)
def sM_output_x (τ : T2) (p0 : Int32) (p1 : Int32) (p2 : Int32) (a : Int32) : Int32 × T2 :=
  if (τ 13 0) = 1000 then (0, τ)
  else if a = 0 then (if ((τ 0 0) / 8) < (sM_free τ) then ((sM_create τ p0 p1 p2 0 0) 13 0, (sM_create τ p0 p1 p2 0 0))
    else (0, τ))
  else ((sM_create τ p0 p1 p2 0 0) 13 0, (sM_create τ p0 p1 p2 0 0))
def sM_output (τ : T2) (p0 : Int32) (p1 : Int32) (p2 : Int32) : Int32 × T2 :=
  if p0 < 1 then ((-1), τ)
  else if 9999 < p0 then ((-1), τ)
  else if p1 < 0 then ((-1), τ)
  else if 7 < p1 then ((-1), τ)
  else if p2 < 1 then ((-1), τ)
  else if p2 ≤ 9 then sM_output_x τ p0 p1 p2 (sM_output_F τ p0 p1 p2 ((τ 13 0).toNatClampNeg))
  else ((-1), τ)
def sM_line (τ : T2) (p0 : Int32) (p1 : Int32) : Int32 × T2 :=
  if (sM_isOutput τ p0) = 0 then ((-1), τ)
  else if p1 < 0 then ((-1), τ)
  else if p1 ≤ 34047 then (if (τ 6 p0.toNatClampNeg) = 1 then (if (τ 8 p0.toNatClampNeg) ≤ 0 then (if ((τ 7 p0.toNatClampNeg) - (τ 7 p0.toNatClampNeg) / 8 * 8) = 0 then (if (sM_free τ) = 0 then ((-3), τ)
          else if (p1 / 256) ≤ 0 then (1, upd2 (upd2 (upd2 (upd2 τ 14 ((τ 16 0).toNatClampNeg) p0) 15 ((τ 16 0).toNatClampNeg) (-1)) 16 0 ((τ 16 0) + 1)) 7 p0.toNatClampNeg ((τ 7 p0.toNatClampNeg) + 1))
          else (1, upd2 (upd2 (upd2 (upd2 τ 14 ((τ 16 0).toNatClampNeg) p0) 15 ((τ 16 0).toNatClampNeg) (p1 - p1 / 256 * 256)) 16 0 ((τ 16 0) + 1)) 7 p0.toNatClampNeg ((τ 7 p0.toNatClampNeg) + 1)))
        else if (p1 / 256) ≤ 0 then (1, upd2 (upd2 (upd2 (upd2 τ 14 ((τ 16 0).toNatClampNeg) p0) 15 ((τ 16 0).toNatClampNeg) (-1)) 16 0 ((τ 16 0) + 1)) 7 p0.toNatClampNeg ((τ 7 p0.toNatClampNeg) + 1))
        else (1, upd2 (upd2 (upd2 (upd2 τ 14 ((τ 16 0).toNatClampNeg) p0) 15 ((τ 16 0).toNatClampNeg) (p1 - p1 / 256 * 256)) 16 0 ((τ 16 0) + 1)) 7 p0.toNatClampNeg ((τ 7 p0.toNatClampNeg) + 1)))
      else if (τ 7 p0.toNatClampNeg) < (τ 8 p0.toNatClampNeg) then (if ((τ 7 p0.toNatClampNeg) - (τ 7 p0.toNatClampNeg) / 8 * 8) = 0 then (if (sM_free τ) = 0 then ((-3), τ)
          else if (p1 / 256) ≤ 0 then (1, upd2 (upd2 (upd2 (upd2 τ 14 ((τ 16 0).toNatClampNeg) p0) 15 ((τ 16 0).toNatClampNeg) (-1)) 16 0 ((τ 16 0) + 1)) 7 p0.toNatClampNeg ((τ 7 p0.toNatClampNeg) + 1))
          else (1, upd2 (upd2 (upd2 (upd2 τ 14 ((τ 16 0).toNatClampNeg) p0) 15 ((τ 16 0).toNatClampNeg) (p1 - p1 / 256 * 256)) 16 0 ((τ 16 0) + 1)) 7 p0.toNatClampNeg ((τ 7 p0.toNatClampNeg) + 1)))
        else if (p1 / 256) ≤ 0 then (1, upd2 (upd2 (upd2 (upd2 τ 14 ((τ 16 0).toNatClampNeg) p0) 15 ((τ 16 0).toNatClampNeg) (-1)) 16 0 ((τ 16 0) + 1)) 7 p0.toNatClampNeg ((τ 7 p0.toNatClampNeg) + 1))
        else (1, upd2 (upd2 (upd2 (upd2 τ 14 ((τ 16 0).toNatClampNeg) p0) 15 ((τ 16 0).toNatClampNeg) (p1 - p1 / 256 * 256)) 16 0 ((τ 16 0) + 1)) 7 p0.toNatClampNeg ((τ 7 p0.toNatClampNeg) + 1)))
      else if (τ 10 p0.toNatClampNeg) = 0 then (if ((τ 7 p0.toNatClampNeg) - (τ 7 p0.toNatClampNeg) / 8 * 8) = 0 then (if (sM_free τ) = 0 then ((-3), τ)
          else if (p1 / 256) ≤ 0 then (2, upd2 (upd2 (upd2 (upd2 τ 14 ((τ 16 0).toNatClampNeg) p0) 15 ((τ 16 0).toNatClampNeg) (-1)) 16 0 ((τ 16 0) + 1)) 7 p0.toNatClampNeg ((τ 7 p0.toNatClampNeg) + 1))
          else (2, upd2 (upd2 (upd2 (upd2 τ 14 ((τ 16 0).toNatClampNeg) p0) 15 ((τ 16 0).toNatClampNeg) (p1 - p1 / 256 * 256)) 16 0 ((τ 16 0) + 1)) 7 p0.toNatClampNeg ((τ 7 p0.toNatClampNeg) + 1)))
        else if (p1 / 256) ≤ 0 then (2, upd2 (upd2 (upd2 (upd2 τ 14 ((τ 16 0).toNatClampNeg) p0) 15 ((τ 16 0).toNatClampNeg) (-1)) 16 0 ((τ 16 0) + 1)) 7 p0.toNatClampNeg ((τ 7 p0.toNatClampNeg) + 1))
        else (2, upd2 (upd2 (upd2 (upd2 τ 14 ((τ 16 0).toNatClampNeg) p0) 15 ((τ 16 0).toNatClampNeg) (p1 - p1 / 256 * 256)) 16 0 ((τ 16 0) + 1)) 7 p0.toNatClampNeg ((τ 7 p0.toNatClampNeg) + 1)))
      else (0, τ))
    else ((-2), τ))
  else ((-1), τ)
def sM_limit (τ : T2) (p0 : Int32) (p1 : Int32) (p2 : Int32) : Int32 × T2 :=
  if (sM_isOutput τ p0) = 0 then ((-1), τ)
  else if 0 ≤ p1 then (if (sM_isGone τ p0) = 0 then (1, upd2 (upd2 τ 8 p0.toNatClampNeg p1) 10 p0.toNatClampNeg (vp_nar .boolean p2))
    else ((-2), τ))
  else ((-1), τ)
def sM_end_s (τ : T2) (p0 : Int32) (i : Nat) (a : Int32) (τ1 : T2) : Int32 × T2 :=
  if (τ1 1 ((nI (i + 1)).toNatClampNeg)) = p0 then (if (τ1 6 ((nI (i + 1)).toNatClampNeg)) = 1 then (if (τ1 7 ((nI (i + 1)).toNatClampNeg)) = 0 then (a + 1, (sM_goes τ1 (nI (i + 1)) 5))
      else (a + 1, upd2 τ1 6 ((nI (i + 1)).toNatClampNeg) 2))
    else (a, τ1))
  else (a, τ1)
def sM_end_F (τ : T2) (p0 : Int32) : Nat → Int32 × T2
  | 0 => (0, τ)
  | i + 1 => sM_end_s τ p0 i (sM_end_F τ p0 i).1 (sM_end_F τ p0 i).2
def sM_end_x (τ : T2) (p0 : Int32) (a : Int32) (τ1 : T2) : Int32 × T2 :=
  (a, τ1)
def sM_end (τ : T2) (p0 : Int32) : Int32 × T2 :=
  sM_end_x τ p0 (sM_end_F τ p0 ((τ 13 0).toNatClampNeg)).1 (sM_end_F τ p0 ((τ 13 0).toNatClampNeg)).2
def sM_segment (τ : T2) (p0 : Int32) : Int32 × T2 :=
  if (sM_isOutput τ p0) = 0 then ((-1), τ)
  else if (τ 6 p0.toNatClampNeg) = 1 then (if (τ 7 p0.toNatClampNeg) = 0 then ((-2), τ)
    else if (τ 13 0) = 1000 then (0, τ)
    else ((sM_create (upd2 τ 6 p0.toNatClampNeg 2) (τ 1 p0.toNatClampNeg) (τ 2 p0.toNatClampNeg) (τ 3 p0.toNatClampNeg) (τ 4 p0.toNatClampNeg) (τ 5 p0.toNatClampNeg)) 13 0, upd2 (upd2 (upd2 (sM_create (upd2 τ 6 p0.toNatClampNeg 2) (τ 1 p0.toNatClampNeg) (τ 2 p0.toNatClampNeg) (τ 3 p0.toNatClampNeg) (τ 4 p0.toNatClampNeg) (τ 5 p0.toNatClampNeg)) 8 (((sM_create (upd2 τ 6 p0.toNatClampNeg 2) (τ 1 p0.toNatClampNeg) (τ 2 p0.toNatClampNeg) (τ 3 p0.toNatClampNeg) (τ 4 p0.toNatClampNeg) (τ 5 p0.toNatClampNeg)) 13 0).toNatClampNeg) ((sM_create (upd2 τ 6 p0.toNatClampNeg 2) (τ 1 p0.toNatClampNeg) (τ 2 p0.toNatClampNeg) (τ 3 p0.toNatClampNeg) (τ 4 p0.toNatClampNeg) (τ 5 p0.toNatClampNeg)) 8 p0.toNatClampNeg)) 10 (((sM_create (upd2 τ 6 p0.toNatClampNeg 2) (τ 1 p0.toNatClampNeg) (τ 2 p0.toNatClampNeg) (τ 3 p0.toNatClampNeg) (τ 4 p0.toNatClampNeg) (τ 5 p0.toNatClampNeg)) 13 0).toNatClampNeg) (vp_nar .boolean ((sM_create (upd2 τ 6 p0.toNatClampNeg 2) (τ 1 p0.toNatClampNeg) (τ 2 p0.toNatClampNeg) (τ 3 p0.toNatClampNeg) (τ 4 p0.toNatClampNeg) (τ 5 p0.toNatClampNeg)) 10 p0.toNatClampNeg))) 11 (((sM_create (upd2 τ 6 p0.toNatClampNeg 2) (τ 1 p0.toNatClampNeg) (τ 2 p0.toNatClampNeg) (τ 3 p0.toNatClampNeg) (τ 4 p0.toNatClampNeg) (τ 5 p0.toNatClampNeg)) 13 0).toNatClampNeg) (vp_nar .boolean ((sM_create (upd2 τ 6 p0.toNatClampNeg 2) (τ 1 p0.toNatClampNeg) (τ 2 p0.toNatClampNeg) (τ 3 p0.toNatClampNeg) (τ 4 p0.toNatClampNeg) (τ 5 p0.toNatClampNeg)) 11 p0.toNatClampNeg))))
  else ((-2), τ)
def sM_writer (τ : T2) (p0 : Int32) : Int32 × T2 :=
  if p0 < 0 then ((-1), τ)
  else if 8 < (p0 - p0 / 16 * 16) then ((-1), τ)
  else if (p0 / 16) ≤ 8 then (if (τ 19 0) = 9 then (0, τ)
    else ((τ 19 0) + 1, upd2 (upd2 τ 19 0 ((τ 19 0) + 1)) 17 (((τ 19 0) + 1).toNatClampNeg) p0))
  else ((-1), τ)
def sM_next_s (τ : T2) (p0 : Int32) (i : Nat) (a : Int32) : Int32 :=
  if (τ 6 ((nI (i + 1)).toNatClampNeg)) = 2 then (if (τ 11 ((nI (i + 1)).toNatClampNeg)) = 0 then (if (τ 7 ((nI (i + 1)).toNatClampNeg)) = 0 then a
      else if (sM_fits τ (nI (i + 1)) (τ 17 p0.toNatClampNeg)) = 0 then a
      else if a = 0 then nI (i + 1)
      else if (τ 5 a.toNatClampNeg) < (τ 5 ((nI (i + 1)).toNatClampNeg)) then nI (i + 1)
      else if (τ 5 ((nI (i + 1)).toNatClampNeg)) = (τ 5 a.toNatClampNeg) then (if (τ 1 a.toNatClampNeg) ≤ (τ 1 ((nI (i + 1)).toNatClampNeg)) then a
        else nI (i + 1))
      else a)
    else a)
  else a
def sM_next_F (τ : T2) (p0 : Int32) : Nat → Int32
  | 0 => 0
  | i + 1 => sM_next_s τ p0 i (sM_next_F τ p0 i)
def sM_next_x (τ : T2) (p0 : Int32) (a : Int32) : Int32 × T2 :=
  if a = 0 then (0, τ)
  else (a, upd2 (upd2 τ 6 a.toNatClampNeg 3) 18 p0.toNatClampNeg a)
def sM_next (τ : T2) (p0 : Int32) : Int32 × T2 :=
  if (sM_isWriter τ p0) = 0 then ((-1), τ)
  else if (τ 18 p0.toNatClampNeg) = 0 then sM_next_x τ p0 (sM_next_F τ p0 ((τ 13 0).toNatClampNeg))
  else ((-2), τ)
def sM_print (τ : T2) (p0 : Int32) (p1 : Int32) : Int32 × T2 :=
  if (sM_isWriter τ p0) = 0 then ((-1), τ)
  else if 0 ≤ p1 then (if (τ 18 p0.toNatClampNeg) = 0 then ((-2), τ)
    else if (((sM_pagesOf τ (τ 18 p0.toNatClampNeg)) * (τ 3 ((τ 18 p0.toNatClampNeg).toNatClampNeg))) - (τ 9 ((τ 18 p0.toNatClampNeg).toNatClampNeg))) ≤ p1 then (if (((sM_pagesOf τ (τ 18 p0.toNatClampNeg)) * (τ 3 ((τ 18 p0.toNatClampNeg).toNatClampNeg))) - (τ 9 ((τ 18 p0.toNatClampNeg).toNatClampNeg))) ≤ (((sM_pagesOf τ (τ 18 p0.toNatClampNeg)) * (τ 3 ((τ 18 p0.toNatClampNeg).toNatClampNeg))) - (τ 9 ((τ 18 p0.toNatClampNeg).toNatClampNeg))) then (((sM_pagesOf τ (τ 18 p0.toNatClampNeg)) * (τ 3 ((τ 18 p0.toNatClampNeg).toNatClampNeg))) - (τ 9 ((τ 18 p0.toNatClampNeg).toNatClampNeg)), upd2 (upd2 (upd2 (sM_goes (upd2 (upd2 τ 9 ((τ 18 p0.toNatClampNeg).toNatClampNeg) ((τ 9 ((τ 18 p0.toNatClampNeg).toNatClampNeg)) + (((sM_pagesOf τ (τ 18 p0.toNatClampNeg)) * (τ 3 ((τ 18 p0.toNatClampNeg).toNatClampNeg))) - (τ 9 ((τ 18 p0.toNatClampNeg).toNatClampNeg))))) 22 0 ((τ 22 0) + (((sM_pagesOf τ (τ 18 p0.toNatClampNeg)) * (τ 3 ((τ 18 p0.toNatClampNeg).toNatClampNeg))) - (τ 9 ((τ 18 p0.toNatClampNeg).toNatClampNeg))))) (τ 18 p0.toNatClampNeg) 4) 20 (((sM_goes (upd2 (upd2 τ 9 ((τ 18 p0.toNatClampNeg).toNatClampNeg) ((τ 9 ((τ 18 p0.toNatClampNeg).toNatClampNeg)) + (((sM_pagesOf τ (τ 18 p0.toNatClampNeg)) * (τ 3 ((τ 18 p0.toNatClampNeg).toNatClampNeg))) - (τ 9 ((τ 18 p0.toNatClampNeg).toNatClampNeg))))) 22 0 ((τ 22 0) + (((sM_pagesOf τ (τ 18 p0.toNatClampNeg)) * (τ 3 ((τ 18 p0.toNatClampNeg).toNatClampNeg))) - (τ 9 ((τ 18 p0.toNatClampNeg).toNatClampNeg))))) (τ 18 p0.toNatClampNeg) 4) 21 0).toNatClampNeg) (τ 18 p0.toNatClampNeg)) 21 0 (((sM_goes (upd2 (upd2 τ 9 ((τ 18 p0.toNatClampNeg).toNatClampNeg) ((τ 9 ((τ 18 p0.toNatClampNeg).toNatClampNeg)) + (((sM_pagesOf τ (τ 18 p0.toNatClampNeg)) * (τ 3 ((τ 18 p0.toNatClampNeg).toNatClampNeg))) - (τ 9 ((τ 18 p0.toNatClampNeg).toNatClampNeg))))) 22 0 ((τ 22 0) + (((sM_pagesOf τ (τ 18 p0.toNatClampNeg)) * (τ 3 ((τ 18 p0.toNatClampNeg).toNatClampNeg))) - (τ 9 ((τ 18 p0.toNatClampNeg).toNatClampNeg))))) (τ 18 p0.toNatClampNeg) 4) 21 0) + 1)) 18 p0.toNatClampNeg 0)
      else (((sM_pagesOf τ (τ 18 p0.toNatClampNeg)) * (τ 3 ((τ 18 p0.toNatClampNeg).toNatClampNeg))) - (τ 9 ((τ 18 p0.toNatClampNeg).toNatClampNeg)), upd2 (upd2 τ 9 ((τ 18 p0.toNatClampNeg).toNatClampNeg) ((τ 9 ((τ 18 p0.toNatClampNeg).toNatClampNeg)) + (((sM_pagesOf τ (τ 18 p0.toNatClampNeg)) * (τ 3 ((τ 18 p0.toNatClampNeg).toNatClampNeg))) - (τ 9 ((τ 18 p0.toNatClampNeg).toNatClampNeg))))) 22 0 ((τ 22 0) + (((sM_pagesOf τ (τ 18 p0.toNatClampNeg)) * (τ 3 ((τ 18 p0.toNatClampNeg).toNatClampNeg))) - (τ 9 ((τ 18 p0.toNatClampNeg).toNatClampNeg))))))
    else (p1, upd2 (upd2 τ 9 ((τ 18 p0.toNatClampNeg).toNatClampNeg) ((τ 9 ((τ 18 p0.toNatClampNeg).toNatClampNeg)) + p1)) 22 0 ((τ 22 0) + p1)))
  else ((-1), τ)
def sM_cut (τ : T2) (p0 : Int32) : Int32 × T2 :=
  if (sM_isWriter τ p0) = 0 then ((-1), τ)
  else if (τ 18 p0.toNatClampNeg) = 0 then ((-2), τ)
  else if (τ 12 ((τ 18 p0.toNatClampNeg).toNatClampNeg)) = 0 then (((τ 9 ((τ 18 p0.toNatClampNeg).toNatClampNeg)) / 4) * 4, upd2 (upd2 τ 23 0 ((τ 23 0) + ((τ 9 ((τ 18 p0.toNatClampNeg).toNatClampNeg)) - (((τ 9 ((τ 18 p0.toNatClampNeg).toNatClampNeg)) / 4) * 4)))) 9 ((τ 18 p0.toNatClampNeg).toNatClampNeg) (((τ 9 ((τ 18 p0.toNatClampNeg).toNatClampNeg)) / 4) * 4))
  else (((τ 9 ((τ 18 p0.toNatClampNeg).toNatClampNeg)) / 4) * 4, upd2 (sM_goes τ (τ 18 p0.toNatClampNeg) 5) 18 p0.toNatClampNeg 0)
def sM_purge (τ : T2) (p0 : Int32) : Int32 × T2 :=
  if (sM_isOutput τ p0) = 0 then ((-1), τ)
  else if (sM_isGone τ p0) = 0 then (if (τ 6 p0.toNatClampNeg) = 3 then (0, upd2 τ 12 p0.toNatClampNeg (vp_nar .boolean 1))
    else (1, (sM_goes τ p0 5)))
  else ((-2), τ)
def sM_hold (τ : T2) (p0 : Int32) (p1 : Int32) : Int32 × T2 :=
  if (sM_isOutput τ p0) = 0 then ((-1), τ)
  else if (sM_isStill τ p0) = 0 then ((-2), τ)
  else if (τ 11 p0.toNatClampNeg) = 0 then (0, upd2 τ 11 p0.toNatClampNeg (vp_nar .boolean p1))
  else (1, upd2 τ 11 p0.toNatClampNeg (vp_nar .boolean p1))
def sM_route (τ : T2) (p0 : Int32) (p1 : Int32) : Int32 × T2 :=
  if (sM_isOutput τ p0) = 0 then ((-1), τ)
  else if p1 < 0 then ((-1), τ)
  else if p1 ≤ 63 then (if (sM_isStill τ p0) = 0 then ((-2), τ)
    else ((8 * (τ 5 p0.toNatClampNeg)) + (τ 4 p0.toNatClampNeg), upd2 (upd2 τ 5 p0.toNatClampNeg (p1 / 8)) 4 p0.toNatClampNeg (p1 - p1 / 8 * 8)))
  else ((-1), τ)
def sM_search_s (τ : T2) (p0 : Int32) (i : Nat) (a : Int32) : Int32 :=
  if (τ 15 ((nI i).toNatClampNeg)) = p0 then (if (sM_isGone τ (τ 14 ((nI i).toNatClampNeg))) = 0 then a + 1
    else a + 0)
  else a + 0
def sM_search_F (τ : T2) (p0 : Int32) : Nat → Int32
  | 0 => 0
  | i + 1 => sM_search_s τ p0 i (sM_search_F τ p0 i)
def sM_search_x (τ : T2) (p0 : Int32) (a : Int32) : Int32 :=
  a
def sM_search (τ : T2) (p0 : Int32) : Int32 :=
  if p0 < 0 then (-1)
  else if p0 ≤ 255 then sM_search_x τ p0 (sM_search_F τ p0 ((τ 16 0).toNatClampNeg))
  else (-1)
def sM_order (τ : T2) (p0 : Int32) : Int32 :=
  if p0 < 0 then 0
  else if (τ 21 0) ≤ p0 then 0
  else τ 20 p0.toNatClampNeg
def sM_state (τ : T2) (p0 : Int32) (p1 : Int32) : Int32 :=
  if (sM_isOutput τ p0) = 0 then (-1)
  else if p1 = 0 then (if (τ 11 p0.toNatClampNeg) = 0 then (τ 6 p0.toNatClampNeg) + 0
    else (τ 6 p0.toNatClampNeg) + 6)
  else if p1 = 1 then τ 7 p0.toNatClampNeg
  else if p1 = 2 then sM_pagesOf τ p0
  else if p1 = 3 then τ 9 p0.toNatClampNeg
  else if p1 = 4 then τ 1 p0.toNatClampNeg
  else if p1 = 5 then (if (sM_pagesOf τ p0) = 0 then τ 3 p0.toNatClampNeg
    else (τ 3 p0.toNatClampNeg) - ((τ 9 p0.toNatClampNeg) / (sM_pagesOf τ p0)))
  else (-1)
def sM_count_s (τ : T2) (p0 : Int32) (i : Nat) (a : Int32) : Int32 :=
  if (sM_isGone τ (nI (i + 1))) = 0 then a + 1
  else a + 0
def sM_count_F (τ : T2) (p0 : Int32) : Nat → Int32
  | 0 => 0
  | i + 1 => sM_count_s τ p0 i (sM_count_F τ p0 i)
def sM_count_x (τ : T2) (p0 : Int32) (a : Int32) : Int32 :=
  if p0 = 0 then sM_free τ
  else if p0 = 1 then a
  else if p0 = 2 then τ 19 0
  else if p0 = 3 then τ 22 0
  else if p0 = 4 then τ 23 0
  else (-1)
def sM_count (τ : T2) (p0 : Int32) : Int32 :=
  sM_count_x τ p0 (sM_count_F τ p0 ((τ 13 0).toNatClampNeg))
def sO_isGone (σ : T2) (j : Nat) : Int32 :=
  if (σ 26 j) = 4 then 1
  else if (σ 26 j) = 5 then 1
  else 0
def sO_isOpenOrReleased (σ : T2) (j : Nat) : Int32 :=
  if (σ 26 j) = 1 then 1
  else if (σ 26 j) = 2 then 1
  else 0
def sO_mayBePrinted (σ : T2) (j : Nat) : Int32 :=
  if (σ 26 j) = 2 then (if (σ 27 j) = 0 then (if (σ 28 j) ≤ 0 then 0
      else 1)
    else 0)
  else 0
def sO_isAtLimit (σ : T2) (j : Nat) : Int32 :=
  if (σ 29 j) ≤ 0 then 0
  else if (σ 28 j) < (σ 29 j) then 0
  else 1
def sO_needsPage (σ : T2) (j : Nat) : Int32 :=
  if ((σ 28 j) - (σ 28 j) / 8 * 8) = 0 then 1
  else 0
def sO_pageCount (σ : T2) (j : Nat) : Int32 :=
  (((σ 28 j) + 8) - 1) / 8
def sO_pagesToPrint (σ : T2) (j : Nat) : Int32 :=
  ((sO_pageCount σ j) * (σ 23 j)) - (σ 31 j)
def sO_lastCheckpoint (σ : T2) (j : Nat) : Int32 :=
  (σ 31 j) - ((σ 31 j) - (σ 31 j) / 4 * 4)
def sO_copiesLeft (σ : T2) (j : Nat) : Int32 :=
  if (sO_pageCount σ j) = 0 then σ 23 j
  else (σ 23 j) - ((σ 31 j) / (sO_pageCount σ j))
def sO_comesBefore (σ : T2) (j : Nat) (j0 : Nat) : Int32 :=
  if (σ 25 j) = (σ 25 j0) then (if (σ 21 j) = (σ 21 j0) then (if (σ 20 j0) ≤ (σ 20 j) then 0
      else 1)
    else if (σ 21 j0) ≤ (σ 21 j) then 0
    else 1)
  else if (σ 25 j) ≤ (σ 25 j0) then 0
  else 1
def sW_suits (σ : T2) (w : Nat) (j0 : Nat) : Int32 :=
  if (σ 40 w) = 8 then (if (σ 41 w) = (-1) then 1
    else if (σ 41 w) = (σ 24 j0) then 1
    else 0)
  else if (σ 40 w) = (σ 22 j0) then (if (σ 41 w) = (-1) then 1
    else if (σ 41 w) = (σ 24 j0) then 1
    else 0)
  else 0
def sO_takeSettingsOf (σ : T2) (j : Nat) (j0 : Nat) : T2 :=
  upd2 (upd2 (upd2 (upd2 (upd2 σ 24 j (σ 24 j0)) 25 j (σ 25 j0)) 29 j (σ 29 j0)) 30 j (σ 30 j0)) 27 j (σ 27 j0)
def sC_isWithin (p0 : Int32) (p1 : Int32) (p2 : Int32) : Int32 :=
  if p0 < p1 then 0
  else if p2 < p0 then 0
  else 1
def sC_outputOf (ad : Nat → Nat) (σ : T2) (p0 : Int32) : Option Nat :=
  if (sC_isWithin p0 1 (σ 3 0)) = 0 then none
  else some (ad (p0 - 1).toNatClampNeg)
def sC_writerOf (wd : Nat → Nat) (σ : T2) (p0 : Int32) : Option Nat :=
  if (sC_isWithin p0 1 (σ 5 0)) = 0 then none
  else some (wd (p0 - 1).toNatClampNeg)
def sC_isThere (σ : T2) (p0 : Int32) : Int32 :=
  if (sC_isWithin p0 1 (σ 3 0)) = 0 then 0
  else if (sO_isGone σ ((p0 - 1).toNatClampNeg)) = 0 then 1
  else 0
def sC_hasRoomForLine (σ : T2) (j0 : Nat) : Int32 :=
  if 512 ≤ (σ 10 0) then 0
  else if 0 < (σ 1 0) then 1
  else if (sO_needsPage σ j0) = 0 then 1
  else 0
def sC_letGo (σ : T2) (j0 : Nat) (p1 : Int32) : T2 :=
  upd2 (upd2 (upd2 σ 26 j0 p1) 27 j0 0) 1 0 ((σ 1 0) + (sO_pageCount (upd2 (upd2 σ 26 j0 p1) 27 j0 0) j0))
def sC_releaseOrPurge (σ : T2) (j0 : Nat) : T2 :=
  if (σ 28 j0) = 0 then (sC_letGo σ j0 5)
  else upd2 σ 26 j0 2
def sC_takeLine (σ : T2) (j0 : Nat) (p1 : Int32) : T2 :=
  if (sO_needsPage σ j0) = 0 then (if (p1 / 256) ≤ 0 then upd2 σ 28 j0 ((σ 28 j0) + 1)
    else upd2 (upd2 (upd2 (upd2 σ 28 j0 ((σ 28 j0) + 1)) 8 ((σ 10 0).toNatClampNeg) (p1 - p1 / 256 * 256)) 9 ((σ 10 0).toNatClampNeg) (σ 20 j0)) 10 0 ((σ 10 0) + 1))
  else if (p1 / 256) ≤ 0 then upd2 (upd2 σ 1 0 ((σ 1 0) - 1)) 28 j0 ((σ 28 j0) + 1)
  else upd2 (upd2 (upd2 (upd2 (upd2 σ 1 0 ((σ 1 0) - 1)) 28 j0 ((σ 28 j0) + 1)) 8 ((σ 10 0).toNatClampNeg) (p1 - p1 / 256 * 256)) 9 ((σ 10 0).toNatClampNeg) (σ 20 j0)) 10 0 ((σ 10 0) + 1)
def sC_noteInOrder (σ : T2) (j0 : Nat) : T2 :=
  if 1000 ≤ (σ 7 0) then σ
  else upd2 (upd2 σ 6 ((σ 7 0).toNatClampNeg) (σ 20 j0)) 7 0 ((σ 7 0) + 1)
def sC_hasOutputThere_s (σ : T2) (p0 : Int32) (i : Nat) : Int32 :=
  if (σ 21 ((nI i).toNatClampNeg)) = p0 then (if (sO_isGone σ ((nI i).toNatClampNeg)) = 0 then 1
    else 0)
  else 0
def sC_hasOutputThere_F (σ : T2) (p0 : Int32) : Nat → Int32
  | 0 => 0
  | i + 1 => if sC_hasOutputThere_F σ p0 i = 0 then sC_hasOutputThere_s σ p0 i else sC_hasOutputThere_F σ p0 i
def sC_hasOutputThere (σ : T2) (p0 : Int32) : Int32 :=
  (sC_hasOutputThere_F σ p0 ((σ 3 0).toNatClampNeg))
def sC_outputsThere_s (σ : T2) (i : Nat) (a : Int32) : Int32 :=
  if (sO_isGone σ ((nI i).toNatClampNeg)) = 0 then a + 1
  else a
def sC_outputsThere_F (σ : T2) : Nat → Int32
  | 0 => 0
  | i + 1 => sC_outputsThere_s σ i (sC_outputsThere_F σ i)
def sC_outputsThere_x (σ : T2) (a : Int32) : Int32 :=
  a
def sC_outputsThere (σ : T2) : Int32 :=
  sC_outputsThere_x σ (sC_outputsThere_F σ ((σ 3 0).toNatClampNeg))
def sC_firstFor_s (σ : T2) (w0 : Nat) (i : Nat) (a : Int32) : Int32 :=
  if a = 0 then (if (sO_mayBePrinted σ ((nI i).toNatClampNeg)) = 0 then a
    else if (sW_suits σ w0 ((nI i).toNatClampNeg)) = 0 then a
    else nI ((nI i).toNatClampNeg + 1))
  else if (sO_mayBePrinted σ ((nI i).toNatClampNeg)) = 0 then a
  else if (sW_suits σ w0 ((nI i).toNatClampNeg)) = 0 then a
  else if (sO_comesBefore σ ((nI i).toNatClampNeg) ((a - 1).toNatClampNeg)) = 0 then a
  else nI ((nI i).toNatClampNeg + 1)
def sC_firstFor_F (σ : T2) (w0 : Nat) : Nat → Int32
  | 0 => 0
  | i + 1 => sC_firstFor_s σ w0 i (sC_firstFor_F σ w0 i)
def sC_firstFor (σ : T2) (w0 : Nat) : Int32 :=
  (sC_firstFor_F σ w0 ((σ 3 0).toNatClampNeg))
def sC_line (σ : T2) (p0 : Int32) (p1 : Int32) : Int32 × T2 :=
  if (sC_isWithin p0 1 (σ 3 0)) = 0 then ((-1), σ)
  else if (sC_isWithin p1 0 34047) = 0 then ((-1), σ)
  else if (σ 26 ((p0 - 1).toNatClampNeg)) = 1 then (if (sO_isAtLimit σ ((p0 - 1).toNatClampNeg)) = 0 then (if (sC_hasRoomForLine σ ((p0 - 1).toNatClampNeg)) = 0 then ((-3), σ)
      else (1, (sC_takeLine σ ((p0 - 1).toNatClampNeg) p1)))
    else if (σ 30 ((p0 - 1).toNatClampNeg)) = 0 then (if (sC_hasRoomForLine σ ((p0 - 1).toNatClampNeg)) = 0 then ((-3), σ)
      else (2, (sC_takeLine σ ((p0 - 1).toNatClampNeg) p1)))
    else (0, σ))
  else ((-2), σ)
def sC_limit (σ : T2) (p0 : Int32) (p1 : Int32) (p2 : Int32) : Int32 × T2 :=
  if (sC_isWithin p0 1 (σ 3 0)) = 0 then ((-1), σ)
  else if 0 ≤ p1 then (if (sO_isGone σ ((p0 - 1).toNatClampNeg)) = 0 then (1, upd2 (upd2 σ 29 ((p0 - 1).toNatClampNeg) p1) 30 ((p0 - 1).toNatClampNeg) p2)
    else ((-2), σ))
  else ((-1), σ)
def sC_end_s (σ : T2) (p0 : Int32) (i : Nat) (a : Int32) (σ1 : T2) : Int32 × T2 :=
  if (σ1 21 ((nI i).toNatClampNeg)) = p0 then (if (σ1 26 ((nI i).toNatClampNeg)) = 1 then (a + 1, (sC_releaseOrPurge σ1 ((nI i).toNatClampNeg)))
    else (a, σ1))
  else (a, σ1)
def sC_end_F (σ : T2) (p0 : Int32) : Nat → Int32 × T2
  | 0 => (0, σ)
  | i + 1 => sC_end_s σ p0 i (sC_end_F σ p0 i).1 (sC_end_F σ p0 i).2
def sC_end_x (σ : T2) (p0 : Int32) (a : Int32) (σ1 : T2) : Int32 × T2 :=
  (a, σ1)
def sC_end (σ : T2) (p0 : Int32) : Int32 × T2 :=
  sC_end_x σ p0 (sC_end_F σ p0 ((σ 3 0).toNatClampNeg)).1 (sC_end_F σ p0 ((σ 3 0).toNatClampNeg)).2
def sC_next (σ : T2) (p0 : Int32) : Int32 × T2 :=
  if (sC_isWithin p0 1 (σ 5 0)) = 0 then ((-1), σ)
  else if (σ 42 ((p0 - 1).toNatClampNeg)) = 0 then (if (sC_firstFor σ ((p0 - 1).toNatClampNeg)) = 0 then (0, σ)
    else (σ 20 (((sC_firstFor σ ((p0 - 1).toNatClampNeg)) - 1).toNatClampNeg), upd2 (upd2 σ 26 (((sC_firstFor σ ((p0 - 1).toNatClampNeg)) - 1).toNatClampNeg) 3) 42 ((p0 - 1).toNatClampNeg) (nI ((((sC_firstFor σ ((p0 - 1).toNatClampNeg)) - 1).toNatClampNeg) + 1))))
  else ((-2), σ)
def sC_print (σ : T2) (p0 : Int32) (p1 : Int32) : Int32 × T2 :=
  if (sC_isWithin p0 1 (σ 5 0)) = 0 then ((-1), σ)
  else if 0 ≤ p1 then (if (σ 42 ((p0 - 1).toNatClampNeg)) = 0 then ((-2), σ)
    else if (sO_pagesToPrint (upd2 (upd2 σ 31 (((σ 42 ((p0 - 1).toNatClampNeg)) - 1).toNatClampNeg) ((σ 31 (((σ 42 ((p0 - 1).toNatClampNeg)) - 1).toNatClampNeg)) + (if (sO_pagesToPrint σ (((σ 42 ((p0 - 1).toNatClampNeg)) - 1).toNatClampNeg)) < p1 then (sO_pagesToPrint σ (((σ 42 ((p0 - 1).toNatClampNeg)) - 1).toNatClampNeg)) else p1))) 11 0 ((σ 11 0) + (if (sO_pagesToPrint σ (((σ 42 ((p0 - 1).toNatClampNeg)) - 1).toNatClampNeg)) < p1 then (sO_pagesToPrint σ (((σ 42 ((p0 - 1).toNatClampNeg)) - 1).toNatClampNeg)) else p1))) (((σ 42 ((p0 - 1).toNatClampNeg)) - 1).toNatClampNeg)) = 0 then (if (sO_pagesToPrint σ (((σ 42 ((p0 - 1).toNatClampNeg)) - 1).toNatClampNeg)) < p1 then (sO_pagesToPrint σ (((σ 42 ((p0 - 1).toNatClampNeg)) - 1).toNatClampNeg)) else p1, (sC_letGo (sC_noteInOrder (upd2 (upd2 (upd2 σ 31 (((σ 42 ((p0 - 1).toNatClampNeg)) - 1).toNatClampNeg) ((σ 31 (((σ 42 ((p0 - 1).toNatClampNeg)) - 1).toNatClampNeg)) + (if (sO_pagesToPrint σ (((σ 42 ((p0 - 1).toNatClampNeg)) - 1).toNatClampNeg)) < p1 then (sO_pagesToPrint σ (((σ 42 ((p0 - 1).toNatClampNeg)) - 1).toNatClampNeg)) else p1))) 11 0 ((σ 11 0) + (if (sO_pagesToPrint σ (((σ 42 ((p0 - 1).toNatClampNeg)) - 1).toNatClampNeg)) < p1 then (sO_pagesToPrint σ (((σ 42 ((p0 - 1).toNatClampNeg)) - 1).toNatClampNeg)) else p1))) 42 ((p0 - 1).toNatClampNeg) 0) (((σ 42 ((p0 - 1).toNatClampNeg)) - 1).toNatClampNeg)) (((σ 42 ((p0 - 1).toNatClampNeg)) - 1).toNatClampNeg) 4))
    else (if (sO_pagesToPrint σ (((σ 42 ((p0 - 1).toNatClampNeg)) - 1).toNatClampNeg)) < p1 then (sO_pagesToPrint σ (((σ 42 ((p0 - 1).toNatClampNeg)) - 1).toNatClampNeg)) else p1, upd2 (upd2 σ 31 (((σ 42 ((p0 - 1).toNatClampNeg)) - 1).toNatClampNeg) ((σ 31 (((σ 42 ((p0 - 1).toNatClampNeg)) - 1).toNatClampNeg)) + (if (sO_pagesToPrint σ (((σ 42 ((p0 - 1).toNatClampNeg)) - 1).toNatClampNeg)) < p1 then (sO_pagesToPrint σ (((σ 42 ((p0 - 1).toNatClampNeg)) - 1).toNatClampNeg)) else p1))) 11 0 ((σ 11 0) + (if (sO_pagesToPrint σ (((σ 42 ((p0 - 1).toNatClampNeg)) - 1).toNatClampNeg)) < p1 then (sO_pagesToPrint σ (((σ 42 ((p0 - 1).toNatClampNeg)) - 1).toNatClampNeg)) else p1))))
  else ((-1), σ)
def sC_cut (σ : T2) (p0 : Int32) : Int32 × T2 :=
  if (sC_isWithin p0 1 (σ 5 0)) = 0 then ((-1), σ)
  else if (σ 42 ((p0 - 1).toNatClampNeg)) = 0 then ((-2), σ)
  else if (σ 32 (((σ 42 ((p0 - 1).toNatClampNeg)) - 1).toNatClampNeg)) = 0 then (sO_lastCheckpoint σ (((σ 42 ((p0 - 1).toNatClampNeg)) - 1).toNatClampNeg), upd2 (upd2 σ 12 0 ((σ 12 0) + ((σ 31 (((σ 42 ((p0 - 1).toNatClampNeg)) - 1).toNatClampNeg)) - (sO_lastCheckpoint σ (((σ 42 ((p0 - 1).toNatClampNeg)) - 1).toNatClampNeg))))) 31 (((σ 42 ((p0 - 1).toNatClampNeg)) - 1).toNatClampNeg) (sO_lastCheckpoint σ (((σ 42 ((p0 - 1).toNatClampNeg)) - 1).toNatClampNeg)))
  else (sO_lastCheckpoint σ (((σ 42 ((p0 - 1).toNatClampNeg)) - 1).toNatClampNeg), (sC_letGo (upd2 σ 42 ((p0 - 1).toNatClampNeg) 0) (((σ 42 ((p0 - 1).toNatClampNeg)) - 1).toNatClampNeg) 5))
def sC_purge (σ : T2) (p0 : Int32) : Int32 × T2 :=
  if (sC_isWithin p0 1 (σ 3 0)) = 0 then ((-1), σ)
  else if (sO_isGone σ ((p0 - 1).toNatClampNeg)) = 0 then (if (σ 26 ((p0 - 1).toNatClampNeg)) = 3 then (0, upd2 σ 32 ((p0 - 1).toNatClampNeg) 1)
    else (1, (sC_letGo σ ((p0 - 1).toNatClampNeg) 5)))
  else ((-2), σ)
def sC_hold (σ : T2) (p0 : Int32) (p1 : Int32) : Int32 × T2 :=
  if (sC_isWithin p0 1 (σ 3 0)) = 0 then ((-1), σ)
  else if (sO_isOpenOrReleased σ ((p0 - 1).toNatClampNeg)) = 0 then ((-2), σ)
  else if (σ 27 ((p0 - 1).toNatClampNeg)) = 0 then (0, upd2 σ 27 ((p0 - 1).toNatClampNeg) p1)
  else (1, upd2 σ 27 ((p0 - 1).toNatClampNeg) p1)
def sC_route (σ : T2) (p0 : Int32) (p1 : Int32) : Int32 × T2 :=
  if (sC_isWithin p0 1 (σ 3 0)) = 0 then ((-1), σ)
  else if (sC_isWithin p1 0 63) = 0 then ((-1), σ)
  else if (sO_isOpenOrReleased σ ((p0 - 1).toNatClampNeg)) = 0 then ((-2), σ)
  else (((σ 25 ((p0 - 1).toNatClampNeg)) * 8) + (σ 24 ((p0 - 1).toNatClampNeg)), upd2 (upd2 σ 25 ((p0 - 1).toNatClampNeg) (p1 / 8)) 24 ((p0 - 1).toNatClampNeg) (p1 - p1 / 8 * 8))
def sC_search_s (σ : T2) (p0 : Int32) (i : Nat) (a : Int32) : Int32 :=
  if (σ 8 ((nI i).toNatClampNeg)) = p0 then (if (sC_isThere σ (σ 9 ((nI i).toNatClampNeg))) = 0 then a
    else a + 1)
  else a
def sC_search_F (σ : T2) (p0 : Int32) : Nat → Int32
  | 0 => 0
  | i + 1 => sC_search_s σ p0 i (sC_search_F σ p0 i)
def sC_search_x (σ : T2) (p0 : Int32) (a : Int32) : Int32 :=
  a
def sC_search (σ : T2) (p0 : Int32) : Int32 :=
  if (sC_isWithin p0 0 255) = 0 then (-1)
  else sC_search_x σ p0 (sC_search_F σ p0 ((σ 10 0).toNatClampNeg))
def sC_order (σ : T2) (p0 : Int32) : Int32 :=
  if (sC_isWithin p0 0 ((σ 7 0) - 1)) = 0 then 0
  else σ 6 p0.toNatClampNeg
def sC_state (σ : T2) (p0 : Int32) (p1 : Int32) : Int32 :=
  if (sC_isWithin p0 1 (σ 3 0)) = 0 then (-1)
  else if p1 = 0 then (if (σ 27 ((p0 - 1).toNatClampNeg)) = 0 then σ 26 ((p0 - 1).toNatClampNeg)
    else (σ 26 ((p0 - 1).toNatClampNeg)) + 6)
  else if p1 = 1 then σ 28 ((p0 - 1).toNatClampNeg)
  else if p1 = 2 then sO_pageCount σ ((p0 - 1).toNatClampNeg)
  else if p1 = 3 then σ 31 ((p0 - 1).toNatClampNeg)
  else if p1 = 4 then σ 21 ((p0 - 1).toNatClampNeg)
  else if p1 = 5 then sO_copiesLeft σ ((p0 - 1).toNatClampNeg)
  else (-1)
def sC_count (σ : T2) (p0 : Int32) : Int32 :=
  if p0 = 0 then σ 1 0
  else if p0 = 1 then sC_outputsThere σ
  else if p0 = 2 then σ 5 0
  else if p0 = 3 then σ 11 0
  else if p0 = 4 then σ 12 0
  else (-1)
def sC_new (σ : T2) (n : Nat) (p0 p1 p2 : Int32) : T2 := upd2 (upd2 (upd2 (upd2 (upd2 (upd2 (upd2 (upd2 (upd2 (upd2 (upd2 (upd2 (upd2 (upd2 σ 20 n (σ 3 0 + 1)) 21 n p0) 22 n p1) 23 n p2) 24 n 0) 25 n 0) 26 n 1) 27 n 0) 28 n 0) 29 n 0) 30 n 0) 31 n 0) 32 n 0) 3 0 (σ 3 0 + 1)
def sC_output (nO : Nat) (σ : T2) (p0 : Int32) (p1 : Int32) (p2 : Int32) : Int32 × Nat × T2 :=
  if (sC_isWithin p0 1 9999) = 0 then ((-1), nO, σ)
  else if (sC_isWithin p1 0 7) = 0 then ((-1), nO, σ)
  else if (sC_isWithin p2 1 9) = 0 then ((-1), nO, σ)
  else if 1000 ≤ (σ 3 0) then (0, nO, σ)
  else if (σ 0 0) < (σ 1 0) then ((σ 3 0) + 1, nO + 1, sC_new σ nO p0 p1 p2)
  else if (sC_hasOutputThere σ p0) = 0 then (0, nO, σ)
  else ((σ 3 0) + 1, nO + 1, sC_new σ nO p0 p1 p2)
def sC_segment (nO : Nat) (σ : T2) (p0 : Int32) : Int32 × Nat × T2 :=
  if (sC_isWithin p0 1 (σ 3 0)) = 0 then ((-1), nO, σ)
  else if (σ 26 ((p0 - 1).toNatClampNeg)) = 1 then (if (σ 28 ((p0 - 1).toNatClampNeg)) = 0 then ((-2), nO, σ)
    else if (σ 3 0) < 1000 then ((σ 3 0) + 1, nO + 1, upd2 (sO_takeSettingsOf (sC_new σ nO (σ 21 ((p0 - 1).toNatClampNeg)) (σ 22 ((p0 - 1).toNatClampNeg)) (σ 23 ((p0 - 1).toNatClampNeg))) nO ((p0 - 1).toNatClampNeg)) 26 ((p0 - 1).toNatClampNeg) 2)
    else (0, nO, σ))
  else ((-2), nO, σ)
def sC_writer (nW : Nat) (σ : T2) (p0 : Int32) : Int32 × Nat × T2 :=
  if 0 ≤ p0 then (if 8 < (p0 - p0 / 16 * 16) then ((-1), nW, σ)
    else if ((p0 / 16) - 1) < 8 then (if (σ 5 0) < 9 then ((σ 5 0) + 1, nW + 1, upd2 (upd2 (upd2 (upd2 σ 40 nW (p0 - p0 / 16 * 16)) 41 nW ((p0 / 16) - 1)) 42 nW 0) 5 0 ((σ 5 0) + 1))
      else (0, nW, σ))
    else ((-1), nW, σ))
  else ((-1), nW, σ)
def c0 (r : Int32) : T2 := upd2 (upd2 (fun _ _ => 0) 1 0 r) 0 0 (r / 8)
def cRoom (p0 : Int32) : Int32 := (if (0 : Int32) < (if (65536 : Int32) < p0 then 65536 else p0) then (if (65536 : Int32) < p0 then 65536 else p0) else 0)
def m0 (r : Int32) : T2 := upd2 (fun _ _ => 0) 0 0 r
def mRoom (p0 : Int32) : Int32 := if p0 < 0 then 0 else if 65536 < p0 then 65536 else p0
end
section
/-! side conditions of the walks -/
theorem lg_out {x : Int32} {N B i : Nat} (hx : x = nI N) (hN : N ≤ B) (hB : B < 2000000) (hi : i ≤ N) (h : x < nI (i + 1)) : i = N := by
  rw [hx] at h
  rcases Nat.lt_or_ge i N with q | q
  · exact absurd h (nI_nlt (by omega) (by omega))
  · omega
theorem lg_in {x : Int32} {N B i : Nat} (hx : x = nI N) (hN : N ≤ B) (hB : B < 2000000) (hi : i ≤ N) (h : ¬ x < nI (i + 1)) : i < N := by
  rw [hx] at h
  rcases Nat.lt_or_ge i N with q | q
  · exact q
  · exact absurd (nI_lt (by omega) (by omega)) h
theorem lc_out {x : Int32} {N B i : Nat} (hx : x = nI N) (hN : N ≤ B) (hB : B < 2000000) (hi : i ≤ N) (h : x ≤ nI i) : i = N := by
  rw [hx] at h
  rcases Nat.lt_or_ge i N with q | q
  · exact absurd h (nI_ge q (by omega))
  · omega
theorem lc_in {x : Int32} {N B i : Nat} (hx : x = nI N) (hN : N ≤ B) (hB : B < 2000000) (hi : i ≤ N) (h : ¬ x ≤ nI i) : i < N := by
  rw [hx] at h
  rcases Nat.lt_or_ge i N with q | q
  · exact q
  · exact absurd (nI_le q (by omega)) h
theorem in_g {N i : Nat} (h : i < N) (hN : N ≤ 1000) : vp_in (nI (i + 1)) 1001 := vp_in_nI (by omega) (by decide)
theorem in_c {N B i : Nat} (h : i < N) (hN : N ≤ B) (hB : B < 2 ^ 31) : vp_in (nI i) B := vp_in_nI (by omega) hB
theorem in_0 : vp_in 0 1001 := by
  have h : vp_in (nI 0) 1001 := vp_in_nI (by decide) (by decide)
  rw [nI_0] at h
  exact h
theorem find_stay {F S : Nat → Int32} (hS : ∀ i, F (i + 1) = if F i = 0 then S i else F i) {i N : Nat} (h0 : F i = 0) (h1 : S i = 1) (hlt : i < N) : F N = 1 := by
  have h2 : F (i + 1) = 1 := by rw [hS, if_pos h0, h1]
  have h3 : ∀ k, F (i + 1 + k) = 1 := by
    intro k
    induction k with
    | zero => exact h2
    | succ k ih =>
      show F (i + 1 + k + 1) = 1
      rw [hS, ih, if_neg (by decide)]
  have h4 := h3 (N - (i + 1))
  rw [show i + 1 + (N - (i + 1)) = N by omega] at h4
  exact h4
theorem i32_0 : (0 : Int32).toInt = 0 := by decide
theorem i32_1 : (1 : Int32).toInt = 1 := by decide
theorem ix1 {p : Int32} {n : Nat} (hn : n < 2 ^ 31) (h1 : 0 < p.toInt) (h2 : p.toInt ≤ n) : ∃ j : Nat, j < n ∧ p = nI (j + 1) := by
  refine ⟨p.toInt.toNat - 1, by omega, Int32.toInt_inj.mp ?_⟩
  rw [nI_toInt (by omega)]
  omega
theorem nI_back {j : Nat} (h : j + 1 < 2 ^ 31) : (nI (j + 1) - 1).toNatClampNeg = j := by rw [nI_pred, nI_clamp (by omega)]
/-- the reference's -/
def mInv (τ : T2) : Prop := ∃ (nO nW nA nF : Nat), τ 13 0 = nI nO ∧ nO ≤ 1000 ∧ τ 19 0 = nI nW ∧ nW ≤ 9 ∧ τ 16 0 = nI nA ∧ nA < 1100 ∧ τ 21 0 = nI nF ∧ nF ≤ 1000 ∧ (∀ a, a < nA → vp_in (τ 14 a) 1001) ∧ ∀ w, vp_in (τ 18 w) 1001
theorem mN_out {τ : T2} (hI : mInv τ) : τ 13 0 = nI (τ 13 0).toNatClampNeg ∧ (τ 13 0).toNatClampNeg ≤ 1000 := by
  obtain ⟨nO, nW, nA, nF, h1, h2, -⟩ := hI
  rw [h1, nI_clamp (by omega)]
  exact ⟨rfl, h2⟩
theorem mN_all {τ : T2} (hI : mInv τ) : τ 16 0 = nI (τ 16 0).toNatClampNeg ∧ (τ 16 0).toNatClampNeg ≤ 1100 := by
  obtain ⟨nO, nW, nA, nF, -, -, -, -, h1, h2, -⟩ := hI
  rw [h1, nI_clamp (by omega)]
  exact ⟨rfl, by omega⟩
theorem mo_ix {τ : T2} {p : Int32} {n : Nat} (hn : τ 13 0 = nI n) (hb : n ≤ 1000) (h : ¬ sM_isOutput τ p = 0) : ∃ j : Nat, j < n ∧ p = nI (j + 1) := by
  unfold sM_isOutput at h
  by_cases h1 : p ≤ 0
  · rw [if_pos h1] at h; exact absurd rfl h
  · rw [if_neg h1] at h
    by_cases h2 : τ 13 0 < p
    · rw [if_pos h2] at h; exact absurd rfl h
    · rw [hn, Int32.lt_iff_toInt_lt, nI_toInt (by omega)] at h2
      rw [Int32.le_iff_toInt_le, i32_0] at h1
      exact ix1 (by omega) (by omega) (by omega)
theorem mw_ix {τ : T2} {p : Int32} {n : Nat} (hn : τ 19 0 = nI n) (hb : n ≤ 9) (h : ¬ sM_isWriter τ p = 0) : ∃ j : Nat, j < n ∧ p = nI (j + 1) := by
  unfold sM_isWriter at h
  by_cases h1 : p ≤ 0
  · rw [if_pos h1] at h; exact absurd rfl h
  · rw [if_neg h1] at h
    by_cases h2 : τ 19 0 < p
    · rw [if_pos h2] at h; exact absurd rfl h
    · rw [hn, Int32.lt_iff_toInt_lt, nI_toInt (by omega)] at h2
      rw [Int32.le_iff_toInt_le, i32_0] at h1
      exact ix1 (by omega) (by omega) (by omega)
theorem mo_in {τ : T2} {p : Int32} (hI : mInv τ) (h : ¬ sM_isOutput τ p = 0) : vp_in p 1001 := by
  obtain ⟨nO, nW, nA, nF, h1, h2, -⟩ := hI
  obtain ⟨j, hj, rfl⟩ := mo_ix h1 h2 h
  exact vp_in_nI (by omega) (by decide)
theorem mw_in {τ : T2} {p : Int32} (hI : mInv τ) (h : ¬ sM_isWriter τ p = 0) : vp_in p 10 := by
  obtain ⟨nO, nW, nA, nF, -, -, h1, h2, -⟩ := hI
  obtain ⟨j, hj, rfl⟩ := mw_ix h1 h2 h
  exact vp_in_nI (by omega) (by decide)
theorem mh_in {τ : T2} (hI : mInv τ) (w : Nat) : vp_in (τ 18 w) 1001 := by
  obtain ⟨nO, nW, nA, nF, -, -, -, -, -, -, -, -, -, h⟩ := hI
  exact h w
theorem ma_in {τ : T2} (hI : mInv τ) : vp_in (τ 16 0) 1100 := by
  obtain ⟨nO, nW, nA, nF, -, -, -, -, h1, h2, -⟩ := hI
  rw [h1]; exact vp_in_nI h2 (by decide)
theorem mf_in {τ : T2} (hI : mInv τ) : vp_in (τ 21 0) 1001 := by
  obtain ⟨nO, nW, nA, nF, -, -, -, -, -, -, h1, h2, -⟩ := hI
  rw [h1]; exact vp_in_nI (by omega) (by decide)
theorem mc_in {τ : T2} (hI : mInv τ) (h : ¬ τ 13 0 = 1000) : vp_in (τ 13 0 + 1) 1001 := by
  obtain ⟨nO, nW, nA, nF, h1, h2, -⟩ := hI
  rw [h1] at h ⊢
  have h3 : nO ≠ 1000 := fun q => h (by rw [q]; rfl)
  rw [nI_1]; exact vp_in_nI (by omega) (by decide)
theorem mw1_in {τ : T2} (hI : mInv τ) (h : ¬ τ 19 0 = 9) : vp_in (τ 19 0 + 1) 10 := by
  obtain ⟨nO, nW, nA, nF, -, -, h1, h2, -⟩ := hI
  rw [h1] at h ⊢
  have h3 : nW ≠ 9 := fun q => h (by rw [q]; rfl)
  rw [nI_1]; exact vp_in_nI (by omega) (by decide)
theorem mown_in {τ : T2} {N i : Nat} (hI : mInv τ) (hNc : N = (τ 16 0).toNatClampNeg) (hlt : i < N) : vp_in (τ 14 (nI i).toNatClampNeg) 1001 := by
  obtain ⟨nO, nW, nA, nF, -, -, -, -, h1, h2, -, -, h3, -⟩ := hI
  rw [h1, nI_clamp (by omega)] at hNc
  rw [nI_clamp (by omega)]
  exact h3 i (by omega)
theorem mord_in {τ : T2} {p : Int32} (hI : mInv τ) (h0 : ¬ p < 0) (h : ¬ τ 21 0 ≤ p) : vp_in p 1001 := by
  obtain ⟨nO, nW, nA, nF, -, -, -, -, -, -, h1, h2, -⟩ := hI
  rw [h1, Int32.le_iff_toInt_le, nI_toInt (by omega)] at h
  rw [Int32.lt_iff_toInt_lt, i32_0] at h0
  exact vp_in_iff.mpr ⟨by omega, by omega⟩
/-- the class's -/
def cInv (nO nW : Nat) (σ : T2) : Prop := σ 3 0 = nI nO ∧ nO ≤ 1000 ∧ σ 5 0 = nI nW ∧ nW ≤ 9 ∧ (∃ K, σ 10 0 = nI K ∧ K ≤ 512) ∧ (∃ F, σ 7 0 = nI F ∧ F ≤ 1000) ∧ (∀ w, w < nW → σ 42 w = 0 ∨ ∃ j, j < nO ∧ σ 42 w = nI (j + 1)) ∧ ∀ j, j < nO → (σ 27 j = 0 ∨ σ 27 j = 1) ∧ (σ 30 j = 0 ∨ σ 30 j = 1)
theorem cN_out {nO nW : Nat} {σ : T2} (hI : cInv nO nW σ) : σ 3 0 = nI (σ 3 0).toNatClampNeg ∧ (σ 3 0).toNatClampNeg ≤ 1000 := by
  obtain ⟨h1, h2, -⟩ := hI
  rw [h1, nI_clamp (by omega)]
  exact ⟨rfl, h2⟩
theorem cN_kept {nO nW : Nat} {σ : T2} (hI : cInv nO nW σ) : σ 10 0 = nI (σ 10 0).toNatClampNeg ∧ (σ 10 0).toNatClampNeg ≤ 512 := by
  obtain ⟨-, -, -, -, ⟨K, h1, h2⟩, -⟩ := hI
  rw [h1, nI_clamp (by omega)]
  exact ⟨rfl, h2⟩
theorem wi_ix {p : Int32} {n : Nat} (hb : n ≤ 1000) (h : ¬ sC_isWithin p 1 (nI n) = 0) : ∃ j : Nat, j < n ∧ p = nI (j + 1) := by
  unfold sC_isWithin at h
  by_cases h1 : p < 1
  · rw [if_pos h1] at h; exact absurd rfl h
  · rw [if_neg h1] at h
    by_cases h2 : nI n < p
    · rw [if_pos h2] at h; exact absurd rfl h
    · rw [Int32.lt_iff_toInt_lt, nI_toInt (by omega)] at h2
      rw [Int32.lt_iff_toInt_lt, i32_1] at h1
      exact ix1 (by omega) (by omega) (by omega)
theorem oo_lt {nO nW : Nat} {σ : T2} {p : Int32} (hI : cInv nO nW σ) (h : ¬ sC_isWithin p 1 (σ 3 0) = 0) : (p - 1).toNatClampNeg < nO := by
  obtain ⟨h1, h2, -⟩ := hI
  rw [h1] at h
  obtain ⟨j, hj, rfl⟩ := wi_ix h2 h
  rw [nI_back (by omega)]; exact hj
theorem oo_in {nO nW : Nat} {σ : T2} {p : Int32} (hI : cInv nO nW σ) (h : ¬ sC_isWithin p 1 (σ 3 0) = 0) : vp_in (p - 1) 1000 := by
  obtain ⟨h1, h2, -⟩ := hI
  rw [h1] at h
  obtain ⟨j, hj, rfl⟩ := wi_ix h2 h
  rw [nI_pred]; exact vp_in_nI (by omega) (by decide)
theorem qq_lt {nO nW : Nat} {σ : T2} {p : Int32} (hI : cInv nO nW σ) (h : ¬ sC_isWithin p 1 (σ 5 0) = 0) : (p - 1).toNatClampNeg < nW := by
  obtain ⟨-, -, h1, h2, -⟩ := hI
  rw [h1] at h
  obtain ⟨j, hj, rfl⟩ := wi_ix (by omega) h
  rw [nI_back (by omega)]; exact hj
theorem qq_in {nO nW : Nat} {σ : T2} {p : Int32} (hI : cInv nO nW σ) (h : ¬ sC_isWithin p 1 (σ 5 0) = 0) : vp_in (p - 1) 9 := by
  obtain ⟨-, -, h1, h2, -⟩ := hI
  rw [h1] at h
  obtain ⟨j, hj, rfl⟩ := wi_ix (by omega) h
  rw [nI_pred]; exact vp_in_nI (by omega) (by decide)
theorem oo_none {ad : Nat → Nat} {σ : T2} {p : Int32} (h : sC_isWithin p 1 (σ 3 0) = 0) : sC_outputOf ad σ p = none := if_pos h
theorem oo_some {ad : Nat → Nat} {σ : T2} {p : Int32} (h : ¬ sC_isWithin p 1 (σ 3 0) = 0) : sC_outputOf ad σ p = some (ad (p - 1).toNatClampNeg) := if_neg h
theorem qq_none {wd : Nat → Nat} {σ : T2} {p : Int32} (h : sC_isWithin p 1 (σ 5 0) = 0) : sC_writerOf wd σ p = none := if_pos h
theorem qq_some {wd : Nat → Nat} {σ : T2} {p : Int32} (h : ¬ sC_isWithin p 1 (σ 5 0) = 0) : sC_writerOf wd σ p = some (wd (p - 1).toNatClampNeg) := if_neg h
theorem tk_none {ad : Nat → Nat} {v : Int32} (h : v = 0) : tk ad v = none := if_pos h
theorem tk_some {ad : Nat → Nat} {v : Int32} (h : ¬ v = 0) : tk ad v = some (ad (v - 1).toNatClampNeg) := if_neg h
theorem tk_put {ad : Nat → Nat} {nO nW j : Nat} {σ : T2} (hj : j < nO) (hI : cInv nO nW σ) : tk ad (nI (j + 1)) = some (ad j) := by
  have h2 := hI.2.1
  rw [tk_some (nI_ne0 (by omega) (by omega)), nI_back (by omega)]
theorem ct_lt {nO nW w : Nat} {σ : T2} (hI : cInv nO nW σ) (h : ¬ σ 42 w = 0) (hw : w < nW) : (σ 42 w - 1).toNatClampNeg < nO := by
  obtain ⟨-, h2, -, -, -, -, h3, -⟩ := hI
  rcases h3 w hw with q | ⟨j, hj, e⟩
  · exact absurd q h
  · rw [e, nI_back (by omega)]; exact hj
theorem fa_lt {nO nW : Nat} {σ : T2} {a : Int32} (hI : cInv nO nW σ) (hA : a = 0 ∨ ∃ j, j < nO ∧ a = nI (j + 1)) (h : ¬ a = 0) : (a - 1).toNatClampNeg < nO := by
  have h2 := hI.2.1
  rcases hA with q | ⟨j, hj, e⟩
  · exact absurd q h
  · rw [e, nI_back (by omega)]; exact hj
theorem ff_rng {nO nW w : Nat} {σ : T2} (hI : cInv nO nW σ) : ∀ i, i ≤ nO → sC_firstFor_F σ w i = 0 ∨ ∃ j, j < nO ∧ sC_firstFor_F σ w i = nI (j + 1) := by
  have h2 := hI.2.1
  intro i
  induction i with
  | zero => intro _; exact Or.inl rfl
  | succ i ih =>
    intro hi
    have h3 : (nI i).toNatClampNeg < nO := by rw [nI_clamp (by omega)]; omega
    have ih := ih (by omega)
    show sC_firstFor_s σ w i (sC_firstFor_F σ w i) = 0 ∨ ∃ j, j < nO ∧ sC_firstFor_s σ w i (sC_firstFor_F σ w i) = nI (j + 1)
    generalize sC_firstFor_F σ w i = a at ih ⊢
    have h4 : sC_firstFor_s σ w i a = a ∨ sC_firstFor_s σ w i a = nI ((nI i).toNatClampNeg + 1) := by
      unfold sC_firstFor_s
      repeat' split
      all_goals first | exact Or.inl rfl | exact Or.inr rfl
    rcases h4 with q | q
    · rw [q]; exact ih
    · rw [q]; exact Or.inr ⟨_, h3, rfl⟩
theorem ff_lt {nO nW w : Nat} {σ : T2} (hI : cInv nO nW σ) (h : ¬ sC_firstFor σ w = 0) : (sC_firstFor σ w - 1).toNatClampNeg < nO := by
  have h1 : sC_firstFor σ w = sC_firstFor_F σ w nO := by
    unfold sC_firstFor
    rw [hI.1, nI_clamp (by have := hI.2.1; omega)]
  rw [h1] at h ⊢
  exact fa_lt hI (ff_rng hI nO (Nat.le_refl _)) h
theorem lt_c {nO nW N i : Nat} {σ : T2} (hI : cInv nO nW σ) (hNc : N = (σ 3 0).toNatClampNeg) (hlt : i < N) : (nI i).toNatClampNeg < nO := by
  obtain ⟨h1, h2, -⟩ := hI
  rw [h1, nI_clamp (by omega)] at hNc
  rw [nI_clamp (by omega)]
  omega
theorem hr_in {nO nW j : Nat} {σ : T2} (hI : cInv nO nW σ) (h : ¬ sC_hasRoomForLine σ j = 0) : vp_in (σ 10 0) 512 := by
  obtain ⟨-, -, -, -, ⟨K, h1, h2⟩, -⟩ := hI
  unfold sC_hasRoomForLine at h
  by_cases h3 : 512 ≤ σ 10 0
  · rw [if_pos h3] at h; exact absurd rfl h
  · rw [h1] at h3 ⊢
    have h4 : K ≠ 512 := fun q => h3 (by rw [q]; decide)
    exact vp_in_nI (by omega) (by decide)
theorem f7_nn {nO nW : Nat} {σ : T2} (hI : cInv nO nW σ) : 0 ≤ σ 7 0 := by
  obtain ⟨-, -, -, -, -, ⟨F, h1, h2⟩, -⟩ := hI
  rw [h1]; exact nI_pos' (by omega)
theorem nio_in {x : Int32} (hk : 0 ≤ x) (h : ¬ 1000 ≤ x) : vp_in x 1000 := by
  rw [Int32.le_iff_toInt_le] at h hk
  rw [show (1000 : Int32).toInt = 1000 by decide] at h
  rw [i32_0] at hk
  exact vp_in_iff.mpr ⟨by omega, by omega⟩
theorem cord_in {nO nW : Nat} {σ : T2} {p : Int32} (hI : cInv nO nW σ) (h : ¬ sC_isWithin p 0 (σ 7 0 - 1) = 0) : vp_in p 1000 := by
  obtain ⟨-, -, -, -, -, ⟨F, h3, h4⟩, -⟩ := hI
  rw [h3] at h
  unfold sC_isWithin at h
  by_cases h1 : p < 0
  · rw [if_pos h1] at h; exact absurd rfl h
  · rw [if_neg h1] at h
    by_cases h2 : nI F - 1 < p
    · rw [if_pos h2] at h; exact absurd rfl h
    · rw [Int32.lt_iff_toInt_lt, show nI F - 1 = nI F - nI 1 from rfl, pk_sub_toInt (by omega) (by omega)] at h2
      rw [Int32.lt_iff_toInt_lt, i32_0] at h1
      exact vp_in_iff.mpr ⟨by omega, by omega⟩
theorem rp_3 {σ : T2} {j : Nat} : sC_releaseOrPurge σ j 3 0 = σ 3 0 := by
  unfold sC_releaseOrPurge
  split <;> rfl
theorem nb_of {x : Int32} (h : x = 0 ∨ x = 1) : narrow .boolean (.int x) = .int x := by rcases h with rfl | rfl <;> rfl
theorem fb_of {x : Int32} (h : x = 0 ∨ x = 1) : fits .boolean (.int x) = true := by rcases h with rfl | rfl <;> rfl
theorem oc_in {nO nW : Nat} {σ : T2} (hI : cInv nO nW σ) (h : σ 3 0 < 1000) : vp_in (σ 3 0) 1000 := by
  obtain ⟨h1, h2, -⟩ := hI
  rw [h1] at h ⊢
  rw [Int32.lt_iff_toInt_lt, nI_toInt (by omega), show (1000 : Int32).toInt = 1000 by decide] at h
  exact vp_in_nI (by omega) (by decide)
theorem ow_in {nO nW : Nat} {σ : T2} (hI : cInv nO nW σ) (h : σ 5 0 < 9) : vp_in (σ 5 0) 9 := by
  obtain ⟨-, -, h1, h2, -⟩ := hI
  rw [h1] at h ⊢
  rw [Int32.lt_iff_toInt_lt, nI_toInt (by omega), show (9 : Int32).toInt = 9 by decide] at h
  exact vp_in_nI (by omega) (by decide)
theorem new_20 {σ : T2} {n : Nat} {p0 p1 p2 : Int32} : sC_new σ n p0 p1 p2 20 n = σ 3 0 + 1 := by
  unfold sC_new
  simp [upd2, upd]
theorem new_30 {σ : T2} {n j : Nat} {p0 p1 p2 : Int32} (h : j ≠ n) : sC_new σ n p0 p1 p2 30 j = σ 30 j := by
  unfold sC_new
  simp [upd2, upd, h]
theorem new_27 {σ : T2} {n j : Nat} {p0 p1 p2 : Int32} (h : j ≠ n) : sC_new σ n p0 p1 p2 27 j = σ 27 j := by
  unfold sC_new
  simp [upd2, upd, h]
theorem seg_20 {σ : T2} {n j : Nat} {p0 p1 p2 x : Int32} : (upd2 (sO_takeSettingsOf (sC_new σ n p0 p1 p2) n j) 26 j x) 20 n = σ 3 0 + 1 := by
  show sC_new σ n p0 p1 p2 20 n = _
  exact new_20
theorem i_nlt {x y : Int32} (h : ¬ x ≤ y) : y < x := by
  rw [Int32.le_iff_toInt_le] at h
  rw [Int32.lt_iff_toInt_lt]
  omega
theorem i_nle {x y : Int32} (h : x ≤ y) : ¬ y < x := by
  rw [Int32.le_iff_toInt_le] at h
  rw [Int32.lt_iff_toInt_lt]
  omega
end
section
/-! worlds in another order; new rows -/
theorem va_P_perm {D : va_G} {cl : List vw_C} {ws ws' : va_W} {H : Heap} (h : va_P D cl ws H) (p : ws'.Perm ws) : va_P D cl ws' H := by
  intro k q hk
  obtain ⟨i, hi⟩ := List.mem_iff_getElem?.mp (p.mem_iff.mp (List.mem_of_getElem? hk))
  exact h i q hi
theorem va_D_pw {A : Nat → Prop} {ws : va_W} : va_D A ws ↔ ws.Pairwise (fun a b => a.1 ≠ b.1) ∧ ∀ q ∈ ws, A q.1 := by
  constructor
  · intro h
    refine ⟨List.pairwise_iff_getElem.mpr (fun i j hi hj hij e => ?_), fun q hq => ?_⟩
    · have := h.1 i j ws[i] ws[j] (List.getElem?_eq_getElem hi) (List.getElem?_eq_getElem hj) e
      omega
    · obtain ⟨i, hi⟩ := List.mem_iff_getElem?.mp hq
      exact h.2 i q hi
  · intro h
    refine ⟨fun i j p q hp hq e => ?_, fun k q hk => h.2 q (List.mem_of_getElem? hk)⟩
    obtain ⟨hi, ei⟩ := List.getElem?_eq_some_iff.mp hp
    obtain ⟨hj, ej⟩ := List.getElem?_eq_some_iff.mp hq
    have pw := List.pairwise_iff_getElem.mp h.1
    rcases Nat.lt_trichotomy i j with q1 | q1 | q1
    · exact absurd (by rw [ei, ej]; exact e) (pw i j hi hj q1)
    · exact q1
    · exact absurd (by rw [ei, ej]; exact e.symm) (pw j i hj hi q1)
theorem va_D_perm {A : Nat → Prop} {ws ws' : va_W} (h : va_D A ws) (p : ws'.Perm ws) : va_D A ws' := by
  obtain ⟨h1, h2⟩ := va_D_pw.mp h
  exact va_D_pw.mpr ⟨(p.pairwise_iff (fun {x y} q => Ne.symm q)).mpr h1, fun q hq => h2 q (p.mem_iff.mp hq)⟩
theorem pm_rot {α : Type} {ws : List α} {c : α} : (c :: ws).Perm (ws ++ [c]) := (List.perm_append_singleton c ws).symm
theorem pm_ins {α : Type} {F O R X : List α} {c : α} : ((F ++ ((O ++ [c]) ++ R)) ++ X).Perm (c :: ((F ++ (O ++ R)) ++ X)) := by
  have e1 : (F ++ ((O ++ [c]) ++ R)) ++ X = (F ++ O) ++ c :: (R ++ X) := by simp
  have e2 : (F ++ (O ++ R)) ++ X = (F ++ O) ++ (R ++ X) := by simp
  rw [e1, e2]
  exact List.perm_middle
theorem pm_ins2 {α : Type} {F O R X : List α} {c : α} : ((F ++ (O ++ (R ++ [c]))) ++ X).Perm (c :: ((F ++ (O ++ R)) ++ X)) := by
  have e1 : (F ++ (O ++ (R ++ [c]))) ++ X = (F ++ (O ++ R)) ++ c :: X := by simp
  rw [e1]
  exact List.perm_middle
def up1 (ad : Nat → Nat) (n q : Nat) : Nat → Nat := fun j => if j = n then q else ad j
theorem up1_at {ad : Nat → Nat} {n q : Nat} : up1 ad n q n = q := if_pos rfl
theorem up1_ne {ad : Nat → Nat} {n q j : Nat} (h : j ≠ n) : up1 ad n q j = ad j := if_neg h
theorem tk_up {ad : Nat → Nat} {nO q : Nat} {v : Int32} (hn : nO ≤ 1000) (h : v = 0 ∨ ∃ j, j < nO ∧ v = nI (j + 1)) : tk (up1 ad nO q) v = tk ad v := by
  rcases h with rfl | ⟨j, hj, rfl⟩
  · rfl
  · unfold tk
    rw [if_neg (nI_ne0 (by omega) (by omega)), if_neg (nI_ne0 (by omega) (by omega)), nI_back (by omega), up1_ne (by omega)]
theorem cOu_new {ad : Nat → Nat} {nO q : Nat} {σ σ' : T2} (h : ∀ j, j < nO → ouF σ' j = ouF σ j) : cOu (up1 ad nO q) (nO + 1) σ' = cOu ad nO σ ++ [(q, .inr (1, ouF σ' nO))] := by
  unfold cOu
  rw [List.range_succ, List.map_append]
  congr 1
  · refine List.map_congr_left (fun j hj => ?_)
    have hj : j < nO := List.mem_range.mp hj
    rw [h j hj, up1_ne (by omega)]
  · simp [up1_at]
theorem cWr_new {ad wd : Nat → Nat} {nW q : Nat} {σ σ' : T2} (h : ∀ w, w < nW → wrF ad σ' w = wrF ad σ w) : cWr ad (up1 wd nW q) (nW + 1) σ' = cWr ad wd nW σ ++ [(q, .inr (2, wrF ad σ' nW))] := by
  unfold cWr
  rw [List.range_succ, List.map_append]
  congr 1
  · refine List.map_congr_left (fun j hj => ?_)
    have hj : j < nW := List.mem_range.mp hj
    rw [h j hj, up1_ne (by omega)]
  · simp [up1_at]
theorem cWr_up {ad wd : Nat → Nat} {nO nW q : Nat} {σ σ' : T2} (hn : nO ≤ 1000) (h : ∀ w, w < nW → σ 42 w = 0 ∨ ∃ j, j < nO ∧ σ 42 w = nI (j + 1)) (e0 : σ' 40 = σ 40) (e1 : σ' 41 = σ 41) (e2 : σ' 42 = σ 42) : cWr (up1 ad nO q) wd nW σ' = cWr ad wd nW σ := by
  unfold cWr
  refine List.map_congr_left (fun w hw => ?_)
  have hw : w < nW := List.mem_range.mp hw
  unfold wrF
  rw [e0, e1, e2, tk_up hn (h w hw)]
theorem up_arr {ad : Nat → Nat} {nO q : Nat} : va_up (fun j => if j < nO then some (ad j) else none) nO (some q) = fun j => if j < nO + 1 then some (up1 ad nO q j) else none := by
  funext j
  unfold va_up up1
  by_cases e : j = nO
  · subst e; simp
  · by_cases h : j < nO
    · simp [e, h, Nat.lt_succ_of_lt h]
    · have : ¬ j < nO + 1 := by omega
      simp [e, h, this]
abbrev ou0 : List Value := [.int 0, .int 0, .int 0, .int 0, .int 0, .int 0, .int 0, .int 0, .int 0, .int 0, .int 0, .int 0, .int 0]
abbrev ouN (p0 p1 p2 p3 : Int32) : List Value := [.int p0, .int p1, .int p2, .int p3, .int 0, .int 0, .int 1, .int 0, .int 0, .int 0, .int 0, .int 0, .int 0]
theorem ouF_new {σ : T2} {n : Nat} {p0 p1 p2 : Int32} : ouF (sC_new σ n p0 p1 p2) n = ouN (σ 3 0 + 1) p0 p1 p2 := by
  unfold sC_new ouF
  simp [upd2, upd]
theorem ouF_old {σ : T2} {n j : Nat} {p0 p1 p2 : Int32} (h : j ≠ n) : ouF (sC_new σ n p0 p1 p2) j = ouF σ j := by
  unfold sC_new ouF
  simp [upd2, upd, h]
/-- the world behind addOutput -/
theorem pm_new {h : Nat} {adr ad wd : Nat → Nat} {nO nW q : Nat} {cI cO cW : ClassId} {σ : T2} {X : va_W} {p0 p1 p2 : Int32} (hI : cInv nO nW σ) : (cWd h adr (up1 ad nO q) wd (nO + 1) nW cI cO cW (sC_new σ nO p0 p1 p2) ++ X).Perm (((((q, .inr (1, ouN (σ 3 0 + 1) p0 p1 p2)) : Nat × va_E) :: (cWd h adr ad wd nO nW cI cO cW σ ++ X)).set 2 (adr 2, .inl (cO, 1000, .inr (.inr (.inr (.inr (va_up (fun j => if j < nO then some (ad j) else none) (σ 3 0).toNatClampNeg (some q)))))))).set 1 (h, .inr (0, (obF adr σ).set 3 (.int (σ 3 0 + 1))))) := by
  have hn := hI.2.1
  have e0 : (σ 3 0).toNatClampNeg = nO := by rw [hI.1, nI_clamp (by omega)]
  have e1 : cWd h adr (up1 ad nO q) wd (nO + 1) nW cI cO cW (sC_new σ nO p0 p1 p2) = cFx h adr (up1 ad nO q) wd (nO + 1) nW cI cO cW (sC_new σ nO p0 p1 p2) ++ ((cOu ad nO σ ++ [(q, .inr (1, ouN (σ 3 0 + 1) p0 p1 p2))]) ++ cWr ad wd nW σ) := by
    unfold cWd
    rw [cOu_new (σ := σ) (fun j hj => ouF_old (by omega)), ouF_new, cWr_up (σ := σ) (σ' := sC_new σ nO p0 p1 p2) hn hI.2.2.2.2.2.2.1 rfl rfl rfl]
  rw [e1, e0, up_arr]
  have e2 : (((((q, .inr (1, ouN (σ 3 0 + 1) p0 p1 p2)) : Nat × va_E) :: (cWd h adr ad wd nO nW cI cO cW σ ++ X)).set 2 (adr 2, .inl (cO, 1000, .inr (.inr (.inr (.inr (fun j => if j < nO + 1 then some (up1 ad nO q j) else none))))))).set 1 (h, .inr (0, (obF adr σ).set 3 (.int (σ 3 0 + 1))))) = (q, .inr (1, ouN (σ 3 0 + 1) p0 p1 p2)) :: ((cFx h adr (up1 ad nO q) wd (nO + 1) nW cI cO cW (sC_new σ nO p0 p1 p2) ++ (cOu ad nO σ ++ cWr ad wd nW σ)) ++ X) := rfl
  rw [e2]
  exact pm_ins
/-- the world behind a new writer -/
theorem pm_newW {h : Nat} {adr ad wd : Nat → Nat} {nO nW q : Nat} {cI cO cW : ClassId} {σ : T2} {X : va_W} {p0 p1 : Int32} (hI : cInv nO nW σ) : (cWd h adr ad (up1 wd nW q) nO (nW + 1) cI cO cW (upd2 (upd2 (upd2 (upd2 σ 40 nW p0) 41 nW p1) 42 nW 0) 5 0 (σ 5 0 + 1)) ++ X).Perm (((((q, .inr (2, [.int p0, .int p1, .null])) : Nat × va_E) :: (cWd h adr ad wd nO nW cI cO cW σ ++ X)).set 3 (adr 4, .inl (cW, 9, .inr (.inr (.inr (.inr (va_up (fun j => if j < nW then some (wd j) else none) (σ 5 0).toNatClampNeg (some q)))))))).set 1 (h, .inr (0, (obF adr σ).set 5 (.int (σ 5 0 + 1))))) := by
  have hn := hI.2.2.2.1
  have e0 : (σ 5 0).toNatClampNeg = nW := by rw [hI.2.2.1, nI_clamp (by omega)]
  have e1 : cWd h adr ad (up1 wd nW q) nO (nW + 1) cI cO cW (upd2 (upd2 (upd2 (upd2 σ 40 nW p0) 41 nW p1) 42 nW 0) 5 0 (σ 5 0 + 1)) = cFx h adr ad (up1 wd nW q) nO (nW + 1) cI cO cW (upd2 (upd2 (upd2 (upd2 σ 40 nW p0) 41 nW p1) 42 nW 0) 5 0 (σ 5 0 + 1)) ++ (cOu ad nO σ ++ (cWr ad wd nW σ ++ [(q, .inr (2, [.int p0, .int p1, .null]))])) := by
    unfold cWd
    rw [cWr_new (σ := σ) (fun w hw => by unfold wrF; simp [upd2, upd, Nat.ne_of_lt hw])]
    congr 2
    · exact congrArg (fun x => cWr ad wd nW σ ++ [x]) (by unfold wrF; simp [upd2, upd, tk, va_rf])
  rw [e1, e0, up_arr]
  have e2 : (((((q, .inr (2, [.int p0, .int p1, .null])) : Nat × va_E) :: (cWd h adr ad wd nO nW cI cO cW σ ++ X)).set 3 (adr 4, .inl (cW, 9, .inr (.inr (.inr (.inr (fun j => if j < nW + 1 then some (up1 wd nW q j) else none))))))).set 1 (h, .inr (0, (obF adr σ).set 5 (.int (σ 5 0 + 1))))) = (q, .inr (2, [.int p0, .int p1, .null])) :: ((cFx h adr ad (up1 wd nW q) nO (nW + 1) cI cO cW (upd2 (upd2 (upd2 (upd2 σ 40 nW p0) 41 nW p1) 42 nW 0) 5 0 (σ 5 0 + 1)) ++ (cOu ad nO σ ++ cWr ad wd nW σ)) ++ X) := rfl
  rw [e2]
  exact pm_ins2
theorem ty_int {D : va_G} {cI cZ cO cW cA : ClassId} {s : State} (hK : va_K D vwCl (tyL cI cZ cO cW ++ [(cA, .int)]) s) : cA = cI := by
  have h1 : s.vm.findClass ("[" ++ FieldType.int.toString) = some cI := (hK.2 0 (cI, .int) rfl).2
  have h2 : s.vm.findClass ("[" ++ FieldType.int.toString) = some cA := (hK.2 4 (cA, .int) rfl).2
  exact Option.some.inj (h2.symm.trans h1)
theorem ty_boo {D : va_G} {cI cZ cO cW cA : ClassId} {s : State} (hK : va_K D vwCl (tyL cI cZ cO cW ++ [(cA, .boolean)]) s) : cA = cZ := by
  have h1 : s.vm.findClass ("[" ++ FieldType.boolean.toString) = some cZ := (hK.2 1 (cZ, .boolean) rfl).2
  have h2 : s.vm.findClass ("[" ++ FieldType.boolean.toString) = some cA := (hK.2 4 (cA, .boolean) rfl).2
  exact Option.some.inj (h2.symm.trans h1)
theorem ty_out {D : va_G} {cI cZ cO cW cA : ClassId} {s : State} (hK : va_K D vwCl (tyL cI cZ cO cW ++ [(cA, .object "SpoolRows$Output")]) s) : cA = cO := by
  obtain ⟨k1, c1, -, -, -, h1⟩ := (hK.2 2 (cO, .object "SpoolRows$Output") rfl).2
  obtain ⟨k2, c2, -, -, -, h2⟩ := (hK.2 4 (cA, .object "SpoolRows$Output") rfl).2
  exact Option.some.inj (h2.symm.trans h1)
theorem ty_wri {D : va_G} {cI cZ cO cW cA : ClassId} {s : State} (hK : va_K D vwCl (tyL cI cZ cO cW ++ [(cA, .object "SpoolRows$Writer")]) s) : cA = cW := by
  obtain ⟨k1, c1, -, -, -, h1⟩ := (hK.2 3 (cW, .object "SpoolRows$Writer") rfl).2
  obtain ⟨k2, c2, -, -, -, h2⟩ := (hK.2 4 (cA, .object "SpoolRows$Writer") rfl).2
  exact Option.some.inj (h2.symm.trans h1)
theorem ty_int0 {s : State} {args : Array Value} (h : (Cond.arrayClass .int).before args s = true) : ∃ cA, ArrOfT s cA .int ∧ va_RA s cA .int := by
  obtain ⟨c, k, comp, h1, h2, h3⟩ := Cond.arrayClass_spec h
  exact ⟨c, fun n z => ⟨fun k h => (by cases h), k, h2, comp, h3⟩, h1⟩
theorem ty_boo0 {s : State} {args : Array Value} (h : (Cond.arrayClass .boolean).before args s = true) : ∃ cA, ArrOfT s cA .boolean ∧ va_RA s cA .boolean := by
  obtain ⟨c, k, comp, h1, h2, h3⟩ := Cond.arrayClass_spec h
  exact ⟨c, fun n z => ⟨fun k h => (by cases h), k, h2, comp, h3⟩, h1⟩
theorem ty_obj0 {s : State} {args : Array Value} {C : String} (h : (Cond.arrayOver (.object C)).before args s = true) : ∃ cA, ArrOfT s cA (.object C) ∧ va_RA s cA (.object C) := by
  obtain ⟨comp, c, k, h1, -, h3, h4, h5⟩ := Cond.arrayOver_spec h
  exact ⟨c, fun n z => ⟨fun k h => (by cases h), k, h3, comp, h4⟩, k, comp, h3, h4, h1, h5⟩
def wQr (D : va_G) (z : Nat) (Wf : Nat → va_W) : Array Value → State → Outcome → State → Prop := va_Qr (S := Nat) (fun _ => True) (fun u a t => a = u ∧ va_P D vwCl (Wf u) t.heap ∧ va_D (fun q => z ≤ q) (Wf u)) (fun q => z ≤ q)
section WRef
variable {p : Program} {l : Launch} {e : Env} {R : Room} {s : State} {m : MethodId} {args : Array Value} {below : List Frame} {meth : Method} {c : Code} {H : Heap} {locs : List Loc} {cells slots : Nat} {Q : State → Prop}
variable {cc : ByteArray} {pc : Nat} {ls : Array Slot} {rest st0 : List Value} {D : va_G} {z : Nat} {a : Array Value} {H0 : Heap} {mc ms : Nat}
theorem w_rret {Wf : Nat → va_W} {q : Nat} {rt : FieldType} (hx : p.tables.exec = Jvm.exec) (hb : c.code = cc) (hr : meth.sig.returnType = some rt) (hrt : (∃ n, rt = .object n) ∨ ∃ t, rt = .array t) (hlocks : meth.locks = false) (hP : va_P D vwCl (Wf q) H) (hD : va_D (fun q => z ≤ q) (Wf q)) (hS : va_S (fun q => z ≤ q) s.heap H locs) (hdg : decode cc pc = .ok (.areturn, 1)) : W p l e R s m args below meth c H locs cells slots (MQ below (wQr D z Wf) args s cells slots (fun q => z ≤ q)) (F0 m pc ls [.ref q]) :=
  W.aret hx hb hr hrt (Or.inr ⟨q, rfl⟩) (fun t ht _ => ⟨⟨q, q, rfl, trivial, rfl, by rw [ht]; exact hP, hD⟩, hS.F ht⟩) hS.2.2 hdg hlocks
theorem w_callr {Wf : Nat → va_W} (hr : va_Run p l e R s m args below meth c H locs cells slots mc ms (F0 m pc ls st0) rest (wQr D z Wf a) (fun q => z ≤ q)) (hS : va_S (fun q => z ≤ q) H0 H locs)
    (kk : ∀ (q : Nat) (H1 : Heap) (locs1 : List Loc), va_P D vwCl (Wf q) H1 → va_D (fun q => z ≤ q) (Wf q) → va_S (fun q => z ≤ q) H0 H1 locs1 → W p l e R s m args below meth c H1 locs1 (cells + mc) (slots + ms) Q (F0 m (pc + 3) ls (.ref q :: rest))) : W p l e R s m args below meth c H locs cells slots Q (F0 m pc ls st0) :=
  va_callr hr hS (fun _ _ h => h) (fun _ h => h) (fun u ra t H1 locs1 ht _ _ hB _ _ hS1 => by
    obtain ⟨e1, e2, e3⟩ := hB
    subst e1
    exact kk ra H1 locs1 (by rw [← ht]; exact e2) e3 hS1)
end WRef
theorem cw_outA {h : Nat} {adr ad wd : Nat → Nat} {nO nW : Nat} {cI cO cW : ClassId} {σ : T2} {X : va_W} {j a : Nat} (hj : j < nO) (ha : ad j = a) : (cWd h adr ad wd nO nW cI cO cW σ ++ X)[6 + j]? = some (a, .inr (1, ouF σ j)) := by rw [← ha]; exact cw_out hj
theorem wtrip {α β γ : Type} {a : α} {b : β} {c : γ} {p : α × β × γ} (h : (a, b, c) = p) : a = p.1 ∧ (b, c) = p.2 := by subst h; exact ⟨rfl, rfl⟩
end
section
/-! THE TWO STATES SIDE BY SIDE (no machine here) -/
theorem upd2_get (t : T2) (f i : Nat) (x : Int32) (g k : Nat) : upd2 t f i x g k = if g = f then (if k = i then x else t g k) else t g k := by
  unfold upd2 upd
  by_cases h : g = f
  · subst h; simp
  · simp [h]
theorem nar_b {x : Int32} (h : x = 0 ∨ x = 1) : vp_nar .boolean x = x := by rcases h with rfl | rfl <;> rfl
def pgN (n : Nat) : Nat := (n + 7) / 8
def gvN (x : Int32) : Int32 := if x = 4 then 1 else if x = 5 then 1 else 0
theorem gvN_4 : gvN 4 = 1 := rfl
theorem gvN_5 : gvN 5 = 1 := rfl
theorem gvN_1 : gvN 1 = 0 := rfl
theorem gvN_2 : gvN 2 = 0 := rfl
theorem gvN_3 : gvN 3 = 0 := rfl
theorem sM_gone_eq (τ : T2) (p : Int32) : sM_isGone τ p = gvN (τ 6 p.toNatClampNeg) := rfl
theorem sO_gone_eq (σ : T2) (j : Nat) : sO_isGone σ j = gvN (σ 26 j) := rfl
def alN (τ : T2) (o : Nat) : Nat := if gvN (τ 6 o) = 0 then pgN (τ 7 o).toNatClampNeg else 0
def suN (τ : T2) : Nat → Nat
  | 0 => 0
  | n + 1 => suN τ n + alN τ (n + 1)
theorem su_congr {τ τ' : T2} {n : Nat} (h : ∀ o, o ≤ n → alN τ' o = alN τ o) : suN τ' n = suN τ n := by
  induction n with
  | zero => rfl
  | succ n ih =>
    show suN τ' n + alN τ' (n + 1) = suN τ n + alN τ (n + 1)
    rw [ih (fun o ho => h o (by omega)), h (n + 1) (Nat.le_refl _)]
theorem su_put {τ τ' : T2} {n j : Nat} (hj : j < n) (h : ∀ o, o ≠ j + 1 → alN τ' o = alN τ o) : suN τ' n + alN τ (j + 1) = suN τ n + alN τ' (j + 1) := by
  induction n with
  | zero => omega
  | succ n ih =>
    show suN τ' n + alN τ' (n + 1) + alN τ (j + 1) = suN τ n + alN τ (n + 1) + alN τ' (j + 1)
    by_cases e : j = n
    · subst e
      rw [su_congr (τ := τ) (τ' := τ') (fun o ho => h o (by omega))]
      omega
    · have := ih (by omega)
      rw [h (n + 1) (by omega)]
      omega
theorem pg_nI {L : Nat} (h : L ≤ 100000) : (nI L + 8 - 1) / 8 = nI (pgN L) := by
  show (nI L + nI 8 - 1) / nI 8 = _
  rw [nI_add, show L + 8 = (L + 7) + 1 by omega, nI_pred, pk_div (by omega) (by decide) (by decide)]
  rfl
/-- rows -/
def SA (k nO nW : Nat) (σ τ : T2) : Prop := σ 3 0 = nI nO ∧ τ 13 0 = nI nO ∧ nO ≤ k ∧ σ 5 0 = nI nW ∧ τ 19 0 = nI nW ∧ nW ≤ 9
def SB (nO : Nat) (σ τ : T2) : Prop := ∀ j, j < nO → σ 20 j = nI (j + 1) ∧ σ 21 j = τ 1 (j + 1) ∧ σ 22 j = τ 2 (j + 1) ∧ σ 23 j = τ 3 (j + 1) ∧ σ 24 j = τ 4 (j + 1) ∧ σ 25 j = τ 5 (j + 1) ∧ σ 26 j = τ 6 (j + 1) ∧ σ 27 j = τ 11 (j + 1) ∧ σ 28 j = τ 7 (j + 1) ∧ σ 29 j = τ 8 (j + 1) ∧ σ 30 j = τ 10 (j + 1) ∧ σ 31 j = τ 9 (j + 1) ∧ σ 32 j = τ 12 (j + 1)
def SC (nO : Nat) (τ : T2) : Prop := ∀ o, nO < o → τ 7 o = 0 ∧ τ 8 o = 0 ∧ τ 9 o = 0 ∧ τ 10 o = 0 ∧ τ 11 o = 0 ∧ τ 12 o = 0
def SD (k : Nat) (τ : T2) : Prop := ∀ o, (τ 10 o = 0 ∨ τ 10 o = 1) ∧ (τ 11 o = 0 ∨ τ 11 o = 1) ∧ ∃ L, L ≤ k ∧ τ 7 o = nI L
def SE (nW : Nat) (σ τ : T2) : Prop := ∀ w, w < nW → ∃ c : Nat, c < 2 ^ 31 ∧ τ 17 (w + 1) = nI c ∧ σ 40 w = nI (c % 16) ∧ σ 41 w = nI (c / 16) - 1
def SF (nO nW : Nat) (σ τ : T2) : Prop := (∀ w, w < nW → σ 42 w = τ 18 (w + 1) ∧ (τ 18 (w + 1) = 0 ∨ ∃ j, j < nO ∧ τ 18 (w + 1) = nI (j + 1) ∧ τ 6 (j + 1) = 3)) ∧ (∀ w, vp_in (τ 18 w) 1001) ∧ (∀ w, nW < w → τ 18 w = 0) ∧ ∀ w w', w < nW → w' < nW → w ≠ w' → τ 18 (w + 1) = τ 18 (w' + 1) → τ 18 (w + 1) = 0
def SG (nO : Nat) (σ τ : T2) : Prop := ∃ R, R ≤ 65536 ∧ τ 0 0 = nI R ∧ σ 0 0 = nI (R / 8) ∧ suN τ nO ≤ R ∧ σ 1 0 = nI (R - suN τ nO)
def SH (k : Nat) (σ τ : T2) : Prop := ∃ F, F ≤ k ∧ σ 7 0 = nI F ∧ τ 21 0 = nI F ∧ ∀ i, i < F → σ 6 i = τ 20 i
def SI (σ τ : T2) : Prop := σ 11 0 = τ 22 0 ∧ σ 12 0 = τ 23 0
def ctN (P : Int32 → Int32 → Bool) (s o : Nat → Int32) : Nat → Int32
  | 0 => 0
  | n + 1 => if P (s n) (o n) = true then ctN P s o n + 1 else ctN P s o n
def SJ (k nO : Nat) (σ τ : T2) : Prop := ∃ A K, A ≤ k ∧ K ≤ A ∧ τ 16 0 = nI A ∧ σ 10 0 = nI K ∧ (∀ a, a < A → ∃ j, j < nO ∧ τ 14 a = nI (j + 1)) ∧ (∀ i, i < K → ∃ j, j < nO ∧ σ 9 i = nI (j + 1)) ∧ ∀ P : Int32 → Int32 → Bool, (∀ o, P (-1) o = false) → ctN P (σ 8) (σ 9) K = ctN P (τ 15) (τ 14) A
def Sim (k nO nW : Nat) (σ τ : T2) : Prop := SA k nO nW σ τ ∧ SB nO σ τ ∧ SC nO τ ∧ SD k τ ∧ SE nW σ τ ∧ SF nO nW σ τ ∧ SG nO σ τ ∧ SH k σ τ ∧ SI σ τ ∧ SJ k nO σ τ
theorem SA_c {k k' nO nW : Nat} {σ τ σ' τ' : T2} (hk : k ≤ k') (h : SA k nO nW σ τ) (e1 : σ' 3 = σ 3) (e2 : τ' 13 = τ 13) (e3 : σ' 5 = σ 5) (e4 : τ' 19 = τ 19) : SA k' nO nW σ' τ' := by
  unfold SA at *
  rw [e1, e2, e3, e4]
  obtain ⟨a, b, c, d⟩ := h
  exact ⟨a, b, by omega, d⟩
theorem SB_c {nO : Nat} {σ τ σ' τ' : T2} (h : SB nO σ τ) (e : ∀ g, 20 ≤ g → g < 33 → σ' g = σ g) (f : ∀ g, g < 13 → τ' g = τ g) : SB nO σ' τ' := by
  unfold SB at *
  rw [e 20 (by decide) (by decide), e 21 (by decide) (by decide), e 22 (by decide) (by decide), e 23 (by decide) (by decide), e 24 (by decide) (by decide), e 25 (by decide) (by decide), e 26 (by decide) (by decide), e 27 (by decide) (by decide), e 28 (by decide) (by decide), e 29 (by decide) (by decide), e 30 (by decide) (by decide), e 31 (by decide) (by decide), e 32 (by decide) (by decide), f 1 (by decide), f 2 (by decide), f 3 (by decide), f 4 (by decide), f 5 (by decide), f 6 (by decide), f 7 (by decide), f 8 (by decide), f 9 (by decide), f 10 (by decide), f 11 (by decide), f 12 (by decide)]
  exact h
theorem SC_c {nO : Nat} {τ τ' : T2} (h : SC nO τ) (e7 : τ' 7 = τ 7) (e8 : τ' 8 = τ 8) (e9 : τ' 9 = τ 9) (e10 : τ' 10 = τ 10) (e11 : τ' 11 = τ 11) (e12 : τ' 12 = τ 12) : SC nO τ' := by
  unfold SC at *
  rw [e7, e8, e9, e10, e11, e12]
  exact h
theorem SC_row {nO : Nat} {τ τ' : T2} (h : SC nO τ) {j : Nat} (hj : j < nO) (e : ∀ g o, o ≠ j + 1 → τ' g o = τ g o) : SC nO τ' := by
  intro o ho
  have hne : o ≠ j + 1 := by omega
  rw [e 7 o hne, e 8 o hne, e 9 o hne, e 10 o hne, e 11 o hne, e 12 o hne]
  exact h o ho
theorem SD_c {k k' : Nat} {τ τ' : T2} (hk : k ≤ k') (h : SD k τ) (e7 : τ' 7 = τ 7) (e10 : τ' 10 = τ 10) (e11 : τ' 11 = τ 11) : SD k' τ' := by
  unfold SD at *
  rw [e7, e10, e11]
  intro o
  obtain ⟨a, b, L, c, d⟩ := h o
  exact ⟨a, b, L, by omega, d⟩
theorem SE_c {nW : Nat} {σ τ σ' τ' : T2} (h : SE nW σ τ) (e1 : σ' 40 = σ 40) (e2 : σ' 41 = σ 41) (e3 : τ' 17 = τ 17) : SE nW σ' τ' := by
  unfold SE at *
  rw [e1, e2, e3]
  exact h
theorem SF_c {nO nW : Nat} {σ τ σ' τ' : T2} (h : SF nO nW σ τ) (e1 : σ' 42 = σ 42) (e2 : τ' 18 = τ 18) (e3 : τ' 6 = τ 6) : SF nO nW σ' τ' := by
  unfold SF at *
  rw [e1, e2, e3]
  exact h
theorem SG_c {nO : Nat} {σ τ σ' τ' : T2} (h : SG nO σ τ) (e1 : σ' 0 = σ 0) (e2 : σ' 1 = σ 1) (e3 : τ' 0 = τ 0) (e4 : τ' 6 = τ 6) (e5 : τ' 7 = τ 7) : SG nO σ' τ' := by
  have e6 : suN τ' nO = suN τ nO := su_congr (fun o _ => by unfold alN; rw [e4, e5])
  unfold SG at *
  rw [e1, e2, e3, e6]
  exact h
theorem SH_c {k k' : Nat} {σ τ σ' τ' : T2} (hk : k ≤ k') (h : SH k σ τ) (e1 : σ' 6 = σ 6) (e2 : σ' 7 = σ 7) (e3 : τ' 20 = τ 20) (e4 : τ' 21 = τ 21) : SH k' σ' τ' := by
  unfold SH at *
  rw [e1, e2, e3, e4]
  obtain ⟨F, a, b⟩ := h
  exact ⟨F, by omega, b⟩
theorem SI_c {σ τ σ' τ' : T2} (h : SI σ τ) (e1 : σ' 11 = σ 11) (e2 : σ' 12 = σ 12) (e3 : τ' 22 = τ 22) (e4 : τ' 23 = τ 23) : SI σ' τ' := by
  unfold SI at *
  rw [e1, e2, e3, e4]
  exact h
theorem SJ_c {k k' nO : Nat} {σ τ σ' τ' : T2} (hk : k ≤ k') (h : SJ k nO σ τ) (e1 : σ' 8 = σ 8) (e2 : σ' 9 = σ 9) (e3 : σ' 10 = σ 10) (e4 : τ' 14 = τ 14) (e5 : τ' 15 = τ 15) (e6 : τ' 16 = τ 16) : SJ k' nO σ' τ' := by
  unfold SJ at *
  rw [e1, e2, e3, e4, e5, e6]
  obtain ⟨A, K, a, b⟩ := h
  exact ⟨A, K, by omega, b⟩
theorem Sim.mono {k nO nW : Nat} {σ τ : T2} (h : Sim k nO nW σ τ) : Sim (k + 1) nO nW σ τ := by
  obtain ⟨hA, hB, hC, hD, hE, hF, hG, hH, hIs, hJ⟩ := h
  exact ⟨SA_c (by omega) hA rfl rfl rfl rfl, hB, hC, SD_c (by omega) hD rfl rfl rfl, hE, hF, hG, SH_c (by omega) hH rfl rfl rfl rfl, hIs, SJ_c (by omega) hJ rfl rfl rfl rfl rfl rfl⟩
/-- what the walks want -/
theorem Sim.mi {k nO nW : Nat} {σ τ : T2} (h : Sim k nO nW σ τ) (hk : k ≤ 512) : mInv τ := by
  obtain ⟨⟨-, a1, a2, -, a3, a4⟩, -, -, -, -, ⟨-, f2, -⟩, -, ⟨F, h1, -, h2, -⟩, -, A, K, j1, -, j2, -, j3, -⟩ := h
  refine ⟨nO, nW, A, F, a1, by omega, a3, a4, j2, by omega, h2, by omega, fun a ha => ?_, f2⟩
  obtain ⟨j, hj, e⟩ := j3 a ha
  rw [e]
  exact vp_in_nI (by omega) (by decide)
theorem Sim.ci {k nO nW : Nat} {σ τ : T2} (h : Sim k nO nW σ τ) (hk : k ≤ 512) : cInv nO nW σ := by
  obtain ⟨⟨a1, -, a2, a3, -, a4⟩, hB, -, hD, -, ⟨f1, -⟩, -, ⟨F, h1, h2, -⟩, -, A, K, j1, j2, -, j3, -⟩ := h
  refine ⟨a1, by omega, a3, a4, ⟨K, j3, by omega⟩, ⟨F, h2, by omega⟩, fun w hw => ?_, fun j hj => ?_⟩
  · obtain ⟨e, q⟩ := f1 w hw
    rw [e]
    rcases q with q | ⟨j, hj, q, -⟩
    · exact Or.inl q
    · exact Or.inr ⟨j, hj, q⟩
  · obtain ⟨-, -, -, -, -, -, -, b7, -, -, b10, -⟩ := hB j hj
    obtain ⟨d1, d2, -⟩ := hD (j + 1)
    rw [b7, b10]
    exact ⟨d2, d1⟩
/-- an argument is the number of an output, or of none, on both sides -/
theorem Sim.out {k nO nW : Nat} {σ τ : T2} (h : Sim k nO nW σ τ) (hk : k ≤ 512) (p : Int32) : (sC_isWithin p 1 (σ 3 0) = 0 ∧ sM_isOutput τ p = 0) ∨ ∃ j, j < nO ∧ p = nI (j + 1) ∧ ¬ sC_isWithin p 1 (σ 3 0) = 0 ∧ ¬ sM_isOutput τ p = 0 ∧ (p - 1).toNatClampNeg = j ∧ p.toNatClampNeg = j + 1 := by
  obtain ⟨⟨a1, a2, a3, -⟩, -⟩ := h
  by_cases hp : 0 < p.toInt ∧ p.toInt ≤ nO
  · obtain ⟨j, hj, rfl⟩ := ix1 (n := nO) (by omega) hp.1 hp.2
    refine Or.inr ⟨j, hj, rfl, ?_, ?_, nI_back (by omega), nI_clamp (by omega)⟩
    · unfold sC_isWithin
      rw [a1, if_neg (fun q => by rw [Int32.lt_iff_toInt_lt, i32_1, nI_toInt (by omega)] at q; omega), if_neg (nI_nlt (by omega) (by omega))]
      decide
    · unfold sM_isOutput
      rw [a2, if_neg (nI_nle (by omega) (by omega)), if_neg (nI_nlt (by omega) (by omega))]
      decide
  · refine Or.inl ⟨?_, ?_⟩
    · unfold sC_isWithin
      by_cases h1 : p < 1
      · rw [if_pos h1]
      · rw [if_neg h1, if_pos]
        rw [a1, Int32.lt_iff_toInt_lt, nI_toInt (by omega)]
        rw [Int32.lt_iff_toInt_lt, i32_1] at h1
        omega
    · unfold sM_isOutput
      by_cases h1 : p ≤ 0
      · rw [if_pos h1]
      · rw [if_neg h1, if_pos]
        rw [a2, Int32.lt_iff_toInt_lt, nI_toInt (by omega)]
        rw [Int32.le_iff_toInt_le, i32_0] at h1
        omega
theorem Sim.wr {k nO nW : Nat} {σ τ : T2} (h : Sim k nO nW σ τ) (p : Int32) : (sC_isWithin p 1 (σ 5 0) = 0 ∧ sM_isWriter τ p = 0) ∨ ∃ j, j < nW ∧ p = nI (j + 1) ∧ ¬ sC_isWithin p 1 (σ 5 0) = 0 ∧ ¬ sM_isWriter τ p = 0 ∧ (p - 1).toNatClampNeg = j ∧ p.toNatClampNeg = j + 1 := by
  obtain ⟨⟨-, -, -, a1, a2, a3⟩, -⟩ := h
  by_cases hp : 0 < p.toInt ∧ p.toInt ≤ nW
  · obtain ⟨j, hj, rfl⟩ := ix1 (n := nW) (by omega) hp.1 hp.2
    refine Or.inr ⟨j, hj, rfl, ?_, ?_, nI_back (by omega), nI_clamp (by omega)⟩
    · unfold sC_isWithin
      rw [a1, if_neg (fun q => by rw [Int32.lt_iff_toInt_lt, i32_1, nI_toInt (by omega)] at q; omega), if_neg (nI_nlt (by omega) (by omega))]
      decide
    · unfold sM_isWriter
      rw [a2, if_neg (nI_nle (by omega) (by omega)), if_neg (nI_nlt (by omega) (by omega))]
      decide
  · refine Or.inl ⟨?_, ?_⟩
    · unfold sC_isWithin
      by_cases h1 : p < 1
      · rw [if_pos h1]
      · rw [if_neg h1, if_pos]
        rw [a1, Int32.lt_iff_toInt_lt, nI_toInt (by omega)]
        rw [Int32.lt_iff_toInt_lt, i32_1] at h1
        omega
    · unfold sM_isWriter
      by_cases h1 : p ≤ 0
      · rw [if_pos h1]
      · rw [if_neg h1, if_pos]
        rw [a2, Int32.lt_iff_toInt_lt, nI_toInt (by omega)]
        rw [Int32.le_iff_toInt_le, i32_0] at h1
        omega
/-- both states, an answer's pair -/
def Same (k nO nW : Nat) (x y : Int32 × T2) : Prop := x.1 = y.1 ∧ Sim k nO nW x.2 y.2
theorem same_of {k nO nW : Nat} {a : Int32} {σ τ : T2} (h : Sim k nO nW σ τ) : Same k nO nW (a, σ) (a, τ) := ⟨rfl, h⟩
theorem iw_ok {x a b : Int32} (h1 : ¬ x < a) (h2 : ¬ b < x) : sC_isWithin x a b = 1 := by unfold sC_isWithin; rw [if_neg h1, if_neg h2]
theorem iw_lo {x a b : Int32} (h1 : x < a) : sC_isWithin x a b = 0 := by unfold sC_isWithin; rw [if_pos h1]
theorem iw_hi {x a b : Int32} (h2 : b < x) : sC_isWithin x a b = 0 := by
  unfold sC_isWithin
  by_cases h1 : x < a
  · rw [if_pos h1]
  · rw [if_neg h1, if_pos h2]
end
section
/-! steps that keep the two states side by side -/
theorem upd2_comm {t : T2} {f g i k : Nat} {x y : Int32} (h : f ≠ g) : upd2 (upd2 t f i x) g k y = upd2 (upd2 t g k y) f i x := by
  funext a b
  simp only [upd2_get]
  by_cases h1 : a = g
  · have h2 : ¬ a = f := fun q => h (q.symm.trans h1)
    simp [h1, h2, Ne.symm h]
  · simp [h1]
theorem SD_row {k k' j : Nat} {τ τ' : T2} (hk : k ≤ k') (h : SD k τ) (e : ∀ g o, o ≠ j + 1 → τ' g o = τ g o) (h10 : τ' 10 (j + 1) = 0 ∨ τ' 10 (j + 1) = 1) (h11 : τ' 11 (j + 1) = 0 ∨ τ' 11 (j + 1) = 1) (h7 : ∃ L, L ≤ k' ∧ τ' 7 (j + 1) = nI L) : SD k' τ' := by
  intro o
  by_cases ho : o = j + 1
  · rw [ho]; exact ⟨h10, h11, h7⟩
  · rw [e 10 o ho, e 11 o ho, e 7 o ho]
    obtain ⟨a, b, L, c, d⟩ := h o
    exact ⟨a, b, L, by omega, d⟩
theorem SD7 {k k' : Nat} {τ : T2} (hk : k ≤ k') (h : SD k τ) (o : Nat) : ∃ L, L ≤ k' ∧ τ 7 o = nI L := by
  obtain ⟨-, -, L, c, d⟩ := h o
  exact ⟨L, by omega, d⟩
/-- a change of a row's fields that the sums don't see -/
theorem alN_row {τ τ' : T2} {o : Nat} (e6 : τ' 6 o = τ 6 o) (e7 : τ' 7 o = τ 7 o) : alN τ' o = alN τ o := by unfold alN; rw [e6, e7]
theorem SG_row {nO j : Nat} {σ τ σ' τ' : T2} (h : SG nO σ τ) (hj : j < nO) (e : ∀ g o, o ≠ j + 1 → τ' g o = τ g o) (ea : alN τ' (j + 1) = alN τ (j + 1)) (e0 : σ' 0 = σ 0) (e1 : σ' 1 = σ 1) (e3 : τ' 0 = τ 0) : SG nO σ' τ' := by
  have e6 : suN τ' nO = suN τ nO := su_congr (fun o _ => by
    by_cases ho : o = j + 1
    · rw [ho]; exact ea
    · exact alN_row (e 6 o ho) (e 7 o ho))
  unfold SG at *
  rw [e0, e1, e3, e6]
  exact h
/-- the state of a row, while it isn't taken and stays there or not: what becomes of the writers -/
theorem SF_row {nO nW j : Nat} {σ τ σ' τ' : T2} (h : SF nO nW σ τ) (e42 : σ' 42 = σ 42) (e18 : τ' 18 = τ 18) (e : ∀ o, o ≠ j + 1 → τ' 6 o = τ 6 o) (hn : ∀ w, w < nW → τ 18 (w + 1) ≠ nI (j + 1) ∨ τ' 6 (j + 1) = 3) : SF nO nW σ' τ' := by
  unfold SF at *
  rw [e42, e18]
  obtain ⟨a, b⟩ := h
  refine ⟨fun w hw => ?_, b⟩
  obtain ⟨c, d⟩ := a w hw
  refine ⟨c, ?_⟩
  rcases d with d | ⟨i, hi, d, d3⟩
  · exact Or.inl d
  · refine Or.inr ⟨i, hi, d, ?_⟩
    by_cases ho : i + 1 = j + 1
    · have : i = j := by omega
      subst this
      rcases hn w hw with q | q
      · exact absurd d q
      · exact q
    · rw [e _ ho]; exact d3
/-- who isn't printing is taken by none -/
theorem Sim.free_of {k nO nW j : Nat} {σ τ : T2} (h : Sim k nO nW σ τ) (hk : k ≤ 512) (hj : j < nO) (h3 : τ 6 (j + 1) ≠ 3) : ∀ w, w < nW → τ 18 (w + 1) ≠ nI (j + 1) := by
  obtain ⟨⟨-, -, a3, -⟩, -, -, -, -, ⟨f1, -⟩, -⟩ := h
  intro w hw q
  obtain ⟨-, d⟩ := f1 w hw
  rcases d with d | ⟨i, hi, d, d3⟩
  · rw [d] at q
    exact nI_ne0 (n := j + 1) (by omega) (by omega) q.symm
  · rw [d] at q
    have : i + 1 = j + 1 := (nI_eq (by omega) (by omega)).mp q
    have : i = j := by omega
    subst this
    exact h3 d3
/-- an output goes: printed or purged -/
theorem Sim.go {k nO nW j : Nat} {σ τ : T2} {x : Int32} (h : Sim k nO nW σ τ) (hk : k ≤ 512) (hj : j < nO) (hx : gvN x = 1) (hal : gvN (τ 6 (j + 1)) = 0) (hf : ∀ w, w < nW → τ 18 (w + 1) ≠ nI (j + 1)) : Sim k nO nW (sC_letGo σ j x) (sM_goes τ (nI (j + 1)) x) := by
  obtain ⟨hA, hB, hC, hD, hE, hF, hG, hH, hIs, hJ⟩ := h
  have hnO := hA.2.2.1
  have e0 : (nI (j + 1)).toNatClampNeg = j + 1 := nI_clamp (by omega)
  have en : vp_nar .boolean 0 = 0 := rfl
  unfold sC_letGo sM_goes
  rw [e0, en]
  have er : ∀ g o, o ≠ j + 1 → (upd2 (upd2 τ 6 (j + 1) x) 11 (j + 1) 0) g o = τ g o := fun g o ho => by rw [upd2_row ho, upd2_row ho]
  refine ⟨SA_c (by omega) hA rfl rfl rfl rfl, ?_, SC_row hC hj er, SD_row (by omega) hD er (hD _).1 (Or.inl upd2_at) (SD7 (by omega) hD _), SE_c hE rfl rfl rfl, SF_row hF rfl rfl (fun o ho => er 6 o ho) (fun w hw => Or.inl (hf w hw)), ?_, SH_c (by omega) hH rfl rfl rfl rfl, SI_c hIs rfl rfl rfl rfl, SJ_c (by omega) hJ rfl rfl rfl rfl rfl rfl⟩
  · intro i hi
    have b := hB i hi
    by_cases e : i = j
    · subst e; simp [upd2_get, b]
    · simp [upd2_get, e, b]
  · obtain ⟨R, r1, r2, r3, r4, r5⟩ := hG
    obtain ⟨-, -, L, hL, eL⟩ := hD (j + 1)
    have b28 : σ 28 j = nI L := by rw [← eL]; exact (hB j hj).2.2.2.2.2.2.2.2.1
    have ha : alN τ (j + 1) = pgN L := by unfold alN; rw [if_pos hal, eL, nI_clamp (by omega)]
    have ha' : alN (upd2 (upd2 τ 6 (j + 1) x) 11 (j + 1) 0) (j + 1) = 0 := by
      unfold alN
      rw [show (upd2 (upd2 τ 6 (j + 1) x) 11 (j + 1) 0) 6 (j + 1) = x by rw [upd2_ne (by decide), upd2_at], hx]
      rfl
    have hs := su_put (τ := τ) (τ' := upd2 (upd2 τ 6 (j + 1) x) 11 (j + 1) 0) hj (fun o ho => alN_row (er 6 o ho) (er 7 o ho))
    rw [ha, ha'] at hs
    refine ⟨R, r1, r2, r3, by omega, ?_⟩
    show σ 1 0 + (σ 28 j + 8 - 1) / 8 = _
    rw [r5, b28, pg_nI (by omega), nI_add]
    congr 1
    omega
/-- a row's state becomes another that is there too -/
theorem Sim.st {k nO nW j : Nat} {σ τ : T2} {x : Int32} (h : Sim k nO nW σ τ) (hj : j < nO) (hx : gvN x = 0) (hal : gvN (τ 6 (j + 1)) = 0) (hf : (∀ w, w < nW → τ 18 (w + 1) ≠ nI (j + 1)) ∨ x = 3) : Sim k nO nW (upd2 σ 26 j x) (upd2 τ 6 (j + 1) x) := by
  obtain ⟨hA, hB, hC, hD, hE, hF, hG, hH, hIs, hJ⟩ := h
  have er : ∀ g o, o ≠ j + 1 → (upd2 τ 6 (j + 1) x) g o = τ g o := fun g o ho => by rw [upd2_row ho]
  refine ⟨SA_c (by omega) hA rfl rfl rfl rfl, ?_, SC_row hC hj er, SD_c (by omega) hD rfl rfl rfl, SE_c hE rfl rfl rfl, SF_row hF rfl rfl (fun o ho => er 6 o ho) (fun w hw => ?_), SG_row hG hj er ?_ rfl rfl rfl, SH_c (by omega) hH rfl rfl rfl rfl, SI_c hIs rfl rfl rfl rfl, SJ_c (by omega) hJ rfl rfl rfl rfl rfl rfl⟩
  · intro i hi
    have b := hB i hi
    by_cases e : i = j
    · subst e; simp [upd2_get, b]
    · simp [upd2_get, e, b]
  · rcases hf with q | q
    · exact Or.inl (q w hw)
    · exact Or.inr (by rw [upd2_at]; exact q)
  · unfold alN
    rw [upd2_at, hx, hal]
    rfl
/-- a writer is idle -/
theorem Sim.idle {k nO nW w : Nat} {σ τ : T2} (h : Sim k nO nW σ τ) (hw : w < nW) : Sim k nO nW (upd2 σ 42 w 0) (upd2 τ 18 (w + 1) 0) := by
  obtain ⟨hA, hB, hC, hD, hE, hF, hG, hH, hIs, hJ⟩ := h
  refine ⟨SA_c (by omega) hA rfl rfl rfl rfl, SB_c hB (fun g _ h2 => upd2_ne (by omega)) (fun g h2 => upd2_ne (by omega)), SC_c hC rfl rfl rfl rfl rfl rfl, SD_c (by omega) hD rfl rfl rfl, SE_c hE rfl rfl rfl, ?_, SG_c hG rfl rfl rfl rfl rfl, SH_c (by omega) hH rfl rfl rfl rfl, SI_c hIs rfl rfl rfl rfl, SJ_c (by omega) hJ rfl rfl rfl rfl rfl rfl⟩
  obtain ⟨a, b, c, d⟩ := hF
  refine ⟨fun v hv => ?_, fun v => ?_, fun v hv => ?_, fun v v' hv hv' hne hq => ?_⟩
  · by_cases e : v = w
    · subst e
      exact ⟨by rw [upd2_at, upd2_at], Or.inl upd2_at⟩
    · rw [upd2_off e, upd2_off (by omega)]
      exact a v hv
  · by_cases e : v = w + 1
    · rw [e, upd2_at]; exact in_0
    · rw [upd2_off e]; exact b v
  · by_cases e : v = w + 1
    · omega
    · rw [upd2_off e]; exact c v hv
  · by_cases e : v = w
    · subst e; exact upd2_at
    · by_cases e' : v' = w
      · subst e'
        rw [upd2_at] at hq
        exact hq
      · rw [upd2_off (by omega)] at hq ⊢
        rw [upd2_off (by omega)] at hq
        exact d v v' hv hv' hne hq
/-- pages are printed -/
theorem Sim.pr {k nO nW j : Nat} {σ τ : T2} {x y : Int32} (h : Sim k nO nW σ τ) (hj : j < nO) : Sim k nO nW (upd2 (upd2 σ 31 j x) 11 0 y) (upd2 (upd2 τ 9 (j + 1) x) 22 0 y) := by
  obtain ⟨hA, hB, hC, hD, hE, hF, hG, hH, hIs, hJ⟩ := h
  refine ⟨SA_c (by omega) hA rfl rfl rfl rfl, ?_, ?_, SD_c (by omega) hD rfl rfl rfl, SE_c hE rfl rfl rfl, SF_c hF rfl rfl rfl, SG_c hG rfl rfl rfl rfl rfl, SH_c (by omega) hH rfl rfl rfl rfl, ⟨rfl, hIs.2⟩, SJ_c (by omega) hJ rfl rfl rfl rfl rfl rfl⟩
  · intro i hi
    have b := hB i hi
    by_cases e : i = j
    · subst e; simp [upd2_get, b]
    · simp [upd2_get, e, b]
  · have := SC_row (τ' := upd2 τ 9 (j + 1) x) hC hj (fun g o ho => by rw [upd2_row ho])
    exact SC_c this rfl rfl rfl rfl rfl rfl
/-- pages are taken back -/
theorem Sim.ag {k nO nW j : Nat} {σ τ : T2} {x y : Int32} (h : Sim k nO nW σ τ) (hj : j < nO) : Sim k nO nW (upd2 (upd2 σ 12 0 y) 31 j x) (upd2 (upd2 τ 23 0 y) 9 (j + 1) x) := by
  obtain ⟨hA, hB, hC, hD, hE, hF, hG, hH, hIs, hJ⟩ := h
  refine ⟨SA_c (by omega) hA rfl rfl rfl rfl, ?_, ?_, SD_c (by omega) hD rfl rfl rfl, SE_c hE rfl rfl rfl, SF_c hF rfl rfl rfl, SG_c hG rfl rfl rfl rfl rfl, SH_c (by omega) hH rfl rfl rfl rfl, ⟨hIs.1, rfl⟩, SJ_c (by omega) hJ rfl rfl rfl rfl rfl rfl⟩
  · intro i hi
    have b := hB i hi
    by_cases e : i = j
    · subst e; simp [upd2_get, b]
    · simp [upd2_get, e, b]
  · have := SC_c (τ' := upd2 τ 23 0 y) hC rfl rfl rfl rfl rfl rfl
    exact SC_row this hj (fun g o ho => by rw [upd2_row ho])
/-- one more in the order -/
theorem Sim.note {k nO nW j : Nat} {σ τ : T2} (h : Sim k nO nW σ τ) (hk : k < 512) (hj : j < nO) : Sim (k + 1) nO nW (sC_noteInOrder σ j) (upd2 (upd2 τ 20 (τ 21 0).toNatClampNeg (nI (j + 1))) 21 0 (τ 21 0 + 1)) := by
  obtain ⟨hA, hB, hC, hD, hE, hF, hG, ⟨F, hF1, h7, h21, h6⟩, hIs, hJ⟩ := h
  have h20 := (hB j hj).1
  unfold sC_noteInOrder
  rw [h7, h21, h20, if_neg (show ¬ (1000 : Int32) ≤ nI F from nI_ge (a := F) (b := 1000) (by omega) (by decide)), nI_clamp (by omega), nI_1]
  refine ⟨SA_c (by omega) hA rfl rfl rfl rfl, SB_c hB (fun g _ h2 => by rw [upd2_ne (by omega), upd2_ne (by omega)]) (fun g h2 => by rw [upd2_ne (by omega), upd2_ne (by omega)]), SC_c hC rfl rfl rfl rfl rfl rfl, SD_c (by omega) hD rfl rfl rfl, SE_c hE rfl rfl rfl, SF_c hF rfl rfl rfl, SG_c hG rfl rfl rfl rfl rfl, ?_, SI_c hIs rfl rfl rfl rfl, SJ_c (by omega) hJ rfl rfl rfl rfl rfl rfl⟩
  refine ⟨F + 1, by omega, rfl, rfl, fun i hi => ?_⟩
  show (upd2 σ 6 F (nI (j + 1))) 6 i = (upd2 τ 20 F (nI (j + 1))) 20 i
  by_cases e : i = F
  · subst e; rw [upd2_at, upd2_at]
  · rw [upd2_off e, upd2_off e]; exact h6 i (by omega)
/-- the reference's free pages are the class's -/
theorem free_F {τ : T2} {R n : Nat} (hD : ∀ o, ∃ L, L ≤ 512 ∧ τ 7 o = nI L) (hn : n ≤ 1000) (hR : R ≤ 65536) (h0 : τ 0 0 = nI R) (hs : suN τ n ≤ R) : sM_free_F τ n = nI (R - suN τ n) := by
  induction n with
  | zero => exact h0
  | succ n ih =>
    have hs' : suN τ n + alN τ (n + 1) ≤ R := hs
    have ih := ih (by omega) (by omega)
    obtain ⟨L, hL, eL⟩ := hD (n + 1)
    show sM_free_s τ n (sM_free_F τ n) = nI (R - (suN τ n + alN τ (n + 1)))
    rw [ih]
    unfold sM_free_s
    rw [sM_gone_eq, nI_clamp (by omega)]
    unfold alN at hs' ⊢
    by_cases hg : gvN (τ 6 (n + 1)) = 0
    · rw [if_pos hg] at hs' ⊢
      rw [if_pos hg]
      show nI (R - suN τ n) - (τ 7 (nI (n + 1)).toNatClampNeg + 8 - 1) / 8 = _
      rw [eL, nI_clamp (by omega)] at hs'
      rw [nI_clamp (by omega), eL, pg_nI (by omega), nI_clamp (by omega), pk_sub (by omega)]
      congr 1
      omega
    · rw [if_neg hg] at hs' ⊢
      rw [if_neg hg]
      show nI (R - suN τ n) - nI 0 = _
      rw [pk_sub (by omega)]
      rfl
theorem Sim.fr {k nO nW : Nat} {σ τ : T2} (h : Sim k nO nW σ τ) (hk : k ≤ 512) : sM_free τ = σ 1 0 := by
  obtain ⟨⟨-, a1, a2, -⟩, -, -, hD, -, -, ⟨R, r1, r2, r3, r4, r5⟩, -⟩ := h
  show sM_free_F τ (τ 13 0).toNatClampNeg = _
  rw [a1, nI_clamp (by omega), r5]
  exact free_F (fun o => by obtain ⟨-, -, L, c, d⟩ := hD o; exact ⟨L, by omega, d⟩) (by omega) r1 r2 r4
end
section
/-! the calls: equal answers, and the states stay side by side -/
def osN (x : Int32) : Int32 := if x = 1 then 1 else if x = 2 then 1 else 0
theorem sM_still_eq (τ : T2) (p : Int32) : sM_isStill τ p = osN (τ 6 p.toNatClampNeg) := rfl
theorem sO_open_eq (σ : T2) (j : Nat) : sO_isOpenOrReleased σ j = osN (σ 26 j) := rfl
theorem os_gv {x : Int32} (h : ¬ osN x = 0) : gvN x = 0 := by
  unfold osN at h
  by_cases h1 : x = 1
  · subst h1; rfl
  · rw [if_neg h1] at h
    by_cases h2 : x = 2
    · subst h2; rfl
    · rw [if_neg h2] at h; exact absurd rfl h
theorem i_ssub {a b : Int32} : a - (a - b) = b := by rw [Int32.sub_eq_iff_eq_add, Int32.add_comm, Int32.sub_add_cancel]
theorem st_limit {k nO nW : Nat} {σ τ : T2} (h : Sim k nO nW σ τ) (hk : k < 512) (p0 p1 p2 : Int32) (hp2 : p2 = 0 ∨ p2 = 1) : Same (k + 1) nO nW (sC_limit σ p0 p1 p2) (sM_limit τ p0 p1 p2) := by
  unfold sC_limit sM_limit
  rcases h.out (by omega) p0 with ⟨h1, h2⟩ | ⟨j, hj, -, h1, h2, e1, e2⟩
  · rw [if_pos h1, if_pos h2]; exact same_of h.mono
  · rw [if_neg h1, if_neg h2]
    by_cases h3 : 0 ≤ p1
    · rw [if_pos h3, if_pos h3, sM_gone_eq, sO_gone_eq, e1, e2, nar_b hp2, (h.2.1 j hj).2.2.2.2.2.2.1]
      by_cases h4 : gvN (τ 6 (j + 1)) = 0
      · rw [if_pos h4, if_pos h4]
        obtain ⟨hA, hB, hC, hD, hE, hF, hG, hH, hIs, hJ⟩ := h
        have er : ∀ g o, o ≠ j + 1 → (upd2 (upd2 τ 8 (j + 1) p1) 10 (j + 1) p2) g o = τ g o := fun g o ho => by rw [upd2_row ho, upd2_row ho]
        refine same_of ⟨SA_c (by omega) hA rfl rfl rfl rfl, ?_, SC_row hC hj er, SD_row (by omega) hD er (by rw [upd2_at]; exact hp2) (hD _).2.1 (SD7 (by omega) hD _), SE_c hE rfl rfl rfl, SF_c hF rfl rfl rfl, SG_c hG rfl rfl rfl rfl rfl, SH_c (by omega) hH rfl rfl rfl rfl, SI_c hIs rfl rfl rfl rfl, SJ_c (by omega) hJ rfl rfl rfl rfl rfl rfl⟩
        intro i hi
        have b := hB i hi
        by_cases e : i = j
        · subst e; simp [upd2_get, b]
        · simp [upd2_get, e, b]
      · rw [if_neg h4, if_neg h4]; exact same_of h.mono
    · rw [if_neg h3, if_neg h3]; exact same_of h.mono
theorem st_hold {k nO nW : Nat} {σ τ : T2} (h : Sim k nO nW σ τ) (hk : k < 512) (p0 p1 : Int32) (hp1 : p1 = 0 ∨ p1 = 1) : Same (k + 1) nO nW (sC_hold σ p0 p1) (sM_hold τ p0 p1) := by
  unfold sC_hold sM_hold
  rcases h.out (by omega) p0 with ⟨h1, h2⟩ | ⟨j, hj, -, h1, h2, e1, e2⟩
  · rw [if_pos h1, if_pos h2]; exact same_of h.mono
  · rw [if_neg h1, if_neg h2, sM_still_eq, sO_open_eq, e1, e2, nar_b hp1, (h.2.1 j hj).2.2.2.2.2.2.1, (h.2.1 j hj).2.2.2.2.2.2.2.1]
    by_cases h4 : osN (τ 6 (j + 1)) = 0
    · rw [if_pos h4, if_pos h4]; exact same_of h.mono
    · rw [if_neg h4, if_neg h4]
      have hs : Sim (k + 1) nO nW (upd2 σ 27 j p1) (upd2 τ 11 (j + 1) p1) := by
        obtain ⟨hA, hB, hC, hD, hE, hF, hG, hH, hIs, hJ⟩ := h
        have er : ∀ g o, o ≠ j + 1 → (upd2 τ 11 (j + 1) p1) g o = τ g o := fun g o ho => by rw [upd2_row ho]
        refine ⟨SA_c (by omega) hA rfl rfl rfl rfl, ?_, SC_row hC hj er, SD_row (by omega) hD er (hD _).1 (by rw [upd2_at]; exact hp1) (SD7 (by omega) hD _), SE_c hE rfl rfl rfl, SF_c hF rfl rfl rfl, SG_c hG rfl rfl rfl rfl rfl, SH_c (by omega) hH rfl rfl rfl rfl, SI_c hIs rfl rfl rfl rfl, SJ_c (by omega) hJ rfl rfl rfl rfl rfl rfl⟩
        intro i hi
        have b := hB i hi
        by_cases e : i = j
        · subst e; simp [upd2_get, b]
        · simp [upd2_get, e, b]
      by_cases h5 : τ 11 (j + 1) = 0
      · rw [if_pos h5, if_pos h5]; exact same_of hs
      · rw [if_neg h5, if_neg h5]; exact same_of hs
theorem st_route {k nO nW : Nat} {σ τ : T2} (h : Sim k nO nW σ τ) (hk : k < 512) (p0 p1 : Int32) : Same (k + 1) nO nW (sC_route σ p0 p1) (sM_route τ p0 p1) := by
  unfold sC_route sM_route
  rcases h.out (by omega) p0 with ⟨h1, h2⟩ | ⟨j, hj, -, h1, h2, e1, e2⟩
  · rw [if_pos h1, if_pos h2]; exact same_of h.mono
  · rw [if_neg h1, if_neg h2]
    by_cases h3 : p1 < 0
    · rw [if_pos h3, if_pos (iw_lo h3)]; exact same_of h.mono
    · rw [if_neg h3]
      by_cases h6 : p1 ≤ 63
      · rw [if_pos h6, if_neg (by rw [iw_ok h3 (i_nle h6)]; decide), sM_still_eq, sO_open_eq, e1, e2, (h.2.1 j hj).2.2.2.2.2.2.1, (h.2.1 j hj).2.2.2.2.1, (h.2.1 j hj).2.2.2.2.2.1]
        by_cases h4 : osN (τ 6 (j + 1)) = 0
        · rw [if_pos h4, if_pos h4]; exact same_of h.mono
        · rw [if_neg h4, if_neg h4, Int32.mul_comm 8]
          obtain ⟨hA, hB, hC, hD, hE, hF, hG, hH, hIs, hJ⟩ := h
          refine same_of ⟨SA_c (by omega) hA rfl rfl rfl rfl, ?_, SC_c hC rfl rfl rfl rfl rfl rfl, SD_c (by omega) hD rfl rfl rfl, SE_c hE rfl rfl rfl, SF_c hF rfl rfl rfl, SG_c hG rfl rfl rfl rfl rfl, SH_c (by omega) hH rfl rfl rfl rfl, SI_c hIs rfl rfl rfl rfl, SJ_c (by omega) hJ rfl rfl rfl rfl rfl rfl⟩
          intro i hi
          have b := hB i hi
          by_cases e : i = j
          · subst e; simp [upd2_get, b]
          · simp [upd2_get, e, b]
      · rw [if_neg h6, if_pos (iw_hi (i_nlt h6))]; exact same_of h.mono
theorem st_purge {k nO nW : Nat} {σ τ : T2} (h : Sim k nO nW σ τ) (hk : k < 512) (p0 : Int32) : Same (k + 1) nO nW (sC_purge σ p0) (sM_purge τ p0) := by
  unfold sC_purge sM_purge
  rcases h.out (by omega) p0 with ⟨h1, h2⟩ | ⟨j, hj, ep, h1, h2, e1, e2⟩
  · rw [if_pos h1, if_pos h2]; exact same_of h.mono
  · rw [if_neg h1, if_neg h2, sM_gone_eq, sO_gone_eq, e1, e2, (h.2.1 j hj).2.2.2.2.2.2.1]
    by_cases h4 : gvN (τ 6 (j + 1)) = 0
    · rw [if_pos h4, if_pos h4]
      by_cases h5 : τ 6 (j + 1) = 3
      · rw [if_pos h5, if_pos h5, show vp_nar .boolean 1 = 1 from rfl]
        obtain ⟨hA, hB, hC, hD, hE, hF, hG, hH, hIs, hJ⟩ := h
        refine same_of ⟨SA_c (by omega) hA rfl rfl rfl rfl, ?_, SC_row hC hj (fun g o ho => by rw [upd2_row ho]), SD_c (by omega) hD rfl rfl rfl, SE_c hE rfl rfl rfl, SF_c hF rfl rfl rfl, SG_c hG rfl rfl rfl rfl rfl, SH_c (by omega) hH rfl rfl rfl rfl, SI_c hIs rfl rfl rfl rfl, SJ_c (by omega) hJ rfl rfl rfl rfl rfl rfl⟩
        intro i hi
        have b := hB i hi
        by_cases e : i = j
        · subst e; simp [upd2_get, b]
        · simp [upd2_get, e, b]
      · rw [if_neg h5, if_neg h5, ep]
        exact same_of (h.go (by omega) hj gvN_5 h4 (h.free_of (by omega) hj h5)).mono
    · rw [if_neg h4, if_neg h4]; exact same_of h.mono
theorem st_cut {k nO nW : Nat} {σ τ : T2} (h : Sim k nO nW σ τ) (hk : k < 512) (p0 : Int32) : Same (k + 1) nO nW (sC_cut σ p0) (sM_cut τ p0) := by
  unfold sC_cut sM_cut
  rcases h.wr p0 with ⟨h1, h2⟩ | ⟨w, hw, ep, h1, h2, e1, e2⟩
  · rw [if_pos h1, if_pos h2]; exact same_of h.mono
  · rw [if_neg h1, if_neg h2, e1, e2]
    obtain ⟨f0, f1⟩ := h.2.2.2.2.2.1.1 w hw
    have hnO := h.1.2.2.1
    rw [f0]
    rcases f1 with f1 | ⟨j, hj, f1, f3⟩
    · rw [if_pos f1, if_pos f1]; exact same_of h.mono
    · have h18 : ¬ τ 18 (w + 1) = 0 := by rw [f1]; exact nI_ne0 (by omega) (by omega)
      rw [if_neg h18, if_neg h18, f1, nI_back (by omega), nI_clamp (by omega)]
      have b := h.2.1 j hj
      have b31 := b.2.2.2.2.2.2.2.2.2.2.2.1
      have b32 := b.2.2.2.2.2.2.2.2.2.2.2.2
      have hl : sO_lastCheckpoint σ j = τ 9 (j + 1) / 4 * 4 := by
        unfold sO_lastCheckpoint
        rw [b31, i_ssub]
      rw [hl, b31, b32, h.2.2.2.2.2.2.2.2.1.2]
      by_cases h5 : τ 12 (j + 1) = 0
      · rw [if_pos h5, if_pos h5]
        exact same_of (h.ag hj).mono
      · rw [if_neg h5, if_neg h5]
        refine same_of ?_
        have h6 := (h.idle hw).go (x := 5) (by omega) hj gvN_5 (by show gvN (τ 6 (j + 1)) = 0; rw [f3]; rfl) (fun v hv q => ?_)
        · have h7 : upd2 (sM_goes τ (nI (j + 1)) 5) 18 (w + 1) 0 = sM_goes (upd2 τ 18 (w + 1) 0) (nI (j + 1)) 5 := by
            unfold sM_goes
            rw [upd2_comm (f := 11) (g := 18) (by decide), upd2_comm (f := 6) (g := 18) (by decide)]
          rw [h7]
          exact h6.mono
        · by_cases e : v = w
          · rw [e, upd2_at] at q
            exact nI_ne0 (n := j + 1) (by omega) (by omega) q.symm
          · rw [upd2_off (by omega)] at q
            have := h.2.2.2.2.2.1.2.2.2 v w hv hw e (q.trans f1.symm)
            rw [this] at q
            exact nI_ne0 (n := j + 1) (by omega) (by omega) q.symm
theorem ii_le {x y : Int32} : ¬ x < y ↔ y ≤ x := by
  rw [Int32.lt_iff_toInt_lt, Int32.le_iff_toInt_le]
  omega
theorem ii_rfl {x : Int32} : x ≤ x := by
  rw [Int32.le_iff_toInt_le]
  omega
theorem i_sub0 {a b c : Int32} : a * b - (c + (a * b - c)) = 0 := by
  rw [Int32.add_comm, Int32.sub_add_cancel, Int32.sub_self]
theorem i_subn {l c n : Int32} (h : l - (c + n) = 0) : l - c = n := by
  have h2 : l - (c + n) + (c + n) = 0 + (c + n) := by rw [h]
  rw [Int32.sub_add_cancel, Int32.zero_add] at h2
  rw [h2, Int32.add_comm, Int32.add_sub_cancel]
/-- an output is wholly printed -/
theorem Sim.done {k nO nW j w : Nat} {σ τ : T2} (h : Sim k nO nW σ τ) (hk : k < 512) (hj : j < nO) (hw : w < nW) (f1 : τ 18 (w + 1) = nI (j + 1)) (f3 : τ 6 (j + 1) = 3) : Sim (k + 1) nO nW (sC_letGo (sC_noteInOrder (upd2 σ 42 w 0) j) j 4) (upd2 (upd2 (upd2 (sM_goes τ (nI (j + 1)) 4) 20 (τ 21 0).toNatClampNeg (nI (j + 1))) 21 0 (τ 21 0 + 1)) 18 (w + 1) 0) := by
  have hnO := h.1.2.2.1
  have h1 := (h.idle hw).note hk hj
  have h2 := h1.go (x := 4) (by omega) hj gvN_4 (by show gvN (τ 6 (j + 1)) = 0; rw [f3]; rfl) (fun v hv q => ?_)
  · have e : upd2 (upd2 (upd2 (sM_goes τ (nI (j + 1)) 4) 20 (τ 21 0).toNatClampNeg (nI (j + 1))) 21 0 (τ 21 0 + 1)) 18 (w + 1) 0 = sM_goes (upd2 (upd2 (upd2 τ 18 (w + 1) 0) 20 ((upd2 τ 18 (w + 1) 0) 21 0).toNatClampNeg (nI (j + 1))) 21 0 ((upd2 τ 18 (w + 1) 0) 21 0 + 1)) (nI (j + 1)) 4 := by
      show _ = sM_goes (upd2 (upd2 (upd2 τ 18 (w + 1) 0) 20 (τ 21 0).toNatClampNeg (nI (j + 1))) 21 0 (τ 21 0 + 1)) (nI (j + 1)) 4
      unfold sM_goes
      rw [upd2_comm (f := 21) (g := 18) (by decide), upd2_comm (f := 20) (g := 18) (by decide), upd2_comm (f := 11) (g := 18) (by decide), upd2_comm (f := 6) (g := 18) (by decide), upd2_comm (f := 11) (g := 20) (by decide), upd2_comm (f := 6) (g := 20) (by decide), upd2_comm (f := 11) (g := 21) (by decide), upd2_comm (f := 6) (g := 21) (by decide)]
    rw [e]
    exact h2
  · have q : (upd2 τ 18 (w + 1) 0) 18 (v + 1) = nI (j + 1) := q
    by_cases e : v = w
    · rw [e, upd2_at] at q
      exact nI_ne0 (n := j + 1) (by omega) (by omega) q.symm
    · rw [upd2_off (by omega)] at q
      have := h.2.2.2.2.2.1.2.2.2 v w hv hw e (q.trans f1.symm)
      rw [this] at q
      exact nI_ne0 (n := j + 1) (by omega) (by omega) q.symm
theorem st_print {k nO nW : Nat} {σ τ : T2} (h : Sim k nO nW σ τ) (hk : k < 512) (p0 p1 : Int32) : Same (k + 1) nO nW (sC_print σ p0 p1) (sM_print τ p0 p1) := by
  unfold sC_print sM_print
  rcases h.wr p0 with ⟨h1, h2⟩ | ⟨w, hw, ep, h1, h2, e1, e2⟩
  · rw [if_pos h1, if_pos h2]; exact same_of h.mono
  · rw [if_neg h1, if_neg h2, e1, e2]
    by_cases h3 : 0 ≤ p1
    · rw [if_pos h3, if_pos h3]
      obtain ⟨f0, f1⟩ := h.2.2.2.2.2.1.1 w hw
      have hnO := h.1.2.2.1
      rw [f0]
      rcases f1 with f1 | ⟨j, hj, f1, f3⟩
      · rw [if_pos f1, if_pos f1]; exact same_of h.mono
      · have h18 : ¬ τ 18 (w + 1) = 0 := by rw [f1]; exact nI_ne0 (by omega) (by omega)
        rw [if_neg h18, if_neg h18, f1, nI_back (by omega), nI_clamp (by omega)]
        have b := h.2.1 j hj
        have b23 := b.2.2.2.1
        have b28 := b.2.2.2.2.2.2.2.2.1
        have b31 := b.2.2.2.2.2.2.2.2.2.2.2.1
        have hp : sM_pagesOf τ (nI (j + 1)) = (τ 7 (j + 1) + 8 - 1) / 8 := by
          unfold sM_pagesOf
          rw [nI_clamp (by omega)]
        have hl : sO_pagesToPrint σ j = sM_pagesOf τ (nI (j + 1)) * τ 3 (j + 1) - τ 9 (j + 1) := by
          unfold sO_pagesToPrint sO_pageCount
          rw [hp, b23, b28, b31]
        have hl2 : ∀ n y : Int32, sO_pagesToPrint (upd2 (upd2 σ 31 j n) 11 0 y) j = sM_pagesOf τ (nI (j + 1)) * τ 3 (j + 1) - n := by
          intro n y
          show sO_pageCount σ j * σ 23 j - (upd2 σ 31 j n) 31 j = _
          rw [upd2_at]
          unfold sO_pageCount
          rw [hp, b23, b28]
        rw [hl, hl2, b31, h.2.2.2.2.2.2.2.2.1.1]
        generalize hM : sM_pagesOf τ (nI (j + 1)) * τ 3 (j + 1) = M
        by_cases h5 : M - τ 9 (j + 1) ≤ p1
        · rw [if_pos h5, if_pos ii_rfl]
          have h6 : (if M - τ 9 (j + 1) < p1 then M - τ 9 (j + 1) else p1) = M - τ 9 (j + 1) := by
            by_cases h7 : M - τ 9 (j + 1) < p1
            · rw [if_pos h7]
            · rw [if_neg h7]
              rw [Int32.le_iff_toInt_le] at h5
              rw [Int32.lt_iff_toInt_lt] at h7
              exact Int32.toInt_inj.mp (by omega)
          rw [h6, if_pos (by rw [Int32.add_comm, Int32.sub_add_cancel, Int32.sub_self])]
          have h8 := (h.pr (x := τ 9 (j + 1) + (M - τ 9 (j + 1))) (y := τ 22 0 + (M - τ 9 (j + 1))) hj).done hk hj hw f1 f3
          exact same_of h8
        · rw [if_neg h5]
          have h7 : ¬ M - τ 9 (j + 1) < p1 := fun q => h5 (by
            rw [Int32.lt_iff_toInt_lt] at q
            rw [Int32.le_iff_toInt_le]
            omega)
          rw [if_neg h7, if_neg (fun q => h5 (by rw [i_subn q]; exact ii_rfl))]
          exact same_of (h.pr hj).mono
    · rw [if_neg h3, if_neg h3]; exact same_of h.mono
end
section
/-! calls that change nothing -/
theorem tc_nat {p : Int32} : p.toNatClampNeg = p.toInt.toNat := rfl
theorem st_order {k nO nW : Nat} {σ τ : T2} (h : Sim k nO nW σ τ) (hk : k ≤ 512) (p : Int32) : sC_order σ p = sM_order τ p := by
  obtain ⟨F, h1, h7, h21, h6⟩ := h.2.2.2.2.2.2.2.1
  unfold sC_order sM_order
  rw [h7, h21]
  have hs : (nI F - 1).toInt = (F : Int) - 1 := by
    rw [show nI F - 1 = nI F - nI 1 from rfl, pk_sub_toInt (by omega) (by omega)]
    rfl
  by_cases h2 : p < 0
  · rw [if_pos h2, if_pos (iw_lo h2)]
  · rw [if_neg h2]
    have h2' := h2
    rw [Int32.lt_iff_toInt_lt, i32_0] at h2'
    by_cases h3 : nI F ≤ p
    · rw [if_pos h3, if_pos (iw_hi ?_)]
      rw [Int32.le_iff_toInt_le, nI_toInt (by omega)] at h3
      rw [Int32.lt_iff_toInt_lt, hs]
      omega
    · rw [if_neg h3, if_neg]
      · rw [Int32.le_iff_toInt_le, nI_toInt (by omega)] at h3
        exact h6 _ (by rw [tc_nat]; omega)
      · rw [Int32.le_iff_toInt_le, nI_toInt (by omega)] at h3
        rw [iw_ok h2 (fun q => by rw [Int32.lt_iff_toInt_lt, hs] at q; omega)]
        decide
theorem st_state {k nO nW : Nat} {σ τ : T2} (h : Sim k nO nW σ τ) (hk : k ≤ 512) (p0 p1 : Int32) : sC_state σ p0 p1 = sM_state τ p0 p1 := by
  unfold sC_state sM_state
  rcases h.out hk p0 with ⟨h1, h2⟩ | ⟨j, hj, ep, h1, h2, e1, e2⟩
  · rw [if_pos h1, if_pos h2]
  · obtain ⟨b0, b1, b2, b3, b4, b5, b6, b7, b8, b9, b10, b11, b12⟩ := h.2.1 j hj
    have hp : sM_pagesOf τ p0 = sO_pageCount σ j := by
      unfold sM_pagesOf sO_pageCount
      rw [e2, b8]
    rw [if_neg h1, if_neg h2, e1, e2, hp]
    unfold sO_copiesLeft
    rw [b1, b3, b6, b7, b8, b11, Int32.add_zero]
theorem cnt_F {k nO nW : Nat} {σ τ : T2} (h : Sim k nO nW σ τ) (hk : k ≤ 512) (p : Int32) (n : Nat) (hn : n ≤ nO) : sC_outputsThere_F σ n = sM_count_F τ p n := by
  have hnO := h.1.2.2.1
  induction n with
  | zero => rfl
  | succ n ih =>
    show sC_outputsThere_s σ n (sC_outputsThere_F σ n) = sM_count_s τ p n (sM_count_F τ p n)
    rw [ih (by omega)]
    unfold sC_outputsThere_s sM_count_s
    rw [sO_gone_eq, sM_gone_eq, nI_clamp (by omega), nI_clamp (by omega), (h.2.1 n (by omega)).2.2.2.2.2.2.1, Int32.add_zero]
theorem st_count {k nO nW : Nat} {σ τ : T2} (h : Sim k nO nW σ τ) (hk : k ≤ 512) (p : Int32) : sC_count σ p = sM_count τ p := by
  unfold sC_count sM_count sM_count_x sC_outputsThere sC_outputsThere_x
  have hA := h.1
  have hnO := hA.2.2.1
  rw [h.fr hk, hA.1, hA.2.1, nI_clamp (by omega), cnt_F h hk p nO (Nat.le_refl _), hA.2.2.2.1, hA.2.2.2.2.1, h.2.2.2.2.2.2.2.2.1.1, h.2.2.2.2.2.2.2.2.1.2]
theorem ct_congr {P Q : Int32 → Int32 → Bool} {s s' o o' : Nat → Int32} {n : Nat} (h : ∀ i, i < n → P (s' i) (o' i) = Q (s i) (o i)) : ctN P s' o' n = ctN Q s o n := by
  induction n with
  | zero => rfl
  | succ n ih =>
    show (if P (s' n) (o' n) = true then ctN P s' o' n + 1 else ctN P s' o' n) = if Q (s n) (o n) = true then ctN Q s o n + 1 else ctN Q s o n
    rw [ih (fun i hi => h i (by omega)), h n (by omega)]
theorem sch_C {σ : T2} {p : Int32} {n : Nat} (hn : n ≤ 1000) : sC_search_F σ p n = ctN (fun s o => decide (s = p) && !decide (sC_isThere σ o = 0)) (σ 8) (σ 9) n := by
  induction n with
  | zero => rfl
  | succ n ih =>
    show sC_search_s σ p n (sC_search_F σ p n) = if (decide (σ 8 n = p) && !decide (sC_isThere σ (σ 9 n) = 0)) = true then _ + 1 else _
    rw [ih (by omega)]
    unfold sC_search_s
    rw [nI_clamp (by omega)]
    by_cases h1 : σ 8 n = p <;> by_cases h2 : sC_isThere σ (σ 9 n) = 0 <;> simp [h1, h2]
theorem sch_M {τ : T2} {p : Int32} {n : Nat} (hn : n ≤ 1100) : sM_search_F τ p n = ctN (fun s o => decide (s = p) && decide (sM_isGone τ o = 0)) (τ 15) (τ 14) n := by
  induction n with
  | zero => rfl
  | succ n ih =>
    show sM_search_s τ p n (sM_search_F τ p n) = if (decide (τ 15 n = p) && decide (sM_isGone τ (τ 14 n) = 0)) = true then _ + 1 else _
    rw [ih (by omega)]
    unfold sM_search_s
    rw [nI_clamp (by omega)]
    by_cases h1 : τ 15 n = p <;> by_cases h2 : sM_isGone τ (τ 14 n) = 0 <;> simp [h1, h2]
theorem there_eq {k nO nW j : Nat} {σ τ : T2} (h : Sim k nO nW σ τ) (hk : k ≤ 512) (hj : j < nO) : (!decide (sC_isThere σ (nI (j + 1)) = 0)) = decide (sM_isGone τ (nI (j + 1)) = 0) := by
  have hnO := h.1.2.2.1
  rcases h.out hk (nI (j + 1)) with ⟨h1, h2⟩ | ⟨i, hi, ep, h1, h2, e1, e2⟩
  · exfalso
    unfold sM_isOutput at h2
    rw [h.1.2.1, if_neg (nI_nle (by omega) (by omega)), if_neg (nI_nlt (by omega) (by omega))] at h2
    exact absurd h2 (by decide)
  · rw [nI_back (by omega)] at e1
    subst e1
    unfold sC_isThere
    rw [if_neg h1, sM_gone_eq, sO_gone_eq, nI_back (by omega), nI_clamp (by omega), (h.2.1 j hj).2.2.2.2.2.2.1]
    by_cases h3 : gvN (τ 6 (j + 1)) = 0
    · simp [h3]
    · simp [h3]
theorem st_search {k nO nW : Nat} {σ τ : T2} (h : Sim k nO nW σ τ) (hk : k ≤ 512) (p : Int32) : sC_search σ p = sM_search τ p := by
  obtain ⟨A, K, j1, j2, j3, j4, j5, j6, j7⟩ := h.2.2.2.2.2.2.2.2.2
  have hnO := h.1.2.2.1
  unfold sC_search sM_search
  by_cases h1 : p < 0
  · rw [if_pos h1, if_pos (iw_lo h1)]
  · rw [if_neg h1]
    by_cases h2 : p ≤ 255
    · rw [if_pos h2, if_neg (by rw [iw_ok h1 (i_nle h2)]; decide)]
      unfold sC_search_x sM_search_x
      rw [j3, j4, nI_clamp (by omega), nI_clamp (by omega), sch_C (by omega), sch_M (by omega), ← j7 _ (fun o => ?_)]
      · refine ct_congr (fun i hi => ?_)
        obtain ⟨j, hj, e⟩ := j6 i hi
        show (decide (σ 8 i = p) && !decide (sC_isThere σ (σ 9 i) = 0)) = (decide (σ 8 i = p) && decide (sM_isGone τ (σ 9 i) = 0))
        rw [e, there_eq h hk hj]
      · have : ¬ ((-1 : Int32) = p) := fun q => h1 (by rw [← q]; decide)
        simp [this]
    · rw [if_neg h2, if_pos (iw_hi (i_nlt h2))]
end
section
/-! line -/
theorem SJ_skip {k nO : Nat} {σ τ σ' τ' : T2} {o : Int32} (h : SJ k nO σ τ) (hk : k ≤ 512) (ho : ∃ j, j < nO ∧ o = nI (j + 1)) (e8 : σ' 8 = σ 8) (e9 : σ' 9 = σ 9) (e10 : σ' 10 = σ 10) (e14 : τ' 14 = upd (τ 14) (τ 16 0).toNatClampNeg o) (e15 : τ' 15 = upd (τ 15) (τ 16 0).toNatClampNeg (-1)) (e16 : τ' 16 0 = τ 16 0 + 1) : SJ (k + 1) nO σ' τ' := by
  obtain ⟨A, K, j1, j2, j3, j4, j5, j6, j7⟩ := h
  rw [j3, nI_clamp (by omega)] at e14 e15
  refine ⟨A + 1, K, by omega, by omega, by rw [e16, j3, nI_1], by rw [e10]; exact j4, fun a ha => ?_, by rw [e9]; exact j6, fun P hP => ?_⟩
  · rw [e14]
    by_cases e : a = A
    · subst e; rw [pk_us]; exact ho
    · rw [pk_un e]; exact j5 a (by omega)
  · rw [e8, e9, e14, e15, j7 P hP]
    show _ = if P (upd (τ 15) A (-1) A) (upd (τ 14) A o A) = true then _ + 1 else _
    rw [pk_us, hP, if_neg (by decide)]
    refine (ct_congr (fun i hi => ?_)).symm
    rw [pk_un (by omega), pk_un (by omega)]
theorem SJ_keep {k nO : Nat} {σ τ σ' τ' : T2} {o s : Int32} (h : SJ k nO σ τ) (hk : k ≤ 512) (ho : ∃ j, j < nO ∧ o = nI (j + 1)) (e8 : σ' 8 = upd (σ 8) (σ 10 0).toNatClampNeg s) (e9 : σ' 9 = upd (σ 9) (σ 10 0).toNatClampNeg o) (e10 : σ' 10 0 = σ 10 0 + 1) (e14 : τ' 14 = upd (τ 14) (τ 16 0).toNatClampNeg o) (e15 : τ' 15 = upd (τ 15) (τ 16 0).toNatClampNeg s) (e16 : τ' 16 0 = τ 16 0 + 1) : SJ (k + 1) nO σ' τ' := by
  obtain ⟨A, K, j1, j2, j3, j4, j5, j6, j7⟩ := h
  rw [j3, nI_clamp (by omega)] at e14 e15
  rw [j4, nI_clamp (by omega)] at e8 e9
  refine ⟨A + 1, K + 1, by omega, by omega, by rw [e16, j3, nI_1], by rw [e10, j4, nI_1], fun a ha => ?_, fun a ha => ?_, fun P hP => ?_⟩
  · rw [e14]
    by_cases e : a = A
    · subst e; rw [pk_us]; exact ho
    · rw [pk_un e]; exact j5 a (by omega)
  · rw [e9]
    by_cases e : a = K
    · subst e; rw [pk_us]; exact ho
    · rw [pk_un e]; exact j6 a (by omega)
  · rw [e8, e9, e14, e15]
    show (if P (upd (σ 8) K s K) (upd (σ 9) K o K) = true then _ + 1 else _) = if P (upd (τ 15) A s A) (upd (τ 14) A o A) = true then _ + 1 else _
    rw [pk_us, pk_us, pk_us, pk_us]
    have q1 : ctN P (upd (σ 8) K s) (upd (σ 9) K o) K = ctN P (σ 8) (σ 9) K := ct_congr (fun i hi => by rw [pk_un (by omega), pk_un (by omega)])
    have q2 : ctN P (upd (τ 15) A s) (upd (τ 14) A o) A = ctN P (τ 15) (τ 14) A := ct_congr (fun i hi => by rw [pk_un (by omega), pk_un (by omega)])
    rw [q1, q2, j7 P hP]
theorem np_eq {σ : T2} {j L : Nat} (h : σ 28 j = nI L) (hL : L < 100000) : sO_needsPage σ j = if L % 8 = 0 then 1 else 0 := by
  unfold sO_needsPage
  rw [h, show nI L - nI L / 8 * 8 = nI L - nI L / nI 8 * nI 8 from rfl, pk_rem (by omega) (by decide) (by decide)]
  by_cases e : L % 8 = 0
  · rw [if_pos e, e, if_pos nI_0]
  · rw [if_neg e, if_neg (nI_ne0 (by omega) (by omega))]
theorem Sim.ln {k nO nW j : Nat} {σ τ σ' τ' : T2} (h : Sim k nO nW σ τ) (hk : k < 512) (hj : j < nO) (hop : gvN (τ 6 (j + 1)) = 0) (hJ' : SJ (k + 1) nO σ' τ')
    (e28 : σ' 28 = upd (σ 28) j (σ 28 j + 1)) (e7 : τ' 7 = upd (τ 7) (j + 1) (τ 7 (j + 1) + 1)) (es : ∀ g, g ≠ 1 → g ≠ 28 → g ≠ 8 → g ≠ 9 → g ≠ 10 → σ' g = σ g) (et : ∀ g, g ≠ 7 → g ≠ 14 → g ≠ 15 → g ≠ 16 → τ' g = τ g)
    (e1 : (¬ sO_needsPage σ j = 0 ∧ 0 < σ 1 0 ∧ σ' 1 0 = σ 1 0 - 1) ∨ (sO_needsPage σ j = 0 ∧ σ' 1 0 = σ 1 0)) : Sim (k + 1) nO nW σ' τ' := by
  obtain ⟨hA, hB, hC, hD, hE, hF, hG, hH, hIs, hJ⟩ := h
  obtain ⟨-, -, L, hL, eL⟩ := hD (j + 1)
  have b28 : σ 28 j = nI L := by rw [← eL]; exact (hB j hj).2.2.2.2.2.2.2.2.1
  have e7' : ∀ o, o ≠ j + 1 → τ' 7 o = τ 7 o := fun o ho => by rw [e7, pk_un ho]
  have e7j : τ' 7 (j + 1) = nI (L + 1) := by rw [e7, pk_us, eL, nI_1]
  have er : ∀ g o, g < 13 → o ≠ j + 1 → τ' g o = τ g o := fun g o hg ho => by
    by_cases e : g = 7
    · subst e; exact e7' o ho
    · rw [et g e (by omega) (by omega) (by omega)]
  refine ⟨SA_c (by omega) hA (es 3 (by decide) (by decide) (by decide) (by decide) (by decide)) (et 13 (by decide) (by decide) (by decide) (by decide)) (es 5 (by decide) (by decide) (by decide) (by decide) (by decide)) (et 19 (by decide) (by decide) (by decide) (by decide)), ?_, ?_, ?_, SE_c hE (es 40 (by decide) (by decide) (by decide) (by decide) (by decide)) (es 41 (by decide) (by decide) (by decide) (by decide) (by decide)) (et 17 (by decide) (by decide) (by decide) (by decide)), SF_c hF (es 42 (by decide) (by decide) (by decide) (by decide) (by decide)) (et 18 (by decide) (by decide) (by decide) (by decide)) (et 6 (by decide) (by decide) (by decide) (by decide)), ?_, SH_c (by omega) hH (es 6 (by decide) (by decide) (by decide) (by decide) (by decide)) (es 7 (by decide) (by decide) (by decide) (by decide) (by decide)) (et 20 (by decide) (by decide) (by decide) (by decide)) (et 21 (by decide) (by decide) (by decide) (by decide)), SI_c hIs (es 11 (by decide) (by decide) (by decide) (by decide) (by decide)) (es 12 (by decide) (by decide) (by decide) (by decide) (by decide)) (et 22 (by decide) (by decide) (by decide) (by decide)) (et 23 (by decide) (by decide) (by decide) (by decide)), hJ'⟩
  · intro i hi
    obtain ⟨b0, b1, b2, b3, b4, b5, b6, b7, b8, b9, b10, b11, b12⟩ := hB i hi
    have f : ∀ g, g ≠ 28 → 20 ≤ g → σ' g = σ g := fun g h1 h2 => es g (by omega) h1 (by omega) (by omega) (by omega)
    have f2 : ∀ g, g ≠ 7 → g < 13 → τ' g = τ g := fun g h1 h2 => et g h1 (by omega) (by omega) (by omega)
    rw [f 20 (by decide) (by decide), f 21 (by decide) (by decide), f 22 (by decide) (by decide), f 23 (by decide) (by decide), f 24 (by decide) (by decide), f 25 (by decide) (by decide), f 26 (by decide) (by decide), f 27 (by decide) (by decide), f 29 (by decide) (by decide), f 30 (by decide) (by decide), f 31 (by decide) (by decide), f 32 (by decide) (by decide), f2 1 (by decide) (by decide), f2 2 (by decide) (by decide), f2 3 (by decide) (by decide), f2 4 (by decide) (by decide), f2 5 (by decide) (by decide), f2 6 (by decide) (by decide), f2 8 (by decide) (by decide), f2 9 (by decide) (by decide), f2 10 (by decide) (by decide), f2 11 (by decide) (by decide), f2 12 (by decide) (by decide)]
    refine ⟨b0, b1, b2, b3, b4, b5, b6, b7, ?_, b9, b10, b11, b12⟩
    by_cases e : i = j
    · subst e
      rw [e7j, e28, pk_us, b28, nI_1]
    · rw [e7' (i + 1) (by omega), e28, pk_un e]
      exact b8
  · intro o ho
    have hne : o ≠ j + 1 := by omega
    rw [er 7 o (by decide) hne, er 8 o (by decide) hne, er 9 o (by decide) hne, er 10 o (by decide) hne, er 11 o (by decide) hne, er 12 o (by decide) hne]
    exact hC o ho
  · intro o
    obtain ⟨a, b, M, c, d⟩ := hD o
    rw [et 10 (by decide) (by decide) (by decide) (by decide), et 11 (by decide) (by decide) (by decide) (by decide)]
    refine ⟨a, b, ?_⟩
    by_cases e : o = j + 1
    · rw [e]; exact ⟨L + 1, by omega, e7j⟩
    · rw [e7' o e]; exact ⟨M, by omega, d⟩
  · obtain ⟨R, r1, r2, r3, r4, r5⟩ := hG
    have e6 : τ' 6 = τ 6 := et 6 (by decide) (by decide) (by decide) (by decide)
    have ha : alN τ (j + 1) = pgN L := by unfold alN; rw [if_pos hop, eL, nI_clamp (by omega)]
    have ha' : alN τ' (j + 1) = pgN (L + 1) := by unfold alN; rw [e6, if_pos hop, e7j, nI_clamp (by omega)]
    have hs := su_put (τ := τ) (τ' := τ') hj (fun o ho => alN_row (by rw [e6]) (e7' o ho))
    rw [ha, ha'] at hs
    rw [np_eq b28 (by omega), r5] at e1
    unfold pgN at hs
    have hT0 : τ' 0 = τ 0 := et 0 (by decide) (by decide) (by decide) (by decide)
    have hS0 : σ' 0 = σ 0 := es 0 (by decide) (by decide) (by decide) (by decide) (by decide)
    rcases e1 with ⟨q1, q2, q3⟩ | ⟨q1, q3⟩
    · have hL8 : L % 8 = 0 := by
        by_cases e : L % 8 = 0
        · exact e
        · rw [if_neg e] at q1; exact absurd rfl q1
      rw [Int32.lt_iff_toInt_lt, i32_0, nI_toInt (by omega)] at q2
      refine ⟨R, r1, by rw [hT0]; exact r2, by rw [hS0]; exact r3, by omega, ?_⟩
      rw [q3, show R - suN τ nO = (R - suN τ' nO) + 1 by omega, nI_pred]
    · have hL8 : ¬ L % 8 = 0 := fun e => by rw [if_pos e] at q1; exact absurd q1 (by decide)
      refine ⟨R, r1, by rw [hT0]; exact r2, by rw [hS0]; exact r3, by omega, ?_⟩
      rw [q3, show suN τ' nO = suN τ nO by omega]
theorem one_ne_gone {x : Int32} (h : x = 1) : gvN x = 0 := by subst h; rfl
/-- the reference behind a line that is taken, the sign as it is kept -/
def mLn (τ : T2) (o : Nat) (num s : Int32) : T2 := upd2 (upd2 (upd2 (upd2 τ 14 (τ 16 0).toNatClampNeg num) 15 (τ 16 0).toNatClampNeg s) 16 0 (τ 16 0 + 1)) 7 o (τ 7 o + 1)
theorem Sim.take {k nO nW j : Nat} {σ τ : T2} {n : Int32} (h : Sim k nO nW σ τ) (hk : k < 512) (hj : j < nO) (hop : gvN (τ 6 (j + 1)) = 0) (hr : sO_needsPage σ j = 0 ∨ 0 < σ 1 0) : Sim (k + 1) nO nW (sC_takeLine σ j n) (mLn τ (j + 1) (nI (j + 1)) (if n / 256 ≤ 0 then -1 else n - n / 256 * 256)) := by
  have ho : ∃ i, i < nO ∧ nI (j + 1) = nI (i + 1) := ⟨j, hj, rfl⟩
  have h20 := (h.2.1 j hj).1
  have hJ := h.2.2.2.2.2.2.2.2.2
  have hall : ∀ s : Int32, ∀ g, g ≠ 7 → g ≠ 14 → g ≠ 15 → g ≠ 16 → mLn τ (j + 1) (nI (j + 1)) s g = τ g := fun s g g1 g2 g3 g4 => by
    unfold mLn
    rw [upd2_ne g1, upd2_ne g4, upd2_ne g3, upd2_ne g2]
  unfold sC_takeLine
  rw [h20]
  by_cases h1 : sO_needsPage σ j = 0
  · rw [if_pos h1]
    by_cases h2 : n / 256 ≤ 0
    · rw [if_pos h2, if_pos h2]
      exact h.ln hk hj hop (SJ_skip hJ (by omega) ho rfl rfl rfl rfl rfl rfl) rfl rfl (fun g g1 g2 g3 g4 g5 => by rw [upd2_ne g2]) (hall _) (Or.inr ⟨h1, rfl⟩)
    · rw [if_neg h2, if_neg h2]
      exact h.ln hk hj hop (SJ_keep hJ (by omega) ho rfl rfl rfl rfl rfl rfl) rfl rfl (fun g g1 g2 g3 g4 g5 => by rw [upd2_ne g5, upd2_ne g4, upd2_ne g3, upd2_ne g2]) (hall _) (Or.inr ⟨h1, rfl⟩)
  · rw [if_neg h1]
    have h3 : 0 < σ 1 0 := by rcases hr with q | q; exact absurd q h1; exact q
    by_cases h2 : n / 256 ≤ 0
    · rw [if_pos h2, if_pos h2]
      exact h.ln hk hj hop (SJ_skip hJ (by omega) ho rfl rfl rfl rfl rfl rfl) rfl rfl (fun g g1 g2 g3 g4 g5 => by rw [upd2_ne g2, upd2_ne g1]) (hall _) (Or.inl ⟨h1, h3, rfl⟩)
    · rw [if_neg h2, if_neg h2]
      exact h.ln hk hj hop (SJ_keep hJ (by omega) ho rfl rfl rfl rfl rfl rfl) rfl rfl (fun g g1 g2 g3 g4 g5 => by rw [upd2_ne g5, upd2_ne g4, upd2_ne g3, upd2_ne g2, upd2_ne g1]) (hall _) (Or.inl ⟨h1, h3, rfl⟩)
/-- the reference's own line, behind the checks of state and limit: the same in all its branches -/
def mTk (τ : T2) (o : Nat) (num n r : Int32) : Int32 × T2 := if (τ 7 o - τ 7 o / 8 * 8) = 0 then (if sM_free τ = 0 then ((-3), τ) else (r, mLn τ o num (if n / 256 ≤ 0 then -1 else n - n / 256 * 256))) else (r, mLn τ o num (if n / 256 ≤ 0 then -1 else n - n / 256 * 256))
def cTk (σ : T2) (j : Nat) (n r : Int32) : Int32 × T2 := if sC_hasRoomForLine σ j = 0 then ((-3), σ) else (r, sC_takeLine σ j n)
theorem st_take {k nO nW j : Nat} {σ τ : T2} {n r : Int32} (h : Sim k nO nW σ τ) (hk : k < 512) (hj : j < nO) (hop : τ 6 (j + 1) = 1) : Same (k + 1) nO nW (cTk σ j n r) (mTk τ (j + 1) (nI (j + 1)) n r) := by
  have hf := h.fr (by omega)
  obtain ⟨A, K, j1, j2, j3, j4, -⟩ := h.2.2.2.2.2.2.2.2.2
  obtain ⟨R, r1, r2, r3, r4, r5⟩ := h.2.2.2.2.2.2.1
  have b28 := (h.2.1 j hj).2.2.2.2.2.2.2.2.1
  have hn : sO_needsPage σ j = if (τ 7 (j + 1) - τ 7 (j + 1) / 8 * 8) = 0 then 1 else 0 := by unfold sO_needsPage; rw [b28]
  unfold cTk mTk sC_hasRoomForLine
  rw [j4, if_neg (show ¬ (512 : Int32) ≤ nI K from nI_ge (a := K) (b := 512) (by omega) (by decide)), hf]
  by_cases h1 : (τ 7 (j + 1) - τ 7 (j + 1) / 8 * 8) = 0
  · rw [if_pos h1] at hn ⊢
    rw [hn]
    by_cases h2 : σ 1 0 = 0
    · have q : (if (0 : Int32) < σ 1 0 then (1 : Int32) else if (1 : Int32) = 0 then 1 else 0) = 0 := by rw [h2]; decide
      rw [if_pos h2, if_pos q]
      exact same_of h.mono
    · have h3 : 0 < σ 1 0 := by
        rw [r5] at h2 ⊢
        rw [Int32.lt_iff_toInt_lt, i32_0, nI_toInt (by omega)]
        have : R - suN τ nO ≠ 0 := fun q => h2 (by rw [q]; exact nI_0)
        omega
      have q : ¬ (if (0 : Int32) < σ 1 0 then (1 : Int32) else if (1 : Int32) = 0 then 1 else 0) = 0 := by rw [if_pos h3]; decide
      rw [if_neg h2, if_neg q]
      exact same_of (h.take hk hj (one_ne_gone hop) (Or.inr h3))
  · rw [if_neg h1] at hn ⊢
    rw [hn, if_pos (rfl : (0 : Int32) = 0)]
    have h4 : ¬ (if 0 < σ 1 0 then (1 : Int32) else 1) = 0 := by split <;> decide
    rw [if_neg h4]
    exact same_of (h.take hk hj (one_ne_gone hop) (Or.inl hn))
theorem st_line {k nO nW : Nat} {σ τ : T2} (h : Sim k nO nW σ τ) (hk : k < 512) (p0 p1 : Int32) : Same (k + 1) nO nW (sC_line σ p0 p1) (sM_line τ p0 p1) := by
  unfold sC_line sM_line
  rcases h.out (by omega) p0 with ⟨h1, h2⟩ | ⟨j, hj, ep, h1, h2, e1, e2⟩
  · rw [if_pos h1, if_pos h2]; exact same_of h.mono
  · rw [if_neg h1, if_neg h2]
    by_cases h3 : p1 < 0
    · rw [if_pos h3, if_pos (iw_lo h3)]; exact same_of h.mono
    · rw [if_neg h3]
      by_cases h6 : p1 ≤ 34047
      · rw [if_pos h6, if_neg (by rw [iw_ok h3 (i_nle h6)]; decide), e1, e2, (h.2.1 j hj).2.2.2.2.2.2.1]
        by_cases h4 : τ 6 (j + 1) = 1
        · rw [if_pos h4, if_pos h4, (h.2.1 j hj).2.2.2.2.2.2.2.2.2.2.1]
          have key : ∀ r : Int32, (if (τ 7 (j + 1) - τ 7 (j + 1) / 8 * 8) = 0 then (if sM_free τ = 0 then ((-3), τ) else if p1 / 256 ≤ 0 then (r, mLn τ (j + 1) p0 (-1)) else (r, mLn τ (j + 1) p0 (p1 - p1 / 256 * 256))) else if p1 / 256 ≤ 0 then (r, mLn τ (j + 1) p0 (-1)) else (r, mLn τ (j + 1) p0 (p1 - p1 / 256 * 256))) = mTk τ (j + 1) (nI (j + 1)) p1 r := by
            intro r
            unfold mTk
            rw [← ep]
            by_cases q : p1 / 256 ≤ 0
            · rw [if_pos q, if_pos q]
            · rw [if_neg q, if_neg q]
          have hl : sO_isAtLimit σ j = if τ 8 (j + 1) ≤ 0 then 0 else if τ 7 (j + 1) < τ 8 (j + 1) then 0 else 1 := by
            unfold sO_isAtLimit
            rw [(h.2.1 j hj).2.2.2.2.2.2.2.2.1, (h.2.1 j hj).2.2.2.2.2.2.2.2.2.1]
          rw [hl]
          have k1 := key 1
          have k2 := key 2
          unfold mLn at k1 k2
          by_cases h7 : τ 8 (j + 1) ≤ 0
          · rw [if_pos h7, if_pos h7, if_pos rfl]
            have := st_take (n := p1) (r := 1) h hk hj h4
            rw [← k1] at this
            exact this
          · rw [if_neg h7, if_neg h7]
            by_cases h8 : τ 7 (j + 1) < τ 8 (j + 1)
            · rw [if_pos h8, if_pos h8, if_pos rfl]
              have := st_take (n := p1) (r := 1) h hk hj h4
              rw [← k1] at this
              exact this
            · rw [if_neg h8, if_neg h8, if_neg (by decide)]
              by_cases h9 : τ 10 (j + 1) = 0
              · rw [if_pos h9, if_pos h9]
                have := st_take (n := p1) (r := 2) h hk hj h4
                rw [← k2] at this
                exact this
              · rw [if_neg h9, if_neg h9]; exact same_of h.mono
        · rw [if_neg h4, if_neg h4]; exact same_of h.mono
      · rw [if_neg h6, if_pos (iw_hi (i_nlt h6))]; exact same_of h.mono
/-! end -/
theorem end_F {k nO nW : Nat} {σ τ : T2} (h : Sim k nO nW σ τ) (hk : k ≤ 512) (p : Int32) (n : Nat) (hn : n ≤ nO) : (sC_end_F σ p n).1 = (sM_end_F τ p n).1 ∧ Sim k nO nW (sC_end_F σ p n).2 (sM_end_F τ p n).2 := by
  have hnO := h.1.2.2.1
  induction n with
  | zero => exact ⟨rfl, h⟩
  | succ n ih =>
    obtain ⟨i1, i2⟩ := ih (by omega)
    show (sC_end_s σ p n (sC_end_F σ p n).1 (sC_end_F σ p n).2).1 = (sM_end_s τ p n (sM_end_F τ p n).1 (sM_end_F τ p n).2).1 ∧ Sim k nO nW (sC_end_s σ p n (sC_end_F σ p n).1 (sC_end_F σ p n).2).2 (sM_end_s τ p n (sM_end_F τ p n).1 (sM_end_F τ p n).2).2
    rw [i1]
    generalize (sM_end_F τ p n).1 = a
    generalize (sC_end_F σ p n).2 = s1 at i2 ⊢
    generalize (sM_end_F τ p n).2 = t1 at i2 ⊢
    have hj : n < nO := by omega
    obtain ⟨b0, b1, b2, b3, b4, b5, b6, b7, b8, -⟩ := i2.2.1 n hj
    unfold sC_end_s sM_end_s
    rw [nI_clamp (by omega), nI_clamp (by omega), b1, b6]
    by_cases h1 : t1 1 (n + 1) = p
    · rw [if_pos h1, if_pos h1]
      by_cases h2 : t1 6 (n + 1) = 1
      · rw [if_pos h2, if_pos h2]
        unfold sC_releaseOrPurge
        rw [b8]
        have hf := i2.free_of hk hj (by rw [h2]; decide)
        by_cases h3 : t1 7 (n + 1) = 0
        · rw [if_pos h3, if_pos h3]
          exact ⟨rfl, i2.go hk hj gvN_5 (one_ne_gone h2) hf⟩
        · rw [if_neg h3, if_neg h3]
          exact ⟨rfl, i2.st hj gvN_2 (one_ne_gone h2) (Or.inl hf)⟩
      · rw [if_neg h2, if_neg h2]; exact ⟨rfl, i2⟩
    · rw [if_neg h1, if_neg h1]; exact ⟨rfl, i2⟩
theorem st_end {k nO nW : Nat} {σ τ : T2} (h : Sim k nO nW σ τ) (hk : k < 512) (p : Int32) : Same (k + 1) nO nW (sC_end σ p) (sM_end τ p) := by
  have hA := h.1
  have hnO := hA.2.2.1
  unfold sC_end sM_end sC_end_x sM_end_x
  rw [hA.1, hA.2.1, nI_clamp (by omega)]
  obtain ⟨a, b⟩ := end_F h (by omega) p nO (Nat.le_refl _)
  exact ⟨a, b.mono⟩
end
section
/-! next -/
theorem may_eq {k nO nW j : Nat} {σ τ : T2} (h : Sim k nO nW σ τ) (hk : k ≤ 512) (hj : j < nO) : sO_mayBePrinted σ j = if τ 6 (j + 1) = 2 then (if τ 11 (j + 1) = 0 then (if τ 7 (j + 1) = 0 then 0 else 1) else 0) else 0 := by
  obtain ⟨b0, b1, b2, b3, b4, b5, b6, b7, b8, -⟩ := h.2.1 j hj
  obtain ⟨-, -, L, hL, eL⟩ := h.2.2.2.1 (j + 1)
  unfold sO_mayBePrinted
  rw [b6, b7, b8, eL]
  by_cases h1 : L = 0
  · rw [h1, nI_0, if_pos (by decide : (0 : Int32) ≤ 0), if_pos rfl]
  · rw [if_neg (nI_nle (by omega) (by omega)), if_neg (nI_ne0 (by omega) (by omega))]
theorem fit_eq {k nO nW j w : Nat} {σ τ : T2} (h : Sim k nO nW σ τ) (hk : k ≤ 512) (hj : j < nO) (hw : w < nW) : sW_suits σ w j = sM_fits τ (nI (j + 1)) (τ 17 (w + 1)) := by
  obtain ⟨b0, b1, b2, b3, b4, -⟩ := h.2.1 j hj
  obtain ⟨c, c1, c2, c3, c4⟩ := h.2.2.2.2.1 w hw
  have hnO := h.1.2.2.1
  unfold sW_suits sM_fits
  rw [c2, c3, c4, b2, b4, nI_clamp (by omega), show nI c - nI c / 16 * 16 = nI c - nI c / nI 16 * nI 16 from rfl, show nI c / 16 = nI c / nI 16 from rfl, pk_rem c1 (by decide) (by decide), pk_div c1 (by decide) (by decide)]
  have e : (nI (c / 16) - 1 = -1) = (nI (c / 16) = 0) := by
    refine propext ⟨fun q => ?_, fun q => by rw [q]; rfl⟩
    rw [show (-1 : Int32) = 0 - 1 from rfl, Int32.sub_left_inj] at q
    exact q
  simp only [e]
theorem ff_eq {k nO nW w : Nat} {σ τ : T2} {p : Int32} (h : Sim k nO nW σ τ) (hk : k ≤ 512) (hw : w < nW) (hp : p.toNatClampNeg = w + 1) (n : Nat) (hn : n ≤ nO) : sC_firstFor_F σ w n = sM_next_F τ p n ∧ (sM_next_F τ p n = 0 ∨ ∃ j, j < n ∧ sM_next_F τ p n = nI (j + 1)) := by
  have hnO := h.1.2.2.1
  induction n with
  | zero => exact ⟨rfl, Or.inl rfl⟩
  | succ n ih =>
    obtain ⟨i1, i2⟩ := ih (by omega)
    show sC_firstFor_s σ w n (sC_firstFor_F σ w n) = sM_next_s τ p n (sM_next_F τ p n) ∧ (sM_next_s τ p n (sM_next_F τ p n) = 0 ∨ ∃ j, j < n + 1 ∧ sM_next_s τ p n (sM_next_F τ p n) = nI (j + 1))
    rw [i1]
    generalize sM_next_F τ p n = a at i2 ⊢
    have hj : n < nO := by omega
    have hi2 : a = 0 ∨ ∃ j, j < n + 1 ∧ a = nI (j + 1) := by
      rcases i2 with q | ⟨j, q1, q2⟩
      · exact Or.inl q
      · exact Or.inr ⟨j, by omega, q2⟩
    have hnew : nI (n + 1) = 0 ∨ ∃ j, j < n + 1 ∧ nI (n + 1) = nI (j + 1) := Or.inr ⟨n, by omega, rfl⟩
    unfold sC_firstFor_s sM_next_s
    rw [nI_clamp (by omega), nI_clamp (by omega), may_eq h hk hj, fit_eq h hk hj hw, hp]
    by_cases h1 : τ 6 (n + 1) = 2
    · rw [if_pos h1, if_pos h1]
      by_cases h2 : τ 11 (n + 1) = 0
      · rw [if_pos h2, if_pos h2]
        by_cases h3 : τ 7 (n + 1) = 0
        · rw [if_pos h3, if_pos h3, if_pos rfl, if_pos rfl, ite_self]
          exact ⟨rfl, hi2⟩
        · rw [if_neg h3, if_neg h3, if_neg (show ¬ (1 : Int32) = 0 by decide), if_neg (show ¬ (1 : Int32) = 0 by decide)]
          by_cases h4 : sM_fits τ (nI (n + 1)) (τ 17 (w + 1)) = 0
          · rw [if_pos h4, if_pos h4, if_pos h4, ite_self]
            exact ⟨rfl, hi2⟩
          · rw [if_neg h4, if_neg h4, if_neg h4]
            by_cases h5 : a = 0
            · rw [if_pos h5, if_pos h5]
              exact ⟨rfl, hnew⟩
            · rw [if_neg h5, if_neg h5]
              rcases i2 with q | ⟨j, q1, q2⟩
              · exact absurd q h5
              · rw [q2, nI_back (by omega), nI_clamp (by omega)]
                have hjO : j < nO := by omega
                obtain ⟨b0, b1, -, -, -, b5, -⟩ := h.2.1 n hj
                obtain ⟨d0, d1, -, -, -, d5, -⟩ := h.2.1 j hjO
                unfold sO_comesBefore
                rw [b0, b1, b5, d0, d1, d5]
                have hq2 : nI (j + 1) = 0 ∨ ∃ i, i < n + 1 ∧ nI (j + 1) = nI (i + 1) := Or.inr ⟨j, by omega, rfl⟩
                by_cases h6 : τ 5 (n + 1) = τ 5 (j + 1)
                · rw [if_pos h6, if_pos h6, if_neg (show ¬ τ 5 (j + 1) < τ 5 (n + 1) by rw [h6]; exact i_nle ii_rfl)]
                  by_cases h7 : τ 1 (n + 1) = τ 1 (j + 1)
                  · rw [if_pos h7, if_pos (nI_le (by omega) (by omega)), if_pos rfl, if_pos (show τ 1 (j + 1) ≤ τ 1 (n + 1) by rw [h7]; exact ii_rfl)]
                    exact ⟨rfl, hq2⟩
                  · rw [if_neg h7]
                    by_cases h8 : τ 1 (j + 1) ≤ τ 1 (n + 1)
                    · rw [if_pos h8, if_pos h8, if_pos rfl]; exact ⟨rfl, hq2⟩
                    · rw [if_neg h8, if_neg h8, if_neg (show ¬ (1 : Int32) = 0 by decide)]; exact ⟨rfl, hnew⟩
                · rw [if_neg h6, if_neg h6]
                  by_cases h8 : τ 5 (n + 1) ≤ τ 5 (j + 1)
                  · rw [if_pos h8, if_pos rfl, if_neg (i_nle h8)]; exact ⟨rfl, hq2⟩
                  · rw [if_neg h8, if_neg (show ¬ (1 : Int32) = 0 by decide), if_pos (i_nlt h8)]; exact ⟨rfl, hnew⟩
      · rw [if_neg h2, if_neg h2, if_pos rfl, if_pos rfl, ite_self]
        exact ⟨rfl, hi2⟩
    · rw [if_neg h1, if_neg h1, if_pos rfl, if_pos rfl, ite_self]
      exact ⟨rfl, hi2⟩
/-- the one that is taken is released -/
theorem ff_rel {τ : T2} {p : Int32} {n : Nat} (hn : n ≤ 1000) : ∀ j, sM_next_F τ p n = nI (j + 1) → j < 1000 → τ 6 (j + 1) = 2 := by
  induction n with
  | zero =>
    intro j hj hb
    exact absurd hj.symm (nI_ne0 (by omega) (by omega))
  | succ n ih =>
    intro j hj hb
    have hj : sM_next_s τ p n (sM_next_F τ p n) = nI (j + 1) := hj
    by_cases h1 : τ 6 (n + 1) = 2
    · have h2 : sM_next_s τ p n (sM_next_F τ p n) = sM_next_F τ p n ∨ sM_next_s τ p n (sM_next_F τ p n) = nI (n + 1) := by
        unfold sM_next_s
        repeat' split
        all_goals first | exact Or.inl rfl | exact Or.inr rfl
      rcases h2 with q | q
      · rw [q] at hj; exact ih (by omega) j hj hb
      · rw [q] at hj
        have : n + 1 = j + 1 := (nI_eq (by omega) (by omega)).mp hj
        rw [← this]; exact h1
    · unfold sM_next_s at hj
      rw [nI_clamp (by omega), if_neg h1] at hj
      exact ih (by omega) j hj hb
theorem st_next {k nO nW : Nat} {σ τ : T2} (h : Sim k nO nW σ τ) (hk : k < 512) (p0 : Int32) : Same (k + 1) nO nW (sC_next σ p0) (sM_next τ p0) := by
  unfold sC_next sM_next
  rcases h.wr p0 with ⟨h1, h2⟩ | ⟨w, hw, ep, h1, h2, e1, e2⟩
  · rw [if_pos h1, if_pos h2]; exact same_of h.mono
  · have hA := h.1
    have hnO := hA.2.2.1
    rw [if_neg h1, if_neg h2, e1, e2, (h.2.2.2.2.2.1.1 w hw).1]
    by_cases h3 : τ 18 (w + 1) = 0
    · rw [if_pos h3, if_pos h3]
      unfold sM_next_x sC_firstFor
      obtain ⟨i1, i2⟩ := ff_eq h (by omega) hw e2 nO (Nat.le_refl _)
      have hr := ff_rel (τ := τ) (p := p0) (n := nO) (by omega)
      rw [hA.1, hA.2.1, nI_clamp (by omega), i1, e2]
      generalize sM_next_F τ p0 nO = a at i2 hr ⊢
      by_cases h4 : a = 0
      · rw [if_pos h4, if_pos h4]; exact same_of h.mono
      · rw [if_neg h4, if_neg h4]
        rcases i2 with q | ⟨j, hj, q⟩
        · exact absurd q h4
        · rw [q, nI_back (by omega), nI_clamp (by omega), (h.2.1 j hj).1]
          have h6 : τ 6 (j + 1) = 2 := hr j q (by omega)
          have hf := h.free_of (by omega) hj (by rw [h6]; decide)
          have hs := h.st (x := 3) hj gvN_3 (by rw [h6]; rfl) (Or.inr rfl)
          refine same_of ?_
          obtain ⟨gA, gB, gC, gD, gE, gF, gG, gH, gI, gJ⟩ := hs
          refine ⟨SA_c (by omega) gA rfl rfl rfl rfl, SB_c gB (fun g _ h2 => upd2_ne (by omega)) (fun g h2 => upd2_ne (by omega)), SC_c gC rfl rfl rfl rfl rfl rfl, SD_c (by omega) gD rfl rfl rfl, SE_c gE rfl rfl rfl, ?_, SG_c gG rfl rfl rfl rfl rfl, SH_c (by omega) gH rfl rfl rfl rfl, SI_c gI rfl rfl rfl rfl, SJ_c (by omega) gJ rfl rfl rfl rfl rfl rfl⟩
          obtain ⟨a1, b1, c1, d1⟩ := gF
          refine ⟨fun v hv => ?_, fun v => ?_, fun v hv => ?_, fun v v' hv hv' hne hq => ?_⟩
          · by_cases e : v = w
            · subst e
              refine ⟨by rw [upd2_at, upd2_at], Or.inr ⟨j, hj, upd2_at, ?_⟩⟩
              show (upd2 τ 6 (j + 1) 3) 6 (j + 1) = 3
              exact upd2_at
            · rw [upd2_off e, upd2_off (by omega)]
              exact a1 v hv
          · by_cases e : v = w + 1
            · rw [e, upd2_at]; exact vp_in_nI (by omega) (by decide)
            · rw [upd2_off e]; exact b1 v
          · rw [upd2_off (by omega)]; exact c1 v hv
          · by_cases e : v = w
            · subst e
              rw [upd2_at, upd2_off (by omega)] at hq
              exact absurd hq.symm (hf v' hv')
            · by_cases e' : v' = w
              · subst e'
                rw [upd2_off (by omega), upd2_at] at hq
                exact absurd hq (hf v hv)
              · rw [upd2_off (by omega)] at hq ⊢
                rw [upd2_off (by omega)] at hq
                exact d1 v v' hv hv' hne hq
    · rw [if_neg h3, if_neg h3]; exact same_of h.mono
/-! writer, output, segment: a new row -/
theorem st_writer {k nO nW : Nat} {σ τ : T2} (h : Sim k nO nW σ τ) (hk : k < 512) (p0 : Int32) : (sC_writer nW σ p0).1 = (sM_writer τ p0).1 ∧ Sim (k + 1) nO (sC_writer nW σ p0).2.1 (sC_writer nW σ p0).2.2 (sM_writer τ p0).2 := by
  unfold sC_writer sM_writer
  by_cases h1 : p0 < 0
  · rw [if_pos h1, if_neg (fun q => i_nle q h1)]; exact ⟨rfl, h.mono⟩
  · rw [if_neg h1, if_pos (ii_le.mp h1)]
    obtain ⟨c, hc, rfl⟩ := nI_of h1
    rw [show nI c - nI c / 16 * 16 = nI c - nI c / nI 16 * nI 16 from rfl, show nI c / 16 = nI c / nI 16 from rfl, pk_rem hc (by decide) (by decide), pk_div hc (by decide) (by decide)]
    by_cases h2 : 8 < nI (c % 16)
    · rw [if_pos h2, if_pos h2]; exact ⟨rfl, h.mono⟩
    · rw [if_neg h2, if_neg h2]
      have hd : (nI (c / 16) - 1).toInt = ((c / 16 : Nat) : Int) - 1 := by
        rw [show nI (c / 16) - 1 = nI (c / 16) - nI 1 from rfl, pk_sub_toInt (by omega) (by omega)]
        rfl
      have h8 : (8 : Int32).toInt = 8 := by decide
      have h3 : (nI (c / 16) - 1 < 8) ↔ (nI (c / 16) ≤ 8) := by
        rw [Int32.lt_iff_toInt_lt, Int32.le_iff_toInt_le, hd, h8, nI_toInt (by omega)]
        omega
      by_cases h4 : nI (c / 16) ≤ 8
      · rw [if_pos (h3.mpr h4), if_pos h4]
        have hA := h.1
        rw [hA.2.2.2.1, hA.2.2.2.2.1]
        have hnW := hA.2.2.2.2.2
        by_cases h5 : nW = 9
        · rw [h5, if_neg (by decide), if_pos (by rfl)]
          subst h5
          exact ⟨rfl, h.mono⟩
        · rw [if_pos (show nI nW < 9 from nI_lt (b := 9) (by omega) (by decide)), if_neg (show ¬ nI nW = 9 from fun q => h5 ((nI_eq (b := 9) (by omega) (by decide)).mp q)), nI_1, nI_clamp (by omega)]
          refine ⟨rfl, ?_⟩
          show Sim (k + 1) nO (nW + 1) (upd2 (upd2 (upd2 (upd2 σ 40 nW (nI (c % 16))) 41 nW (nI (c / 16) - 1)) 42 nW 0) 5 0 (nI (nW + 1))) (upd2 (upd2 τ 19 0 (nI (nW + 1))) 17 (nW + 1) (nI c))
          obtain ⟨gA, gB, gC, gD, gE, gF, gG, gH, gI, gJ⟩ := h
          refine ⟨⟨gA.1, gA.2.1, by have := gA.2.2.1; omega, rfl, rfl, by omega⟩, ?_, SC_c gC rfl rfl rfl rfl rfl rfl, SD_c (by omega) gD rfl rfl rfl, ?_, ?_, SG_c gG rfl rfl rfl rfl rfl, SH_c (by omega) gH rfl rfl rfl rfl, SI_c gI rfl rfl rfl rfl, SJ_c (by omega) gJ rfl rfl rfl rfl rfl rfl⟩
          · exact SB_c gB (fun g g1 g2 => by rw [upd2_ne (by omega), upd2_ne (by omega), upd2_ne (by omega), upd2_ne (by omega)]) (fun g g2 => by rw [upd2_ne (by omega), upd2_ne (by omega)])
          · intro w hw
            by_cases e : w = nW
            · refine ⟨c, hc, ?_, ?_, ?_⟩
              · rw [e]; exact upd2_at
              · rw [e]; simp [upd2_get]
              · rw [e]; simp [upd2_get]
            · obtain ⟨c0, q1, q2, q3, q4⟩ := gE w (by omega)
              refine ⟨c0, q1, ?_, ?_, ?_⟩
              · simp [upd2_get, e, q2]
              · simp [upd2_get, e, q3]
              · simp [upd2_get, e, q4]
          · obtain ⟨a1, b1, c1, d1⟩ := gF
            have h18 : ∀ v, (upd2 (upd2 τ 19 0 (nI (nW + 1))) 17 (nW + 1) (nI c)) 18 v = τ 18 v := fun v => rfl
            have h6 : ∀ v, (upd2 (upd2 τ 19 0 (nI (nW + 1))) 17 (nW + 1) (nI c)) 6 v = τ 6 v := fun v => rfl
            refine ⟨fun v hv => ?_, fun v => by rw [h18]; exact b1 v, fun v hv => by rw [h18]; exact c1 v (by omega), fun v v' hv hv' hne hq => ?_⟩
            · rw [h18]
              by_cases e : v = nW
              · rw [e, c1 (nW + 1) (by omega)]
                exact ⟨by simp [upd2_get], Or.inl rfl⟩
              · obtain ⟨q1, q2⟩ := a1 v (by omega)
                refine ⟨?_, ?_⟩
                · rw [← q1]; simp [upd2_get, e]
                · rcases q2 with q2 | ⟨j, hj, q2, q3⟩
                  · exact Or.inl q2
                  · exact Or.inr ⟨j, hj, q2, q3⟩
            · rw [h18] at hq ⊢
              rw [h18] at hq
              by_cases e : v = nW
              · rw [e]; exact c1 _ (by omega)
              · by_cases e' : v' = nW
                · rw [hq, e']; exact c1 _ (by omega)
                · exact d1 v v' (by omega) (by omega) hne hq
      · rw [if_neg (fun q => h4 (h3.mp q)), if_neg h4]; exact ⟨rfl, h.mono⟩
theorem Sim.grow {k nO nW : Nat} {σ τ σ' τ' : T2} (h : Sim k nO nW σ τ) (hk : k < 512)
    (s3 : σ' 3 0 = nI (nO + 1)) (t13 : τ' 13 0 = nI (nO + 1)) (sr : ∀ g i, 20 ≤ g → g < 33 → i ≠ nO → σ' g i = σ g i) (tr : ∀ g o, g < 13 → o ≠ nO + 1 → τ' g o = τ g o)
    (so : ∀ g, g ≠ 3 → (g < 20 ∨ 33 ≤ g) → σ' g = σ g) (to : ∀ g, 13 < g → τ' g = τ g) (t0 : τ' 0 0 = τ 0 0)
    (row : σ' 20 nO = nI (nO + 1) ∧ σ' 21 nO = τ' 1 (nO + 1) ∧ σ' 22 nO = τ' 2 (nO + 1) ∧ σ' 23 nO = τ' 3 (nO + 1) ∧ σ' 24 nO = τ' 4 (nO + 1) ∧ σ' 25 nO = τ' 5 (nO + 1) ∧ σ' 26 nO = τ' 6 (nO + 1) ∧ σ' 27 nO = τ' 11 (nO + 1) ∧ σ' 28 nO = τ' 7 (nO + 1) ∧ σ' 29 nO = τ' 8 (nO + 1) ∧ σ' 30 nO = τ' 10 (nO + 1) ∧ σ' 31 nO = τ' 9 (nO + 1) ∧ σ' 32 nO = τ' 12 (nO + 1))
    (n7 : τ' 7 (nO + 1) = 0) (n10 : τ' 10 (nO + 1) = 0 ∨ τ' 10 (nO + 1) = 1) (n11 : τ' 11 (nO + 1) = 0 ∨ τ' 11 (nO + 1) = 1) : Sim (k + 1) (nO + 1) nW σ' τ' := by
  obtain ⟨gA, gB, gC, gD, gE, gF, gG, gH, gI, gJ⟩ := h
  refine ⟨⟨s3, t13, by have := gA.2.2.1; omega, by rw [so 5 (by decide) (by decide)]; exact gA.2.2.2.1, by rw [to 19 (by decide)]; exact gA.2.2.2.2.1, gA.2.2.2.2.2⟩, ?_, ?_, ?_, SE_c gE (so 40 (by decide) (by decide)) (so 41 (by decide) (by decide)) (to 17 (by decide)), ?_, ?_, SH_c (by omega) gH (so 6 (by decide) (by decide)) (so 7 (by decide) (by decide)) (to 20 (by decide)) (to 21 (by decide)), SI_c gI (so 11 (by decide) (by decide)) (so 12 (by decide) (by decide)) (to 22 (by decide)) (to 23 (by decide)), ?_⟩
  · intro j hj
    by_cases e : j = nO
    · rw [e]; exact row
    · have s := fun g g1 g2 => sr g j g1 g2 e
      have t := fun g g1 => tr g (j + 1) g1 (by omega)
      rw [s 20 (by decide) (by decide), s 21 (by decide) (by decide), s 22 (by decide) (by decide), s 23 (by decide) (by decide), s 24 (by decide) (by decide), s 25 (by decide) (by decide), s 26 (by decide) (by decide), s 27 (by decide) (by decide), s 28 (by decide) (by decide), s 29 (by decide) (by decide), s 30 (by decide) (by decide), s 31 (by decide) (by decide), s 32 (by decide) (by decide), t 1 (by decide), t 2 (by decide), t 3 (by decide), t 4 (by decide), t 5 (by decide), t 6 (by decide), t 7 (by decide), t 8 (by decide), t 9 (by decide), t 10 (by decide), t 11 (by decide), t 12 (by decide)]
      exact gB j (by omega)
  · intro o ho
    have t := fun g g1 => tr g o g1 (by omega)
    rw [t 7 (by decide), t 8 (by decide), t 9 (by decide), t 10 (by decide), t 11 (by decide), t 12 (by decide)]
    exact gC o (by omega)
  · intro o
    by_cases e : o = nO + 1
    · rw [e]; exact ⟨n10, n11, 0, by omega, by rw [n7]; exact nI_0.symm⟩
    · rw [tr 10 o (by decide) e, tr 11 o (by decide) e, tr 7 o (by decide) e]
      obtain ⟨a, b, L, c, d⟩ := gD o
      exact ⟨a, b, L, by omega, d⟩
  · obtain ⟨a1, b1⟩ := gF
    unfold SF
    rw [so 42 (by decide) (by decide), to 18 (by decide)]
    refine ⟨fun w hw => ?_, b1⟩
    obtain ⟨c, d⟩ := a1 w hw
    refine ⟨c, ?_⟩
    rcases d with d | ⟨j, hj, d, d3⟩
    · exact Or.inl d
    · exact Or.inr ⟨j, by omega, d, by rw [tr 6 (j + 1) (by decide) (by omega)]; exact d3⟩
  · obtain ⟨R, r1, r2, r3, r4, r5⟩ := gG
    have hs : suN τ' nO = suN τ nO := su_congr (fun o ho => alN_row (tr 6 o (by decide) (by omega)) (tr 7 o (by decide) (by omega)))
    have ha : alN τ' (nO + 1) = 0 := by
      unfold alN
      rw [n7]
      split <;> rfl
    have hs2 : suN τ' (nO + 1) = suN τ nO := by
      show suN τ' nO + alN τ' (nO + 1) = _
      rw [hs, ha]
      rfl
    refine ⟨R, r1, by rw [t0]; exact r2, by rw [so 0 (by decide) (by decide)]; exact r3, by omega, by rw [so 1 (by decide) (by decide), hs2]; exact r5⟩
  · obtain ⟨A, K, j1, j2, j3, j4, j5, j6, j7⟩ := gJ
    unfold SJ
    rw [so 8 (by decide) (by decide), so 9 (by decide) (by decide), so 10 (by decide) (by decide), to 14 (by decide), to 15 (by decide), to 16 (by decide)]
    refine ⟨A, K, by omega, j2, j3, j4, fun a ha => ?_, fun a ha => ?_, j7⟩
    · obtain ⟨j, hj, e⟩ := j5 a ha; exact ⟨j, by omega, e⟩
    · obtain ⟨j, hj, e⟩ := j6 a ha; exact ⟨j, by omega, e⟩
theorem has_F {k nO nW : Nat} {σ τ : T2} (h : Sim k nO nW σ τ) (hk : k ≤ 512) (p0 p1 p2 : Int32) (n : Nat) (hn : n ≤ nO) : sC_hasOutputThere_F σ p0 n = sM_output_F τ p0 p1 p2 n ∧ (sM_output_F τ p0 p1 p2 n = 0 ∨ sM_output_F τ p0 p1 p2 n = 1) := by
  have hnO := h.1.2.2.1
  induction n with
  | zero => exact ⟨rfl, Or.inl rfl⟩
  | succ n ih =>
    obtain ⟨i1, i2⟩ := ih (by omega)
    show (if sC_hasOutputThere_F σ p0 n = 0 then sC_hasOutputThere_s σ p0 n else sC_hasOutputThere_F σ p0 n) = sM_output_s τ p0 p1 p2 n (sM_output_F τ p0 p1 p2 n) ∧ (sM_output_s τ p0 p1 p2 n (sM_output_F τ p0 p1 p2 n) = 0 ∨ sM_output_s τ p0 p1 p2 n (sM_output_F τ p0 p1 p2 n) = 1)
    rw [i1]
    generalize sM_output_F τ p0 p1 p2 n = a at i2 ⊢
    unfold sC_hasOutputThere_s sM_output_s
    rw [sO_gone_eq, sM_gone_eq, nI_clamp (by omega), nI_clamp (by omega), (h.2.1 n (by omega)).2.1, (h.2.1 n (by omega)).2.2.2.2.2.2.1]
    rcases i2 with q | q
    · rw [q, if_pos rfl, if_pos rfl]
      refine ⟨rfl, ?_⟩
      split
      · split
        · exact Or.inr rfl
        · exact Or.inl rfl
      · exact Or.inl rfl
    · rw [q, if_neg (show ¬ (1 : Int32) = 0 by decide)]
      exact ⟨rfl, Or.inr rfl⟩
theorem Sim.new0 {k nO nW : Nat} {σ τ : T2} (h : Sim k nO nW σ τ) (hk : k < 512) (p0 p1 p2 : Int32) : Sim (k + 1) (nO + 1) nW (sC_new σ nO p0 p1 p2) (sM_create τ p0 p1 p2 0 0) := by
  have hA := h.1
  have hnO := hA.2.2.1
  obtain ⟨z7, z8, z9, z10, z11, z12⟩ := h.2.2.1 (nO + 1) (by omega)
  have e : (τ 13 0 + 1).toNatClampNeg = nO + 1 := by rw [hA.2.1, nI_1, nI_clamp (by omega)]
  unfold sC_new sM_create
  rw [e]
  refine h.grow hk ?_ ?_ ?_ ?_ ?_ ?_ ?_ ?_ ?_ ?_ ?_
  · show σ 3 0 + 1 = _
    rw [hA.1, nI_1]
  · show τ 13 0 + 1 = _
    rw [hA.2.1, nI_1]
  · intro g i g1 g2 hi
    rw [upd2_ne (by omega)]
    simp only [upd2_row hi]
  · intro g o g1 ho
    simp only [upd2_row ho]
    rw [upd2_ne (by omega)]
  · intro g g1 g2
    rw [upd2_ne g1, upd2_ne (by omega), upd2_ne (by omega), upd2_ne (by omega), upd2_ne (by omega), upd2_ne (by omega), upd2_ne (by omega), upd2_ne (by omega), upd2_ne (by omega), upd2_ne (by omega), upd2_ne (by omega), upd2_ne (by omega), upd2_ne (by omega), upd2_ne (by omega)]
  · intro g g1
    rw [upd2_ne (by omega), upd2_ne (by omega), upd2_ne (by omega), upd2_ne (by omega), upd2_ne (by omega), upd2_ne (by omega), upd2_ne (by omega)]
  · rfl
  · simp [upd2_get, z7, z8, z9, z10, z11, z12, hA.1, nI_1]
  · exact z7
  · exact Or.inl z10
  · exact Or.inl z11
theorem st_output {k nO nW : Nat} {σ τ : T2} (h : Sim k nO nW σ τ) (hk : k < 512) (p0 p1 p2 : Int32) : (sC_output nO σ p0 p1 p2).1 = (sM_output τ p0 p1 p2).1 ∧ Sim (k + 1) (sC_output nO σ p0 p1 p2).2.1 nW (sC_output nO σ p0 p1 p2).2.2 (sM_output τ p0 p1 p2).2 := by
  have hA := h.1
  have hnO := hA.2.2.1
  obtain ⟨R, r1, r2, r3, r4, r5⟩ := h.2.2.2.2.2.2.1
  unfold sC_output sM_output
  have out : ∀ x : Int32 × Nat × T2, x = ((-1), nO, σ) → x.1 = ((-1 : Int32), τ).1 ∧ Sim (k + 1) x.2.1 nW x.2.2 ((-1 : Int32), τ).2 := fun x q => by rw [q]; exact ⟨rfl, h.mono⟩
  by_cases h1 : p0 < 1
  · rw [if_pos h1]; exact out _ (by rw [if_pos (iw_lo h1)])
  · rw [if_neg h1]
    by_cases h2 : 9999 < p0
    · rw [if_pos h2]; exact out _ (by rw [if_pos (iw_hi h2)])
    · rw [if_neg h2, if_neg (by rw [iw_ok h1 h2]; decide)]
      by_cases h3 : p1 < 0
      · rw [if_pos h3]; exact out _ (by rw [if_pos (iw_lo h3)])
      · rw [if_neg h3]
        by_cases h4 : 7 < p1
        · rw [if_pos h4]; exact out _ (by rw [if_pos (iw_hi h4)])
        · rw [if_neg h4, if_neg (by rw [iw_ok h3 h4]; decide)]
          by_cases h5 : p2 < 1
          · rw [if_pos h5]; exact out _ (by rw [if_pos (iw_lo h5)])
          · rw [if_neg h5]
            by_cases h6 : p2 ≤ 9
            · rw [if_pos h6, if_neg (by rw [iw_ok h5 (i_nle h6)]; decide)]
              obtain ⟨i1, i2⟩ := has_F h (by omega) p0 p1 p2 nO (Nat.le_refl _)
              unfold sM_output_x sC_hasOutputThere
              rw [hA.1, hA.2.1, if_neg (show ¬ (1000 : Int32) ≤ nI nO from nI_ge (a := nO) (b := 1000) (by omega) (by decide)), if_neg (show ¬ nI nO = 1000 from fun q => by have := (nI_eq (b := 1000) (by omega) (by decide)).mp q; omega), nI_clamp (by omega), i1, h.fr (by omega), r2, r3, show nI R / 8 = nI R / nI 8 from rfl, pk_div (by omega) (by decide) (by decide)]
              have hn := h.new0 hk p0 p1 p2
              have ha : nI nO + 1 = (sM_create τ p0 p1 p2 0 0) 13 0 := by
                show nI nO + 1 = τ 13 0 + 1
                rw [hA.2.1]
              generalize sM_output_F τ p0 p1 p2 nO = a at i2 ⊢
              by_cases h7 : nI (R / 8) < σ 1 0
              · rw [if_pos h7, if_pos h7]
                have : (if a = 0 then ((sM_create τ p0 p1 p2 0 0) 13 0, sM_create τ p0 p1 p2 0 0) else ((sM_create τ p0 p1 p2 0 0) 13 0, sM_create τ p0 p1 p2 0 0)) = ((sM_create τ p0 p1 p2 0 0) 13 0, sM_create τ p0 p1 p2 0 0) := ite_self _
                rw [this]
                exact ⟨ha, hn⟩
              · rw [if_neg h7, if_neg h7]
                by_cases h8 : a = 0
                · rw [if_pos h8, if_pos h8]; exact ⟨rfl, h.mono⟩
                · rw [if_neg h8, if_neg h8]; exact ⟨ha, hn⟩
            · rw [if_neg h6]; exact out _ (by rw [if_pos (iw_hi (i_nlt h6))])
theorem st_segment {k nO nW : Nat} {σ τ : T2} (h : Sim k nO nW σ τ) (hk : k < 512) (p0 : Int32) : (sC_segment nO σ p0).1 = (sM_segment τ p0).1 ∧ Sim (k + 1) (sC_segment nO σ p0).2.1 nW (sC_segment nO σ p0).2.2 (sM_segment τ p0).2 := by
  unfold sC_segment sM_segment
  rcases h.out (by omega) p0 with ⟨h1, h2⟩ | ⟨j, hj, ep, h1, h2, e1, e2⟩
  · rw [if_pos h1, if_pos h2]; exact ⟨rfl, h.mono⟩
  · have hA := h.1
    have hnO := hA.2.2.1
    obtain ⟨b0, b1, b2, b3, b4, b5, b6, b7, b8, b9, b10, b11, b12⟩ := h.2.1 j hj
    rw [if_neg h1, if_neg h2, e1, e2, b6, b8]
    by_cases h3 : τ 6 (j + 1) = 1
    · rw [if_pos h3, if_pos h3]
      by_cases h4 : τ 7 (j + 1) = 0
      · rw [if_pos h4, if_pos h4]; exact ⟨rfl, h.mono⟩
      · rw [if_neg h4, if_neg h4, if_pos (show σ 3 0 < 1000 by rw [hA.1]; exact nI_lt (b := 1000) (by omega) (by decide)), if_neg (show ¬ τ 13 0 = 1000 by rw [hA.2.1]; exact fun q => by have := (nI_eq (b := 1000) (by omega) (by decide)).mp q; omega)]
        have hs := h.st (x := 2) hj gvN_2 (one_ne_gone h3) (Or.inl (h.free_of (by omega) hj (by rw [h3]; decide)))
        have hbo := h.2.2.2.1 (j + 1)
        obtain ⟨z7, z8, z9, z10, z11, z12⟩ := h.2.2.1 (nO + 1) (by omega)
        have e : ((upd2 τ 6 (j + 1) 2) 13 0 + 1).toNatClampNeg = nO + 1 := by
          show (τ 13 0 + 1).toNatClampNeg = _
          rw [hA.2.1, nI_1, nI_clamp (by omega)]
        have e13 : ∀ a b c d f : Int32, (sM_create (upd2 τ 6 (j + 1) 2) a b c d f) 13 0 = nI (nO + 1) := fun a b c d f => by
          show τ 13 0 + 1 = _
          rw [hA.2.1, nI_1]
        have hjn : j ≠ nO := by omega
        refine ⟨by rw [e13, hA.1, nI_1], ?_⟩
        rw [e13, nI_clamp (by omega)]
        unfold sM_create sC_new sO_takeSettingsOf
        rw [e]
        refine hs.grow hk ?_ ?_ ?_ ?_ ?_ ?_ ?_ ?_ ?_ ?_ ?_
        · show σ 3 0 + 1 = _
          rw [hA.1, nI_1]
        · show τ 13 0 + 1 = _
          rw [hA.2.1, nI_1]
        · intro g i g1 g2 hi
          simp only [upd2_get]
          simp [hi]
          grind
        · intro g o g1 ho
          simp only [upd2_row ho]
          rw [upd2_ne (by omega)]
        · intro g g1 g2
          dsimp only
          repeat rw [upd2_ne (by omega)]
        · intro g g1
          dsimp only
          repeat rw [upd2_ne (by omega)]
        · rfl
        · simp [upd2_get, z7, z8, z9, z10, z11, z12, hA.1, nI_1, hjn, Ne.symm hjn, b1, b2, b3, b4, b5, b7, b9, b10]
          grind [nar_b]
        · exact z7
        · grind [upd2_get, nar_b]
        · grind [upd2_get, nar_b]
    · rw [if_neg h3, if_neg h3]; exact ⟨rfl, h.mono⟩
end
section
/-! the start -/
theorem room_eq (p : Int32) : cRoom p = mRoom p := by
  unfold cRoom mRoom
  by_cases h1 : p < 0
  · have h2 : ¬ (65536 : Int32) < p := fun q => by
      rw [Int32.lt_iff_toInt_lt, show (65536 : Int32).toInt = 65536 by decide] at q
      rw [Int32.lt_iff_toInt_lt, i32_0] at h1
      omega
    have h3 : ¬ (0 : Int32) < p := fun q => by
      rw [Int32.lt_iff_toInt_lt, i32_0] at q h1
      omega
    rw [if_pos h1, if_neg h2, if_neg h3]
  · rw [if_neg h1]
    by_cases h2 : (65536 : Int32) < p
    · rw [if_pos h2, if_pos (by decide)]
    · rw [if_neg h2]
      by_cases h3 : (0 : Int32) < p
      · rw [if_pos h3]
      · rw [if_neg h3]
        rw [Int32.lt_iff_toInt_lt, i32_0] at h1 h3
        exact Int32.toInt_inj.mp (by rw [i32_0]; omega)
theorem room_nI (p : Int32) : ∃ R, R ≤ 65536 ∧ mRoom p = nI R := by
  unfold mRoom
  by_cases h1 : p < 0
  · rw [if_pos h1]; exact ⟨0, by omega, nI_0.symm⟩
  · rw [if_neg h1]
    by_cases h2 : (65536 : Int32) < p
    · rw [if_pos h2]; exact ⟨65536, by omega, rfl⟩
    · rw [if_neg h2]
      obtain ⟨j, hj, e⟩ := nI_of h1
      refine ⟨j, ?_, e⟩
      rw [e, Int32.lt_iff_toInt_lt, show (65536 : Int32).toInt = 65536 by decide, nI_toInt hj] at h2
      omega
theorem Sim.init (p : Int32) : Sim 0 0 0 (c0 (cRoom p)) (m0 (mRoom p)) := by
  rw [room_eq]
  obtain ⟨R, hR, e⟩ := room_nI p
  rw [e]
  have zt : ∀ g o, g ≠ 0 → m0 (nI R) g o = 0 := fun g o hg => by unfold m0; rw [upd2_ne hg]
  have zs : ∀ g o, g ≠ 0 → g ≠ 1 → c0 (nI R) g o = 0 := fun g o h0 h1 => by unfold c0; rw [upd2_ne h0, upd2_ne h1]
  refine ⟨⟨?_, ?_, by omega, ?_, ?_, by omega⟩, fun j hj => by omega, fun o _ => ?_, fun o => ?_, fun w hw => by omega, ⟨fun w hw => by omega, fun w => ?_, fun w _ => zt 18 w (by decide), fun w w' hw => by omega⟩, ⟨R, hR, rfl, ?_, by show 0 ≤ R; omega, rfl⟩, ⟨0, by omega, ?_, ?_, fun i hi => by omega⟩, ⟨?_, ?_⟩, ⟨0, 0, by omega, by omega, ?_, ?_, fun a ha => by omega, fun a ha => by omega, fun P hP => rfl⟩⟩
  · rw [zs 3 0 (by decide) (by decide)]; exact nI_0.symm
  · rw [zt 13 0 (by decide)]; exact nI_0.symm
  · rw [zs 5 0 (by decide) (by decide)]; exact nI_0.symm
  · rw [zt 19 0 (by decide)]; exact nI_0.symm
  · exact ⟨zt 7 o (by decide), zt 8 o (by decide), zt 9 o (by decide), zt 10 o (by decide), zt 11 o (by decide), zt 12 o (by decide)⟩
  · exact ⟨Or.inl (zt 10 o (by decide)), Or.inl (zt 11 o (by decide)), 0, by omega, by rw [zt 7 o (by decide)]; exact nI_0.symm⟩
  · rw [zt 18 w (by decide)]; exact in_0
  · show nI R / 8 = nI (R / 8)
    rw [show nI R / 8 = nI R / nI 8 from rfl, pk_div (by omega) (by decide) (by decide)]
  · rw [zs 7 0 (by decide) (by decide)]; exact nI_0.symm
  · rw [zt 21 0 (by decide)]; exact nI_0.symm
  · rw [zs 11 0 (by decide) (by decide), zt 22 0 (by decide)]
  · rw [zs 12 0 (by decide) (by decide), zt 23 0 (by decide)]
  · rw [zt 16 0 (by decide)]; exact nI_0.symm
  · rw [zs 10 0 (by decide) (by decide)]; exact nI_0.symm
end
