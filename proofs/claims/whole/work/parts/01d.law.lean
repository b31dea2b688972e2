theorem inX0 : ∀ w ∈ wsX00, w ∈ lw_tbl := by decide +kernel
theorem inX1 : ∀ w ∈ wsX10, w ∈ lw_tbl := by decide +kernel
theorem inX2 : ∀ w ∈ wsX20, w ∈ lw_tbl := by decide +kernel
theorem inX3 : ∀ w ∈ wsX30, w ∈ lw_tbl := by decide +kernel
theorem tcL_cell : Cond.code yL_cell cL_cell 2 (some .int) ∈ lw_tbl := List.mem_append_right _ (List.mem_append_right _ (List.mem_append_left _ (List.mem_of_getElem? (i := 71) rfl)))
set_option maxRecDepth 40000 in
theorem toL_cell : ∀ w ∈ woL_cell, w ∈ lw_tbl := by decide +kernel
theorem tbL_cell : ∀ w ∈ wsL_cell, w ∈ lw_tbl := List.forall_mem_cons.mpr ⟨tcL_cell, toL_cell⟩
theorem tcX0_init : Cond.code yX0_init cX0_init 3 none ∈ lw_tbl := List.mem_append_right _ (List.mem_append_left _ (List.mem_of_getElem? (i := 10) rfl))
set_option maxRecDepth 40000 in
theorem toX0_init : ∀ w ∈ woX0_init, w ∈ lw_tbl := by decide +kernel
theorem tbX0_init : ∀ w ∈ wsX0_init, w ∈ lw_tbl := List.forall_mem_cons.mpr ⟨tcX0_init, (List.forall_mem_append.mpr ⟨toX0_init, inX0⟩)⟩
theorem tcX3_init : Cond.code yX3_init cX3_init 2 none ∈ lw_tbl := List.mem_append_right _ (List.mem_append_right _ (List.mem_append_left _ (List.mem_of_getElem? (i := 76) rfl)))
set_option maxRecDepth 40000 in
theorem toX3_init : ∀ w ∈ woX3_init, w ∈ lw_tbl := by decide +kernel
theorem tbX3_init : ∀ w ∈ wsX3_init, w ∈ lw_tbl := List.forall_mem_cons.mpr ⟨tcX3_init, (List.forall_mem_append.mpr ⟨toX3_init, inX3⟩)⟩
theorem tcX0_isWithin : Cond.code yX0_isWithin cX0_isWithin 3 (some .boolean) ∈ lw_tbl := List.mem_append_right _ (List.mem_append_left _ (List.mem_of_getElem? (i := 72) rfl))
set_option maxRecDepth 40000 in
theorem toX0_isWithin : ∀ w ∈ woX0_isWithin, w ∈ lw_tbl := by decide +kernel
theorem tbX0_isWithin : ∀ w ∈ wsX0_isWithin, w ∈ lw_tbl := List.forall_mem_cons.mpr ⟨tcX0_isWithin, toX0_isWithin⟩
theorem tcX0_outputOf : Cond.code yX0_outputOf cX0_outputOf 2 (some (.object "SpoolRows$Output")) ∈ lw_tbl := List.mem_append_right _ (List.mem_append_left _ (List.mem_of_getElem? (i := 80) rfl))
set_option maxRecDepth 40000 in
theorem toX0_outputOf : ∀ w ∈ woX0_outputOf, w ∈ lw_tbl := by decide +kernel
theorem tbX0_outputOf : ∀ w ∈ wsX0_outputOf, w ∈ lw_tbl := List.forall_mem_cons.mpr ⟨tcX0_outputOf, (List.forall_mem_append.mpr ⟨toX0_outputOf, (List.forall_mem_append.mpr ⟨inX0, tbX0_isWithin⟩)⟩)⟩
theorem tcX1_isGone : Cond.code yX1_isGone cX1_isGone 1 (some .boolean) ∈ lw_tbl := List.mem_append_right _ (List.mem_append_left _ (List.mem_of_getElem? (i := 84) rfl))
set_option maxRecDepth 40000 in
theorem toX1_isGone : ∀ w ∈ woX1_isGone, w ∈ lw_tbl := by decide +kernel
theorem tbX1_isGone : ∀ w ∈ wsX1_isGone, w ∈ lw_tbl := List.forall_mem_cons.mpr ⟨tcX1_isGone, (List.forall_mem_append.mpr ⟨toX1_isGone, inX1⟩)⟩
theorem tcX0_hasOutputThere : Cond.code yX0_hasOutputThere cX0_hasOutputThere 4 (some .boolean) ∈ lw_tbl := List.mem_append_right _ (List.mem_append_left _ (List.mem_of_getElem? (i := 76) rfl))
set_option maxRecDepth 40000 in
theorem toX0_hasOutputThere : ∀ w ∈ woX0_hasOutputThere, w ∈ lw_tbl := by decide +kernel
theorem tbX0_hasOutputThere : ∀ w ∈ wsX0_hasOutputThere, w ∈ lw_tbl := List.forall_mem_cons.mpr ⟨tcX0_hasOutputThere, (List.forall_mem_append.mpr ⟨toX0_hasOutputThere, (List.forall_mem_append.mpr ⟨inX0, (List.forall_mem_append.mpr ⟨inX1, (List.forall_mem_append.mpr ⟨tbX0_outputOf, tbX1_isGone⟩)⟩)⟩)⟩)⟩
theorem tcX1_init : Cond.code yX1_init cX1_init 5 none ∈ lw_tbl := List.mem_append_right _ (List.mem_append_left _ (List.mem_of_getElem? (i := 92) rfl))
set_option maxRecDepth 40000 in
theorem toX1_init : ∀ w ∈ woX1_init, w ∈ lw_tbl := by decide +kernel
theorem tbX1_init : ∀ w ∈ wsX1_init, w ∈ lw_tbl := List.forall_mem_cons.mpr ⟨tcX1_init, (List.forall_mem_append.mpr ⟨toX1_init, inX1⟩)⟩
theorem tcX0_addOutput : Cond.code yX0_addOutput cX0_addOutput 5 (some (.object "SpoolRows$Output")) ∈ lw_tbl := List.mem_append_right _ (List.mem_append_left _ (List.mem_of_getElem? (i := 88) rfl))
set_option maxRecDepth 40000 in
theorem toX0_addOutput : ∀ w ∈ woX0_addOutput, w ∈ lw_tbl := by decide +kernel
theorem tbX0_addOutput : ∀ w ∈ wsX0_addOutput, w ∈ lw_tbl := List.forall_mem_cons.mpr ⟨tcX0_addOutput, (List.forall_mem_append.mpr ⟨toX0_addOutput, (List.forall_mem_append.mpr ⟨inX0, (List.forall_mem_append.mpr ⟨inX1, tbX1_init⟩)⟩)⟩)⟩
theorem tcX0_output : Cond.code yX0_output cX0_output 5 (some .int) ∈ lw_tbl := List.mem_append_right _ (List.mem_append_left _ (List.mem_of_getElem? (i := 69) rfl))
set_option maxRecDepth 40000 in
theorem toX0_output : ∀ w ∈ woX0_output, w ∈ lw_tbl := by decide +kernel
theorem tbX0_output : ∀ w ∈ wsX0_output, w ∈ lw_tbl := List.forall_mem_cons.mpr ⟨tcX0_output, (List.forall_mem_append.mpr ⟨toX0_output, (List.forall_mem_append.mpr ⟨inX0, (List.forall_mem_append.mpr ⟨inX1, (List.forall_mem_append.mpr ⟨tbX0_isWithin, (List.forall_mem_append.mpr ⟨tbX0_hasOutputThere, tbX0_addOutput⟩)⟩)⟩)⟩)⟩)⟩
theorem tcX3_isGone : Cond.code yX3_isGone cX3_isGone 2 (some .boolean) ∈ lw_tbl := List.mem_append_right _ (List.mem_append_right _ (List.mem_append_left _ (List.mem_of_getElem? (i := 160) rfl)))
set_option maxRecDepth 40000 in
theorem toX3_isGone : ∀ w ∈ woX3_isGone, w ∈ lw_tbl := by decide +kernel
theorem tbX3_isGone : ∀ w ∈ wsX3_isGone, w ∈ lw_tbl := List.forall_mem_cons.mpr ⟨tcX3_isGone, (List.forall_mem_append.mpr ⟨toX3_isGone, inX3⟩)⟩
theorem tcX3_pagesOf : Cond.code yX3_pagesOf cX3_pagesOf 2 (some .int) ∈ lw_tbl := List.mem_append_right _ (List.mem_append_right _ (List.mem_append_left _ (List.mem_of_getElem? (i := 168) rfl)))
set_option maxRecDepth 40000 in
theorem toX3_pagesOf : ∀ w ∈ woX3_pagesOf, w ∈ lw_tbl := by decide +kernel
theorem tbX3_pagesOf : ∀ w ∈ wsX3_pagesOf, w ∈ lw_tbl := List.forall_mem_cons.mpr ⟨tcX3_pagesOf, (List.forall_mem_append.mpr ⟨toX3_pagesOf, inX3⟩)⟩
theorem tcX3_free : Cond.code yX3_free cX3_free 3 (some .int) ∈ lw_tbl := List.mem_append_right _ (List.mem_append_right _ (List.mem_append_left _ (List.mem_of_getElem? (i := 164) rfl)))
set_option maxRecDepth 40000 in
theorem toX3_free : ∀ w ∈ woX3_free, w ∈ lw_tbl := by decide +kernel
theorem tbX3_free : ∀ w ∈ wsX3_free, w ∈ lw_tbl := List.forall_mem_cons.mpr ⟨tcX3_free, (List.forall_mem_append.mpr ⟨toX3_free, (List.forall_mem_append.mpr ⟨inX3, (List.forall_mem_append.mpr ⟨tbX3_isGone, tbX3_pagesOf⟩)⟩)⟩)⟩
theorem tcX3_create : Cond.code yX3_create cX3_create 6 none ∈ lw_tbl := List.mem_append_right _ (List.mem_append_right _ (List.mem_append_left _ (List.mem_of_getElem? (i := 172) rfl)))
set_option maxRecDepth 40000 in
theorem toX3_create : ∀ w ∈ woX3_create, w ∈ lw_tbl := by decide +kernel
theorem tbX3_create : ∀ w ∈ wsX3_create, w ∈ lw_tbl := List.forall_mem_cons.mpr ⟨tcX3_create, (List.forall_mem_append.mpr ⟨toX3_create, inX3⟩)⟩
theorem tcX3_output : Cond.code yX3_output cX3_output 6 (some .int) ∈ lw_tbl := List.mem_append_right _ (List.mem_append_right _ (List.mem_append_left _ (List.mem_of_getElem? (i := 156) rfl)))
set_option maxRecDepth 40000 in
theorem toX3_output : ∀ w ∈ woX3_output, w ∈ lw_tbl := by decide +kernel
theorem tbX3_output : ∀ w ∈ wsX3_output, w ∈ lw_tbl := List.forall_mem_cons.mpr ⟨tcX3_output, (List.forall_mem_append.mpr ⟨toX3_output, (List.forall_mem_append.mpr ⟨inX3, (List.forall_mem_append.mpr ⟨tbX3_isGone, (List.forall_mem_append.mpr ⟨tbX3_free, tbX3_create⟩)⟩)⟩)⟩)⟩
theorem tcX1_isAtLimit : Cond.code yX1_isAtLimit cX1_isAtLimit 1 (some .boolean) ∈ lw_tbl := List.mem_append_right _ (List.mem_append_left _ (List.mem_of_getElem? (i := 156) rfl))
set_option maxRecDepth 40000 in
theorem toX1_isAtLimit : ∀ w ∈ woX1_isAtLimit, w ∈ lw_tbl := by decide +kernel
theorem tbX1_isAtLimit : ∀ w ∈ wsX1_isAtLimit, w ∈ lw_tbl := List.forall_mem_cons.mpr ⟨tcX1_isAtLimit, (List.forall_mem_append.mpr ⟨toX1_isAtLimit, inX1⟩)⟩
theorem tcX1_needsPage : Cond.code yX1_needsPage cX1_needsPage 1 (some .boolean) ∈ lw_tbl := List.mem_append_right _ (List.mem_append_left _ (List.mem_of_getElem? (i := 164) rfl))
set_option maxRecDepth 40000 in
theorem toX1_needsPage : ∀ w ∈ woX1_needsPage, w ∈ lw_tbl := by decide +kernel
theorem tbX1_needsPage : ∀ w ∈ wsX1_needsPage, w ∈ lw_tbl := List.forall_mem_cons.mpr ⟨tcX1_needsPage, (List.forall_mem_append.mpr ⟨toX1_needsPage, inX1⟩)⟩
theorem tcX0_hasRoomForLine : Cond.code yX0_hasRoomForLine cX0_hasRoomForLine 2 (some .boolean) ∈ lw_tbl := List.mem_append_right _ (List.mem_append_left _ (List.mem_of_getElem? (i := 160) rfl))
set_option maxRecDepth 40000 in
theorem toX0_hasRoomForLine : ∀ w ∈ woX0_hasRoomForLine, w ∈ lw_tbl := by decide +kernel
theorem tbX0_hasRoomForLine : ∀ w ∈ wsX0_hasRoomForLine, w ∈ lw_tbl := List.forall_mem_cons.mpr ⟨tcX0_hasRoomForLine, (List.forall_mem_append.mpr ⟨toX0_hasRoomForLine, (List.forall_mem_append.mpr ⟨inX0, tbX1_needsPage⟩)⟩)⟩
theorem tcX0_keepSign : Cond.code yX0_keepSign cX0_keepSign 3 none ∈ lw_tbl := List.mem_append_right _ (List.mem_append_left _ (List.mem_of_getElem? (i := 172) rfl))
set_option maxRecDepth 40000 in
theorem toX0_keepSign : ∀ w ∈ woX0_keepSign, w ∈ lw_tbl := by decide +kernel
theorem tbX0_keepSign : ∀ w ∈ wsX0_keepSign, w ∈ lw_tbl := List.forall_mem_cons.mpr ⟨tcX0_keepSign, (List.forall_mem_append.mpr ⟨toX0_keepSign, inX0⟩)⟩
theorem tcX0_takeLine : Cond.code yX0_takeLine cX0_takeLine 3 none ∈ lw_tbl := List.mem_append_right _ (List.mem_append_left _ (List.mem_of_getElem? (i := 168) rfl))
set_option maxRecDepth 40000 in
theorem toX0_takeLine : ∀ w ∈ woX0_takeLine, w ∈ lw_tbl := by decide +kernel
theorem tbX0_takeLine : ∀ w ∈ wsX0_takeLine, w ∈ lw_tbl := List.forall_mem_cons.mpr ⟨tcX0_takeLine, (List.forall_mem_append.mpr ⟨toX0_takeLine, (List.forall_mem_append.mpr ⟨inX0, (List.forall_mem_append.mpr ⟨inX1, (List.forall_mem_append.mpr ⟨tbX1_needsPage, tbX0_keepSign⟩)⟩)⟩)⟩)⟩
theorem tcX0_line : Cond.code yX0_line cX0_line 5 (some .int) ∈ lw_tbl := List.mem_append_right _ (List.mem_append_left _ (List.mem_of_getElem? (i := 151) rfl))
set_option maxRecDepth 40000 in
theorem toX0_line : ∀ w ∈ woX0_line, w ∈ lw_tbl := by decide +kernel
theorem tbX0_line : ∀ w ∈ wsX0_line, w ∈ lw_tbl := List.forall_mem_cons.mpr ⟨tcX0_line, (List.forall_mem_append.mpr ⟨toX0_line, (List.forall_mem_append.mpr ⟨inX1, (List.forall_mem_append.mpr ⟨tbX0_outputOf, (List.forall_mem_append.mpr ⟨tbX0_isWithin, (List.forall_mem_append.mpr ⟨tbX1_isAtLimit, (List.forall_mem_append.mpr ⟨tbX0_hasRoomForLine, tbX0_takeLine⟩)⟩)⟩)⟩)⟩)⟩)⟩
theorem tcX3_isOutput : Cond.code yX3_isOutput cX3_isOutput 2 (some .boolean) ∈ lw_tbl := List.mem_append_right _ (List.mem_append_right _ (List.mem_append_left _ (List.mem_of_getElem? (i := 180) rfl)))
set_option maxRecDepth 40000 in
theorem toX3_isOutput : ∀ w ∈ woX3_isOutput, w ∈ lw_tbl := by decide +kernel
theorem tbX3_isOutput : ∀ w ∈ wsX3_isOutput, w ∈ lw_tbl := List.forall_mem_cons.mpr ⟨tcX3_isOutput, (List.forall_mem_append.mpr ⟨toX3_isOutput, inX3⟩)⟩
theorem tcX3_line : Cond.code yX3_line cX3_line 4 (some .int) ∈ lw_tbl := List.mem_append_right _ (List.mem_append_right _ (List.mem_append_left _ (List.mem_of_getElem? (i := 176) rfl)))
set_option maxRecDepth 40000 in
theorem toX3_line : ∀ w ∈ woX3_line, w ∈ lw_tbl := by decide +kernel
theorem tbX3_line : ∀ w ∈ wsX3_line, w ∈ lw_tbl := List.forall_mem_cons.mpr ⟨tcX3_line, (List.forall_mem_append.mpr ⟨toX3_line, (List.forall_mem_append.mpr ⟨inX3, (List.forall_mem_append.mpr ⟨tbX3_isOutput, tbX3_free⟩)⟩)⟩)⟩
theorem tcX0_limit : Cond.code yX0_limit cX0_limit 5 (some .int) ∈ lw_tbl := List.mem_append_right _ (List.mem_append_left _ (List.mem_of_getElem? (i := 176) rfl))
set_option maxRecDepth 40000 in
theorem toX0_limit : ∀ w ∈ woX0_limit, w ∈ lw_tbl := by decide +kernel
theorem tbX0_limit : ∀ w ∈ wsX0_limit, w ∈ lw_tbl := List.forall_mem_cons.mpr ⟨tcX0_limit, (List.forall_mem_append.mpr ⟨toX0_limit, (List.forall_mem_append.mpr ⟨inX1, (List.forall_mem_append.mpr ⟨tbX0_outputOf, tbX1_isGone⟩)⟩)⟩)⟩
theorem tcX3_limit : Cond.code yX3_limit cX3_limit 4 (some .int) ∈ lw_tbl := List.mem_append_right _ (List.mem_append_right _ (List.mem_append_left _ (List.mem_of_getElem? (i := 185) rfl)))
set_option maxRecDepth 40000 in
theorem toX3_limit : ∀ w ∈ woX3_limit, w ∈ lw_tbl := by decide +kernel
theorem tbX3_limit : ∀ w ∈ wsX3_limit, w ∈ lw_tbl := List.forall_mem_cons.mpr ⟨tcX3_limit, (List.forall_mem_append.mpr ⟨toX3_limit, (List.forall_mem_append.mpr ⟨inX3, (List.forall_mem_append.mpr ⟨tbX3_isOutput, tbX3_isGone⟩)⟩)⟩)⟩
theorem tcX1_pageCount : Cond.code yX1_pageCount cX1_pageCount 1 (some .int) ∈ lw_tbl := List.mem_append_right _ (List.mem_append_left _ (List.mem_of_getElem? (i := 192) rfl))
set_option maxRecDepth 40000 in
theorem toX1_pageCount : ∀ w ∈ woX1_pageCount, w ∈ lw_tbl := by decide +kernel
theorem tbX1_pageCount : ∀ w ∈ wsX1_pageCount, w ∈ lw_tbl := List.forall_mem_cons.mpr ⟨tcX1_pageCount, (List.forall_mem_append.mpr ⟨toX1_pageCount, inX1⟩)⟩
theorem tcX0_letGo : Cond.code yX0_letGo cX0_letGo 3 none ∈ lw_tbl := List.mem_append_right _ (List.mem_append_left _ (List.mem_of_getElem? (i := 188) rfl))
set_option maxRecDepth 40000 in
theorem toX0_letGo : ∀ w ∈ woX0_letGo, w ∈ lw_tbl := by decide +kernel
theorem tbX0_letGo : ∀ w ∈ wsX0_letGo, w ∈ lw_tbl := List.forall_mem_cons.mpr ⟨tcX0_letGo, (List.forall_mem_append.mpr ⟨toX0_letGo, (List.forall_mem_append.mpr ⟨inX1, (List.forall_mem_append.mpr ⟨inX0, tbX1_pageCount⟩)⟩)⟩)⟩
theorem tcX0_releaseOrPurge : Cond.code yX0_releaseOrPurge cX0_releaseOrPurge 2 none ∈ lw_tbl := List.mem_append_right _ (List.mem_append_left _ (List.mem_of_getElem? (i := 184) rfl))
set_option maxRecDepth 40000 in
theorem toX0_releaseOrPurge : ∀ w ∈ woX0_releaseOrPurge, w ∈ lw_tbl := by decide +kernel
theorem tbX0_releaseOrPurge : ∀ w ∈ wsX0_releaseOrPurge, w ∈ lw_tbl := List.forall_mem_cons.mpr ⟨tcX0_releaseOrPurge, (List.forall_mem_append.mpr ⟨toX0_releaseOrPurge, (List.forall_mem_append.mpr ⟨inX1, tbX0_letGo⟩)⟩)⟩
theorem tcX0_end : Cond.code yX0_end cX0_end 5 (some .int) ∈ lw_tbl := List.mem_append_right _ (List.mem_append_left _ (List.mem_of_getElem? (i := 180) rfl))
set_option maxRecDepth 40000 in
theorem toX0_end : ∀ w ∈ woX0_end, w ∈ lw_tbl := by decide +kernel
theorem tbX0_end : ∀ w ∈ wsX0_end, w ∈ lw_tbl := List.forall_mem_cons.mpr ⟨tcX0_end, (List.forall_mem_append.mpr ⟨toX0_end, (List.forall_mem_append.mpr ⟨inX0, (List.forall_mem_append.mpr ⟨inX1, (List.forall_mem_append.mpr ⟨tbX0_outputOf, tbX0_releaseOrPurge⟩)⟩)⟩)⟩)⟩
theorem tcX3_goes : Cond.code yX3_goes cX3_goes 3 none ∈ lw_tbl := List.mem_append_right _ (List.mem_append_right _ (List.mem_append_left _ (List.mem_of_getElem? (i := 193) rfl)))
set_option maxRecDepth 40000 in
theorem toX3_goes : ∀ w ∈ woX3_goes, w ∈ lw_tbl := by decide +kernel
theorem tbX3_goes : ∀ w ∈ wsX3_goes, w ∈ lw_tbl := List.forall_mem_cons.mpr ⟨tcX3_goes, (List.forall_mem_append.mpr ⟨toX3_goes, inX3⟩)⟩
theorem tcX3_end : Cond.code yX3_end cX3_end 4 (some .int) ∈ lw_tbl := List.mem_append_right _ (List.mem_append_right _ (List.mem_append_left _ (List.mem_of_getElem? (i := 189) rfl)))
set_option maxRecDepth 40000 in
theorem toX3_end : ∀ w ∈ woX3_end, w ∈ lw_tbl := by decide +kernel
theorem tbX3_end : ∀ w ∈ wsX3_end, w ∈ lw_tbl := List.forall_mem_cons.mpr ⟨tcX3_end, (List.forall_mem_append.mpr ⟨toX3_end, (List.forall_mem_append.mpr ⟨inX3, tbX3_goes⟩)⟩)⟩
theorem tcX1_takeSettingsOf : Cond.code yX1_takeSettingsOf cX1_takeSettingsOf 2 none ∈ lw_tbl := List.mem_append_right _ (List.mem_append_left _ (List.mem_of_getElem? (i := 200) rfl))
set_option maxRecDepth 40000 in
theorem toX1_takeSettingsOf : ∀ w ∈ woX1_takeSettingsOf, w ∈ lw_tbl := by decide +kernel
theorem tbX1_takeSettingsOf : ∀ w ∈ wsX1_takeSettingsOf, w ∈ lw_tbl := List.forall_mem_cons.mpr ⟨tcX1_takeSettingsOf, (List.forall_mem_append.mpr ⟨toX1_takeSettingsOf, inX1⟩)⟩
theorem tcX0_segment : Cond.code yX0_segment cX0_segment 4 (some .int) ∈ lw_tbl := List.mem_append_right _ (List.mem_append_left _ (List.mem_of_getElem? (i := 196) rfl))
set_option maxRecDepth 40000 in
theorem toX0_segment : ∀ w ∈ woX0_segment, w ∈ lw_tbl := by decide +kernel
theorem tbX0_segment : ∀ w ∈ wsX0_segment, w ∈ lw_tbl := List.forall_mem_cons.mpr ⟨tcX0_segment, (List.forall_mem_append.mpr ⟨toX0_segment, (List.forall_mem_append.mpr ⟨inX1, (List.forall_mem_append.mpr ⟨tbX0_outputOf, (List.forall_mem_append.mpr ⟨tbX0_addOutput, tbX1_takeSettingsOf⟩)⟩)⟩)⟩)⟩
theorem tcX3_segment : Cond.code yX3_segment cX3_segment 2 (some .int) ∈ lw_tbl := List.mem_append_right _ (List.mem_append_right _ (List.mem_append_left _ (List.mem_of_getElem? (i := 197) rfl)))
set_option maxRecDepth 40000 in
theorem toX3_segment : ∀ w ∈ woX3_segment, w ∈ lw_tbl := by decide +kernel
theorem tbX3_segment : ∀ w ∈ wsX3_segment, w ∈ lw_tbl := List.forall_mem_cons.mpr ⟨tcX3_segment, (List.forall_mem_append.mpr ⟨toX3_segment, (List.forall_mem_append.mpr ⟨inX3, (List.forall_mem_append.mpr ⟨tbX3_isOutput, tbX3_create⟩)⟩)⟩)⟩
theorem tcX2_init : Cond.code yX2_init cX2_init 3 none ∈ lw_tbl := List.mem_append_right _ (List.mem_append_left _ (List.mem_of_getElem? (i := 208) rfl))
set_option maxRecDepth 40000 in
theorem toX2_init : ∀ w ∈ woX2_init, w ∈ lw_tbl := by decide +kernel
theorem tbX2_init : ∀ w ∈ wsX2_init, w ∈ lw_tbl := List.forall_mem_cons.mpr ⟨tcX2_init, (List.forall_mem_append.mpr ⟨toX2_init, inX2⟩)⟩
theorem tcX0_writer : Cond.code yX0_writer cX0_writer 4 (some .int) ∈ lw_tbl := List.mem_append_right _ (List.mem_append_left _ (List.mem_of_getElem? (i := 204) rfl))
set_option maxRecDepth 40000 in
theorem toX0_writer : ∀ w ∈ woX0_writer, w ∈ lw_tbl := by decide +kernel
theorem tbX0_writer : ∀ w ∈ wsX0_writer, w ∈ lw_tbl := List.forall_mem_cons.mpr ⟨tcX0_writer, (List.forall_mem_append.mpr ⟨toX0_writer, (List.forall_mem_append.mpr ⟨inX0, (List.forall_mem_append.mpr ⟨inX2, tbX2_init⟩)⟩)⟩)⟩
theorem tcX3_writer : Cond.code yX3_writer cX3_writer 2 (some .int) ∈ lw_tbl := List.mem_append_right _ (List.mem_append_right _ (List.mem_append_left _ (List.mem_of_getElem? (i := 201) rfl)))
set_option maxRecDepth 40000 in
theorem toX3_writer : ∀ w ∈ woX3_writer, w ∈ lw_tbl := by decide +kernel
theorem tbX3_writer : ∀ w ∈ wsX3_writer, w ∈ lw_tbl := List.forall_mem_cons.mpr ⟨tcX3_writer, (List.forall_mem_append.mpr ⟨toX3_writer, inX3⟩)⟩
theorem tcX0_writerOf : Cond.code yX0_writerOf cX0_writerOf 2 (some (.object "SpoolRows$Writer")) ∈ lw_tbl := List.mem_append_right _ (List.mem_append_left _ (List.mem_of_getElem? (i := 227) rfl))
set_option maxRecDepth 40000 in
theorem toX0_writerOf : ∀ w ∈ woX0_writerOf, w ∈ lw_tbl := by decide +kernel
theorem tbX0_writerOf : ∀ w ∈ wsX0_writerOf, w ∈ lw_tbl := List.forall_mem_cons.mpr ⟨tcX0_writerOf, (List.forall_mem_append.mpr ⟨toX0_writerOf, (List.forall_mem_append.mpr ⟨inX0, tbX0_isWithin⟩)⟩)⟩
theorem tcX1_mayBePrinted : Cond.code yX1_mayBePrinted cX1_mayBePrinted 1 (some .boolean) ∈ lw_tbl := List.mem_append_right _ (List.mem_append_left _ (List.mem_of_getElem? (i := 235) rfl))
set_option maxRecDepth 40000 in
theorem toX1_mayBePrinted : ∀ w ∈ woX1_mayBePrinted, w ∈ lw_tbl := by decide +kernel
theorem tbX1_mayBePrinted : ∀ w ∈ wsX1_mayBePrinted, w ∈ lw_tbl := List.forall_mem_cons.mpr ⟨tcX1_mayBePrinted, (List.forall_mem_append.mpr ⟨toX1_mayBePrinted, inX1⟩)⟩
theorem tcX2_suits : Cond.code yX2_suits cX2_suits 2 (some .boolean) ∈ lw_tbl := List.mem_append_right _ (List.mem_append_left _ (List.mem_of_getElem? (i := 239) rfl))
set_option maxRecDepth 40000 in
theorem toX2_suits : ∀ w ∈ woX2_suits, w ∈ lw_tbl := by decide +kernel
theorem tbX2_suits : ∀ w ∈ wsX2_suits, w ∈ lw_tbl := List.forall_mem_cons.mpr ⟨tcX2_suits, (List.forall_mem_append.mpr ⟨toX2_suits, (List.forall_mem_append.mpr ⟨inX2, inX1⟩)⟩)⟩
theorem tcX1_comesBefore : Cond.code yX1_comesBefore cX1_comesBefore 2 (some .boolean) ∈ lw_tbl := List.mem_append_right _ (List.mem_append_right _ (List.mem_append_left _ (List.mem_of_getElem? (i := 3) rfl)))
set_option maxRecDepth 40000 in
theorem toX1_comesBefore : ∀ w ∈ woX1_comesBefore, w ∈ lw_tbl := by decide +kernel
theorem tbX1_comesBefore : ∀ w ∈ wsX1_comesBefore, w ∈ lw_tbl := List.forall_mem_cons.mpr ⟨tcX1_comesBefore, (List.forall_mem_append.mpr ⟨toX1_comesBefore, inX1⟩)⟩
theorem tcX0_firstFor : Cond.code yX0_firstFor cX0_firstFor 5 (some (.object "SpoolRows$Output")) ∈ lw_tbl := List.mem_append_right _ (List.mem_append_left _ (List.mem_of_getElem? (i := 231) rfl))
set_option maxRecDepth 40000 in
theorem toX0_firstFor : ∀ w ∈ woX0_firstFor, w ∈ lw_tbl := by decide +kernel
theorem tbX0_firstFor : ∀ w ∈ wsX0_firstFor, w ∈ lw_tbl := List.forall_mem_cons.mpr ⟨tcX0_firstFor, (List.forall_mem_append.mpr ⟨toX0_firstFor, (List.forall_mem_append.mpr ⟨inX0, (List.forall_mem_append.mpr ⟨tbX0_outputOf, (List.forall_mem_append.mpr ⟨tbX1_mayBePrinted, (List.forall_mem_append.mpr ⟨tbX2_suits, tbX1_comesBefore⟩)⟩)⟩)⟩)⟩)⟩
theorem tcX0_next : Cond.code yX0_next cX0_next 4 (some .int) ∈ lw_tbl := List.mem_append_right _ (List.mem_append_left _ (List.mem_of_getElem? (i := 223) rfl))
set_option maxRecDepth 40000 in
theorem toX0_next : ∀ w ∈ woX0_next, w ∈ lw_tbl := by decide +kernel
theorem tbX0_next : ∀ w ∈ wsX0_next, w ∈ lw_tbl := List.forall_mem_cons.mpr ⟨tcX0_next, (List.forall_mem_append.mpr ⟨toX0_next, (List.forall_mem_append.mpr ⟨inX2, (List.forall_mem_append.mpr ⟨inX1, (List.forall_mem_append.mpr ⟨tbX0_writerOf, tbX0_firstFor⟩)⟩)⟩)⟩)⟩
theorem tcX3_isWriter : Cond.code yX3_isWriter cX3_isWriter 2 (some .boolean) ∈ lw_tbl := List.mem_append_right _ (List.mem_append_right _ (List.mem_append_left _ (List.mem_of_getElem? (i := 209) rfl)))
set_option maxRecDepth 40000 in
theorem toX3_isWriter : ∀ w ∈ woX3_isWriter, w ∈ lw_tbl := by decide +kernel
theorem tbX3_isWriter : ∀ w ∈ wsX3_isWriter, w ∈ lw_tbl := List.forall_mem_cons.mpr ⟨tcX3_isWriter, (List.forall_mem_append.mpr ⟨toX3_isWriter, inX3⟩)⟩
theorem tcX3_fits : Cond.code yX3_fits cX3_fits 3 (some .boolean) ∈ lw_tbl := List.mem_append_right _ (List.mem_append_right _ (List.mem_append_left _ (List.mem_of_getElem? (i := 213) rfl)))
set_option maxRecDepth 40000 in
theorem toX3_fits : ∀ w ∈ woX3_fits, w ∈ lw_tbl := by decide +kernel
theorem tbX3_fits : ∀ w ∈ wsX3_fits, w ∈ lw_tbl := List.forall_mem_cons.mpr ⟨tcX3_fits, (List.forall_mem_append.mpr ⟨toX3_fits, inX3⟩)⟩
theorem tcX3_next : Cond.code yX3_next cX3_next 5 (some .int) ∈ lw_tbl := List.mem_append_right _ (List.mem_append_right _ (List.mem_append_left _ (List.mem_of_getElem? (i := 205) rfl)))
set_option maxRecDepth 40000 in
theorem toX3_next : ∀ w ∈ woX3_next, w ∈ lw_tbl := by decide +kernel
theorem tbX3_next : ∀ w ∈ wsX3_next, w ∈ lw_tbl := List.forall_mem_cons.mpr ⟨tcX3_next, (List.forall_mem_append.mpr ⟨toX3_next, (List.forall_mem_append.mpr ⟨inX3, (List.forall_mem_append.mpr ⟨tbX3_isWriter, tbX3_fits⟩)⟩)⟩)⟩
theorem tcX1_pagesToPrint : Cond.code yX1_pagesToPrint cX1_pagesToPrint 1 (some .int) ∈ lw_tbl := List.mem_append_right _ (List.mem_append_right _ (List.mem_append_left _ (List.mem_of_getElem? (i := 11) rfl)))
set_option maxRecDepth 40000 in
theorem toX1_pagesToPrint : ∀ w ∈ woX1_pagesToPrint, w ∈ lw_tbl := by decide +kernel
theorem tbX1_pagesToPrint : ∀ w ∈ wsX1_pagesToPrint, w ∈ lw_tbl := List.forall_mem_cons.mpr ⟨tcX1_pagesToPrint, (List.forall_mem_append.mpr ⟨toX1_pagesToPrint, (List.forall_mem_append.mpr ⟨inX1, tbX1_pageCount⟩)⟩)⟩
theorem tcX0_noteInOrder : Cond.code yX0_noteInOrder cX0_noteInOrder 2 none ∈ lw_tbl := List.mem_append_right _ (List.mem_append_right _ (List.mem_append_left _ (List.mem_of_getElem? (i := 16) rfl)))
set_option maxRecDepth 40000 in
theorem toX0_noteInOrder : ∀ w ∈ woX0_noteInOrder, w ∈ lw_tbl := by decide +kernel
theorem tbX0_noteInOrder : ∀ w ∈ wsX0_noteInOrder, w ∈ lw_tbl := List.forall_mem_cons.mpr ⟨tcX0_noteInOrder, (List.forall_mem_append.mpr ⟨toX0_noteInOrder, (List.forall_mem_append.mpr ⟨inX0, inX1⟩)⟩)⟩
theorem tcX0_print : Cond.code yX0_print cX0_print 6 (some .int) ∈ lw_tbl := List.mem_append_right _ (List.mem_append_right _ (List.mem_append_left _ (List.mem_of_getElem? (i := 7) rfl)))
set_option maxRecDepth 40000 in
theorem toX0_print : ∀ w ∈ woX0_print, w ∈ lw_tbl := by decide +kernel
theorem tbX0_print : ∀ w ∈ wsX0_print, w ∈ lw_tbl := List.forall_mem_cons.mpr ⟨tcX0_print, (List.forall_mem_append.mpr ⟨toX0_print, (List.forall_mem_append.mpr ⟨inX2, (List.forall_mem_append.mpr ⟨inX1, (List.forall_mem_append.mpr ⟨inX0, (List.forall_mem_append.mpr ⟨tbX0_writerOf, (List.forall_mem_append.mpr ⟨tbX1_pagesToPrint, (List.forall_mem_append.mpr ⟨tbX0_noteInOrder, tbX0_letGo⟩)⟩)⟩)⟩)⟩)⟩)⟩)⟩
theorem tcX3_print : Cond.code yX3_print cX3_print 6 (some .int) ∈ lw_tbl := List.mem_append_right _ (List.mem_append_right _ (List.mem_append_left _ (List.mem_of_getElem? (i := 217) rfl)))
set_option maxRecDepth 40000 in
theorem toX3_print : ∀ w ∈ woX3_print, w ∈ lw_tbl := by decide +kernel
theorem tbX3_print : ∀ w ∈ wsX3_print, w ∈ lw_tbl := List.forall_mem_cons.mpr ⟨tcX3_print, (List.forall_mem_append.mpr ⟨toX3_print, (List.forall_mem_append.mpr ⟨inX3, (List.forall_mem_append.mpr ⟨tbX3_isWriter, (List.forall_mem_append.mpr ⟨tbX3_pagesOf, tbX3_goes⟩)⟩)⟩)⟩)⟩
theorem tcX1_lastCheckpoint : Cond.code yX1_lastCheckpoint cX1_lastCheckpoint 1 (some .int) ∈ lw_tbl := List.mem_append_right _ (List.mem_append_right _ (List.mem_append_left _ (List.mem_of_getElem? (i := 24) rfl)))
set_option maxRecDepth 40000 in
theorem toX1_lastCheckpoint : ∀ w ∈ woX1_lastCheckpoint, w ∈ lw_tbl := by decide +kernel
theorem tbX1_lastCheckpoint : ∀ w ∈ wsX1_lastCheckpoint, w ∈ lw_tbl := List.forall_mem_cons.mpr ⟨tcX1_lastCheckpoint, (List.forall_mem_append.mpr ⟨toX1_lastCheckpoint, inX1⟩)⟩
theorem tcX0_cut : Cond.code yX0_cut cX0_cut 5 (some .int) ∈ lw_tbl := List.mem_append_right _ (List.mem_append_right _ (List.mem_append_left _ (List.mem_of_getElem? (i := 20) rfl)))
set_option maxRecDepth 40000 in
theorem toX0_cut : ∀ w ∈ woX0_cut, w ∈ lw_tbl := by decide +kernel
theorem tbX0_cut : ∀ w ∈ wsX0_cut, w ∈ lw_tbl := List.forall_mem_cons.mpr ⟨tcX0_cut, (List.forall_mem_append.mpr ⟨toX0_cut, (List.forall_mem_append.mpr ⟨inX2, (List.forall_mem_append.mpr ⟨inX1, (List.forall_mem_append.mpr ⟨inX0, (List.forall_mem_append.mpr ⟨tbX0_writerOf, (List.forall_mem_append.mpr ⟨tbX1_lastCheckpoint, tbX0_letGo⟩)⟩)⟩)⟩)⟩)⟩)⟩
theorem tcX3_cut : Cond.code yX3_cut cX3_cut 4 (some .int) ∈ lw_tbl := List.mem_append_right _ (List.mem_append_right _ (List.mem_append_left _ (List.mem_of_getElem? (i := 221) rfl)))
set_option maxRecDepth 40000 in
theorem toX3_cut : ∀ w ∈ woX3_cut, w ∈ lw_tbl := by decide +kernel
theorem tbX3_cut : ∀ w ∈ wsX3_cut, w ∈ lw_tbl := List.forall_mem_cons.mpr ⟨tcX3_cut, (List.forall_mem_append.mpr ⟨toX3_cut, (List.forall_mem_append.mpr ⟨inX3, (List.forall_mem_append.mpr ⟨tbX3_isWriter, tbX3_goes⟩)⟩)⟩)⟩
theorem tcX0_purge : Cond.code yX0_purge cX0_purge 3 (some .int) ∈ lw_tbl := List.mem_append_right _ (List.mem_append_right _ (List.mem_append_left _ (List.mem_of_getElem? (i := 28) rfl)))
set_option maxRecDepth 40000 in
theorem toX0_purge : ∀ w ∈ woX0_purge, w ∈ lw_tbl := by decide +kernel
theorem tbX0_purge : ∀ w ∈ wsX0_purge, w ∈ lw_tbl := List.forall_mem_cons.mpr ⟨tcX0_purge, (List.forall_mem_append.mpr ⟨toX0_purge, (List.forall_mem_append.mpr ⟨inX1, (List.forall_mem_append.mpr ⟨tbX0_outputOf, (List.forall_mem_append.mpr ⟨tbX1_isGone, tbX0_letGo⟩)⟩)⟩)⟩)⟩
theorem tcX3_purge : Cond.code yX3_purge cX3_purge 2 (some .int) ∈ lw_tbl := List.mem_append_right _ (List.mem_append_right _ (List.mem_append_left _ (List.mem_of_getElem? (i := 225) rfl)))
set_option maxRecDepth 40000 in
theorem toX3_purge : ∀ w ∈ woX3_purge, w ∈ lw_tbl := by decide +kernel
theorem tbX3_purge : ∀ w ∈ wsX3_purge, w ∈ lw_tbl := List.forall_mem_cons.mpr ⟨tcX3_purge, (List.forall_mem_append.mpr ⟨toX3_purge, (List.forall_mem_append.mpr ⟨inX3, (List.forall_mem_append.mpr ⟨tbX3_isOutput, (List.forall_mem_append.mpr ⟨tbX3_isGone, tbX3_goes⟩)⟩)⟩)⟩)⟩
theorem tcX1_isOpenOrReleased : Cond.code yX1_isOpenOrReleased cX1_isOpenOrReleased 1 (some .boolean) ∈ lw_tbl := List.mem_append_right _ (List.mem_append_right _ (List.mem_append_left _ (List.mem_of_getElem? (i := 36) rfl)))
set_option maxRecDepth 40000 in
theorem toX1_isOpenOrReleased : ∀ w ∈ woX1_isOpenOrReleased, w ∈ lw_tbl := by decide +kernel
theorem tbX1_isOpenOrReleased : ∀ w ∈ wsX1_isOpenOrReleased, w ∈ lw_tbl := List.forall_mem_cons.mpr ⟨tcX1_isOpenOrReleased, (List.forall_mem_append.mpr ⟨toX1_isOpenOrReleased, inX1⟩)⟩
theorem tcX0_hold : Cond.code yX0_hold cX0_hold 5 (some .int) ∈ lw_tbl := List.mem_append_right _ (List.mem_append_right _ (List.mem_append_left _ (List.mem_of_getElem? (i := 32) rfl)))
set_option maxRecDepth 40000 in
theorem toX0_hold : ∀ w ∈ woX0_hold, w ∈ lw_tbl := by decide +kernel
theorem tbX0_hold : ∀ w ∈ wsX0_hold, w ∈ lw_tbl := List.forall_mem_cons.mpr ⟨tcX0_hold, (List.forall_mem_append.mpr ⟨toX0_hold, (List.forall_mem_append.mpr ⟨inX1, (List.forall_mem_append.mpr ⟨tbX0_outputOf, tbX1_isOpenOrReleased⟩)⟩)⟩)⟩
theorem tcX3_isStill : Cond.code yX3_isStill cX3_isStill 2 (some .boolean) ∈ lw_tbl := List.mem_append_right _ (List.mem_append_right _ (List.mem_append_left _ (List.mem_of_getElem? (i := 233) rfl)))
set_option maxRecDepth 40000 in
theorem toX3_isStill : ∀ w ∈ woX3_isStill, w ∈ lw_tbl := by decide +kernel
theorem tbX3_isStill : ∀ w ∈ wsX3_isStill, w ∈ lw_tbl := List.forall_mem_cons.mpr ⟨tcX3_isStill, (List.forall_mem_append.mpr ⟨toX3_isStill, inX3⟩)⟩
theorem tcX3_hold : Cond.code yX3_hold cX3_hold 4 (some .int) ∈ lw_tbl := List.mem_append_right _ (List.mem_append_right _ (List.mem_append_left _ (List.mem_of_getElem? (i := 229) rfl)))
set_option maxRecDepth 40000 in
theorem toX3_hold : ∀ w ∈ woX3_hold, w ∈ lw_tbl := by decide +kernel
theorem tbX3_hold : ∀ w ∈ wsX3_hold, w ∈ lw_tbl := List.forall_mem_cons.mpr ⟨tcX3_hold, (List.forall_mem_append.mpr ⟨toX3_hold, (List.forall_mem_append.mpr ⟨inX3, (List.forall_mem_append.mpr ⟨tbX3_isOutput, tbX3_isStill⟩)⟩)⟩)⟩
theorem tcX0_route : Cond.code yX0_route cX0_route 5 (some .int) ∈ lw_tbl := List.mem_append_right _ (List.mem_append_right _ (List.mem_append_left _ (List.mem_of_getElem? (i := 40) rfl)))
set_option maxRecDepth 40000 in
theorem toX0_route : ∀ w ∈ woX0_route, w ∈ lw_tbl := by decide +kernel
theorem tbX0_route : ∀ w ∈ wsX0_route, w ∈ lw_tbl := List.forall_mem_cons.mpr ⟨tcX0_route, (List.forall_mem_append.mpr ⟨toX0_route, (List.forall_mem_append.mpr ⟨inX1, (List.forall_mem_append.mpr ⟨tbX0_outputOf, (List.forall_mem_append.mpr ⟨tbX0_isWithin, tbX1_isOpenOrReleased⟩)⟩)⟩)⟩)⟩
theorem tcX3_route : Cond.code yX3_route cX3_route 4 (some .int) ∈ lw_tbl := List.mem_append_right _ (List.mem_append_right _ (List.mem_append_left _ (List.mem_of_getElem? (i := 237) rfl)))
set_option maxRecDepth 40000 in
theorem toX3_route : ∀ w ∈ woX3_route, w ∈ lw_tbl := by decide +kernel
theorem tbX3_route : ∀ w ∈ wsX3_route, w ∈ lw_tbl := List.forall_mem_cons.mpr ⟨tcX3_route, (List.forall_mem_append.mpr ⟨toX3_route, (List.forall_mem_append.mpr ⟨inX3, (List.forall_mem_append.mpr ⟨tbX3_isOutput, tbX3_isStill⟩)⟩)⟩)⟩
theorem tcX0_isThere : Cond.code yX0_isThere cX0_isThere 3 (some .boolean) ∈ lw_tbl := List.mem_append_right _ (List.mem_append_right _ (List.mem_append_left _ (List.mem_of_getElem? (i := 48) rfl)))
set_option maxRecDepth 40000 in
theorem toX0_isThere : ∀ w ∈ woX0_isThere, w ∈ lw_tbl := by decide +kernel
theorem tbX0_isThere : ∀ w ∈ wsX0_isThere, w ∈ lw_tbl := List.forall_mem_cons.mpr ⟨tcX0_isThere, (List.forall_mem_append.mpr ⟨toX0_isThere, (List.forall_mem_append.mpr ⟨tbX0_outputOf, tbX1_isGone⟩)⟩)⟩
theorem tcX0_search : Cond.code yX0_search cX0_search 4 (some .int) ∈ lw_tbl := List.mem_append_right _ (List.mem_append_right _ (List.mem_append_left _ (List.mem_of_getElem? (i := 44) rfl)))
set_option maxRecDepth 40000 in
theorem toX0_search : ∀ w ∈ woX0_search, w ∈ lw_tbl := by decide +kernel
theorem tbX0_search : ∀ w ∈ wsX0_search, w ∈ lw_tbl := List.forall_mem_cons.mpr ⟨tcX0_search, (List.forall_mem_append.mpr ⟨toX0_search, (List.forall_mem_append.mpr ⟨inX0, (List.forall_mem_append.mpr ⟨tbX0_isWithin, tbX0_isThere⟩)⟩)⟩)⟩
theorem tcX3_search : Cond.code yX3_search cX3_search 4 (some .int) ∈ lw_tbl := List.mem_append_right _ (List.mem_append_right _ (List.mem_append_right _ (List.mem_of_getElem? (i := 1) rfl)))
set_option maxRecDepth 40000 in
theorem toX3_search : ∀ w ∈ woX3_search, w ∈ lw_tbl := by decide +kernel
theorem tbX3_search : ∀ w ∈ wsX3_search, w ∈ lw_tbl := List.forall_mem_cons.mpr ⟨tcX3_search, (List.forall_mem_append.mpr ⟨toX3_search, (List.forall_mem_append.mpr ⟨inX3, tbX3_isGone⟩)⟩)⟩
theorem tcX0_order : Cond.code yX0_order cX0_order 2 (some .int) ∈ lw_tbl := List.mem_append_right _ (List.mem_append_right _ (List.mem_append_left _ (List.mem_of_getElem? (i := 52) rfl)))
set_option maxRecDepth 40000 in
theorem toX0_order : ∀ w ∈ woX0_order, w ∈ lw_tbl := by decide +kernel
theorem tbX0_order : ∀ w ∈ wsX0_order, w ∈ lw_tbl := List.forall_mem_cons.mpr ⟨tcX0_order, (List.forall_mem_append.mpr ⟨toX0_order, (List.forall_mem_append.mpr ⟨inX0, tbX0_isWithin⟩)⟩)⟩
theorem tcX3_order : Cond.code yX3_order cX3_order 2 (some .int) ∈ lw_tbl := List.mem_append_right _ (List.mem_append_right _ (List.mem_append_right _ (List.mem_of_getElem? (i := 5) rfl)))
set_option maxRecDepth 40000 in
theorem toX3_order : ∀ w ∈ woX3_order, w ∈ lw_tbl := by decide +kernel
theorem tbX3_order : ∀ w ∈ wsX3_order, w ∈ lw_tbl := List.forall_mem_cons.mpr ⟨tcX3_order, (List.forall_mem_append.mpr ⟨toX3_order, inX3⟩)⟩
theorem tcX1_copiesLeft : Cond.code yX1_copiesLeft cX1_copiesLeft 2 (some .int) ∈ lw_tbl := List.mem_append_right _ (List.mem_append_right _ (List.mem_append_left _ (List.mem_of_getElem? (i := 60) rfl)))
set_option maxRecDepth 40000 in
theorem toX1_copiesLeft : ∀ w ∈ woX1_copiesLeft, w ∈ lw_tbl := by decide +kernel
theorem tbX1_copiesLeft : ∀ w ∈ wsX1_copiesLeft, w ∈ lw_tbl := List.forall_mem_cons.mpr ⟨tcX1_copiesLeft, (List.forall_mem_append.mpr ⟨toX1_copiesLeft, (List.forall_mem_append.mpr ⟨inX1, tbX1_pageCount⟩)⟩)⟩
theorem tcX0_state : Cond.code yX0_state cX0_state 4 (some .int) ∈ lw_tbl := List.mem_append_right _ (List.mem_append_right _ (List.mem_append_left _ (List.mem_of_getElem? (i := 56) rfl)))
set_option maxRecDepth 40000 in
theorem toX0_state : ∀ w ∈ woX0_state, w ∈ lw_tbl := by decide +kernel
theorem tbX0_state : ∀ w ∈ wsX0_state, w ∈ lw_tbl := List.forall_mem_cons.mpr ⟨tcX0_state, (List.forall_mem_append.mpr ⟨toX0_state, (List.forall_mem_append.mpr ⟨inX1, (List.forall_mem_append.mpr ⟨tbX0_outputOf, (List.forall_mem_append.mpr ⟨tbX1_pageCount, tbX1_copiesLeft⟩)⟩)⟩)⟩)⟩
theorem tcX3_state : Cond.code yX3_state cX3_state 4 (some .int) ∈ lw_tbl := List.mem_append_right _ (List.mem_append_right _ (List.mem_append_right _ (List.mem_of_getElem? (i := 9) rfl)))
set_option maxRecDepth 40000 in
theorem toX3_state : ∀ w ∈ woX3_state, w ∈ lw_tbl := by decide +kernel
theorem tbX3_state : ∀ w ∈ wsX3_state, w ∈ lw_tbl := List.forall_mem_cons.mpr ⟨tcX3_state, (List.forall_mem_append.mpr ⟨toX3_state, (List.forall_mem_append.mpr ⟨inX3, (List.forall_mem_append.mpr ⟨tbX3_isOutput, tbX3_pagesOf⟩)⟩)⟩)⟩
theorem tcX0_outputsThere : Cond.code yX0_outputsThere cX0_outputsThere 3 (some .int) ∈ lw_tbl := List.mem_append_right _ (List.mem_append_right _ (List.mem_append_left _ (List.mem_of_getElem? (i := 68) rfl)))
set_option maxRecDepth 40000 in
theorem toX0_outputsThere : ∀ w ∈ woX0_outputsThere, w ∈ lw_tbl := by decide +kernel
theorem tbX0_outputsThere : ∀ w ∈ wsX0_outputsThere, w ∈ lw_tbl := List.forall_mem_cons.mpr ⟨tcX0_outputsThere, (List.forall_mem_append.mpr ⟨toX0_outputsThere, (List.forall_mem_append.mpr ⟨inX0, tbX0_isThere⟩)⟩)⟩
theorem tcX0_count : Cond.code yX0_count cX0_count 2 (some .int) ∈ lw_tbl := List.mem_append_right _ (List.mem_append_right _ (List.mem_append_left _ (List.mem_of_getElem? (i := 64) rfl)))
set_option maxRecDepth 40000 in
theorem toX0_count : ∀ w ∈ woX0_count, w ∈ lw_tbl := by decide +kernel
theorem tbX0_count : ∀ w ∈ wsX0_count, w ∈ lw_tbl := List.forall_mem_cons.mpr ⟨tcX0_count, (List.forall_mem_append.mpr ⟨toX0_count, (List.forall_mem_append.mpr ⟨inX0, tbX0_outputsThere⟩)⟩)⟩
theorem tcX3_count : Cond.code yX3_count cX3_count 4 (some .int) ∈ lw_tbl := List.mem_append_right _ (List.mem_append_right _ (List.mem_append_right _ (List.mem_of_getElem? (i := 13) rfl)))
set_option maxRecDepth 40000 in
theorem toX3_count : ∀ w ∈ woX3_count, w ∈ lw_tbl := by decide +kernel
theorem tbX3_count : ∀ w ∈ wsX3_count, w ∈ lw_tbl := List.forall_mem_cons.mpr ⟨tcX3_count, (List.forall_mem_append.mpr ⟨toX3_count, (List.forall_mem_append.mpr ⟨inX3, (List.forall_mem_append.mpr ⟨tbX3_isGone, tbX3_free⟩)⟩)⟩)⟩
theorem ggL_law_L_cell : GoodIn lw_tbl wsL_cell := fun w h => ⟨tbL_cell w h, good_of_word (gdL_cell w h)⟩
theorem gL_law_L_cell : GoodIn lw_tbl (va_wsS RL 9 yL_cell wsL_cell) := goodIn_app (goodIn_of _ (by decide +kernel)) ggL_law_L_cell
theorem ggL_law_X0_init : GoodIn lw_tbl wsX0_init := fun w h => ⟨tbX0_init w h, good_of_word (gdX0_init w h)⟩
theorem gL_law_X0_init : GoodIn lw_tbl (wsX0_init) := ggL_law_X0_init
theorem ggL_law_X3_init : GoodIn lw_tbl wsX3_init := fun w h => ⟨tbX3_init w h, good_of_word (gdX3_init w h)⟩
theorem gL_law_X3_init : GoodIn lw_tbl (wsX3_init) := ggL_law_X3_init
theorem ggL_law_X0_output : GoodIn lw_tbl wsX0_output := fun w h => ⟨tbX0_output w h, good_of_word (gdX0_output w h)⟩
theorem gL_law_X0_output : GoodIn lw_tbl (wsV RL 21 RX0 yX0_output wsX0_output) := goodIn_app (goodIn_of _ (by decide +kernel)) ggL_law_X0_output
theorem ggL_law_X3_output : GoodIn lw_tbl wsX3_output := fun w h => ⟨tbX3_output w h, good_of_word (gdX3_output w h)⟩
theorem gL_law_X3_output : GoodIn lw_tbl (wsV RL 25 RX3 yX3_output wsX3_output) := goodIn_app (goodIn_of _ (by decide +kernel)) ggL_law_X3_output
theorem ggL_law_X0_line : GoodIn lw_tbl wsX0_line := fun w h => ⟨tbX0_line w h, good_of_word (gdX0_line w h)⟩
theorem gL_law_X0_line : GoodIn lw_tbl (wsV RL 26 RX0 yX0_line wsX0_line) := goodIn_app (goodIn_of _ (by decide +kernel)) ggL_law_X0_line
theorem ggL_law_X3_line : GoodIn lw_tbl wsX3_line := fun w h => ⟨tbX3_line w h, good_of_word (gdX3_line w h)⟩
theorem gL_law_X3_line : GoodIn lw_tbl (wsV RL 30 RX3 yX3_line wsX3_line) := goodIn_app (goodIn_of _ (by decide +kernel)) ggL_law_X3_line
theorem ggL_law_X0_limit : GoodIn lw_tbl wsX0_limit := fun w h => ⟨tbX0_limit w h, good_of_word (gdX0_limit w h)⟩
theorem gL_law_X0_limit : GoodIn lw_tbl (wsV RL 31 RX0 yX0_limit wsX0_limit) := goodIn_app (goodIn_of _ (by decide +kernel)) ggL_law_X0_limit
theorem ggL_law_X3_limit : GoodIn lw_tbl wsX3_limit := fun w h => ⟨tbX3_limit w h, good_of_word (gdX3_limit w h)⟩
theorem gL_law_X3_limit : GoodIn lw_tbl (wsV RL 35 RX3 yX3_limit wsX3_limit) := goodIn_app (goodIn_of _ (by decide +kernel)) ggL_law_X3_limit
theorem ggL_law_X0_end : GoodIn lw_tbl wsX0_end := fun w h => ⟨tbX0_end w h, good_of_word (gdX0_end w h)⟩
theorem gL_law_X0_end : GoodIn lw_tbl (wsV RL 36 RX0 yX0_end wsX0_end) := goodIn_app (goodIn_of _ (by decide +kernel)) ggL_law_X0_end
theorem ggL_law_X3_end : GoodIn lw_tbl wsX3_end := fun w h => ⟨tbX3_end w h, good_of_word (gdX3_end w h)⟩
theorem gL_law_X3_end : GoodIn lw_tbl (wsV RL 40 RX3 yX3_end wsX3_end) := goodIn_app (goodIn_of _ (by decide +kernel)) ggL_law_X3_end
theorem ggL_law_X0_segment : GoodIn lw_tbl wsX0_segment := fun w h => ⟨tbX0_segment w h, good_of_word (gdX0_segment w h)⟩
theorem gL_law_X0_segment : GoodIn lw_tbl (wsV RL 41 RX0 yX0_segment wsX0_segment) := goodIn_app (goodIn_of _ (by decide +kernel)) ggL_law_X0_segment
theorem ggL_law_X3_segment : GoodIn lw_tbl wsX3_segment := fun w h => ⟨tbX3_segment w h, good_of_word (gdX3_segment w h)⟩
theorem gL_law_X3_segment : GoodIn lw_tbl (wsV RL 44 RX3 yX3_segment wsX3_segment) := goodIn_app (goodIn_of _ (by decide +kernel)) ggL_law_X3_segment
theorem ggL_law_X0_writer : GoodIn lw_tbl wsX0_writer := fun w h => ⟨tbX0_writer w h, good_of_word (gdX0_writer w h)⟩
theorem gL_law_X0_writer : GoodIn lw_tbl (wsV RL 45 RX0 yX0_writer wsX0_writer) := goodIn_app (goodIn_of _ (by decide +kernel)) ggL_law_X0_writer
theorem ggL_law_X3_writer : GoodIn lw_tbl wsX3_writer := fun w h => ⟨tbX3_writer w h, good_of_word (gdX3_writer w h)⟩
theorem gL_law_X3_writer : GoodIn lw_tbl (wsV RL 48 RX3 yX3_writer wsX3_writer) := goodIn_app (goodIn_of _ (by decide +kernel)) ggL_law_X3_writer
theorem ggL_law_X0_next : GoodIn lw_tbl wsX0_next := fun w h => ⟨tbX0_next w h, good_of_word (gdX0_next w h)⟩
theorem gL_law_X0_next : GoodIn lw_tbl (wsV RL 49 RX0 yX0_next wsX0_next) := goodIn_app (goodIn_of _ (by decide +kernel)) ggL_law_X0_next
theorem ggL_law_X3_next : GoodIn lw_tbl wsX3_next := fun w h => ⟨tbX3_next w h, good_of_word (gdX3_next w h)⟩
theorem gL_law_X3_next : GoodIn lw_tbl (wsV RL 52 RX3 yX3_next wsX3_next) := goodIn_app (goodIn_of _ (by decide +kernel)) ggL_law_X3_next
theorem ggL_law_X0_print : GoodIn lw_tbl wsX0_print := fun w h => ⟨tbX0_print w h, good_of_word (gdX0_print w h)⟩
theorem gL_law_X0_print : GoodIn lw_tbl (wsV RL 53 RX0 yX0_print wsX0_print) := goodIn_app (goodIn_of _ (by decide +kernel)) ggL_law_X0_print
theorem ggL_law_X3_print : GoodIn lw_tbl wsX3_print := fun w h => ⟨tbX3_print w h, good_of_word (gdX3_print w h)⟩
theorem gL_law_X3_print : GoodIn lw_tbl (wsV RL 56 RX3 yX3_print wsX3_print) := goodIn_app (goodIn_of _ (by decide +kernel)) ggL_law_X3_print
theorem ggL_law_X0_cut : GoodIn lw_tbl wsX0_cut := fun w h => ⟨tbX0_cut w h, good_of_word (gdX0_cut w h)⟩
theorem gL_law_X0_cut : GoodIn lw_tbl (wsV RL 57 RX0 yX0_cut wsX0_cut) := goodIn_app (goodIn_of _ (by decide +kernel)) ggL_law_X0_cut
theorem ggL_law_X3_cut : GoodIn lw_tbl wsX3_cut := fun w h => ⟨tbX3_cut w h, good_of_word (gdX3_cut w h)⟩
theorem gL_law_X3_cut : GoodIn lw_tbl (wsV RL 60 RX3 yX3_cut wsX3_cut) := goodIn_app (goodIn_of _ (by decide +kernel)) ggL_law_X3_cut
theorem ggL_law_X0_purge : GoodIn lw_tbl wsX0_purge := fun w h => ⟨tbX0_purge w h, good_of_word (gdX0_purge w h)⟩
theorem gL_law_X0_purge : GoodIn lw_tbl (wsV RL 61 RX0 yX0_purge wsX0_purge) := goodIn_app (goodIn_of _ (by decide +kernel)) ggL_law_X0_purge
theorem ggL_law_X3_purge : GoodIn lw_tbl wsX3_purge := fun w h => ⟨tbX3_purge w h, good_of_word (gdX3_purge w h)⟩
theorem gL_law_X3_purge : GoodIn lw_tbl (wsV RL 64 RX3 yX3_purge wsX3_purge) := goodIn_app (goodIn_of _ (by decide +kernel)) ggL_law_X3_purge
theorem ggL_law_X0_hold : GoodIn lw_tbl wsX0_hold := fun w h => ⟨tbX0_hold w h, good_of_word (gdX0_hold w h)⟩
theorem gL_law_X0_hold : GoodIn lw_tbl (wsV RL 65 RX0 yX0_hold wsX0_hold) := goodIn_app (goodIn_of _ (by decide +kernel)) ggL_law_X0_hold
theorem ggL_law_X3_hold : GoodIn lw_tbl wsX3_hold := fun w h => ⟨tbX3_hold w h, good_of_word (gdX3_hold w h)⟩
theorem gL_law_X3_hold : GoodIn lw_tbl (wsV RL 69 RX3 yX3_hold wsX3_hold) := goodIn_app (goodIn_of _ (by decide +kernel)) ggL_law_X3_hold
theorem ggL_law_X0_route : GoodIn lw_tbl wsX0_route := fun w h => ⟨tbX0_route w h, good_of_word (gdX0_route w h)⟩
theorem gL_law_X0_route : GoodIn lw_tbl (wsV RL 70 RX0 yX0_route wsX0_route) := goodIn_app (goodIn_of _ (by decide +kernel)) ggL_law_X0_route
theorem ggL_law_X3_route : GoodIn lw_tbl wsX3_route := fun w h => ⟨tbX3_route w h, good_of_word (gdX3_route w h)⟩
theorem gL_law_X3_route : GoodIn lw_tbl (wsV RL 73 RX3 yX3_route wsX3_route) := goodIn_app (goodIn_of _ (by decide +kernel)) ggL_law_X3_route
theorem ggL_law_X0_search : GoodIn lw_tbl wsX0_search := fun w h => ⟨tbX0_search w h, good_of_word (gdX0_search w h)⟩
theorem gL_law_X0_search : GoodIn lw_tbl (wsV RL 74 RX0 yX0_search wsX0_search) := goodIn_app (goodIn_of _ (by decide +kernel)) ggL_law_X0_search
theorem ggL_law_X3_search : GoodIn lw_tbl wsX3_search := fun w h => ⟨tbX3_search w h, good_of_word (gdX3_search w h)⟩
theorem gL_law_X3_search : GoodIn lw_tbl (wsV RL 77 RX3 yX3_search wsX3_search) := goodIn_app (goodIn_of _ (by decide +kernel)) ggL_law_X3_search
theorem ggL_law_X0_order : GoodIn lw_tbl wsX0_order := fun w h => ⟨tbX0_order w h, good_of_word (gdX0_order w h)⟩
theorem gL_law_X0_order : GoodIn lw_tbl (wsV RL 78 RX0 yX0_order wsX0_order) := goodIn_app (goodIn_of _ (by decide +kernel)) ggL_law_X0_order
theorem ggL_law_X3_order : GoodIn lw_tbl wsX3_order := fun w h => ⟨tbX3_order w h, good_of_word (gdX3_order w h)⟩
theorem gL_law_X3_order : GoodIn lw_tbl (wsV RL 81 RX3 yX3_order wsX3_order) := goodIn_app (goodIn_of _ (by decide +kernel)) ggL_law_X3_order
theorem ggL_law_X0_state : GoodIn lw_tbl wsX0_state := fun w h => ⟨tbX0_state w h, good_of_word (gdX0_state w h)⟩
theorem gL_law_X0_state : GoodIn lw_tbl (wsV RL 82 RX0 yX0_state wsX0_state) := goodIn_app (goodIn_of _ (by decide +kernel)) ggL_law_X0_state
theorem ggL_law_X3_state : GoodIn lw_tbl wsX3_state := fun w h => ⟨tbX3_state w h, good_of_word (gdX3_state w h)⟩
theorem gL_law_X3_state : GoodIn lw_tbl (wsV RL 85 RX3 yX3_state wsX3_state) := goodIn_app (goodIn_of _ (by decide +kernel)) ggL_law_X3_state
theorem ggL_law_X0_count : GoodIn lw_tbl wsX0_count := fun w h => ⟨tbX0_count w h, good_of_word (gdX0_count w h)⟩
theorem gL_law_X0_count : GoodIn lw_tbl (wsV RL 86 RX0 yX0_count wsX0_count) := goodIn_app (goodIn_of _ (by decide +kernel)) ggL_law_X0_count
theorem ggL_law_X3_count : GoodIn lw_tbl wsX3_count := fun w h => ⟨tbX3_count w h, good_of_word (gdX3_count w h)⟩
theorem gL_law_X3_count : GoodIn lw_tbl (wsV RL 89 RX3 yX3_count wsX3_count) := goodIn_app (goodIn_of _ (by decide +kernel)) ggL_law_X3_count
/-! THE CLAIM OUT OF ONE WALK OF THE LAW'S BODY. Your part is whole_start (and what it stands on); all else here is the same for every law, but numbers. -/
def R_law : String := "SpoolRowsLaw"
def lw_P (b : Addr) (xs : List Int32) (args : Array Value) (s : State) : Prop := args = #[.ref b] ∧ s.IntsAt b xs ∧ xs.length ≤ 2049 ∧ (Jvm.Cond.and given_1 narrow_1).before args s = true
def lw_Q (_ : Array Value) (s : State) (o : Outcome) (t : State) : Prop := o = .returned (some (.int 1)) ∧ Framed s o t [] 600000 7302250
def lw_Z (below : List Frame) (a : Array Value) (s : State) : State → Prop := fun t => ∃ o, t.status = .running ∧ Ended t below o ∧ lw_Q a s o t
/-- the law's own end, with 1 on the stack, nothing written that was there before, its room as the claim has it -/
theorem lw_ret {p : Program} {l : Launch} {e : Env} {s : State} {m : MethodId} {below : List Frame} {meth : Method} {c : Code} {b : Nat} (hx : p.tables.exec = Jvm.exec) (hb : c.code = code) (hr : meth.sig.returnType = ret) (hlocks : meth.locks = false) {pc : Nat} {H : Heap} {ls : Array Slot} (hdg : decode code pc = .ok (.ireturn, 1)) : W p l e room_1 s m #[Value.ref b] below meth c H [] 600000 7302250 (lw_Z below #[Value.ref b] s) (F0 m pc ls [.int 1]) := by
  intro T hT X
  obtain ⟨fs, hret, hrun, hended, hW, hframe⟩ := X.leave (v := some (.int 1)) (hlocks := hlocks) (fun h => by rw [hr] at h; cases h)
  have hmeth' : T.vm.method? m = some meth := X.method'
  refine ⟨T.setFrames fs, ?_, .returned (some (.int 1)), hrun, hended, rfl, ⟨_, rfl⟩, hW, hframe⟩
  jvm_step X.here [X.here.top, hx, hb, hdg, hmeth', hr, ret, narrow_b1]
  (try refine ⟨rfl, ?_⟩); (try refine ⟨rfl, ?_⟩)
  first | (intro acts; rw [hret _ acts rfl rfl rfl]) | rw [hret _ _ rfl rfl rfl]
  exact Steps.refl _
/-- what holds at the law's entry: the machine, the code, the tables' words (any of lw_tbl by 'hts w (by decide +kernel)'), the script of L ints xs at the cell b, what the Statement gives of the start (any of its parts by flat_of_before) -/
def lw_At (p : Program) (s : State) (m : MethodId) (meth : Method) (c : Code) (b L : Nat) (xs : Nat → Int32) : Prop :=
  p.tables.exec = Jvm.exec ∧ c.code = code ∧ meth.sig.returnType = ret ∧ c.maxLocals = 4 ∧ s.vm.findClass R_law = some m.cls ∧ (∀ w ∈ lw_tbl, w.before #[Value.ref b] s = true) ∧ va_X b L xs s s.heap ∧ b < s.heap.size ∧ meth.locks = false ∧ (Jvm.Cond.and given_1 narrow_1).before #[Value.ref b] s = true
