/-! p29: these words lie in the tables. -/
set_option maxRecDepth 20000 in
theorem iT_bits : ∀ w ∈ wsL_bits, w ∈ lw_tbl := by decide +kernel
set_option maxRecDepth 20000 in
theorem iT_thrown : ∀ w ∈ wsL_thrown, w ∈ lw_tbl := by decide +kernel
set_option maxRecDepth 20000 in
theorem iT_cell : ∀ w ∈ wsL_cell, w ∈ lw_tbl := by decide +kernel
theorem iE_isFree : ∀ w ∈ eN_isFree, w ∈ lw_tbl := by decide +kernel
theorem iC_isFree : (.code yL_isFree cL_isFree 6 (some .boolean) : Cond) ∈ lw_tbl := by decide +kernel
theorem iE_refuses : ∀ w ∈ eN_refuses, w ∈ lw_tbl := by decide +kernel
set_option maxRecDepth 100000 in
theorem iC_refuses : (.code yL_refuses cL_refuses 8 (some .boolean) : Cond) ∈ lw_tbl := List.mem_append_right _ (List.mem_of_getElem? (i := 210) (by rfl))
theorem iE_holds : ∀ w ∈ eN_holds, w ∈ lw_tbl := by decide +kernel
set_option maxRecDepth 100000 in
theorem iC_holds : (.code yL_holds cL_holds 19 (some .boolean) : Cond) ∈ lw_tbl := List.mem_append_right _ (List.mem_of_getElem? (i := 791) (by rfl))
theorem iE_act : ∀ w ∈ eN_act, w ∈ lw_tbl := by decide +kernel
