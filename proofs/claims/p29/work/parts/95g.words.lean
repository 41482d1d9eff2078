/-! p29: these words lie in the tables. -/
theorem iC_act : (.code yL_act cL_act 4 (some .int) : Cond) ∈ lw_tbl := by decide +kernel
theorem iE_alike : ∀ w ∈ eN_alike, w ∈ lw_tbl := by decide +kernel
theorem iC_alike : (.code yL_alike cL_alike 5 (some .boolean) : Cond) ∈ lw_tbl := by decide +kernel
theorem iE_waits : ∀ w ∈ eN_waits, w ∈ lw_tbl := by decide +kernel
theorem iC_waits : (.code yL_waits cL_waits 7 (some .boolean) : Cond) ∈ lw_tbl := by decide +kernel
theorem iE_undoes : ∀ w ∈ eN_undoes, w ∈ lw_tbl := by decide +kernel
theorem iC_undoes : (.code yL_undoes cL_undoes 5 (some .boolean) : Cond) ∈ lw_tbl := by decide +kernel
theorem iE_goes : ∀ w ∈ eN_goes, w ∈ lw_tbl := by decide +kernel
set_option maxRecDepth 100000 in
theorem iC_goes : (.code yL_goes cL_goes 14 (some .boolean) : Cond) ∈ lw_tbl := List.mem_append_right _ (List.mem_of_getElem? (i := 811) (by rfl))
theorem iE_least : ∀ w ∈ eN_least, w ∈ lw_tbl := by decide +kernel
