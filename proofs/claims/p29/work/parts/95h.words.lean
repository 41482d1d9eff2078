/-! p29: these words lie in the tables. -/
theorem iC_least : (.code yL_least cL_least 10 (some .boolean) : Cond) ∈ lw_tbl := by decide +kernel
