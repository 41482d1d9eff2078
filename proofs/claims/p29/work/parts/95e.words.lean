/-! p29: these words lie in the tables. -/
set_option maxRecDepth 20000 in
theorem it_wsL_doSimulate_r5 : ∀ w ∈ wsL_doSimulate_r5, w ∈ lw_tbl := by decide +kernel
set_option maxRecDepth 20000 in
theorem it_wsL_doSimulate_r6 : ∀ w ∈ wsL_doSimulate_r6, w ∈ lw_tbl := by decide +kernel
set_option maxRecDepth 20000 in
theorem it_wsL_doSimulate_r7 : ∀ w ∈ wsL_doSimulate_r7, w ∈ lw_tbl := by decide +kernel
set_option maxRecDepth 20000 in
theorem it_wsL_doSimulate_r8 : ∀ w ∈ wsL_doSimulate_r8, w ∈ lw_tbl := by decide +kernel
theorem iH_doSimulate : (.codeWith yL_doSimulate cL_doSimulate 5 (some .int) [(0, 6, 7, 13)] : Cond) ∈ lw_tbl := by decide +kernel
set_option maxRecDepth 20000 in
theorem iT_X5_fullest : ∀ w ∈ wsX5_fullest, w ∈ lw_tbl := by decide +kernel
set_option maxRecDepth 20000 in
theorem it_wsX5_init_r1 : ∀ w ∈ wsX5_init_r1, w ∈ lw_tbl := by decide +kernel
set_option maxRecDepth 20000 in
theorem it_wsX5_init_r2 : ∀ w ∈ wsX5_init_r2, w ∈ lw_tbl := by decide +kernel
set_option maxRecDepth 20000 in
theorem it_wsX5_init_r3 : ∀ w ∈ wsX5_init_r3, w ∈ lw_tbl := by decide +kernel
theorem iH_X5_init : (.code yX5_init cX5_init 1 none : Cond) ∈ lw_tbl := by decide +kernel
