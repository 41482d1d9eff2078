/-! p29: these words lie in the tables. -/
set_option maxRecDepth 20000 in
theorem it_wsL_doScript_r4 : ∀ w ∈ wsL_doScript_r4, w ∈ lw_tbl := by decide +kernel
set_option maxRecDepth 20000 in
theorem it_wsL_doScript_r5 : ∀ w ∈ wsL_doScript_r5, w ∈ lw_tbl := by decide +kernel
set_option maxRecDepth 20000 in
theorem it_wsL_doScript_r6 : ∀ w ∈ wsL_doScript_r6, w ∈ lw_tbl := by decide +kernel
set_option maxRecDepth 20000 in
theorem it_wsL_doScript_r7 : ∀ w ∈ wsL_doScript_r7, w ∈ lw_tbl := by decide +kernel
set_option maxRecDepth 20000 in
theorem it_wsL_doScript_r8 : ∀ w ∈ wsL_doScript_r8, w ∈ lw_tbl := by decide +kernel
theorem iH_doScript : (.codeWith yL_doScript cL_doScript 5 (some .int) [(0, 6, 7, 13)] : Cond) ∈ lw_tbl := by decide +kernel
set_option maxRecDepth 20000 in
theorem it_wsL_doSimulate_r1 : ∀ w ∈ wsL_doSimulate_r1, w ∈ lw_tbl := by decide +kernel
set_option maxRecDepth 20000 in
theorem it_wsL_doSimulate_r2 : ∀ w ∈ wsL_doSimulate_r2, w ∈ lw_tbl := by decide +kernel
set_option maxRecDepth 20000 in
theorem it_wsL_doSimulate_r3 : ∀ w ∈ wsL_doSimulate_r3, w ∈ lw_tbl := by decide +kernel
set_option maxRecDepth 20000 in
theorem it_wsL_doSimulate_r4 : ∀ w ∈ wsL_doSimulate_r4, w ∈ lw_tbl := by decide +kernel
