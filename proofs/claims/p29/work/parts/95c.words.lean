/-! p29: these words lie in the tables. -/
set_option maxRecDepth 20000 in
theorem it_wsX50 : ∀ w ∈ wsX50, w ∈ lw_tbl := by decide +kernel
set_option maxRecDepth 20000 in
theorem it_wsX20 : ∀ w ∈ wsX20, w ∈ lw_tbl := by decide +kernel
set_option maxRecDepth 20000 in
theorem it_wsX10 : ∀ w ∈ wsX10, w ∈ lw_tbl := by decide +kernel
set_option maxRecDepth 20000 in
theorem it_wsX40 : ∀ w ∈ wsX40, w ∈ lw_tbl := by decide +kernel
set_option maxRecDepth 20000 in
theorem it_wsX00 : ∀ w ∈ wsX00, w ∈ lw_tbl := by decide +kernel
set_option maxRecDepth 20000 in
theorem it_wsX30 : ∀ w ∈ wsX30, w ∈ lw_tbl := by decide +kernel
theorem iH_call : (.code yL_call cL_call 5 (some .int) : Cond) ∈ lw_tbl := by decide +kernel
set_option maxRecDepth 20000 in
theorem it_wsL_doScript_r1 : ∀ w ∈ wsL_doScript_r1, w ∈ lw_tbl := by decide +kernel
set_option maxRecDepth 20000 in
theorem it_wsL_doScript_r2 : ∀ w ∈ wsL_doScript_r2, w ∈ lw_tbl := by decide +kernel
set_option maxRecDepth 20000 in
theorem it_wsL_doScript_r3 : ∀ w ∈ wsL_doScript_r3, w ∈ lw_tbl := by decide +kernel
