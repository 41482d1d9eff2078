/-! p29: these words lie in the tables. -/
set_option maxRecDepth 20000 in
theorem it_wsL_call_r1 : ∀ w ∈ wsL_call_r1, w ∈ lw_tbl := by decide +kernel
set_option maxRecDepth 20000 in
theorem it_wsL_call_r2 : ∀ w ∈ wsL_call_r2, w ∈ lw_tbl := by decide +kernel
set_option maxRecDepth 20000 in
theorem it_wsL_call_r3 : ∀ w ∈ wsL_call_r3, w ∈ lw_tbl := by decide +kernel
set_option maxRecDepth 20000 in
theorem it_wsL_call_r4 : ∀ w ∈ wsL_call_r4, w ∈ lw_tbl := by decide +kernel
set_option maxRecDepth 20000 in
theorem it_wsL_call_r5 : ∀ w ∈ wsL_call_r5, w ∈ lw_tbl := by decide +kernel
set_option maxRecDepth 20000 in
theorem it_wsL_call_r6 : ∀ w ∈ wsL_call_r6, w ∈ lw_tbl := by decide +kernel
set_option maxRecDepth 20000 in
theorem it_wsL_call_r7 : ∀ w ∈ wsL_call_r7, w ∈ lw_tbl := by decide +kernel
set_option maxRecDepth 20000 in
theorem it_wsL_call_r8 : ∀ w ∈ wsL_call_r8, w ∈ lw_tbl := by decide +kernel
set_option maxRecDepth 20000 in
theorem it_wsL_call_r9 : ∀ w ∈ wsL_call_r9, w ∈ lw_tbl := by decide +kernel
set_option maxRecDepth 20000 in
theorem it_wsL_call_r10 : ∀ w ∈ wsL_call_r10, w ∈ lw_tbl := by decide +kernel
