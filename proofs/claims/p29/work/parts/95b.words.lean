/-! p29: these words lie in the tables. -/
set_option maxRecDepth 20000 in
theorem it_wsL_call_r11 : ∀ w ∈ wsL_call_r11, w ∈ lw_tbl := by decide +kernel
set_option maxRecDepth 20000 in
theorem it_wsL_call_r12 : ∀ w ∈ wsL_call_r12, w ∈ lw_tbl := by decide +kernel
set_option maxRecDepth 20000 in
theorem it_wsL_call_r13 : ∀ w ∈ wsL_call_r13, w ∈ lw_tbl := by decide +kernel
set_option maxRecDepth 20000 in
theorem it_wsL_call_r14 : ∀ w ∈ wsL_call_r14, w ∈ lw_tbl := by decide +kernel
set_option maxRecDepth 20000 in
theorem it_wsL_call_r15 : ∀ w ∈ wsL_call_r15, w ∈ lw_tbl := by decide +kernel
set_option maxRecDepth 20000 in
theorem it_wsL_call_r16 : ∀ w ∈ wsL_call_r16, w ∈ lw_tbl := by decide +kernel
set_option maxRecDepth 20000 in
theorem it_wsL_call_r17 : ∀ w ∈ wsL_call_r17, w ∈ lw_tbl := by decide +kernel
set_option maxRecDepth 20000 in
theorem it_wsL_call_r18 : ∀ w ∈ wsL_call_r18, w ∈ lw_tbl := by decide +kernel
set_option maxRecDepth 20000 in
theorem it_wsL_call_r19 : ∀ w ∈ wsL_call_r19, w ∈ lw_tbl := by decide +kernel
set_option maxRecDepth 20000 in
theorem it_wsL_call_r20 : ∀ w ∈ wsL_call_r20, w ∈ lw_tbl := by decide +kernel
