/-! The law's words lie in the tables. -/
set_option maxRecDepth 20000 in
theorem lw32_0 : Cond.code yX5_runScript cX5_runScript 6 (some .int) ∈ lw_tbl := by decide +kernel
set_option maxRecDepth 20000 in
theorem lw32_1 : Cond.constantLong RX5 251 (100000) ∈ lw_tbl := by decide +kernel
set_option maxRecDepth 20000 in
theorem lw32_2 : Cond.methodLink RX5 245 yX5_withoutLastGroups ∈ lw_tbl := by decide +kernel
set_option maxRecDepth 20000 in
theorem lw32_3 : Cond.static yX5_withoutLastGroups ∈ lw_tbl := by decide +kernel
set_option maxRecDepth 20000 in
theorem lw32_4 : Cond.code yX5_withoutLastGroups cX5_withoutLastGroups 6 (some .long) ∈ lw_tbl := by decide +kernel
set_option maxRecDepth 20000 in
theorem lw32_5 : Cond.methodLink RX5 253 yX5_obeysGroup ∈ lw_tbl := by decide +kernel
set_option maxRecDepth 20000 in
theorem lw32_6 : Cond.instanceMethod yX5_obeysGroup ∈ lw_tbl := by decide +kernel
set_option maxRecDepth 20000 in
theorem lw32_7 : Cond.selects RX5 yX5_obeysGroup yX5_obeysGroup ∈ lw_tbl := by decide +kernel
set_option maxRecDepth 20000 in
theorem lw32_8 : Cond.code yX5_obeysGroup cX5_obeysGroup 8 (some .boolean) ∈ lw_tbl := by decide +kernel
set_option maxRecDepth 20000 in
theorem lw32_9 : Cond.methodLink RX5 256 yX1_isOpen ∈ lw_tbl := by decide +kernel
set_option maxRecDepth 20000 in
theorem lw32_10 : Cond.methodLink RL 177 yX6_runScript ∈ lw_tbl := by decide +kernel
set_option maxRecDepth 20000 in
theorem lw32_11 : Cond.instanceMethod yX6_runScript ∈ lw_tbl := by decide +kernel
set_option maxRecDepth 20000 in
theorem lw32_12 : Cond.selects RX6 yX6_runScript yX6_runScript ∈ lw_tbl := by decide +kernel
set_option maxRecDepth 20000 in
theorem lw32_13 : Cond.code yX6_runScript cX6_runScript 8 (some .int) ∈ lw_tbl := by decide +kernel
set_option maxRecDepth 20000 in
theorem lw32_14 : Cond.constantLong RX6 197 (100000) ∈ lw_tbl := by decide +kernel
set_option maxRecDepth 20000 in
theorem lw32_15 : Cond.methodLink RX6 199 yX6_command ∈ lw_tbl := by decide +kernel
set_option maxRecDepth 20000 in
theorem lw32_16 : Cond.instanceMethod yX6_command ∈ lw_tbl := by decide +kernel
set_option maxRecDepth 20000 in
theorem lw32_17 : Cond.selects RX6 yX6_command yX6_command ∈ lw_tbl := by decide +kernel
set_option maxRecDepth 20000 in
theorem lw32_18 : Cond.code yX6_command cX6_command 8 (some .boolean) ∈ lw_tbl := by decide +kernel
set_option maxRecDepth 20000 in
theorem lw32_19 : Cond.methodLink RL 178 yL_simulate ∈ lw_tbl := by decide +kernel
set_option maxRecDepth 20000 in
theorem lw32_20 : Cond.static yL_simulate ∈ lw_tbl := by decide +kernel
set_option maxRecDepth 20000 in
theorem lw32_21 : Cond.codeWith yL_simulate cL_simulate 6 (some .int) [(0, 11, 14, 13)] ∈ lw_tbl := by decide +kernel
set_option maxRecDepth 20000 in
theorem lw32_22 : Cond.methodLink RL 80 yX5_simulate ∈ lw_tbl := by decide +kernel
set_option maxRecDepth 20000 in
theorem lw32_23 : Cond.instanceMethod yX5_simulate ∈ lw_tbl := by decide +kernel
theorem lwin_32 : ∀ w ∈ wsL_law0_r32, w ∈ lw_tbl := (List.forall_mem_cons.mpr ⟨lw32_0, (List.forall_mem_cons.mpr ⟨lw32_1, (List.forall_mem_cons.mpr ⟨lw32_2, (List.forall_mem_cons.mpr ⟨lw32_3, (List.forall_mem_cons.mpr ⟨lw32_4, (List.forall_mem_cons.mpr ⟨lw32_5, (List.forall_mem_cons.mpr ⟨lw32_6, (List.forall_mem_cons.mpr ⟨lw32_7, (List.forall_mem_cons.mpr ⟨lw32_8, (List.forall_mem_cons.mpr ⟨lw32_9, (List.forall_mem_cons.mpr ⟨lw32_10, (List.forall_mem_cons.mpr ⟨lw32_11, (List.forall_mem_cons.mpr ⟨lw32_12, (List.forall_mem_cons.mpr ⟨lw32_13, (List.forall_mem_cons.mpr ⟨lw32_14, (List.forall_mem_cons.mpr ⟨lw32_15, (List.forall_mem_cons.mpr ⟨lw32_16, (List.forall_mem_cons.mpr ⟨lw32_17, (List.forall_mem_cons.mpr ⟨lw32_18, (List.forall_mem_cons.mpr ⟨lw32_19, (List.forall_mem_cons.mpr ⟨lw32_20, (List.forall_mem_cons.mpr ⟨lw32_21, (List.forall_mem_cons.mpr ⟨lw32_22, (List.forall_mem_cons.mpr ⟨lw32_23, (fun w h => absurd h List.not_mem_nil)⟩)⟩)⟩)⟩)⟩)⟩)⟩)⟩)⟩)⟩)⟩)⟩)⟩)⟩)⟩)⟩)⟩)⟩)⟩)⟩)⟩)⟩)⟩)⟩)
set_option maxRecDepth 20000 in
theorem lw33_0 : Cond.selects RX5 yX5_simulate yX5_simulate ∈ lw_tbl := by decide +kernel
set_option maxRecDepth 20000 in
theorem lw33_1 : Cond.code yX5_simulate cX5_simulate 8 (some .int) ∈ lw_tbl := by decide +kernel
set_option maxRecDepth 20000 in
theorem lw33_2 : Cond.constantLong RX5 267 (6364136223846793005) ∈ lw_tbl := by decide +kernel
set_option maxRecDepth 20000 in
theorem lw33_3 : Cond.constantLong RX5 269 (1442695040888963407) ∈ lw_tbl := by decide +kernel
set_option maxRecDepth 20000 in
theorem lw33_4 : Cond.methodLink RX5 271 yX5_simulateTurn ∈ lw_tbl := by decide +kernel
set_option maxRecDepth 20000 in
theorem lw33_5 : Cond.instanceMethod yX5_simulateTurn ∈ lw_tbl := by decide +kernel
set_option maxRecDepth 20000 in
theorem lw33_6 : Cond.selects RX5 yX5_simulateTurn yX5_simulateTurn ∈ lw_tbl := by decide +kernel
set_option maxRecDepth 20000 in
theorem lw33_7 : Cond.code yX5_simulateTurn cX5_simulateTurn 3 none ∈ lw_tbl := by decide +kernel
set_option maxRecDepth 20000 in
theorem lw33_8 : Cond.methodLink RL 181 yX6_simulate ∈ lw_tbl := by decide +kernel
set_option maxRecDepth 20000 in
theorem lw33_9 : Cond.instanceMethod yX6_simulate ∈ lw_tbl := by decide +kernel
set_option maxRecDepth 20000 in
theorem lw33_10 : Cond.selects RX6 yX6_simulate yX6_simulate ∈ lw_tbl := by decide +kernel
set_option maxRecDepth 20000 in
theorem lw33_11 : Cond.code yX6_simulate cX6_simulate 8 (some .int) ∈ lw_tbl := by decide +kernel
set_option maxRecDepth 20000 in
theorem lw33_12 : Cond.constantLong RX6 202 (6364136223846793005) ∈ lw_tbl := by decide +kernel
set_option maxRecDepth 20000 in
theorem lw33_13 : Cond.constantLong RX6 204 (1442695040888963407) ∈ lw_tbl := by decide +kernel
set_option maxRecDepth 20000 in
theorem lw33_14 : Cond.methodLink RX6 206 yX6_turnOf ∈ lw_tbl := by decide +kernel
set_option maxRecDepth 20000 in
theorem lw33_15 : Cond.static yX6_turnOf ∈ lw_tbl := by decide +kernel
set_option maxRecDepth 20000 in
theorem lw33_16 : Cond.code yX6_turnOf cX6_turnOf 3 none ∈ lw_tbl := by decide +kernel
set_option maxRecDepth 20000 in
theorem lw33_17 : Cond.methodLink RL 182 yL_save ∈ lw_tbl := by decide +kernel
set_option maxRecDepth 20000 in
theorem lw33_18 : Cond.static yL_save ∈ lw_tbl := by decide +kernel
set_option maxRecDepth 20000 in
theorem lw33_19 : Cond.codeWith yL_save cL_save 4 (some .int) [(0, 9, 12, 28)] ∈ lw_tbl := by decide +kernel
set_option maxRecDepth 20000 in
theorem lw33_20 : Cond.methodLink RL 84 yX5_save ∈ lw_tbl := by decide +kernel
set_option maxRecDepth 20000 in
theorem lw33_21 : Cond.instanceMethod yX5_save ∈ lw_tbl := by decide +kernel
set_option maxRecDepth 20000 in
theorem lw33_22 : Cond.selects RX5 yX5_save yX5_save ∈ lw_tbl := by decide +kernel
set_option maxRecDepth 20000 in
theorem lw33_23 : Cond.code yX5_save cX5_save 2 (some .int) ∈ lw_tbl := by decide +kernel
theorem lwin_33 : ∀ w ∈ wsL_law0_r33, w ∈ lw_tbl := (List.forall_mem_cons.mpr ⟨lw33_0, (List.forall_mem_cons.mpr ⟨lw33_1, (List.forall_mem_cons.mpr ⟨lw33_2, (List.forall_mem_cons.mpr ⟨lw33_3, (List.forall_mem_cons.mpr ⟨lw33_4, (List.forall_mem_cons.mpr ⟨lw33_5, (List.forall_mem_cons.mpr ⟨lw33_6, (List.forall_mem_cons.mpr ⟨lw33_7, (List.forall_mem_cons.mpr ⟨lw33_8, (List.forall_mem_cons.mpr ⟨lw33_9, (List.forall_mem_cons.mpr ⟨lw33_10, (List.forall_mem_cons.mpr ⟨lw33_11, (List.forall_mem_cons.mpr ⟨lw33_12, (List.forall_mem_cons.mpr ⟨lw33_13, (List.forall_mem_cons.mpr ⟨lw33_14, (List.forall_mem_cons.mpr ⟨lw33_15, (List.forall_mem_cons.mpr ⟨lw33_16, (List.forall_mem_cons.mpr ⟨lw33_17, (List.forall_mem_cons.mpr ⟨lw33_18, (List.forall_mem_cons.mpr ⟨lw33_19, (List.forall_mem_cons.mpr ⟨lw33_20, (List.forall_mem_cons.mpr ⟨lw33_21, (List.forall_mem_cons.mpr ⟨lw33_22, (List.forall_mem_cons.mpr ⟨lw33_23, (fun w h => absurd h List.not_mem_nil)⟩)⟩)⟩)⟩)⟩)⟩)⟩)⟩)⟩)⟩)⟩)⟩)⟩)⟩)⟩)⟩)⟩)⟩)⟩)⟩)⟩)⟩)⟩)⟩)
set_option maxRecDepth 20000 in
theorem lwin_34 : ∀ w ∈ wsL_law0_r34, w ∈ lw_tbl := by decide +kernel
set_option maxRecDepth 20000 in
theorem lwin_35 : ∀ w ∈ wsL_law0_r35, w ∈ lw_tbl := by decide +kernel
