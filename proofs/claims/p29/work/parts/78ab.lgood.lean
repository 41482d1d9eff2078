/-! p29: what goes into the law's calls. -/
set_option maxRecDepth 20000 in
theorem gL_tryPeg_X5_pegOf : GoodIn wsL_tryPeg (wsV RL 34 RX5 yX5_pegOf wsX5_pegOf) := goodIn_app (goodIn_of _ (by decide +kernel)) ggL_tryPeg_X5_pegOf
set_option maxRecDepth 20000 in
theorem ggL_tryOrder_X5_orderOf : GoodIn wsL_tryOrder wsX5_orderOf := goodIn_ca (goodIn_ca (goodIn_r _ [9, 10, 11, 12, 13, 14, 15, 16, 17, 18, 19, 20, 21, 22, 23, 24, 25, 26, 27, 28, 29, 30, 31, 32, 33, 34, 35, 36, 37, 38, 39, 40, 41, 42, 43, 44, 45, 46, 47, 48, 49, 50, 51, 52, 53, 54, 55, 56, 57, 58] (by decide +kernel) (by decide +kernel)) (goodIn_sub (fun _ h => List.mem_cons_of_mem _ (List.mem_append_left _ (List.mem_append_right _ h))) (by decide +kernel))) (goodIn_sub (fun _ h => List.mem_cons_of_mem _ (List.mem_append_right _ h)) (by decide +kernel))
set_option maxRecDepth 20000 in
theorem gL_tryOrder_X5_orderOf : GoodIn wsL_tryOrder (wsV RL 41 RX5 yX5_orderOf wsX5_orderOf) := goodIn_app (goodIn_of _ (by decide +kernel)) ggL_tryOrder_X5_orderOf
set_option maxRecDepth 20000 in
theorem ggL_tryPipe_X5_pipeOf : GoodIn wsL_tryPipe wsX5_pipeOf := goodIn_ca (goodIn_ca (goodIn_r _ [9, 10, 11, 12, 13, 14, 15, 16, 8, 17, 18, 19, 20, 21, 22, 23, 24, 25, 26, 27, 28, 29, 30, 31, 32, 33, 34, 35, 36, 37, 38, 39, 40, 41, 42, 43, 44, 45, 46, 47, 48, 49, 50, 51, 52, 53, 54, 55, 56, 57, 58, 59, 60, 61, 62, 63, 64, 65, 66, 67, 68, 69, 70, 71, 72, 73, 74, 75, 76, 77, 78, 79, 80, 81, 82, 83, 84] (by decide +kernel) (by decide +kernel)) (goodIn_sub (fun _ h => List.mem_cons_of_mem _ (List.mem_append_left _ (List.mem_append_right _ h))) (by decide +kernel))) (goodIn_sub (fun _ h => List.mem_cons_of_mem _ (List.mem_append_right _ h)) (by decide +kernel))
set_option maxRecDepth 20000 in
theorem gL_tryPipe_X5_pipeOf : GoodIn wsL_tryPipe (wsV RL 44 RX5 yX5_pipeOf wsX5_pipeOf) := goodIn_app (goodIn_of _ (by decide +kernel)) ggL_tryPipe_X5_pipeOf
set_option maxRecDepth 20000 in
theorem ggL_tryChord_X5_chord : GoodIn wsL_tryChord wsX5_chord := goodIn_ca (goodIn_r _ [7, 8, 9, 10, 11, 12, 6, 13, 14, 15, 16, 17, 18, 19, 20, 21, 22, 23, 24, 25, 26, 27, 28, 29, 30, 31, 32, 33, 34, 35, 36, 37, 38, 39, 40, 41, 42, 43, 44, 45, 46, 47, 48, 49, 50, 51] (by decide +kernel) (by decide +kernel)) (goodIn_sub (fun _ h => List.mem_cons_of_mem _ (List.mem_append_right _ h)) (by decide +kernel))
set_option maxRecDepth 20000 in
theorem gL_tryChord_X5_chord : GoodIn wsL_tryChord (wsV RL 47 RX5 yX5_chord wsX5_chord) := goodIn_app (goodIn_of _ (by decide +kernel)) ggL_tryChord_X5_chord
set_option maxRecDepth 20000 in
theorem ggL_tryCovered_X5_covered : GoodIn wsL_tryCovered wsX5_covered := goodIn_ca (goodIn_r _ [7, 8, 9, 10, 11, 12, 13, 14, 15, 16, 17, 18, 19, 20, 21, 22, 23, 24, 25, 6, 26, 27, 28, 29, 30, 31, 32, 33, 34, 35, 36, 37, 38, 39, 40, 41, 42, 43, 44, 45, 46, 47, 48, 49, 50, 51, 52, 53, 54, 55, 56, 57, 58, 59, 60, 61, 62, 63, 64, 65, 66, 67, 68, 69, 70, 71, 72, 73, 74, 75, 76, 77, 78, 79, 80] (by decide +kernel) (by decide +kernel)) (goodIn_sub (fun _ h => List.mem_cons_of_mem _ (List.mem_append_right _ h)) (by decide +kernel))
set_option maxRecDepth 20000 in
theorem gL_tryCovered_X5_covered : GoodIn wsL_tryCovered (wsV RL 50 RX5 yX5_covered wsX5_covered) := goodIn_app (goodIn_of _ (by decide +kernel)) ggL_tryCovered_X5_covered
set_option maxRecDepth 20000 in
theorem ggL_trySetting_X5_setting : GoodIn wsL_trySetting wsX5_setting := goodIn_ca (goodIn_r _ [7, 8, 9, 10, 11, 12, 6, 13, 14, 15, 16, 17, 18, 19, 20, 21, 22, 23, 24, 25, 26, 27, 28, 29, 30, 31, 32, 33, 34, 35, 36, 37, 38, 39, 40, 41, 42, 43] (by decide +kernel) (by decide +kernel)) (goodIn_sub (fun _ h => List.mem_cons_of_mem _ (List.mem_append_right _ h)) (by decide +kernel))
set_option maxRecDepth 20000 in
theorem gL_trySetting_X5_setting : GoodIn wsL_trySetting (wsV RL 53 RX5 yX5_setting wsX5_setting) := goodIn_app (goodIn_of _ (by decide +kernel)) ggL_trySetting_X5_setting
