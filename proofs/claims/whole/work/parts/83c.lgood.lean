/-! The law's calls: their words. -/
set_option maxRecDepth 20000 in
theorem ggL_law_X6_about : GoodIn wsL_law wsX6_about := goodIn_r _ [458, 459, 81, 118, 119, 5, 120, 121, 122, 123, 124, 125, 831, 832, 833, 834, 835, 836, 837, 838, 839, 840, 841] (by decide +kernel) (by decide +kernel)
set_option maxRecDepth 20000 in
theorem gL_law_X6_about : GoodIn wsL_law (wsV RL 117 RX6 yX6_about wsX6_about) := goodIn_app (goodIn_of _ (by decide +kernel)) ggL_law_X6_about
set_option maxRecDepth 20000 in
theorem ggL_law_L_pegOf : GoodIn wsL_law wsL_pegOf := goodIn_ca (goodIn_ca (goodIn_r _ [462, 463, 93, 464, 465, 466, 2, 467, 468, 469, 99, 100, 21, 470, 419, 420, 42, 421, 297, 471, 387, 388, 389, 61, 60, 349, 350, 351, 352, 59, 825, 826, 827, 828, 829, 830, 850, 851, 852, 853, 854, 855, 856, 857, 858, 859, 860, 861, 862, 863, 864, 865, 866, 872, 873, 874, 875] (by decide +kernel) (by decide +kernel)) (goodIn_sub (fun _ h => List.mem_append_right _ h) (by decide +kernel))) (goodIn_sub (fun _ h => List.mem_append_left _ (List.mem_append_left _ (List.mem_append_right _ h))) (by decide +kernel))
set_option maxRecDepth 20000 in
theorem gL_law_L_pegOf : GoodIn wsL_law (va_wsS RL 118 yL_pegOf wsL_pegOf) := goodIn_app (goodIn_of _ (by decide +kernel)) ggL_law_L_pegOf
set_option maxRecDepth 20000 in
theorem ggL_law_X6_pegOf : GoodIn wsL_law wsX6_pegOf := goodIn_r _ [475, 81, 213, 476, 477, 5, 478, 118, 119, 120, 121, 122, 123, 124, 125, 239, 240, 241, 831, 832, 833, 834, 835, 836, 837, 838, 839, 840, 841] (by decide +kernel) (by decide +kernel)
set_option maxRecDepth 20000 in
theorem gL_law_X6_pegOf : GoodIn wsL_law (wsV RL 121 RX6 yX6_pegOf wsX6_pegOf) := goodIn_app (goodIn_of _ (by decide +kernel)) ggL_law_X6_pegOf
set_option maxRecDepth 20000 in
theorem ggL_law_L_orderOf : GoodIn wsL_law wsL_orderOf := goodIn_ca (goodIn_ca (goodIn_r _ [481, 463, 93, 482, 483, 484, 2, 485, 468, 469, 99, 100, 21, 470, 419, 420, 42, 421, 297, 471, 387, 388, 389, 61, 60, 349, 350, 351, 352, 59, 825, 826, 827, 828, 829, 830, 850, 851, 852, 853, 854, 855, 856, 857, 858, 859, 860, 861, 862, 863, 864, 865, 866, 872, 873, 874, 875] (by decide +kernel) (by decide +kernel)) (goodIn_sub (fun _ h => List.mem_append_right _ h) (by decide +kernel))) (goodIn_sub (fun _ h => List.mem_append_left _ (List.mem_append_left _ (List.mem_append_right _ h))) (by decide +kernel))
set_option maxRecDepth 20000 in
theorem gL_law_L_orderOf : GoodIn wsL_law (va_wsS RL 122 yL_orderOf wsL_orderOf) := goodIn_app (goodIn_of _ (by decide +kernel)) ggL_law_L_orderOf
set_option maxRecDepth 20000 in
theorem ggL_law_X6_orderOf : GoodIn wsL_law wsX6_orderOf := goodIn_r _ [489, 81, 490, 266, 267, 5, 268, 118, 119, 120, 121, 122, 123, 124, 125, 230, 231, 232, 831, 832, 833, 834, 835, 836, 837, 838, 839, 840, 841] (by decide +kernel) (by decide +kernel)
set_option maxRecDepth 20000 in
theorem gL_law_X6_orderOf : GoodIn wsL_law (wsV RL 124 RX6 yX6_orderOf wsX6_orderOf) := goodIn_app (goodIn_of _ (by decide +kernel)) ggL_law_X6_orderOf
set_option maxRecDepth 20000 in
theorem ggL_law_L_pipeOf : GoodIn wsL_law wsL_pipeOf := goodIn_ca (goodIn_ca (goodIn_r _ [493, 463, 93, 494, 495, 496, 2, 497, 468, 469, 99, 100, 21, 498, 332, 333, 499, 500, 501, 20, 502, 46, 284, 47, 48, 503, 504, 505, 506, 43, 386, 387, 388, 42, 389, 61, 60, 349, 350, 351, 352, 59, 507, 508, 509, 510, 511, 512, 513, 393, 394, 395, 396, 390, 391, 392, 825, 826, 827, 828, 829, 830, 850, 851, 852, 853, 854, 855, 856, 857, 858, 859, 860, 861, 862, 863, 864, 865, 866, 872, 873, 874, 875] (by decide +kernel) (by decide +kernel)) (goodIn_sub (fun _ h => List.mem_append_right _ h) (by decide +kernel))) (goodIn_sub (fun _ h => List.mem_append_left _ (List.mem_append_left _ (List.mem_append_right _ h))) (by decide +kernel))
set_option maxRecDepth 20000 in
theorem gL_law_L_pipeOf : GoodIn wsL_law (va_wsS RL 125 yL_pipeOf wsL_pipeOf) := goodIn_app (goodIn_of _ (by decide +kernel)) ggL_law_L_pipeOf
