/-! The law's calls: their words. -/
set_option maxRecDepth 20000 in
theorem ggL_law_X6_pipeOf : GoodIn wsL_law wsX6_pipeOf := goodIn_r _ [517, 490, 81, 518, 519, 5, 520, 521, 118, 119, 120, 121, 122, 123, 124, 125, 239, 240, 241, 522, 523, 524, 236, 237, 238, 242, 243, 244, 233, 234, 235, 831, 832, 833, 834, 835, 836, 837, 838, 839, 840, 841] (by decide +kernel) (by decide +kernel)
set_option maxRecDepth 20000 in
theorem gL_law_X6_pipeOf : GoodIn wsL_law (wsV RL 127 RX6 yX6_pipeOf wsX6_pipeOf) := goodIn_app (goodIn_of _ (by decide +kernel)) ggL_law_X6_pipeOf
set_option maxRecDepth 20000 in
theorem ggL_law_L_chord : GoodIn wsL_law wsL_chord := goodIn_ca (goodIn_r _ [527, 463, 528, 529, 530, 2, 531, 468, 469, 21, 532, 334, 335, 533, 534, 535, 20, 536, 393, 394, 395, 396, 46, 332, 333, 390, 391, 392, 825, 826, 827, 828, 829, 830, 850, 851, 852, 853, 854, 855, 856, 857, 858, 859, 860, 861, 862, 863, 864, 865, 866] (by decide +kernel) (by decide +kernel)) (goodIn_sub (fun _ h => List.mem_append_right _ h) (by decide +kernel))
set_option maxRecDepth 20000 in
theorem gL_law_L_chord : GoodIn wsL_law (va_wsS RL 128 yL_chord wsL_chord) := goodIn_app (goodIn_of _ (by decide +kernel)) ggL_law_L_chord
set_option maxRecDepth 20000 in
theorem ggL_law_X6_chord : GoodIn wsL_law wsX6_chord := goodIn_r _ [540, 81, 541, 542, 5, 543, 544, 118, 119, 120, 121, 122, 123, 124, 125, 545, 546, 547, 236, 237, 238, 239, 240, 241, 242, 243, 244, 831, 832, 833, 834, 835, 836, 837, 838, 839, 840, 841] (by decide +kernel) (by decide +kernel)
set_option maxRecDepth 20000 in
theorem gL_law_X6_chord : GoodIn wsL_law (wsV RL 130 RX6 yX6_chord wsX6_chord) := goodIn_app (goodIn_of _ (by decide +kernel)) ggL_law_X6_chord
set_option maxRecDepth 20000 in
theorem ggL_law_L_covered : GoodIn wsL_law wsL_covered := goodIn_ca (goodIn_r _ [550, 93, 551, 552, 553, 2, 554, 99, 100, 21, 555, 556, 557, 20, 558, 559, 534, 535, 536, 393, 394, 395, 396, 46, 332, 333, 390, 391, 392, 507, 508, 509, 510, 511, 512, 513, 560, 561, 562, 563, 43, 386, 387, 388, 42, 389, 61, 60, 349, 350, 351, 352, 59, 825, 826, 827, 828, 829, 830, 850, 851, 852, 853, 854, 855, 856, 857, 858, 859, 860, 861, 862, 863, 864, 865, 866, 872, 873, 874, 875] (by decide +kernel) (by decide +kernel)) (goodIn_sub (fun _ h => List.mem_append_left _ (List.mem_append_left _ (List.mem_append_right _ h))) (by decide +kernel))
set_option maxRecDepth 20000 in
theorem gL_law_L_covered : GoodIn wsL_law (va_wsS RL 131 yL_covered wsL_covered) := goodIn_app (goodIn_of _ (by decide +kernel)) ggL_law_L_covered
set_option maxRecDepth 20000 in
theorem ggL_law_X6_covered : GoodIn wsL_law wsX6_covered := goodIn_r _ [567, 81, 118, 119, 5, 120, 121, 122, 123, 124, 125, 522, 523, 524, 236, 237, 238, 239, 240, 241, 242, 243, 244, 831, 832, 833, 834, 835, 836, 837, 838, 839, 840, 841] (by decide +kernel) (by decide +kernel)
set_option maxRecDepth 20000 in
theorem gL_law_X6_covered : GoodIn wsL_law (wsV RL 133 RX6 yX6_covered wsX6_covered) := goodIn_app (goodIn_of _ (by decide +kernel)) ggL_law_X6_covered
set_option maxRecDepth 20000 in
theorem ggL_law_L_setting : GoodIn wsL_law wsL_setting := goodIn_ca (goodIn_r _ [570, 93, 571, 572, 573, 2, 574, 99, 100, 21, 364, 365, 366, 363, 575, 576, 577, 20, 578, 49, 825, 826, 827, 828, 829, 830, 850, 851, 852, 853, 854, 855, 856, 857, 858, 859, 860, 861, 862, 863, 864, 865, 866] (by decide +kernel) (by decide +kernel)) (goodIn_sub (fun _ h => List.mem_append_left _ (List.mem_append_left _ (List.mem_append_right _ h))) (by decide +kernel))
set_option maxRecDepth 20000 in
theorem gL_law_L_setting : GoodIn wsL_law (va_wsS RL 134 yL_setting wsL_setting) := goodIn_app (goodIn_of _ (by decide +kernel)) ggL_law_L_setting
