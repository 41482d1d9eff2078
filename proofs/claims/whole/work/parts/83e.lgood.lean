/-! The law's calls: their words. -/
set_option maxRecDepth 20000 in
theorem ggL_law_X6_setting : GoodIn wsL_law wsX6_setting := goodIn_r _ [582, 583, 81, 118, 119, 5, 120, 121, 122, 123, 124, 125, 827, 828, 829, 830, 831, 832, 833, 834, 835, 836, 837] (by decide +kernel) (by decide +kernel)
set_option maxRecDepth 20000 in
theorem gL_law_X6_setting : GoodIn wsL_law (wsV RL 136 RX6 yX6_setting wsX6_setting) := goodIn_app (goodIn_of _ (by decide +kernel)) ggL_law_X6_setting
set_option maxRecDepth 20000 in
theorem ggL_law_L_put : GoodIn wsL_law wsL_put := goodIn_ca (goodIn_ca (goodIn_ca (goodIn_r _ [586, 463, 93, 94, 587, 588, 589, 2, 590, 468, 469, 99, 100, 101, 102, 21, 27, 498, 332, 333, 532, 334, 335, 591, 326, 327, 592, 337, 338, 42, 339, 297, 59, 593, 594, 595, 26, 596, 67, 597, 311, 598, 301, 57, 302, 599, 280, 281, 20, 282, 43, 44, 46, 47, 48, 49, 283, 284, 285, 286, 287, 288, 289, 290, 291, 292, 50, 293, 294, 295, 296, 61, 298, 299, 300, 303, 304, 305, 306, 322, 323, 324, 325, 328, 329, 330, 331, 336, 340, 341, 342, 343, 344, 345, 346, 347, 348, 60, 349, 350, 351, 352, 821, 822, 823, 824, 825, 826, 846, 847, 848, 849, 850, 851, 852, 853, 854, 855, 856, 857, 858, 859, 860, 861, 862, 868, 869, 870, 871, 863, 864, 865] (by decide +kernel) (by decide +kernel)) (goodIn_sub (fun _ h => List.mem_append_right _ h) (by decide +kernel))) (goodIn_sub (fun _ h => List.mem_append_left _ (List.mem_append_left _ (List.mem_append_right _ h))) (by decide +kernel))) (goodIn_sub (fun _ h => List.mem_append_left _ (List.mem_append_right _ h)) (by decide +kernel))
set_option maxRecDepth 20000 in
theorem gL_law_L_put : GoodIn wsL_law (va_wsS RL 137 yL_put wsL_put) := goodIn_app (goodIn_of _ (by decide +kernel)) ggL_law_L_put
set_option maxRecDepth 20000 in
theorem ggL_law_X6_put : GoodIn wsL_law wsX6_put := goodIn_r _ [603, 604, 81, 518, 519, 5, 520, 521, 118, 119, 120, 541, 542, 543, 544, 121, 122, 123, 124, 125, 605, 606, 607, 608, 440, 83, 441, 442, 443, 203, 204, 205, 827, 828, 829, 830, 831, 832, 833, 834, 835, 836, 837] (by decide +kernel) (by decide +kernel)
set_option maxRecDepth 20000 in
theorem gL_law_X6_put : GoodIn wsL_law (wsV RL 140 RX6 yX6_put wsX6_put) := goodIn_app (goodIn_of _ (by decide +kernel)) ggL_law_X6_put
set_option maxRecDepth 20000 in
theorem ggL_law_L_pull : GoodIn wsL_law wsL_pull := goodIn_ca (goodIn_ca (goodIn_r _ [611, 463, 94, 612, 613, 614, 2, 615, 468, 469, 101, 102, 21, 27, 498, 332, 333, 532, 334, 335, 592, 337, 338, 42, 339, 297, 59, 593, 594, 595, 26, 596, 67, 597, 311, 598, 301, 57, 302, 599, 280, 281, 20, 282, 43, 44, 46, 47, 48, 49, 283, 284, 285, 286, 287, 288, 289, 290, 291, 292, 50, 293, 294, 295, 296, 61, 298, 299, 300, 303, 304, 305, 306, 353, 354, 355, 356, 328, 329, 330, 331, 336, 340, 341, 342, 343, 344, 345, 346, 347, 348, 60, 349, 350, 351, 352, 821, 822, 823, 824, 825, 826, 846, 847, 848, 849, 850, 851, 852, 853, 854, 855, 856, 857, 858, 859, 860, 861, 862, 868, 869, 870, 871, 863, 864, 865] (by decide +kernel) (by decide +kernel)) (goodIn_sub (fun _ h => List.mem_append_right _ h) (by decide +kernel))) (goodIn_sub (fun _ h => List.mem_append_left _ (List.mem_append_right _ h)) (by decide +kernel))
set_option maxRecDepth 20000 in
theorem gL_law_L_pull : GoodIn wsL_law (va_wsS RL 141 yL_pull wsL_pull) := goodIn_app (goodIn_of _ (by decide +kernel)) ggL_law_L_pull
set_option maxRecDepth 20000 in
theorem ggL_law_X6_pull : GoodIn wsL_law wsX6_pull := goodIn_r _ [619, 81, 518, 519, 5, 520, 521, 118, 119, 120, 541, 542, 543, 544, 121, 122, 123, 124, 125, 605, 606, 607, 608, 440, 83, 441, 442, 443, 203, 204, 205, 827, 828, 829, 830, 831, 832, 833, 834, 835, 836, 837] (by decide +kernel) (by decide +kernel)
set_option maxRecDepth 20000 in
theorem gL_law_X6_pull : GoodIn wsL_law (wsV RL 143 RX6 yX6_pull wsX6_pull) := goodIn_app (goodIn_of _ (by decide +kernel)) ggL_law_X6_pull
set_option maxRecDepth 20000 in
theorem ggL_law_L_cancel : GoodIn wsL_law wsL_cancel := goodIn_ca (goodIn_r _ [622, 463, 623, 624, 625, 2, 626, 468, 469, 21, 27, 470, 419, 420, 42, 421, 297, 593, 594, 595, 26, 596, 67, 597, 311, 598, 301, 57, 302, 599, 280, 281, 20, 282, 43, 44, 46, 47, 48, 49, 283, 284, 285, 286, 287, 288, 289, 290, 291, 292, 50, 293, 294, 295, 296, 61, 298, 299, 300, 303, 304, 305, 306, 435, 423, 424, 425, 426, 413, 414, 415, 416, 60, 417, 418, 821, 822, 823, 824, 825, 826, 846, 847, 848, 849, 850, 851, 852, 853, 854, 855, 856, 857, 858, 859, 860, 861, 862, 868, 869, 870, 871, 863, 864, 865] (by decide +kernel) (by decide +kernel)) (goodIn_sub (fun _ h => List.mem_append_right _ h) (by decide +kernel))
set_option maxRecDepth 20000 in
theorem gL_law_L_cancel : GoodIn wsL_law (va_wsS RL 144 yL_cancel wsL_cancel) := goodIn_app (goodIn_of _ (by decide +kernel)) ggL_law_L_cancel
