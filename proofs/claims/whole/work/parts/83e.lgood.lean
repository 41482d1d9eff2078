/-! The law's calls: their words. -/
set_option maxRecDepth 20000 in
theorem ggL_law_X6_setting : GoodIn wsL_law wsX6_setting := goodIn_r _ [582, 583, 81, 118, 119, 5, 120, 121, 122, 123, 124, 125, 831, 832, 833, 834, 835, 836, 837, 838, 839, 840, 841] (by decide +kernel) (by decide +kernel)
set_option maxRecDepth 20000 in
theorem gL_law_X6_setting : GoodIn wsL_law (wsV RL 136 RX6 yX6_setting wsX6_setting) := goodIn_app (goodIn_of _ (by decide +kernel)) ggL_law_X6_setting
set_option maxRecDepth 20000 in
theorem ggL_law_L_put : GoodIn wsL_law wsL_put := goodIn_ca (goodIn_ca (goodIn_ca (goodIn_r _ [586, 463, 93, 94, 587, 588, 589, 2, 590, 468, 469, 99, 100, 101, 102, 21, 27, 498, 332, 333, 532, 334, 335, 591, 326, 327, 592, 337, 338, 42, 339, 297, 59, 593, 594, 595, 26, 596, 597, 311, 598, 301, 57, 302, 599, 600, 601, 602, 67, 603, 280, 281, 20, 282, 43, 44, 46, 47, 48, 49, 283, 284, 285, 286, 287, 288, 289, 290, 291, 292, 50, 293, 294, 295, 296, 61, 298, 299, 300, 303, 304, 305, 306, 322, 323, 324, 325, 328, 329, 330, 331, 336, 340, 341, 342, 343, 344, 345, 346, 347, 348, 60, 349, 350, 351, 352, 825, 826, 827, 828, 829, 830, 850, 851, 852, 853, 854, 855, 856, 857, 858, 859, 860, 861, 862, 863, 864, 865, 866, 872, 873, 874, 875, 867, 868, 869] (by decide +kernel) (by decide +kernel)) (goodIn_sub (fun _ h => List.mem_append_right _ h) (by decide +kernel))) (goodIn_sub (fun _ h => List.mem_append_left _ (List.mem_append_left _ (List.mem_append_right _ h))) (by decide +kernel))) (goodIn_sub (fun _ h => List.mem_append_left _ (List.mem_append_right _ h)) (by decide +kernel))
set_option maxRecDepth 20000 in
theorem gL_law_L_put : GoodIn wsL_law (va_wsS RL 137 yL_put wsL_put) := goodIn_app (goodIn_of _ (by decide +kernel)) ggL_law_L_put
set_option maxRecDepth 20000 in
theorem ggL_law_X6_put : GoodIn wsL_law wsX6_put := goodIn_r _ [607, 608, 81, 518, 519, 5, 520, 521, 118, 119, 120, 541, 542, 543, 544, 121, 122, 123, 124, 125, 609, 610, 611, 612, 440, 83, 441, 442, 443, 203, 204, 205, 831, 832, 833, 834, 835, 836, 837, 838, 839, 840, 841] (by decide +kernel) (by decide +kernel)
set_option maxRecDepth 20000 in
theorem gL_law_X6_put : GoodIn wsL_law (wsV RL 140 RX6 yX6_put wsX6_put) := goodIn_app (goodIn_of _ (by decide +kernel)) ggL_law_X6_put
set_option maxRecDepth 20000 in
theorem ggL_law_L_pull : GoodIn wsL_law wsL_pull := goodIn_ca (goodIn_ca (goodIn_r _ [615, 463, 94, 616, 617, 618, 2, 619, 468, 469, 101, 102, 21, 27, 498, 332, 333, 532, 334, 335, 592, 337, 338, 42, 339, 297, 59, 593, 594, 595, 26, 596, 597, 311, 598, 301, 57, 302, 599, 600, 601, 602, 67, 603, 280, 281, 20, 282, 43, 44, 46, 47, 48, 49, 283, 284, 285, 286, 287, 288, 289, 290, 291, 292, 50, 293, 294, 295, 296, 61, 298, 299, 300, 303, 304, 305, 306, 353, 354, 355, 356, 328, 329, 330, 331, 336, 340, 341, 342, 343, 344, 345, 346, 347, 348, 60, 349, 350, 351, 352, 825, 826, 827, 828, 829, 830, 850, 851, 852, 853, 854, 855, 856, 857, 858, 859, 860, 861, 862, 863, 864, 865, 866, 872, 873, 874, 875, 867, 868, 869] (by decide +kernel) (by decide +kernel)) (goodIn_sub (fun _ h => List.mem_append_right _ h) (by decide +kernel))) (goodIn_sub (fun _ h => List.mem_append_left _ (List.mem_append_right _ h)) (by decide +kernel))
set_option maxRecDepth 20000 in
theorem gL_law_L_pull : GoodIn wsL_law (va_wsS RL 141 yL_pull wsL_pull) := goodIn_app (goodIn_of _ (by decide +kernel)) ggL_law_L_pull
set_option maxRecDepth 20000 in
theorem ggL_law_X6_pull : GoodIn wsL_law wsX6_pull := goodIn_r _ [623, 81, 518, 519, 5, 520, 521, 118, 119, 120, 541, 542, 543, 544, 121, 122, 123, 124, 125, 609, 610, 611, 612, 440, 83, 441, 442, 443, 203, 204, 205, 831, 832, 833, 834, 835, 836, 837, 838, 839, 840, 841] (by decide +kernel) (by decide +kernel)
set_option maxRecDepth 20000 in
theorem gL_law_X6_pull : GoodIn wsL_law (wsV RL 143 RX6 yX6_pull wsX6_pull) := goodIn_app (goodIn_of _ (by decide +kernel)) ggL_law_X6_pull
set_option maxRecDepth 20000 in
theorem ggL_law_L_cancel : GoodIn wsL_law wsL_cancel := goodIn_ca (goodIn_r _ [626, 463, 627, 628, 629, 2, 630, 468, 469, 21, 27, 470, 419, 420, 42, 421, 297, 593, 594, 595, 26, 596, 597, 311, 598, 301, 57, 302, 599, 600, 601, 602, 67, 603, 280, 281, 20, 282, 43, 44, 46, 47, 48, 49, 283, 284, 285, 286, 287, 288, 289, 290, 291, 292, 50, 293, 294, 295, 296, 61, 298, 299, 300, 303, 304, 305, 306, 435, 423, 424, 425, 426, 413, 414, 415, 416, 60, 417, 418, 825, 826, 827, 828, 829, 830, 850, 851, 852, 853, 854, 855, 856, 857, 858, 859, 860, 861, 862, 863, 864, 865, 866, 872, 873, 874, 875, 867, 868, 869] (by decide +kernel) (by decide +kernel)) (goodIn_sub (fun _ h => List.mem_append_right _ h) (by decide +kernel))
set_option maxRecDepth 20000 in
theorem gL_law_L_cancel : GoodIn wsL_law (va_wsS RL 144 yL_cancel wsL_cancel) := goodIn_app (goodIn_of _ (by decide +kernel)) ggL_law_L_cancel
