/-! The law's calls: their words. -/
set_option maxRecDepth 20000 in
theorem ggL_law_X6_cancel : GoodIn wsL_law wsX6_cancel := goodIn_r _ [634, 81, 266, 267, 5, 268, 118, 119, 120, 121, 122, 123, 124, 125, 609, 610, 611, 612, 440, 83, 441, 442, 443, 269, 270, 271, 260, 261, 262, 831, 832, 833, 834, 835, 836, 837, 838, 839, 840, 841] (by decide +kernel) (by decide +kernel)
set_option maxRecDepth 20000 in
theorem gL_law_X6_cancel : GoodIn wsL_law (wsV RL 146 RX6 yX6_cancel wsX6_cancel) := goodIn_app (goodIn_of _ (by decide +kernel)) ggL_law_X6_cancel
set_option maxRecDepth 20000 in
theorem ggL_law_L_ticks : GoodIn wsL_law wsL_ticks := goodIn_ca (goodIn_r _ [637, 93, 638, 639, 640, 2, 641, 99, 100, 27, 21, 642, 372, 373, 593, 594, 595, 26, 596, 597, 311, 598, 301, 57, 302, 599, 600, 601, 602, 67, 603, 280, 281, 20, 282, 43, 44, 46, 47, 48, 49, 283, 284, 285, 286, 287, 288, 289, 290, 291, 292, 50, 293, 294, 295, 42, 296, 297, 61, 298, 299, 300, 303, 304, 305, 306, 367, 368, 369, 370, 371, 374, 375, 376, 377, 378, 379, 380, 381, 382, 383, 384, 385, 386, 387, 388, 389, 60, 349, 350, 351, 352, 59, 390, 391, 392, 393, 394, 395, 396, 332, 333, 345, 346, 347, 348, 397, 398, 399, 400, 401, 402, 403, 404, 405, 406, 407, 408, 336, 337, 338, 339, 340, 341, 342, 343, 344, 409, 410, 411, 412, 413, 414, 415, 416, 417, 418, 419, 420, 421, 422, 423, 424, 425, 426, 427, 428, 429, 430, 431, 432, 433, 434, 825, 826, 827, 828, 829, 830, 867, 868, 869, 850, 851, 852, 853, 854, 855, 856, 857, 858, 859, 860, 861, 862, 863, 864, 865, 866, 872, 873, 874, 875] (by decide +kernel) (by decide +kernel)) (goodIn_sub (fun _ h => List.mem_append_left _ (List.mem_append_left _ (List.mem_append_right _ h))) (by decide +kernel))
set_option maxRecDepth 20000 in
theorem gL_law_L_ticks : GoodIn wsL_law (va_wsS RL 147 yL_ticks wsL_ticks) := goodIn_app (goodIn_of _ (by decide +kernel)) ggL_law_L_ticks
set_option maxRecDepth 20000 in
theorem ggL_law_X6_ticks : GoodIn wsL_law wsX6_ticks := goodIn_r _ [646, 647, 81, 118, 119, 5, 120, 121, 122, 123, 124, 125, 609, 610, 611, 612, 440, 83, 441, 442, 443, 218, 219, 220, 221, 222, 223, 224, 225, 226, 227, 228, 229, 230, 231, 232, 233, 234, 235, 236, 237, 238, 239, 240, 241, 242, 243, 244, 245, 246, 247, 248, 249, 250, 251, 252, 253, 254, 255, 256, 257, 258, 259, 260, 261, 262, 263, 264, 265, 831, 832, 833, 834, 835, 836, 837, 838, 839, 840, 841] (by decide +kernel) (by decide +kernel)
set_option maxRecDepth 20000 in
theorem gL_law_X6_ticks : GoodIn wsL_law (wsV RL 149 RX6 yX6_ticks wsX6_ticks) := goodIn_app (goodIn_of _ (by decide +kernel)) ggL_law_X6_ticks
set_option maxRecDepth 20000 in
theorem ggL_law_L_set : GoodIn wsL_law wsL_set := goodIn_ca (goodIn_r _ [650, 93, 651, 652, 653, 2, 654, 99, 100, 27, 21, 655, 361, 362, 363, 364, 365, 366, 593, 594, 595, 26, 596, 597, 311, 598, 301, 57, 302, 599, 600, 601, 602, 67, 603, 280, 281, 20, 282, 43, 44, 46, 47, 48, 49, 283, 284, 285, 286, 287, 288, 289, 290, 291, 292, 50, 293, 294, 295, 42, 296, 297, 61, 298, 299, 300, 303, 304, 305, 306, 357, 358, 359, 360, 825, 826, 827, 828, 829, 830, 867, 868, 869, 850, 851, 852, 853, 854, 855, 856, 857, 858, 859, 860, 861, 862, 863, 864, 865, 866, 872, 873, 874, 875] (by decide +kernel) (by decide +kernel)) (goodIn_sub (fun _ h => List.mem_append_left _ (List.mem_append_left _ (List.mem_append_right _ h))) (by decide +kernel))
set_option maxRecDepth 20000 in
theorem gL_law_L_set : GoodIn wsL_law (va_wsS RL 150 yL_set wsL_set) := goodIn_app (goodIn_of _ (by decide +kernel)) ggL_law_L_set
set_option maxRecDepth 20000 in
theorem ggL_law_X6_set : GoodIn wsL_law wsX6_set := goodIn_r _ [659, 81, 210, 211, 5, 212, 213, 202, 214, 118, 119, 120, 121, 122, 123, 124, 125, 609, 610, 611, 612, 440, 83, 441, 442, 443, 215, 216, 217, 831, 832, 833, 834, 835, 836, 837, 838, 839, 840, 841] (by decide +kernel) (by decide +kernel)
set_option maxRecDepth 20000 in
theorem gL_law_X6_set : GoodIn wsL_law (wsV RL 152 RX6 yX6_set wsX6_set) := goodIn_app (goodIn_of _ (by decide +kernel)) ggL_law_X6_set
set_option maxRecDepth 20000 in
theorem ggL_law_L_undo : GoodIn wsL_law wsL_undo := goodIn_ca (goodIn_r _ [662, 94, 663, 664, 665, 2, 666, 101, 102, 27, 21, 667, 668, 669, 26, 670, 311, 671, 672, 673, 674, 597, 599, 600, 601, 602, 67, 603, 280, 281, 20, 282, 43, 44, 46, 47, 48, 49, 283, 284, 285, 286, 287, 288, 289, 290, 291, 292, 50, 293, 294, 295, 42, 296, 297, 61, 298, 299, 300, 301, 57, 302, 303, 304, 305, 306, 825, 826, 827, 828, 829, 830, 867, 868, 869, 850, 851, 852, 853, 854, 855, 856, 857, 858, 859, 860, 861, 862, 863, 864, 865, 866, 872, 873, 874, 875] (by decide +kernel) (by decide +kernel)) (goodIn_sub (fun _ h => List.mem_append_left _ (List.mem_append_right _ h)) (by decide +kernel))
set_option maxRecDepth 20000 in
theorem gL_law_L_undo : GoodIn wsL_law (va_wsS RL 153 yL_undo wsL_undo) := goodIn_app (goodIn_of _ (by decide +kernel)) ggL_law_L_undo
