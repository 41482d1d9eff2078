/-! The law's calls: their words. -/
set_option maxRecDepth 20000 in
theorem ggL_law_X6_leastSpeed : GoodIn wsL_law wsX6_leastSpeed := goodIn_r _ [712, 647, 81, 82, 118, 119, 5, 120, 121, 122, 123, 124, 125, 441, 442, 443, 215, 216, 217, 218, 219, 220, 221, 222, 223, 224, 225, 226, 227, 228, 229, 230, 231, 232, 233, 234, 235, 236, 237, 238, 239, 240, 241, 242, 243, 244, 245, 246, 247, 248, 249, 250, 251, 252, 253, 254, 255, 256, 257, 258, 259, 260, 261, 262, 263, 264, 265, 831, 832, 833, 834, 835, 836, 837, 838, 839, 840, 841] (by decide +kernel) (by decide +kernel)
set_option maxRecDepth 20000 in
theorem gL_law_X6_leastSpeed : GoodIn wsL_law (wsV RL 164 RX6 yX6_leastSpeed wsX6_leastSpeed) := goodIn_app (goodIn_of _ (by decide +kernel)) ggL_law_X6_leastSpeed
set_option maxRecDepth 20000 in
theorem ggL_law_X5_fullest : GoodIn wsL_law wsX5_fullest := goodIn_r _ [716, 21, 533, 534, 535, 20, 536, 393, 394, 395, 396, 46, 332, 2, 333, 390, 391, 392, 717, 508, 509, 510, 511, 512, 513, 825, 826, 827, 828, 829, 830, 850, 851, 852, 853, 854, 855, 856, 857, 858, 859, 860, 861, 862, 863, 864, 865, 866] (by decide +kernel) (by decide +kernel)
set_option maxRecDepth 20000 in
theorem gL_law_X5_fullest : GoodIn wsL_law (wsV RL 165 RX5 yX5_fullest wsX5_fullest) := goodIn_app (goodIn_of _ (by decide +kernel)) ggL_law_X5_fullest
set_option maxRecDepth 20000 in
theorem ggL_law_X6_fullest : GoodIn wsL_law wsX6_fullest := goodIn_r _ [721, 125, 81, 545, 546, 5, 547, 236, 237, 238, 239, 240, 241, 242, 243, 244, 722, 723, 724, 831, 832, 833, 834, 835, 836, 837, 838, 839, 840, 841] (by decide +kernel) (by decide +kernel)
set_option maxRecDepth 20000 in
theorem gL_law_X6_fullest : GoodIn wsL_law (wsV RL 168 RX6 yX6_fullest wsX6_fullest) := goodIn_app (goodIn_of _ (by decide +kernel)) ggL_law_X6_fullest
set_option maxRecDepth 20000 in
theorem ggL_law_L_room : GoodIn wsL_law wsL_room := goodIn_ca (goodIn_ca (goodIn_r _ [727, 463, 93, 728, 729, 730, 2, 731, 468, 469, 99, 100, 21, 498, 332, 333, 591, 326, 327, 732, 390, 391, 392, 733, 406, 407, 20, 408, 46, 825, 826, 827, 828, 829, 830, 850, 851, 852, 853, 854, 855, 856, 857, 858, 859, 860, 861, 862, 863, 864, 865, 866] (by decide +kernel) (by decide +kernel)) (goodIn_sub (fun _ h => List.mem_append_right _ h) (by decide +kernel))) (goodIn_sub (fun _ h => List.mem_append_left _ (List.mem_append_left _ (List.mem_append_right _ h))) (by decide +kernel))
set_option maxRecDepth 20000 in
theorem gL_law_L_room : GoodIn wsL_law (va_wsS RL 169 yL_room wsL_room) := goodIn_app (goodIn_of _ (by decide +kernel)) ggL_law_L_room
set_option maxRecDepth 20000 in
theorem ggL_law_X6_room : GoodIn wsL_law wsX6_room := goodIn_r _ [737, 608, 81, 518, 519, 5, 520, 521, 118, 119, 120, 121, 122, 123, 124, 125, 248, 249, 250, 236, 237, 238, 239, 240, 241, 242, 243, 244, 831, 832, 833, 834, 835, 836, 837, 838, 839, 840, 841] (by decide +kernel) (by decide +kernel)
set_option maxRecDepth 20000 in
theorem gL_law_X6_room : GoodIn wsL_law (wsV RL 171 RX6 yX6_room wsX6_room) := goodIn_app (goodIn_of _ (by decide +kernel)) ggL_law_X6_room
set_option maxRecDepth 20000 in
theorem ggL_law_L_runScript : GoodIn wsL_law wsL_runScript := goodIn_ca (goodIn_r _ [740, 93, 741, 742, 743, 2, 744, 99, 100, 23, 21, 745, 746, 747, 748, 279, 280, 281, 20, 282, 43, 44, 46, 47, 48, 49, 283, 284, 285, 286, 287, 288, 289, 290, 291, 292, 50, 293, 294, 295, 42, 296, 297, 61, 298, 299, 300, 301, 57, 302, 303, 304, 305, 306, 749, 750, 751, 752, 322, 323, 324, 325, 326, 327, 328, 329, 330, 331, 332, 333, 334, 335, 336, 337, 338, 339, 59, 340, 341, 342, 343, 344, 345, 346, 347, 348, 60, 349, 350, 351, 352, 353, 354, 355, 356, 367, 368, 369, 370, 371, 372, 373, 374, 375, 376, 377, 378, 379, 380, 381, 382, 383, 384, 385, 386, 387, 388, 389, 390, 391, 392, 393, 394, 395, 396, 397, 398, 399, 400, 401, 402, 403, 404, 405, 406, 407, 408, 409, 410, 411, 412, 413, 414, 415, 416, 417, 418, 419, 420, 421, 422, 423, 424, 425, 426, 427, 428, 429, 430, 431, 432, 433, 434, 357, 358, 359, 360, 361, 362, 363, 364, 365, 366, 435, 498, 532, 753, 697, 825, 826, 827, 828, 829, 830, 850, 851, 852, 853, 854, 855, 856, 857, 858, 859, 860, 861, 862, 863, 864, 865, 866, 872, 873, 874, 875] (by decide +kernel) (by decide +kernel)) (goodIn_sub (fun _ h => List.mem_append_left _ (List.mem_append_left _ (List.mem_append_right _ h))) (by decide +kernel))
set_option maxRecDepth 20000 in
theorem gL_law_L_runScript : GoodIn wsL_law (va_wsS RL 174 yL_runScript wsL_runScript) := goodIn_app (goodIn_of _ (by decide +kernel)) ggL_law_L_runScript
