set_option maxRecDepth 20000 in
theorem ggL_law_L_clear : GoodIn wsL_law wsL_clear := goodIn_ca (goodIn_r _ [303, 106, 304, 305, 306, 2, 307, 116, 117, 269, 270, 271, 279, 280, 281, 282, 16, 782, 783, 784, 785, 723, 724, 725, 726, 727, 728, 729, 730, 731, 732, 733] (by decide +kernel) (by decide +kernel)) (goodIn_sub (fun _ h => List.mem_append_left _ (List.mem_append_right _ h)) (by decide +kernel))
set_option maxRecDepth 20000 in
theorem gL_law_L_clear : GoodIn wsL_law (va_wsS RL 133 yL_clear wsL_clear) := goodIn_app (goodIn_of _ (by decide +kernel)) ggL_law_L_clear
set_option maxRecDepth 20000 in
theorem ggL_law_X5_clear : GoodIn wsL_law wsX5_clear := goodIn_r _ [311, 100, 62, 63, 64, 297, 298, 299, 5, 300, 258, 138, 139, 140, 141, 259, 260, 261, 734, 735, 736, 737, 738, 739, 740, 741, 742, 743, 744, 745, 746, 747, 748, 749, 750, 751, 752, 753, 754, 755, 756, 757, 758, 759, 760, 761, 762, 763, 764, 765, 766, 767] (by decide +kernel) (by decide +kernel)
set_option maxRecDepth 20000 in
theorem gL_law_X5_clear : GoodIn wsL_law (wsV RL 135 RX5 yX5_clear wsX5_clear) := goodIn_app (goodIn_of _ (by decide +kernel)) ggL_law_X5_clear
set_option maxRecDepth 20000 in
theorem ggL_law_L_ripe : GoodIn wsL_law wsL_ripe := goodIn_ca (goodIn_r _ [314, 106, 315, 316, 317, 2, 318, 279, 280, 281, 282, 116, 117, 16, 319, 320, 321, 322, 242, 323, 723, 724, 725, 726, 727, 728, 729, 730, 731, 732, 733, 782, 783, 784, 785] (by decide +kernel) (by decide +kernel)) (goodIn_sub (fun _ h => List.mem_append_left _ (List.mem_append_right _ h)) (by decide +kernel))
set_option maxRecDepth 20000 in
theorem gL_law_L_ripe : GoodIn wsL_law (va_wsS RL 136 yL_ripe wsL_ripe) := goodIn_app (goodIn_of _ (by decide +kernel)) ggL_law_L_ripe
set_option maxRecDepth 20000 in
theorem ggL_law_X5_ripe : GoodIn wsL_law wsX5_ripe := goodIn_r _ [327, 100, 297, 298, 299, 5, 300, 258, 138, 139, 140, 141, 328, 329, 330, 331, 247, 61, 734, 735, 736, 737, 738, 739, 740, 741, 742, 743, 744, 745, 746, 747, 748, 749, 750, 751, 752, 753, 754, 755, 756, 757, 758, 759, 760, 761, 762, 763, 764, 765, 766, 767] (by decide +kernel) (by decide +kernel)
set_option maxRecDepth 20000 in
theorem gL_law_X5_ripe : GoodIn wsL_law (wsV RL 138 RX5 yX5_ripe wsX5_ripe) := goodIn_app (goodIn_of _ (by decide +kernel)) ggL_law_X5_ripe
set_option maxRecDepth 20000 in
theorem ggL_law_L_fewest : GoodIn wsL_law wsL_fewest := goodIn_ca (goodIn_r _ [334, 106, 335, 336, 337, 2, 338, 112, 113, 114, 115, 116, 117, 14, 339, 340, 341, 342, 25, 253, 16, 343, 344, 345, 87, 346, 93, 95, 128, 129, 347, 348, 349, 24, 350, 351, 352, 353, 319, 320, 321, 322, 242, 323, 354, 355, 356, 357, 358, 359, 360, 33, 361, 362, 363, 364, 34, 35, 36, 37, 38, 39, 365, 366, 367, 368, 40, 369, 370, 371, 372, 373, 374, 375, 376, 377, 378, 379, 380, 381, 382, 383, 384, 385, 42, 386, 387, 388, 389, 390, 277, 274, 278, 391, 392, 393, 394, 395, 396, 397, 398, 723, 724, 725, 726, 727, 728, 729, 730, 731, 732, 733, 786, 787, 788, 789, 768, 769, 770, 771, 772, 773, 774, 775, 776, 777, 778, 779, 780, 781, 782, 783, 784, 785] (by decide +kernel) (by decide +kernel)) (goodIn_sub (fun _ h => List.mem_append_left _ (List.mem_append_right _ h)) (by decide +kernel))
set_option maxRecDepth 20000 in
theorem gL_law_L_fewest : GoodIn wsL_law (va_wsS RL 139 yL_fewest wsL_fewest) := goodIn_app (goodIn_of _ (by decide +kernel)) ggL_law_L_fewest
set_option maxRecDepth 20000 in
theorem ggL_law_X5_fewest : GoodIn wsL_law wsX5_fewest := goodIn_r _ [402, 100, 134, 135, 136, 5, 137, 101, 138, 139, 140, 141, 403, 404, 405, 406, 258, 79, 407, 408, 409, 410, 411, 412, 57, 413, 60, 295, 273, 274, 275, 414, 415, 174, 175, 176, 177, 146, 147, 148, 149, 58, 59, 328, 329, 330, 331, 247, 61, 416, 417, 418, 419, 420, 421, 422, 423, 424, 425, 426, 62, 74, 75, 427, 428, 429, 430, 76, 296, 277, 278, 431, 432, 433, 434, 64, 63, 259, 260, 261, 435, 436, 437, 438, 734, 735, 736, 737, 738, 739, 740, 741, 742, 743, 744, 745, 746, 747, 748, 749, 750, 751, 752, 753, 754, 755, 756, 757, 758, 759, 760, 761, 762, 763, 764, 765, 766, 767] (by decide +kernel) (by decide +kernel)
set_option maxRecDepth 20000 in
theorem gL_law_X5_fewest : GoodIn wsL_law (wsV RL 141 RX5 yX5_fewest wsX5_fewest) := goodIn_app (goodIn_of _ (by decide +kernel)) ggL_law_X5_fewest
