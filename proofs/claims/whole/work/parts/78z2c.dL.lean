set_option maxRecDepth 20000 in
theorem ggL_law_L_days : GoodIn wsL_law wsL_days := goodIn_ca (goodIn_r _ [236, 107, 237, 238, 239, 2, 240, 121, 122, 241, 242, 723, 724, 725, 726, 727, 728, 729, 730, 731, 732, 733] (by decide +kernel) (by decide +kernel)) (goodIn_sub (fun _ h => List.mem_append_right _ h) (by decide +kernel))
set_option maxRecDepth 20000 in
theorem gL_law_L_days : GoodIn wsL_law (va_wsS RL 123 yL_days wsL_days) := goodIn_app (goodIn_of _ (by decide +kernel)) ggL_law_L_days
set_option maxRecDepth 20000 in
theorem ggL_law_X5_days : GoodIn wsL_law wsX5_days := goodIn_r _ [246, 100, 247, 248, 138, 139, 140, 5, 141, 734, 735, 736, 737, 738, 739, 740, 741, 742, 743, 744, 745, 746, 747, 748, 749, 750, 751, 752, 753, 754, 755, 756, 757, 758, 759, 760, 761, 762, 763, 764, 765, 766, 767] (by decide +kernel) (by decide +kernel)
set_option maxRecDepth 20000 in
theorem gL_law_X5_days : GoodIn wsL_law (wsV RL 125 RX5 yX5_days wsX5_days) := goodIn_app (goodIn_of _ (by decide +kernel)) ggL_law_X5_days
set_option maxRecDepth 20000 in
theorem ggL_law_X4_bolt : GoodIn wsL_law wsX4_bolt := goodIn_r _ [252, 253, 16, 15, 26, 27, 242, 45, 46, 47, 48, 11, 12, 19, 49, 50, 51, 52, 723, 724, 725, 726, 727, 728, 729, 730, 731, 732, 733, 782, 783, 784, 785] (by decide +kernel) (by decide +kernel)
set_option maxRecDepth 20000 in
theorem gL_law_X4_bolt : GoodIn wsL_law (wsV RL 126 RX4 yX4_bolt wsX4_bolt) := goodIn_app (goodIn_of _ (by decide +kernel)) ggL_law_X4_bolt
set_option maxRecDepth 20000 in
theorem ggL_law_X5_bolt : GoodIn wsL_law wsX5_bolt := goodIn_r _ [257, 100, 258, 61, 247, 62, 63, 64, 259, 260, 5, 261, 734, 735, 736, 737, 738, 739, 740, 741, 742, 743, 744, 745, 746, 747, 748, 749, 750, 751, 752, 753, 754, 755, 756, 757, 758, 759, 760, 761, 762, 763, 764, 765, 766, 767] (by decide +kernel) (by decide +kernel)
set_option maxRecDepth 20000 in
theorem gL_law_X5_bolt : GoodIn wsL_law (wsV RL 129 RX5 yX5_bolt wsX5_bolt) := goodIn_app (goodIn_of _ (by decide +kernel)) ggL_law_X5_bolt
set_option maxRecDepth 20000 in
theorem ggL_law_L_flaw : GoodIn wsL_law wsL_flaw := goodIn_ca (goodIn_r _ [264, 106, 265, 266, 267, 2, 268, 28, 269, 270, 271, 272, 273, 274, 275, 276, 277, 278, 279, 280, 281, 282, 116, 117, 16, 283, 284, 285, 27, 286, 52, 49, 50, 287, 288, 289, 290, 723, 724, 725, 726, 727, 728, 729, 730, 731, 732, 733, 782, 783, 784, 785] (by decide +kernel) (by decide +kernel)) (goodIn_sub (fun _ h => List.mem_append_left _ (List.mem_append_right _ h)) (by decide +kernel))
set_option maxRecDepth 20000 in
theorem gL_law_L_flaw : GoodIn wsL_law (va_wsS RL 130 yL_flaw wsL_flaw) := goodIn_app (goodIn_of _ (by decide +kernel)) ggL_law_L_flaw
set_option maxRecDepth 20000 in
theorem ggL_law_X5_flaw : GoodIn wsL_law wsX5_flaw := goodIn_r _ [294, 100, 62, 63, 64, 295, 273, 274, 275, 77, 78, 296, 277, 278, 297, 298, 299, 5, 300, 258, 138, 139, 140, 141, 259, 260, 261, 734, 735, 736, 737, 738, 739, 740, 741, 742, 743, 744, 745, 746, 747, 748, 749, 750, 751, 752, 753, 754, 755, 756, 757, 758, 759, 760, 761, 762, 763, 764, 765, 766, 767] (by decide +kernel) (by decide +kernel)
set_option maxRecDepth 20000 in
theorem gL_law_X5_flaw : GoodIn wsL_law (wsV RL 132 RX5 yX5_flaw wsX5_flaw) := goodIn_app (goodIn_of _ (by decide +kernel)) ggL_law_X5_flaw
