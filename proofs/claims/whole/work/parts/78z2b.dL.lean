set_option maxRecDepth 20000 in
theorem ggL_law_L_holds : GoodIn wsL_law wsL_holds := goodIn_ca (goodIn_ca (goodIn_r _ [180, 106, 107, 181, 182, 183, 2, 184, 112, 113, 114, 115, 116, 117, 14, 118, 119, 120, 121, 122, 123, 185, 186, 187, 87, 188, 189, 190, 191, 192, 169, 125, 126, 127, 92, 93, 94, 128, 129, 193, 194, 195, 196, 197, 723, 724, 725, 726, 727, 728, 729, 730, 731, 732, 733, 786, 787, 788, 789] (by decide +kernel) (by decide +kernel)) (goodIn_sub (fun _ h => List.mem_append_left _ (List.mem_append_right _ h)) (by decide +kernel))) (goodIn_sub (fun _ h => List.mem_append_right _ h) (by decide +kernel))
set_option maxRecDepth 20000 in
theorem gL_law_L_holds : GoodIn wsL_law (va_wsS RL 113 yL_holds wsL_holds) := goodIn_app (goodIn_of _ (by decide +kernel)) ggL_law_L_holds
set_option maxRecDepth 20000 in
theorem ggL_law_X5_holds : GoodIn wsL_law wsX5_holds := goodIn_r _ [201, 100, 134, 135, 136, 5, 137, 101, 138, 139, 140, 141, 142, 143, 144, 145, 57, 202, 203, 204, 205, 206, 207, 146, 147, 148, 149, 58, 59, 734, 735, 736, 737, 738, 739, 740, 741, 742, 743, 744, 745, 746, 747, 748, 749, 750, 751, 752, 753, 754, 755, 756, 757, 758, 759, 760, 761, 762, 763, 764, 765, 766, 767] (by decide +kernel) (by decide +kernel)
set_option maxRecDepth 20000 in
theorem gL_law_X5_holds : GoodIn wsL_law (wsV RL 115 RX5 yX5_holds wsX5_holds) := goodIn_app (goodIn_of _ (by decide +kernel)) ggL_law_X5_holds
set_option maxRecDepth 20000 in
theorem ggL_law_L_level : GoodIn wsL_law wsL_level := goodIn_ca (goodIn_ca (goodIn_r _ [210, 106, 107, 211, 212, 213, 2, 214, 121, 122, 112, 113, 114, 115, 116, 117, 14, 215, 216, 217, 87, 218, 92, 193, 194, 195, 196, 197, 189, 190, 191, 192, 169, 125, 126, 127, 93, 94, 128, 129, 723, 724, 725, 726, 727, 728, 729, 730, 731, 732, 733, 786, 787, 788, 789] (by decide +kernel) (by decide +kernel)) (goodIn_sub (fun _ h => List.mem_append_right _ h) (by decide +kernel))) (goodIn_sub (fun _ h => List.mem_append_left _ (List.mem_append_right _ h)) (by decide +kernel))
set_option maxRecDepth 20000 in
theorem gL_law_L_level : GoodIn wsL_law (va_wsS RL 116 yL_level wsL_level) := goodIn_app (goodIn_of _ (by decide +kernel)) ggL_law_L_level
set_option maxRecDepth 20000 in
theorem ggL_law_X5_level : GoodIn wsL_law wsX5_level := goodIn_r _ [222, 100, 57, 134, 135, 136, 5, 137, 101, 138, 139, 140, 141, 202, 203, 204, 205, 206, 207, 146, 147, 148, 149, 58, 59, 734, 735, 736, 737, 738, 739, 740, 741, 742, 743, 744, 745, 746, 747, 748, 749, 750, 751, 752, 753, 754, 755, 756, 757, 758, 759, 760, 761, 762, 763, 764, 765, 766, 767] (by decide +kernel) (by decide +kernel)
set_option maxRecDepth 20000 in
theorem gL_law_X5_level : GoodIn wsL_law (wsV RL 118 RX5 yX5_level wsX5_level) := goodIn_app (goodIn_of _ (by decide +kernel)) ggL_law_X5_level
set_option maxRecDepth 20000 in
theorem ggL_law_L_head : GoodIn wsL_law wsL_head := goodIn_ca (goodIn_r _ [225, 106, 226, 227, 228, 2, 229, 112, 113, 114, 115, 116, 117, 14, 124, 125, 126, 87, 127, 92, 93, 94, 128, 129, 723, 724, 725, 726, 727, 728, 729, 730, 731, 732, 733, 786, 787, 788, 789] (by decide +kernel) (by decide +kernel)) (goodIn_sub (fun _ h => List.mem_append_left _ (List.mem_append_right _ h)) (by decide +kernel))
set_option maxRecDepth 20000 in
theorem gL_law_L_head : GoodIn wsL_law (va_wsS RL 119 yL_head wsL_head) := goodIn_app (goodIn_of _ (by decide +kernel)) ggL_law_L_head
set_option maxRecDepth 20000 in
theorem ggL_law_X5_head : GoodIn wsL_law wsX5_head := goodIn_r _ [233, 100, 134, 135, 136, 5, 137, 101, 146, 147, 148, 149, 57, 58, 59, 138, 139, 140, 141, 734, 735, 736, 737, 738, 739, 740, 741, 742, 743, 744, 745, 746, 747, 748, 749, 750, 751, 752, 753, 754, 755, 756, 757, 758, 759, 760, 761, 762, 763, 764, 765, 766, 767] (by decide +kernel) (by decide +kernel)
set_option maxRecDepth 20000 in
theorem gL_law_X5_head : GoodIn wsL_law (wsV RL 122 RX5 yX5_head wsX5_head) := goodIn_app (goodIn_of _ (by decide +kernel)) ggL_law_X5_head
