set_option maxRecDepth 20000 in
theorem ggL_law_X5_form : GoodIn wsL_law wsX5_form := goodIn_r _ [99, 100, 101, 57, 58, 59, 60, 734, 735, 736, 737, 738, 739, 740, 741, 742, 743, 744, 745, 746, 747, 748, 749, 750, 751, 752, 753, 754, 755, 756, 757, 758, 759, 760, 761, 762, 763, 764, 765, 766, 767] (by decide +kernel) (by decide +kernel)
set_option maxRecDepth 20000 in
theorem gL_law_X5_form : GoodIn wsL_law (wsV RL 98 RX5 yX5_form wsX5_form) := goodIn_app (goodIn_of _ (by decide +kernel)) ggL_law_X5_form
set_option maxRecDepth 20000 in
theorem ggL_law_L_girth : GoodIn wsL_law wsL_girth := goodIn_ca (goodIn_ca (goodIn_r _ [105, 106, 107, 108, 109, 110, 2, 111, 112, 113, 114, 115, 116, 117, 14, 118, 119, 120, 121, 122, 123, 124, 125, 126, 87, 127, 92, 93, 94, 128, 129, 723, 724, 725, 726, 727, 728, 729, 730, 731, 732, 733, 786, 787, 788, 789] (by decide +kernel) (by decide +kernel)) (goodIn_sub (fun _ h => List.mem_append_left _ (List.mem_append_right _ h)) (by decide +kernel))) (goodIn_sub (fun _ h => List.mem_append_right _ h) (by decide +kernel))
set_option maxRecDepth 20000 in
theorem gL_law_L_girth : GoodIn wsL_law (va_wsS RL 99 yL_girth wsL_girth) := goodIn_app (goodIn_of _ (by decide +kernel)) ggL_law_L_girth
set_option maxRecDepth 20000 in
theorem ggL_law_X5_girth : GoodIn wsL_law wsX5_girth := goodIn_r _ [133, 100, 134, 135, 136, 5, 137, 101, 138, 139, 140, 141, 142, 143, 144, 145, 57, 146, 147, 148, 149, 58, 59, 734, 735, 736, 737, 738, 739, 740, 741, 742, 743, 744, 745, 746, 747, 748, 749, 750, 751, 752, 753, 754, 755, 756, 757, 758, 759, 760, 761, 762, 763, 764, 765, 766, 767] (by decide +kernel) (by decide +kernel)
set_option maxRecDepth 20000 in
theorem gL_law_X5_girth : GoodIn wsL_law (wsV RL 104 RX5 yX5_girth wsX5_girth) := goodIn_app (goodIn_of _ (by decide +kernel)) ggL_law_X5_girth
set_option maxRecDepth 20000 in
theorem ggL_law_X5_thrown : GoodIn wsL_law wsX5_thrown := goodIn_r _ [153, 100, 734, 735, 736, 737, 738, 739, 740, 741, 742, 743, 744, 745, 746, 747, 748, 749, 750, 751, 752, 753, 754, 755, 756, 757, 758, 759, 760, 761, 762, 763, 764, 765, 766, 767] (by decide +kernel) (by decide +kernel)
set_option maxRecDepth 20000 in
theorem gL_law_X5_thrown : GoodIn wsL_law (wsV RL 105 RX5 yX5_thrown wsX5_thrown) := goodIn_app (goodIn_of _ (by decide +kernel)) ggL_law_X5_thrown
set_option maxRecDepth 20000 in
theorem ggL_law_L_width : GoodIn wsL_law wsL_width := goodIn_ca (goodIn_ca (goodIn_r _ [156, 106, 107, 157, 158, 159, 2, 160, 112, 113, 114, 115, 116, 117, 14, 161, 162, 163, 164, 118, 119, 120, 121, 122, 123, 165, 166, 167, 87, 168, 95, 169, 125, 126, 127, 92, 93, 94, 128, 129, 723, 724, 725, 726, 727, 728, 729, 730, 731, 732, 733, 786, 787, 788, 789] (by decide +kernel) (by decide +kernel)) (goodIn_sub (fun _ h => List.mem_append_left _ (List.mem_append_right _ h)) (by decide +kernel))) (goodIn_sub (fun _ h => List.mem_append_right _ h) (by decide +kernel))
set_option maxRecDepth 20000 in
theorem gL_law_L_width : GoodIn wsL_law (va_wsS RL 109 yL_width wsL_width) := goodIn_app (goodIn_of _ (by decide +kernel)) ggL_law_L_width
set_option maxRecDepth 20000 in
theorem ggL_law_X5_width : GoodIn wsL_law wsX5_width := goodIn_r _ [173, 100, 60, 134, 135, 136, 5, 137, 101, 138, 139, 140, 141, 142, 143, 144, 145, 57, 174, 175, 176, 177, 146, 147, 148, 149, 58, 59, 734, 735, 736, 737, 738, 739, 740, 741, 742, 743, 744, 745, 746, 747, 748, 749, 750, 751, 752, 753, 754, 755, 756, 757, 758, 759, 760, 761, 762, 763, 764, 765, 766, 767] (by decide +kernel) (by decide +kernel)
set_option maxRecDepth 20000 in
theorem gL_law_X5_width : GoodIn wsL_law (wsV RL 112 RX5 yX5_width wsX5_width) := goodIn_app (goodIn_of _ (by decide +kernel)) ggL_law_X5_width
