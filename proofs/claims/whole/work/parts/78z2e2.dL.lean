set_option maxRecDepth 20000 in
theorem ggL_law_L_stave : GoodIn wsL_law wsL_stave := goodIn_ca (goodIn_r _ [520, 106, 521, 522, 523, 2, 524, 116, 117, 525, 526, 527, 528, 529, 530, 531, 18, 161, 162, 163, 164, 532, 500, 501, 87, 502, 92, 503, 166, 167, 168, 95, 169, 125, 126, 127, 93, 94, 128, 129, 790, 791, 792, 793, 794, 795, 796, 797, 723, 724, 725, 726, 727, 728, 729, 730, 731, 732, 733, 786, 787, 788, 789] (by decide +kernel) (by decide +kernel)) (goodIn_sub (fun _ h => List.mem_append_left _ (List.mem_append_right _ h)) (by decide +kernel))
set_option maxRecDepth 20000 in
theorem gL_law_L_stave : GoodIn wsL_law (va_wsS RL 145 yL_stave wsL_stave) := goodIn_app (goodIn_of _ (by decide +kernel)) ggL_law_L_stave
set_option maxRecDepth 20000 in
theorem ggL_law_X5_stave : GoodIn wsL_law wsX5_stave := goodIn_r _ [536, 100, 66, 67, 537, 538, 539, 5, 540, 60, 65, 541, 542, 543, 544, 509, 138, 139, 140, 141, 545, 546, 547, 548, 57, 174, 175, 176, 177, 146, 147, 148, 149, 58, 59, 734, 735, 736, 737, 738, 739, 740, 741, 742, 743, 744, 745, 746, 747, 748, 749, 750, 751, 752, 753, 754, 755, 756, 757, 758, 759, 760, 761, 762, 763, 764, 765, 766, 767] (by decide +kernel) (by decide +kernel)
set_option maxRecDepth 20000 in
theorem gL_law_X5_stave : GoodIn wsL_law (wsV RL 147 RX5 yX5_stave wsX5_stave) := goodIn_app (goodIn_of _ (by decide +kernel)) ggL_law_X5_stave
set_option maxRecDepth 20000 in
theorem ggL_law_L_formOf : GoodIn wsL_law wsL_formOf := goodIn_ca (goodIn_r _ [551, 106, 552, 553, 554, 2, 555, 556, 528, 529, 530, 531, 116, 117, 18, 790, 791, 792, 793, 794, 795, 796, 797, 723, 724, 725, 726, 727, 728, 729, 730, 731, 732, 733] (by decide +kernel) (by decide +kernel)) (goodIn_sub (fun _ h => List.mem_append_left _ (List.mem_append_right _ h)) (by decide +kernel))
set_option maxRecDepth 20000 in
theorem gL_law_L_formOf : GoodIn wsL_law (va_wsS RL 148 yL_formOf wsL_formOf) := goodIn_app (goodIn_of _ (by decide +kernel)) ggL_law_L_formOf
set_option maxRecDepth 20000 in
theorem ggL_law_X5_formOf : GoodIn wsL_law wsX5_formOf := goodIn_r _ [560, 100, 65, 541, 542, 543, 5, 544, 509, 138, 139, 140, 141, 734, 735, 736, 737, 738, 739, 740, 741, 742, 743, 744, 745, 746, 747, 748, 749, 750, 751, 752, 753, 754, 755, 756, 757, 758, 759, 760, 761, 762, 763, 764, 765, 766, 767] (by decide +kernel) (by decide +kernel)
set_option maxRecDepth 20000 in
theorem gL_law_X5_formOf : GoodIn wsL_law (wsV RL 150 RX5 yX5_formOf wsX5_formOf) := goodIn_app (goodIn_of _ (by decide +kernel)) ggL_law_X5_formOf
