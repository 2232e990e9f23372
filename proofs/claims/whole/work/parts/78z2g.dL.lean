set_option maxRecDepth 20000 in
theorem ggL_law_L_held : GoodIn wsL_law wsL_held := goodIn_ca (goodIn_r _ [624, 106, 625, 626, 627, 2, 628, 528, 529, 530, 531, 116, 117, 18, 629, 630, 631, 448, 632, 617, 456, 455, 457, 723, 724, 725, 726, 727, 728, 729, 730, 731, 732, 733, 790, 791, 792, 793, 794, 795, 796, 797] (by decide +kernel) (by decide +kernel)) (goodIn_sub (fun _ h => List.mem_append_left _ (List.mem_append_right _ h)) (by decide +kernel))
set_option maxRecDepth 20000 in
theorem gL_law_L_held : GoodIn wsL_law (va_wsS RL 161 yL_held wsL_held) := goodIn_app (goodIn_of _ (by decide +kernel)) ggL_law_L_held
set_option maxRecDepth 20000 in
theorem ggL_law_X5_held : GoodIn wsL_law wsX5_held := goodIn_r _ [636, 100, 541, 542, 543, 5, 544, 509, 637, 638, 639, 640, 68, 71, 69, 70, 138, 139, 140, 141, 734, 735, 736, 737, 738, 739, 740, 741, 742, 743, 744, 745, 746, 747, 748, 749, 750, 751, 752, 753, 754, 755, 756, 757, 758, 759, 760, 761, 762, 763, 764, 765, 766, 767] (by decide +kernel) (by decide +kernel)
set_option maxRecDepth 20000 in
theorem gL_law_X5_held : GoodIn wsL_law (wsV RL 163 RX5 yX5_held wsX5_held) := goodIn_app (goodIn_of _ (by decide +kernel)) ggL_law_X5_held
set_option maxRecDepth 20000 in
theorem ggL_law_L_lacks : GoodIn wsL_law wsL_lacks := goodIn_ca (goodIn_ca (goodIn_r _ [643, 106, 107, 644, 645, 646, 2, 647, 121, 122, 241, 272, 273, 274, 275, 242, 528, 529, 530, 531, 116, 117, 18, 648, 649, 650, 448, 651, 652, 617, 455, 653, 629, 630, 631, 632, 456, 457, 723, 724, 725, 726, 727, 728, 729, 730, 731, 732, 733, 790, 791, 792, 793, 794, 795, 796, 797] (by decide +kernel) (by decide +kernel)) (goodIn_sub (fun _ h => List.mem_append_right _ h) (by decide +kernel))) (goodIn_sub (fun _ h => List.mem_append_left _ (List.mem_append_right _ h)) (by decide +kernel))
set_option maxRecDepth 20000 in
theorem gL_law_L_lacks : GoodIn wsL_law (va_wsS RL 164 yL_lacks wsL_lacks) := goodIn_app (goodIn_of _ (by decide +kernel)) ggL_law_L_lacks
set_option maxRecDepth 20000 in
theorem ggL_law_X5_lacks : GoodIn wsL_law wsX5_lacks := goodIn_r _ [657, 100, 658, 247, 541, 542, 543, 5, 544, 509, 138, 139, 140, 141, 637, 638, 639, 640, 68, 71, 69, 70, 734, 735, 736, 737, 738, 739, 740, 741, 742, 743, 744, 745, 746, 747, 748, 749, 750, 751, 752, 753, 754, 755, 756, 757, 758, 759, 760, 761, 762, 763, 764, 765, 766, 767] (by decide +kernel) (by decide +kernel)
set_option maxRecDepth 20000 in
theorem gL_law_X5_lacks : GoodIn wsL_law (wsV RL 167 RX5 yX5_lacks wsX5_lacks) := goodIn_app (goodIn_of _ (by decide +kernel)) ggL_law_X5_lacks
set_option maxRecDepth 20000 in
theorem ggL_law_L_swap : GoodIn wsL_law wsL_swap := goodIn_ca (goodIn_r _ [661, 106, 662, 663, 664, 2, 665, 525, 526, 527, 528, 529, 530, 531, 116, 117, 18, 161, 162, 163, 164, 532, 500, 501, 87, 502, 92, 503, 166, 167, 168, 95, 169, 125, 126, 127, 93, 94, 128, 129, 790, 791, 792, 793, 794, 795, 796, 797, 723, 724, 725, 726, 727, 728, 729, 730, 731, 732, 733, 786, 787, 788, 789] (by decide +kernel) (by decide +kernel)) (goodIn_sub (fun _ h => List.mem_append_left _ (List.mem_append_right _ h)) (by decide +kernel))
set_option maxRecDepth 20000 in
theorem gL_law_L_swap : GoodIn wsL_law (va_wsS RL 168 yL_swap wsL_swap) := goodIn_app (goodIn_of _ (by decide +kernel)) ggL_law_L_swap
set_option maxRecDepth 20000 in
theorem ggL_law_X5_swap : GoodIn wsL_law wsX5_swap := goodIn_r _ [669, 100, 66, 67, 537, 538, 539, 5, 540, 60, 65, 541, 542, 543, 544, 509, 138, 139, 140, 141, 545, 546, 547, 548, 57, 174, 175, 176, 177, 146, 147, 148, 149, 58, 59, 734, 735, 736, 737, 738, 739, 740, 741, 742, 743, 744, 745, 746, 747, 748, 749, 750, 751, 752, 753, 754, 755, 756, 757, 758, 759, 760, 761, 762, 763, 764, 765, 766, 767] (by decide +kernel) (by decide +kernel)
set_option maxRecDepth 20000 in
theorem gL_law_X5_swap : GoodIn wsL_law (wsV RL 170 RX5 yX5_swap wsX5_swap) := goodIn_app (goodIn_of _ (by decide +kernel)) ggL_law_X5_swap
