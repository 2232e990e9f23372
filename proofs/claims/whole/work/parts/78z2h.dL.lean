set_option maxRecDepth 20000 in
theorem ggL_law_L_renew : GoodIn wsL_law wsL_renew := goodIn_ca (goodIn_r _ [672, 106, 673, 674, 675, 2, 676, 525, 253, 16, 526, 527, 528, 529, 530, 531, 116, 117, 18, 161, 162, 163, 164, 532, 500, 501, 87, 502, 92, 503, 166, 167, 168, 95, 169, 125, 126, 127, 93, 94, 128, 129, 319, 320, 321, 322, 242, 323, 677, 678, 679, 27, 680, 52, 50, 49, 681, 478, 479, 480, 481, 284, 285, 286, 790, 791, 792, 793, 794, 795, 796, 797, 723, 724, 725, 726, 727, 728, 729, 730, 731, 732, 733, 786, 787, 788, 789, 782, 783, 784, 785] (by decide +kernel) (by decide +kernel)) (goodIn_sub (fun _ h => List.mem_append_left _ (List.mem_append_right _ h)) (by decide +kernel))
set_option maxRecDepth 20000 in
theorem gL_law_L_renew : GoodIn wsL_law (va_wsS RL 171 yL_renew wsL_renew) := goodIn_app (goodIn_of _ (by decide +kernel)) ggL_law_L_renew
set_option maxRecDepth 20000 in
theorem ggL_law_X5_renew : GoodIn wsL_law wsX5_renew := goodIn_r _ [685, 100, 258, 62, 64, 63, 66, 67, 537, 538, 539, 5, 540, 60, 65, 541, 542, 543, 544, 509, 138, 139, 140, 141, 545, 546, 547, 548, 57, 174, 175, 176, 177, 146, 147, 148, 149, 58, 59, 328, 329, 330, 331, 247, 61, 259, 260, 261, 510, 511, 512, 513, 514, 515, 516, 517, 734, 735, 736, 737, 738, 739, 740, 741, 742, 743, 744, 745, 746, 747, 748, 749, 750, 751, 752, 753, 754, 755, 756, 757, 758, 759, 760, 761, 762, 763, 764, 765, 766, 767] (by decide +kernel) (by decide +kernel)
set_option maxRecDepth 20000 in
theorem gL_law_X5_renew : GoodIn wsL_law (wsV RL 173 RX5 yX5_renew wsX5_renew) := goodIn_app (goodIn_of _ (by decide +kernel)) ggL_law_X5_renew
set_option maxRecDepth 20000 in
theorem ggL_law_L_weight : GoodIn wsL_law wsL_weight := goodIn_ca (goodIn_r _ [688, 107, 689, 690, 691, 2, 692, 121, 122, 21, 568, 569, 570, 723, 724, 725, 726, 727, 728, 729, 730, 731, 732, 733] (by decide +kernel) (by decide +kernel)) (goodIn_sub (fun _ h => List.mem_append_right _ h) (by decide +kernel))
set_option maxRecDepth 20000 in
theorem gL_law_L_weight : GoodIn wsL_law (va_wsS RL 174 yL_weight wsL_weight) := goodIn_app (goodIn_of _ (by decide +kernel)) ggL_law_L_weight
set_option maxRecDepth 20000 in
theorem ggL_law_X5_weight : GoodIn wsL_law wsX5_weight := goodIn_r _ [696, 100, 73, 575, 576, 5, 577, 138, 139, 140, 141, 734, 735, 736, 737, 738, 739, 740, 741, 742, 743, 744, 745, 746, 747, 748, 749, 750, 751, 752, 753, 754, 755, 756, 757, 758, 759, 760, 761, 762, 763, 764, 765, 766, 767] (by decide +kernel) (by decide +kernel)
set_option maxRecDepth 20000 in
theorem gL_law_X5_weight : GoodIn wsL_law (wsV RL 176 RX5 yX5_weight wsX5_weight) := goodIn_app (goodIn_of _ (by decide +kernel)) ggL_law_X5_weight
set_option maxRecDepth 20000 in
theorem ggL_law_L_weighs : GoodIn wsL_law wsL_weighs := goodIn_ca (goodIn_ca (goodIn_r _ [699, 106, 107, 700, 701, 702, 2, 703, 525, 242, 704, 21, 705, 528, 529, 530, 531, 116, 117, 18, 118, 119, 120, 121, 122, 123, 629, 630, 631, 448, 632, 617, 456, 455, 457, 185, 186, 187, 87, 188, 189, 190, 191, 192, 169, 125, 126, 127, 92, 93, 94, 128, 129, 193, 194, 195, 196, 197, 790, 791, 792, 793, 794, 795, 796, 797, 723, 724, 725, 726, 727, 728, 729, 730, 731, 732, 733, 786, 787, 788, 789] (by decide +kernel) (by decide +kernel)) (goodIn_sub (fun _ h => List.mem_append_left _ (List.mem_append_right _ h)) (by decide +kernel))) (goodIn_sub (fun _ h => List.mem_append_right _ h) (by decide +kernel))
set_option maxRecDepth 20000 in
theorem gL_law_L_weighs : GoodIn wsL_law (va_wsS RL 177 yL_weighs wsL_weighs) := goodIn_app (goodIn_of _ (by decide +kernel)) ggL_law_L_weighs
set_option maxRecDepth 20000 in
theorem ggL_law_X5_weighs : GoodIn wsL_law wsX5_weighs := goodIn_r _ [709, 100, 65, 247, 710, 73, 711, 541, 542, 543, 5, 544, 509, 138, 139, 140, 141, 142, 143, 144, 145, 57, 637, 638, 639, 640, 68, 71, 69, 70, 202, 203, 204, 205, 206, 207, 146, 147, 148, 149, 58, 59, 734, 735, 736, 737, 738, 739, 740, 741, 742, 743, 744, 745, 746, 747, 748, 749, 750, 751, 752, 753, 754, 755, 756, 757, 758, 759, 760, 761, 762, 763, 764, 765, 766, 767] (by decide +kernel) (by decide +kernel)
set_option maxRecDepth 20000 in
theorem gL_law_X5_weighs : GoodIn wsL_law (wsV RL 179 RX5 yX5_weighs wsX5_weighs) := goodIn_app (goodIn_of _ (by decide +kernel)) ggL_law_X5_weighs
