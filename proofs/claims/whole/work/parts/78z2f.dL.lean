set_option maxRecDepth 20000 in
theorem ggL_law_L_bars : GoodIn wsL_law wsL_bars := goodIn_ca (goodIn_r _ [563, 107, 564, 565, 566, 2, 567, 20, 568, 569, 570, 121, 122, 723, 724, 725, 726, 727, 728, 729, 730, 731, 732, 733] (by decide +kernel) (by decide +kernel)) (goodIn_sub (fun _ h => List.mem_append_right _ h) (by decide +kernel))
set_option maxRecDepth 20000 in
theorem gL_law_L_bars : GoodIn wsL_law (va_wsS RL 151 yL_bars wsL_bars) := goodIn_app (goodIn_of _ (by decide +kernel)) ggL_law_L_bars
set_option maxRecDepth 20000 in
theorem ggL_law_X5_bars : GoodIn wsL_law wsX5_bars := goodIn_r _ [574, 100, 72, 575, 576, 5, 577, 138, 139, 140, 141, 734, 735, 736, 737, 738, 739, 740, 741, 742, 743, 744, 745, 746, 747, 748, 749, 750, 751, 752, 753, 754, 755, 756, 757, 758, 759, 760, 761, 762, 763, 764, 765, 766, 767] (by decide +kernel) (by decide +kernel)
set_option maxRecDepth 20000 in
theorem gL_law_X5_bars : GoodIn wsL_law (wsV RL 154 RX5 yX5_bars wsX5_bars) := goodIn_app (goodIn_of _ (by decide +kernel)) ggL_law_X5_bars
set_option maxRecDepth 20000 in
theorem ggL_law_L_may : GoodIn wsL_law wsL_may := goodIn_ca (goodIn_ca (goodIn_r _ [580, 106, 107, 581, 582, 583, 2, 584, 528, 529, 530, 531, 116, 117, 18, 568, 569, 570, 121, 122, 585, 586, 587, 588, 20, 589, 590, 591, 448, 592, 459, 494, 454, 723, 724, 725, 726, 727, 728, 729, 730, 731, 732, 733, 790, 791, 792, 793, 794, 795, 796, 797, 786, 787, 788, 789] (by decide +kernel) (by decide +kernel)) (goodIn_sub (fun _ h => List.mem_append_left _ (List.mem_append_right _ h)) (by decide +kernel))) (goodIn_sub (fun _ h => List.mem_append_right _ h) (by decide +kernel))
set_option maxRecDepth 20000 in
theorem gL_law_L_may : GoodIn wsL_law (va_wsS RL 155 yL_may wsL_may) := goodIn_app (goodIn_of _ (by decide +kernel)) ggL_law_L_may
set_option maxRecDepth 20000 in
theorem ggL_law_X5_may : GoodIn wsL_law wsX5_may := goodIn_r _ [596, 100, 541, 542, 543, 5, 544, 509, 138, 139, 140, 141, 575, 576, 577, 597, 598, 599, 600, 60, 65, 67, 72, 734, 735, 736, 737, 738, 739, 740, 741, 742, 743, 744, 745, 746, 747, 748, 749, 750, 751, 752, 753, 754, 755, 756, 757, 758, 759, 760, 761, 762, 763, 764, 765, 766, 767] (by decide +kernel) (by decide +kernel)
set_option maxRecDepth 20000 in
theorem gL_law_X5_may : GoodIn wsL_law (wsV RL 157 RX5 yX5_may wsX5_may) := goodIn_app (goodIn_of _ (by decide +kernel)) ggL_law_X5_may
set_option maxRecDepth 20000 in
theorem ggL_law_L_tell : GoodIn wsL_law wsL_tell := goodIn_ca (goodIn_ca (goodIn_r _ [603, 106, 107, 604, 605, 606, 2, 607, 242, 608, 528, 529, 530, 531, 116, 117, 18, 568, 569, 570, 121, 122, 585, 586, 587, 588, 20, 589, 590, 591, 448, 592, 459, 494, 454, 609, 610, 611, 612, 613, 614, 615, 616, 617, 455, 456, 457, 723, 724, 725, 726, 727, 728, 729, 730, 731, 732, 733, 790, 791, 792, 793, 794, 795, 796, 797, 786, 787, 788, 789] (by decide +kernel) (by decide +kernel)) (goodIn_sub (fun _ h => List.mem_append_left _ (List.mem_append_right _ h)) (by decide +kernel))) (goodIn_sub (fun _ h => List.mem_append_right _ h) (by decide +kernel))
set_option maxRecDepth 20000 in
theorem gL_law_L_tell : GoodIn wsL_law (va_wsS RL 158 yL_tell wsL_tell) := goodIn_app (goodIn_of _ (by decide +kernel)) ggL_law_L_tell
set_option maxRecDepth 20000 in
theorem ggL_law_X5_tell : GoodIn wsL_law wsX5_tell := goodIn_r _ [621, 100, 247, 68, 69, 70, 71, 60, 65, 67, 541, 542, 543, 5, 544, 509, 138, 139, 140, 141, 597, 598, 599, 600, 72, 734, 735, 736, 737, 738, 739, 740, 741, 742, 743, 744, 745, 746, 747, 748, 749, 750, 751, 752, 753, 754, 755, 756, 757, 758, 759, 760, 761, 762, 763, 764, 765, 766, 767] (by decide +kernel) (by decide +kernel)
set_option maxRecDepth 20000 in
theorem gL_law_X5_tell : GoodIn wsL_law (wsV RL 160 RX5 yX5_tell wsX5_tell) := goodIn_app (goodIn_of _ (by decide +kernel)) ggL_law_X5_tell
