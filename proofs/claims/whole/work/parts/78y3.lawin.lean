set_option maxRecDepth 20000 in
theorem wsL_law0_r25_in : ∀ w ∈ wsL_law0_r25, w ∈ lw_tbl := in_r wsL_law0_r25 [966, 967, 599, 600, 601, 602, 603, 604, 605, 606, 608, 15, 609, 610, 611, 612, 613, 968, 969, 970, 971, 972, 974, 35] (by decide +kernel)
set_option maxRecDepth 20000 in
theorem wsL_law0_r26_in : ∀ w ∈ wsL_law0_r26, w ∈ lw_tbl := in_r wsL_law0_r26 [975, 614, 615, 616, 617, 618, 619, 620, 509, 621, 622, 623, 624, 625, 626, 627, 628, 508, 976, 977, 978, 979, 629, 630] (by decide +kernel)
set_option maxRecDepth 20000 in
theorem wsL_law0_r27_in : ∀ w ∈ wsL_law0_r27, w ∈ lw_tbl := in_r wsL_law0_r27 [631, 632, 633, 634, 635, 636, 637, 638, 639, 980, 981, 982, 983, 984, 986, 36, 987, 640, 641, 642, 643, 644, 645, 646] (by decide +kernel)
set_option maxRecDepth 20000 in
theorem wsL_law0_r28_in : ∀ w ∈ wsL_law0_r28, w ∈ lw_tbl := in_r wsL_law0_r28 [648, 649, 650, 651, 652, 653, 988, 989, 990, 991, 992, 654, 655, 656, 657, 658, 659, 660, 993, 994, 995, 996, 661, 662] (by decide +kernel)
set_option maxRecDepth 20000 in
theorem wsL_law0_r29_in : ∀ w ∈ wsL_law0_r29, w ∈ lw_tbl := in_r wsL_law0_r29 [663, 664, 665, 666, 667, 668, 669, 670, 671, 672, 997, 998, 999, 1000, 673, 674, 675, 676, 677, 678, 679, 1001, 1002, 1003] (by decide +kernel)
set_option maxRecDepth 20000 in
theorem wsL_law0_r30_in : ∀ w ∈ wsL_law0_r30, w ∈ lw_tbl := in_r wsL_law0_r30 [1004, 681, 682, 683, 684, 685, 686, 687, 688, 689, 1005, 1006, 1007, 1008, 1009, 1010, 690, 691, 692, 693, 694, 695, 696, 1011] (by decide +kernel)
set_option maxRecDepth 20000 in
theorem wsL_law0_r31_in : ∀ w ∈ wsL_law0_r31, w ∈ lw_tbl := in_r wsL_law0_r31 [1012, 1013, 1014] (by decide +kernel)
set_option maxRecDepth 20000 in
theorem wsX40_in : ∀ w ∈ wsX40, w ∈ lw_tbl := in_r wsX40 [157, 159, 161, 163, 165, 167, 169, 171, 173, 175, 177] (by decide +kernel)
set_option maxRecDepth 20000 in
theorem wsX50_in : ∀ w ∈ wsX50, w ∈ lw_tbl := in_r wsX50 [737, 739, 741, 743, 745, 747, 749, 751, 753, 755, 757, 759, 761, 763, 765, 767, 769, 771, 773, 775, 777, 779, 781, 783, 785, 787, 789, 791, 793, 795, 797, 799, 801, 803] (by decide +kernel)
set_option maxRecDepth 20000 in
theorem wsX30_in : ∀ w ∈ wsX30, w ∈ lw_tbl := in_r wsX30 [90, 92, 94, 96, 98, 100, 102, 104, 106, 108, 110, 112, 114, 116] (by decide +kernel)
set_option maxRecDepth 20000 in
theorem wsX00_in : ∀ w ∈ wsX00, w ∈ lw_tbl := in_r wsX00 [137, 139, 141, 143] (by decide +kernel)
set_option maxRecDepth 20000 in
theorem wsX20_in : ∀ w ∈ wsX20, w ∈ lw_tbl := in_r wsX20 [196, 198, 200, 202] (by decide +kernel)
set_option maxRecDepth 20000 in
theorem wsX10_in : ∀ w ∈ wsX10, w ∈ lw_tbl := in_r wsX10 [510, 512, 514, 516, 518, 520, 522, 524] (by decide +kernel)
