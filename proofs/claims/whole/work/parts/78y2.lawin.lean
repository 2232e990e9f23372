set_option maxRecDepth 20000 in
theorem wsL_law0_r17_in : ∀ w ∈ wsL_law0_r17, w ∈ lw_tbl := in_r wsL_law0_r17 [8, 472, 473, 475, 9, 476, 477, 478, 479, 49, 480, 481, 482, 483, 484, 894, 895, 896, 897, 898, 900, 24, 901, 731] (by decide +kernel)
set_option maxRecDepth 20000 in
theorem wsL_law0_r18_in : ∀ w ∈ wsL_law0_r18, w ∈ lw_tbl := in_r wsL_law0_r18 [732, 902, 904, 25, 905, 906, 730, 729, 907, 908, 909, 910, 911, 912, 913, 915, 26, 916, 728, 917, 919, 27, 920, 921] (by decide +kernel)
set_option maxRecDepth 20000 in
theorem wsL_law0_r19_in : ∀ w ∈ wsL_law0_r19, w ∈ lw_tbl := in_r wsL_law0_r19 [923, 28, 924, 925, 927, 29, 928, 485, 486, 487, 488, 489, 490, 491, 155, 492, 50, 493, 494, 495, 496, 501, 503, 505] (by decide +kernel)
set_option maxRecDepth 20000 in
theorem wsL_law0_r20_in : ∀ w ∈ wsL_law0_r20, w ∈ lw_tbl := in_r wsL_law0_r20 [506, 507, 497, 499, 527, 528, 529, 530, 531, 533, 10, 534, 535, 536, 538, 11, 539, 540, 542, 12, 543, 544, 545, 546] (by decide +kernel)
set_option maxRecDepth 20000 in
theorem wsL_law0_r21_in : ∀ w ∈ wsL_law0_r21, w ∈ lw_tbl := in_r wsL_law0_r21 [547, 548, 549, 551, 13, 552, 88, 83, 75, 85, 553, 554, 555, 556, 194, 557, 558, 559, 560, 561, 562, 563, 564, 565] (by decide +kernel)
set_option maxRecDepth 20000 in
theorem wsL_law0_r22_in : ∀ w ∈ wsL_law0_r22, w ∈ lw_tbl := in_r wsL_law0_r22 [566, 929, 930, 931, 932, 706, 933, 935, 30, 936, 937, 939, 31, 940, 567, 568, 569, 570, 571, 572, 573, 500, 502, 504] (by decide +kernel)
set_option maxRecDepth 20000 in
theorem wsL_law0_r23_in : ∀ w ∈ wsL_law0_r23, w ∈ lw_tbl := in_r wsL_law0_r23 [574, 576, 14, 577, 580, 941, 942, 943, 944, 945, 947, 32, 948, 949, 951, 33, 952, 953, 955, 34, 956, 581, 582, 583] (by decide +kernel)
set_option maxRecDepth 20000 in
theorem wsL_law0_r24_in : ∀ w ∈ wsL_law0_r24, w ∈ lw_tbl := in_r wsL_law0_r24 [584, 585, 586, 587, 498, 957, 958, 959, 960, 588, 589, 590, 591, 592, 593, 594, 595, 596, 597, 961, 962, 963, 964, 965] (by decide +kernel)
