set_option maxRecDepth 20000 in
theorem wsL_law0_r9_in : ∀ w ∈ wsL_law0_r9, w ∈ lw_tbl := in_r wsL_law0_r9 [345, 346, 347, 348, 349, 350, 842, 843, 844, 845, 846, 848, 21, 849, 850, 851, 351, 352, 353, 354, 355, 356, 357, 359] (by decide +kernel)
set_option maxRecDepth 20000 in
theorem wsL_law0_r10_in : ∀ w ∈ wsL_law0_r10, w ∈ lw_tbl := in_r wsL_law0_r10 [360, 361, 362, 852, 853, 854, 855, 363, 364, 365, 366, 367, 368, 369, 856, 857, 858, 859, 370, 371, 372, 373, 374, 375] (by decide +kernel)
set_option maxRecDepth 20000 in
theorem wsL_law0_r11_in : ∀ w ∈ wsL_law0_r11, w ∈ lw_tbl := in_r wsL_law0_r11 [376, 377, 156, 860, 861, 862, 863, 707, 864, 205, 206, 207, 208, 154, 865, 866, 867, 868, 705, 869, 870, 871, 379, 380] (by decide +kernel)
set_option maxRecDepth 20000 in
theorem wsL_law0_r12_in : ∀ w ∈ wsL_law0_r12, w ∈ lw_tbl := in_r wsL_law0_r12 [381, 382, 383, 384, 385, 136, 130, 133, 391, 392, 48, 393, 398, 399, 400, 386, 388, 3, 389, 394, 395, 396, 397, 401] (by decide +kernel)
set_option maxRecDepth 20000 in
theorem wsL_law0_r13_in : ∀ w ∈ wsL_law0_r13, w ∈ lw_tbl := in_r wsL_law0_r13 [402, 403, 404, 872, 873, 874, 875, 880, 881, 876, 878, 22, 879, 405, 406, 407, 408, 409, 410, 411, 882, 883, 884, 885] (by decide +kernel)
set_option maxRecDepth 20000 in
theorem wsL_law0_r14_in : ∀ w ∈ wsL_law0_r14, w ∈ lw_tbl := in_r wsL_law0_r14 [413, 414, 415, 416, 417, 418, 419, 420, 422, 4, 423, 127, 886, 887, 888, 889, 890, 892, 23, 893, 424, 425, 426, 427] (by decide +kernel)
set_option maxRecDepth 20000 in
theorem wsL_law0_r15_in : ∀ w ∈ wsL_law0_r15, w ∈ lw_tbl := in_r wsL_law0_r15 [428, 429, 430, 431, 433, 5, 434, 435, 436, 437, 438, 439, 440, 441, 442, 86, 87, 89, 443, 444, 445, 446, 135, 132] (by decide +kernel)
set_option maxRecDepth 20000 in
theorem wsL_law0_r16_in : ∀ w ∈ wsL_law0_r16, w ∈ lw_tbl := in_r wsL_law0_r16 [129, 447, 449, 6, 450, 452, 454, 7, 455, 456, 457, 458, 459, 460, 461, 462, 463, 464, 465, 466, 467, 468, 469, 471] (by decide +kernel)
