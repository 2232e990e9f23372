theorem in_r {big : List Cond} (ws : List Cond) (ps : List Nat) (hp : ws = ps.filterMap (fun i => big[i]?)) : ∀ w ∈ ws, w ∈ big := by
  intro w hw
  rw [hp] at hw
  obtain ⟨i, -, hi⟩ := List.mem_filterMap.mp hw
  exact List.mem_of_getElem? hi
set_option maxRecDepth 20000 in
theorem wsL_law0_r1_in : ∀ w ∈ wsL_law0_r1, w ∈ lw_tbl := in_r wsL_law0_r1 [51, 52, 38, 697, 698, 41, 1015, 53, 54, 55, 56, 57, 58, 59, 146, 61, 147, 63, 148, 119, 149, 150, 65, 66] (by decide +kernel)
set_option maxRecDepth 20000 in
theorem wsL_law0_r2_in : ∀ w ∈ wsL_law0_r2, w ∈ lw_tbl := in_r wsL_law0_r2 [39, 151, 121, 40, 152, 68, 69, 70, 71, 72, 73, 74, 76, 77, 78, 79, 80, 120, 81, 82, 84, 122, 123, 124] (by decide +kernel)
set_option maxRecDepth 20000 in
theorem wsL_law0_r3_in : ∀ w ∈ wsL_law0_r3, w ∈ lw_tbl := in_r wsL_law0_r3 [125, 128, 131, 126, 134, 699, 700, 701, 702, 708, 709, 710, 711, 712, 713, 714, 715, 716, 717, 718, 719, 720, 721, 722] (by decide +kernel)
set_option maxRecDepth 20000 in
theorem wsL_law0_r4_in : ∀ w ∈ wsL_law0_r4, w ∈ lw_tbl := in_r wsL_law0_r4 [723, 724, 725, 726, 727, 733, 734, 735, 736, 180, 181, 182, 183, 153, 184, 42, 185, 186, 187, 188, 189, 191, 192, 193] (by decide +kernel)
set_option maxRecDepth 20000 in
theorem wsL_law0_r5_in : ∀ w ∈ wsL_law0_r5, w ∈ lw_tbl := in_r wsL_law0_r5 [810, 811, 812, 813, 703, 704, 209, 210, 37, 211, 212, 213, 214, 215, 216, 217, 218, 220, 0, 221, 222, 46, 289, 290] (by decide +kernel)
set_option maxRecDepth 20000 in
theorem wsL_law0_r6_in : ∀ w ∈ wsL_law0_r6, w ∈ lw_tbl := in_r wsL_law0_r6 [291, 292, 47, 190, 308, 309, 310, 311, 313, 314, 814, 815, 816, 817, 818, 820, 16, 821, 822, 824, 17, 825, 826, 828] (by decide +kernel)
set_option maxRecDepth 20000 in
theorem wsL_law0_r7_in : ∀ w ∈ wsL_law0_r7, w ∈ lw_tbl := in_r wsL_law0_r7 [18, 829, 830, 832, 19, 833, 806, 807, 808, 809, 315, 316, 317, 318, 319, 320, 321, 322, 323, 324, 195, 326, 327, 328] (by decide +kernel)
set_option maxRecDepth 20000 in
theorem wsL_law0_r8_in : ∀ w ∈ wsL_law0_r8, w ∈ lw_tbl := in_r wsL_law0_r8 [329, 330, 834, 835, 836, 837, 838, 840, 20, 841, 331, 332, 333, 334, 335, 336, 337, 338, 339, 340, 341, 342, 344, 2] (by decide +kernel)
