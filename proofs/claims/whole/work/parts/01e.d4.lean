set_option maxRecDepth 20000 in
theorem ggX4_init_X3_init : GoodIn wsX4_init wsX3_init := goodIn_r _ [21, 22, 2, 3, 23, 24, 10, 25, 26, 27, 28, 29, 30, 31, 32, 33, 34, 35, 55, 56, 57, 58, 59, 60, 61, 62, 63, 64, 65, 66, 67, 68] (by decide +kernel) (by decide +kernel)
set_option maxRecDepth 20000 in
theorem gX4_init_X3_init_n36 : GoodIn wsX4_init (wsX3_init) := ggX4_init_X3_init
set_option maxRecDepth 20000 in
theorem ggX4_init_X0_init : GoodIn wsX4_init wsX0_init := goodIn_r _ [38, 39, 2, 3, 10, 40, 41, 42, 43, 69, 70, 71, 72] (by decide +kernel) (by decide +kernel)
set_option maxRecDepth 20000 in
theorem gX4_init_X0_init : GoodIn wsX4_init (wsX0_init) := ggX4_init_X0_init
theorem dX4_init_0 : decode cX4_init 0 = .ok (.aload_n 0, 1) := by decide +kernel
theorem dX4_init_1 : decode cX4_init 1 = .ok (.invokespecial 1, 3) := by decide +kernel
theorem dX4_init_4 : decode cX4_init 4 = .ok (.aload_n 0, 1) := by decide +kernel
theorem dX4_init_5 : decode cX4_init 5 = .ok (.bipush 8, 2) := by decide +kernel
theorem dX4_init_7 : decode cX4_init 7 = .ok (.anewarray 9, 3) := by decide +kernel
theorem dX4_init_10 : decode cX4_init 10 = .ok (.putfield 11, 3) := by decide +kernel
theorem dX4_init_13 : decode cX4_init 13 = .ok (.aload_n 0, 1) := by decide +kernel
theorem dX4_init_14 : decode cX4_init 14 = .ok (.bipush 40, 2) := by decide +kernel
theorem dX4_init_16 : decode cX4_init 16 = .ok (.anewarray 15, 3) := by decide +kernel
theorem dX4_init_19 : decode cX4_init 19 = .ok (.putfield 17, 3) := by decide +kernel
theorem dX4_init_22 : decode cX4_init 22 = .ok (.aload_n 0, 1) := by decide +kernel
theorem dX4_init_23 : decode cX4_init 23 = .ok (.bipush 30, 2) := by decide +kernel
theorem dX4_init_25 : decode cX4_init 25 = .ok (.anewarray 21, 3) := by decide +kernel
theorem dX4_init_28 : decode cX4_init 28 = .ok (.putfield 23, 3) := by decide +kernel
theorem dX4_init_31 : decode cX4_init 31 = .ok (.aload_n 0, 1) := by decide +kernel
theorem dX4_init_32 : decode cX4_init 32 = .ok (.bipush 16, 2) := by decide +kernel
theorem dX4_init_34 : decode cX4_init 34 = .ok (.newarray .int, 2) := by decide +kernel
theorem dX4_init_36 : decode cX4_init 36 = .ok (.putfield 27, 3) := by decide +kernel
theorem dX4_init_39 : decode cX4_init 39 = .ok (.aload_n 0, 1) := by decide +kernel
theorem dX4_init_40 : decode cX4_init 40 = .ok (.bipush 16, 2) := by decide +kernel
theorem dX4_init_42 : decode cX4_init 42 = .ok (.newarray .int, 2) := by decide +kernel
theorem dX4_init_44 : decode cX4_init 44 = .ok (.putfield 31, 3) := by decide +kernel
theorem dX4_init_47 : decode cX4_init 47 = .ok (.aload_n 0, 1) := by decide +kernel
theorem dX4_init_48 : decode cX4_init 48 = .ok (.new 34, 3) := by decide +kernel
theorem dX4_init_51 : decode cX4_init 51 = .ok (.dup, 1) := by decide +kernel
theorem dX4_init_52 : decode cX4_init 52 = .ok (.invokespecial 36, 3) := by decide +kernel
theorem dX4_init_55 : decode cX4_init 55 = .ok (.putfield 37, 3) := by decide +kernel
theorem dX4_init_58 : decode cX4_init 58 = .ok (.aload_n 0, 1) := by decide +kernel
theorem dX4_init_59 : decode cX4_init 59 = .ok (.new 15, 3) := by decide +kernel
theorem dX4_init_62 : decode cX4_init 62 = .ok (.dup, 1) := by decide +kernel
theorem dX4_init_63 : decode cX4_init 63 = .ok (.iconst 0, 1) := by decide +kernel
theorem dX4_init_64 : decode cX4_init 64 = .ok (.iconst 0, 1) := by decide +kernel
theorem dX4_init_65 : decode cX4_init 65 = .ok (.invokespecial 41, 3) := by decide +kernel
theorem dX4_init_68 : decode cX4_init 68 = .ok (.putfield 44, 3) := by decide +kernel
theorem dX4_init_71 : decode cX4_init 71 = .ok (.iconst 0, 1) := by decide +kernel
theorem dX4_init_72 : decode cX4_init 72 = .ok (.istore_n 1, 1) := by decide +kernel
theorem dX4_init_73 : decode cX4_init 73 = .ok (.iload_n 1, 1) := by decide +kernel
theorem dX4_init_74 : decode cX4_init 74 = .ok (.bipush 16, 2) := by decide +kernel
theorem dX4_init_76 : decode cX4_init 76 = .ok (.if_icmp .ge 18, 3) := by decide +kernel
theorem dX4_init_79 : decode cX4_init 79 = .ok (.aload_n 0, 1) := by decide +kernel
theorem dX4_init_80 : decode cX4_init 80 = .ok (.getfield 31, 3) := by decide +kernel
theorem dX4_init_83 : decode cX4_init 83 = .ok (.iload_n 1, 1) := by decide +kernel
theorem dX4_init_84 : decode cX4_init 84 = .ok (.sipush 1000, 3) := by decide +kernel
theorem dX4_init_87 : decode cX4_init 87 = .ok (.iastore, 1) := by decide +kernel
theorem dX4_init_88 : decode cX4_init 88 = .ok (.iinc 1 1, 3) := by decide +kernel
theorem dX4_init_91 : decode cX4_init 91 = .ok (.goto (-18), 3) := by decide +kernel
theorem dX4_init_94 : decode cX4_init 94 = .ok (.return_, 1) := by decide +kernel
set_option maxRecDepth 20000 in
theorem ggX4_form_X2_init : GoodIn wsX4_form wsX2_init := goodIn_r _ [8, 9, 10, 11, 12, 13, 14, 15, 27, 28, 29, 30] (by decide +kernel) (by decide +kernel)
set_option maxRecDepth 20000 in
theorem gX4_form_X2_init : GoodIn wsX4_form (wsX2_init) := ggX4_form_X2_init
theorem dX4_form_0 : decode cX4_form 0 = .ok (.iload_n 1, 1) := by decide +kernel
theorem dX4_form_1 : decode cX4_form 1 = .ok (.bipush 10, 2) := by decide +kernel
theorem dX4_form_3 : decode cX4_form 3 = .ok (.if_icmp .lt 20, 3) := by decide +kernel
theorem dX4_form_6 : decode cX4_form 6 = .ok (.iload_n 1, 1) := by decide +kernel
theorem dX4_form_7 : decode cX4_form 7 = .ok (.sipush 200, 3) := by decide +kernel
theorem dX4_form_10 : decode cX4_form 10 = .ok (.if_icmp .gt 13, 3) := by decide +kernel
theorem dX4_form_13 : decode cX4_form 13 = .ok (.iload_n 1, 1) := by decide +kernel
theorem dX4_form_14 : decode cX4_form 14 = .ok (.iconst 2, 1) := by decide +kernel
theorem dX4_form_15 : decode cX4_form 15 = .ok (.irem, 1) := by decide +kernel
theorem dX4_form_16 : decode cX4_form 16 = .ok (.ifCond .ne 7, 3) := by decide +kernel
theorem dX4_form_19 : decode cX4_form 19 = .ok (.iconst 1, 1) := by decide +kernel
theorem dX4_form_20 : decode cX4_form 20 = .ok (.goto 4, 3) := by decide +kernel
theorem dX4_form_23 : decode cX4_form 23 = .ok (.iconst 0, 1) := by decide +kernel
theorem dX4_form_24 : decode cX4_form 24 = .ok (.istore 5, 2) := by decide +kernel
theorem dX4_form_26 : decode cX4_form 26 = .ok (.iload_n 2, 1) := by decide +kernel
theorem dX4_form_27 : decode cX4_form 27 = .ok (.bipush 100, 2) := by decide +kernel
theorem dX4_form_29 : decode cX4_form 29 = .ok (.if_icmp .lt 25, 3) := by decide +kernel
theorem dX4_form_32 : decode cX4_form 32 = .ok (.iload_n 2, 1) := by decide +kernel
theorem dX4_form_33 : decode cX4_form 33 = .ok (.sipush 2000, 3) := by decide +kernel
theorem dX4_form_36 : decode cX4_form 36 = .ok (.if_icmp .gt 18, 3) := by decide +kernel
theorem dX4_form_39 : decode cX4_form 39 = .ok (.iload_n 3, 1) := by decide +kernel
theorem dX4_form_40 : decode cX4_form 40 = .ok (.bipush 50, 2) := by decide +kernel
theorem dX4_form_42 : decode cX4_form 42 = .ok (.if_icmp .lt 12, 3) := by decide +kernel
theorem dX4_form_45 : decode cX4_form 45 = .ok (.iload_n 3, 1) := by decide +kernel
theorem dX4_form_46 : decode cX4_form 46 = .ok (.iload_n 2, 1) := by decide +kernel
theorem dX4_form_47 : decode cX4_form 47 = .ok (.if_icmp .gt 7, 3) := by decide +kernel
theorem dX4_form_50 : decode cX4_form 50 = .ok (.iconst 1, 1) := by decide +kernel
theorem dX4_form_51 : decode cX4_form 51 = .ok (.goto 4, 3) := by decide +kernel
theorem dX4_form_54 : decode cX4_form 54 = .ok (.iconst 0, 1) := by decide +kernel
theorem dX4_form_55 : decode cX4_form 55 = .ok (.istore 6, 2) := by decide +kernel
theorem dX4_form_57 : decode cX4_form 57 = .ok (.aload_n 0, 1) := by decide +kernel
theorem dX4_form_58 : decode cX4_form 58 = .ok (.getfield 48, 3) := by decide +kernel
theorem dX4_form_61 : decode cX4_form 61 = .ok (.bipush 8, 2) := by decide +kernel
theorem dX4_form_63 : decode cX4_form 63 = .ok (.if_icmp .ge 27, 3) := by decide +kernel
theorem dX4_form_66 : decode cX4_form 66 = .ok (.iload 5, 2) := by decide +kernel
theorem dX4_form_68 : decode cX4_form 68 = .ok (.ifCond .eq 22, 3) := by decide +kernel
theorem dX4_form_71 : decode cX4_form 71 = .ok (.iload 6, 2) := by decide +kernel
theorem dX4_form_73 : decode cX4_form 73 = .ok (.ifCond .eq 17, 3) := by decide +kernel
theorem dX4_form_76 : decode cX4_form 76 = .ok (.iload 4, 2) := by decide +kernel
theorem dX4_form_78 : decode cX4_form 78 = .ok (.bipush 8, 2) := by decide +kernel
theorem dX4_form_80 : decode cX4_form 80 = .ok (.if_icmp .lt 10, 3) := by decide +kernel
theorem dX4_form_83 : decode cX4_form 83 = .ok (.iload 4, 2) := by decide +kernel
theorem dX4_form_85 : decode cX4_form 85 = .ok (.bipush 40, 2) := by decide +kernel
theorem dX4_form_87 : decode cX4_form 87 = .ok (.if_icmp .le 5, 3) := by decide +kernel
theorem dX4_form_90 : decode cX4_form 90 = .ok (.iconst (-1), 1) := by decide +kernel
theorem dX4_form_91 : decode cX4_form 91 = .ok (.ireturn, 1) := by decide +kernel
theorem dX4_form_92 : decode cX4_form 92 = .ok (.aload_n 0, 1) := by decide +kernel
theorem dX4_form_93 : decode cX4_form 93 = .ok (.getfield 11, 3) := by decide +kernel
theorem dX4_form_96 : decode cX4_form 96 = .ok (.aload_n 0, 1) := by decide +kernel
theorem dX4_form_97 : decode cX4_form 97 = .ok (.getfield 48, 3) := by decide +kernel
theorem dX4_form_100 : decode cX4_form 100 = .ok (.new 9, 3) := by decide +kernel
theorem dX4_form_103 : decode cX4_form 103 = .ok (.dup, 1) := by decide +kernel
theorem dX4_form_104 : decode cX4_form 104 = .ok (.iload_n 1, 1) := by decide +kernel
theorem dX4_form_105 : decode cX4_form 105 = .ok (.iload_n 2, 1) := by decide +kernel
theorem dX4_form_106 : decode cX4_form 106 = .ok (.iload_n 3, 1) := by decide +kernel
theorem dX4_form_107 : decode cX4_form 107 = .ok (.iload 4, 2) := by decide +kernel
theorem dX4_form_109 : decode cX4_form 109 = .ok (.invokespecial 52, 3) := by decide +kernel
theorem dX4_form_112 : decode cX4_form 112 = .ok (.aastore, 1) := by decide +kernel
theorem dX4_form_113 : decode cX4_form 113 = .ok (.aload_n 0, 1) := by decide +kernel
theorem dX4_form_114 : decode cX4_form 114 = .ok (.dup, 1) := by decide +kernel
theorem dX4_form_115 : decode cX4_form 115 = .ok (.getfield 48, 3) := by decide +kernel
theorem dX4_form_118 : decode cX4_form 118 = .ok (.iconst 1, 1) := by decide +kernel
theorem dX4_form_119 : decode cX4_form 119 = .ok (.iadd, 1) := by decide +kernel
theorem dX4_form_120 : decode cX4_form 120 = .ok (.putfield 48, 3) := by decide +kernel
theorem dX4_form_123 : decode cX4_form 123 = .ok (.aload_n 0, 1) := by decide +kernel
theorem dX4_form_124 : decode cX4_form 124 = .ok (.getfield 48, 3) := by decide +kernel
theorem dX4_form_127 : decode cX4_form 127 = .ok (.iconst 1, 1) := by decide +kernel
theorem dX4_form_128 : decode cX4_form 128 = .ok (.isub, 1) := by decide +kernel
theorem dX4_form_129 : decode cX4_form 129 = .ok (.ireturn, 1) := by decide +kernel
set_option maxRecDepth 20000 in
theorem ggX4_girth_X4_formAt : GoodIn wsX4_girth wsX4_formAt := goodIn_ca (goodIn_r _ [5, 6, 7, 8, 25, 26, 27, 28, 29, 30, 31, 32, 33, 34, 35] (by decide +kernel) (by decide +kernel)) (goodIn_sub (fun _ h => List.mem_cons_of_mem _ (List.mem_append_left _ (List.mem_append_right _ h))) (by decide +kernel))
set_option maxRecDepth 20000 in
theorem gX4_girth_X4_formAt : GoodIn wsX4_girth (wsV RX4 55 RX4 yX4_formAt wsX4_formAt) := goodIn_app (goodIn_of _ (by decide +kernel)) ggX4_girth_X4_formAt
set_option maxRecDepth 20000 in
theorem ggX4_girth_X4_checkHeight : GoodIn wsX4_girth wsX4_checkHeight := goodIn_ca (goodIn_r _ [11, 12, 13, 14, 36, 37, 38, 39] (by decide +kernel) (by decide +kernel)) (goodIn_sub (fun _ h => List.mem_cons_of_mem _ (List.mem_append_right _ h)) (by decide +kernel))
set_option maxRecDepth 20000 in
theorem gX4_girth_X4_checkHeight : GoodIn wsX4_girth (va_wsS RX4 59 yX4_checkHeight wsX4_checkHeight) := goodIn_app (goodIn_of _ (by decide +kernel)) ggX4_girth_X4_checkHeight
set_option maxRecDepth 20000 in
theorem ggX4_girth_X2_girthAt : GoodIn wsX4_girth wsX2_girthAt := goodIn_r _ [19, 20, 21, 22, 23, 4, 24, 36, 37, 38, 39] (by decide +kernel) (by decide +kernel)
set_option maxRecDepth 20000 in
theorem gX4_girth_X2_girthAt : GoodIn wsX4_girth (wsV RX4 63 RX2 yX2_girthAt wsX2_girthAt) := goodIn_app (goodIn_of _ (by decide +kernel)) ggX4_girth_X2_girthAt
theorem dX4_girth_0 : decode cX4_girth 0 = .ok (.aload_n 0, 1) := by decide +kernel
theorem dX4_girth_1 : decode cX4_girth 1 = .ok (.iload_n 1, 1) := by decide +kernel
theorem dX4_girth_2 : decode cX4_girth 2 = .ok (.invokevirtual 55, 3) := by decide +kernel
theorem dX4_girth_5 : decode cX4_girth 5 = .ok (.astore_n 3, 1) := by decide +kernel
theorem dX4_girth_6 : decode cX4_girth 6 = .ok (.aload_n 3, 1) := by decide +kernel
theorem dX4_girth_7 : decode cX4_girth 7 = .ok (.iload_n 2, 1) := by decide +kernel
theorem dX4_girth_8 : decode cX4_girth 8 = .ok (.invokestatic 59, 3) := by decide +kernel
theorem dX4_girth_11 : decode cX4_girth 11 = .ok (.aload_n 3, 1) := by decide +kernel
theorem dX4_girth_12 : decode cX4_girth 12 = .ok (.iload_n 2, 1) := by decide +kernel
theorem dX4_girth_13 : decode cX4_girth 13 = .ok (.invokevirtual 63, 3) := by decide +kernel
theorem dX4_girth_16 : decode cX4_girth 16 = .ok (.ireturn, 1) := by decide +kernel
set_option maxRecDepth 20000 in
theorem ggX4_width_X4_formAt : GoodIn wsX4_width wsX4_formAt := goodIn_ca (goodIn_r _ [5, 6, 7, 8, 34, 35, 36, 37, 38, 39, 40, 41, 42, 43, 44] (by decide +kernel) (by decide +kernel)) (goodIn_sub (fun _ h => List.mem_cons_of_mem _ (List.mem_append_left _ (List.mem_append_right _ h))) (by decide +kernel))
set_option maxRecDepth 20000 in
theorem gX4_width_X4_formAt : GoodIn wsX4_width (wsV RX4 55 RX4 yX4_formAt wsX4_formAt) := goodIn_app (goodIn_of _ (by decide +kernel)) ggX4_width_X4_formAt
set_option maxRecDepth 20000 in
theorem ggX4_width_X4_checkStave : GoodIn wsX4_width wsX4_checkStave := goodIn_ca (goodIn_r _ [11, 6, 7, 12, 45, 46, 47, 48] (by decide +kernel) (by decide +kernel)) (goodIn_sub (fun _ h => List.mem_cons_of_mem _ (List.mem_append_left _ (List.mem_append_right _ h))) (by decide +kernel))
set_option maxRecDepth 20000 in
theorem gX4_width_X4_checkStave : GoodIn wsX4_width (va_wsS RX4 67 yX4_checkStave wsX4_checkStave) := goodIn_app (goodIn_of _ (by decide +kernel)) ggX4_width_X4_checkStave
set_option maxRecDepth 20000 in
theorem ggX4_width_X4_checkHeight : GoodIn wsX4_width wsX4_checkHeight := goodIn_ca (goodIn_r _ [15, 16, 17, 18, 45, 46, 47, 48] (by decide +kernel) (by decide +kernel)) (goodIn_sub (fun _ h => List.mem_cons_of_mem _ (List.mem_append_right _ h)) (by decide +kernel))
set_option maxRecDepth 20000 in
theorem gX4_width_X4_checkHeight : GoodIn wsX4_width (va_wsS RX4 59 yX4_checkHeight wsX4_checkHeight) := goodIn_app (goodIn_of _ (by decide +kernel)) ggX4_width_X4_checkHeight
set_option maxRecDepth 20000 in
theorem ggX4_width_X2_widthAt : GoodIn wsX4_width wsX2_widthAt := goodIn_r _ [23, 24, 25, 26, 27, 22, 28, 29, 30, 31, 32, 4, 33, 45, 46, 47, 48] (by decide +kernel) (by decide +kernel)
set_option maxRecDepth 20000 in
theorem gX4_width_X2_widthAt : GoodIn wsX4_width (wsV RX4 70 RX2 yX2_widthAt wsX2_widthAt) := goodIn_app (goodIn_of _ (by decide +kernel)) ggX4_width_X2_widthAt
theorem dX4_width_0 : decode cX4_width 0 = .ok (.aload_n 0, 1) := by decide +kernel
theorem dX4_width_1 : decode cX4_width 1 = .ok (.iload_n 1, 1) := by decide +kernel
theorem dX4_width_2 : decode cX4_width 2 = .ok (.invokevirtual 55, 3) := by decide +kernel
theorem dX4_width_5 : decode cX4_width 5 = .ok (.astore 4, 2) := by decide +kernel
theorem dX4_width_7 : decode cX4_width 7 = .ok (.aload 4, 2) := by decide +kernel
theorem dX4_width_9 : decode cX4_width 9 = .ok (.iload_n 2, 1) := by decide +kernel
theorem dX4_width_10 : decode cX4_width 10 = .ok (.invokestatic 67, 3) := by decide +kernel
theorem dX4_width_13 : decode cX4_width 13 = .ok (.aload 4, 2) := by decide +kernel
theorem dX4_width_15 : decode cX4_width 15 = .ok (.iload_n 3, 1) := by decide +kernel
theorem dX4_width_16 : decode cX4_width 16 = .ok (.invokestatic 59, 3) := by decide +kernel
theorem dX4_width_19 : decode cX4_width 19 = .ok (.aload 4, 2) := by decide +kernel
theorem dX4_width_21 : decode cX4_width 21 = .ok (.iload_n 2, 1) := by decide +kernel
theorem dX4_width_22 : decode cX4_width 22 = .ok (.iload_n 3, 1) := by decide +kernel
theorem dX4_width_23 : decode cX4_width 23 = .ok (.invokevirtual 70, 3) := by decide +kernel
theorem dX4_width_26 : decode cX4_width 26 = .ok (.ireturn, 1) := by decide +kernel
set_option maxRecDepth 20000 in
theorem ggX4_holds_X4_formAt : GoodIn wsX4_holds wsX4_formAt := goodIn_ca (goodIn_r _ [5, 6, 7, 8, 38, 39, 40, 41, 42, 43, 44, 45, 46, 47, 48] (by decide +kernel) (by decide +kernel)) (goodIn_sub (fun _ h => List.mem_cons_of_mem _ (List.mem_append_left _ (List.mem_append_right _ h))) (by decide +kernel))
set_option maxRecDepth 20000 in
theorem gX4_holds_X4_formAt : GoodIn wsX4_holds (wsV RX4 55 RX4 yX4_formAt wsX4_formAt) := goodIn_app (goodIn_of _ (by decide +kernel)) ggX4_holds_X4_formAt
set_option maxRecDepth 20000 in
theorem ggX4_holds_X4_checkHeight : GoodIn wsX4_holds wsX4_checkHeight := goodIn_ca (goodIn_r _ [11, 12, 13, 14, 49, 50, 51, 52] (by decide +kernel) (by decide +kernel)) (goodIn_sub (fun _ h => List.mem_cons_of_mem _ (List.mem_append_right _ h)) (by decide +kernel))
set_option maxRecDepth 20000 in
theorem gX4_holds_X4_checkHeight : GoodIn wsX4_holds (va_wsS RX4 59 yX4_checkHeight wsX4_checkHeight) := goodIn_app (goodIn_of _ (by decide +kernel)) ggX4_holds_X4_checkHeight
set_option maxRecDepth 20000 in
theorem ggX4_holds_X2_contentTo : GoodIn wsX4_holds wsX2_contentTo := goodIn_r _ [19, 20, 21, 22, 18, 23, 24, 25, 26, 27, 28, 29, 30, 31, 4, 32, 33, 34, 35, 36, 37, 49, 50, 51, 52] (by decide +kernel) (by decide +kernel)
set_option maxRecDepth 20000 in
theorem gX4_holds_X2_contentTo : GoodIn wsX4_holds (wsV RX4 74 RX2 yX2_contentTo wsX2_contentTo) := goodIn_app (goodIn_of _ (by decide +kernel)) ggX4_holds_X2_contentTo
theorem dX4_holds_0 : decode cX4_holds 0 = .ok (.aload_n 0, 1) := by decide +kernel
theorem dX4_holds_1 : decode cX4_holds 1 = .ok (.iload_n 1, 1) := by decide +kernel
theorem dX4_holds_2 : decode cX4_holds 2 = .ok (.invokevirtual 55, 3) := by decide +kernel
theorem dX4_holds_5 : decode cX4_holds 5 = .ok (.astore_n 3, 1) := by decide +kernel
theorem dX4_holds_6 : decode cX4_holds 6 = .ok (.aload_n 3, 1) := by decide +kernel
theorem dX4_holds_7 : decode cX4_holds 7 = .ok (.iload_n 2, 1) := by decide +kernel
theorem dX4_holds_8 : decode cX4_holds 8 = .ok (.invokestatic 59, 3) := by decide +kernel
theorem dX4_holds_11 : decode cX4_holds 11 = .ok (.aload_n 3, 1) := by decide +kernel
theorem dX4_holds_12 : decode cX4_holds 12 = .ok (.iload_n 2, 1) := by decide +kernel
theorem dX4_holds_13 : decode cX4_holds 13 = .ok (.invokevirtual 74, 3) := by decide +kernel
theorem dX4_holds_16 : decode cX4_holds 16 = .ok (.ireturn, 1) := by decide +kernel
set_option maxRecDepth 20000 in
theorem ggX4_level_X4_formAt : GoodIn wsX4_level wsX4_formAt := goodIn_ca (goodIn_r _ [7, 8, 9, 10, 34, 35, 36, 37, 38, 39, 40, 41, 42, 43, 44] (by decide +kernel) (by decide +kernel)) (goodIn_sub (fun _ h => List.mem_cons_of_mem _ (List.mem_append_right _ h)) (by decide +kernel))
set_option maxRecDepth 20000 in
theorem gX4_level_X4_formAt : GoodIn wsX4_level (wsV RX4 55 RX4 yX4_formAt wsX4_formAt) := goodIn_app (goodIn_of _ (by decide +kernel)) ggX4_level_X4_formAt
set_option maxRecDepth 20000 in
theorem ggX4_level_X2_leastLevel : GoodIn wsX4_level wsX2_leastLevel := goodIn_r _ [15, 16, 17, 18, 14, 19, 20, 21, 22, 23, 24, 25, 26, 27, 28, 29, 30, 31, 32, 6, 33, 45, 46, 47, 48] (by decide +kernel) (by decide +kernel)
set_option maxRecDepth 20000 in
theorem gX4_level_X2_leastLevel : GoodIn wsX4_level (wsV RX4 84 RX2 yX2_leastLevel wsX2_leastLevel) := goodIn_app (goodIn_of _ (by decide +kernel)) ggX4_level_X2_leastLevel
theorem dX4_level_0 : decode cX4_level 0 = .ok (.aload_n 0, 1) := by decide +kernel
theorem dX4_level_1 : decode cX4_level 1 = .ok (.iload_n 1, 1) := by decide +kernel
theorem dX4_level_2 : decode cX4_level 2 = .ok (.invokevirtual 55, 3) := by decide +kernel
theorem dX4_level_5 : decode cX4_level 5 = .ok (.astore_n 3, 1) := by decide +kernel
theorem dX4_level_6 : decode cX4_level 6 = .ok (.iload_n 2, 1) := by decide +kernel
theorem dX4_level_7 : decode cX4_level 7 = .ok (.ifCond .ge 13, 3) := by decide +kernel
theorem dX4_level_10 : decode cX4_level 10 = .ok (.new 77, 3) := by decide +kernel
theorem dX4_level_13 : decode cX4_level 13 = .ok (.dup, 1) := by decide +kernel
theorem dX4_level_14 : decode cX4_level 14 = .ok (.ldc 79, 2) := by decide +kernel
theorem dX4_level_16 : decode cX4_level 16 = .ok (.invokespecial 81, 3) := by decide +kernel
theorem dX4_level_19 : decode cX4_level 19 = .ok (.athrow, 1) := by decide +kernel
theorem dX4_level_20 : decode cX4_level 20 = .ok (.aload_n 3, 1) := by decide +kernel
theorem dX4_level_21 : decode cX4_level 21 = .ok (.iload_n 2, 1) := by decide +kernel
theorem dX4_level_22 : decode cX4_level 22 = .ok (.invokevirtual 84, 3) := by decide +kernel
theorem dX4_level_25 : decode cX4_level 25 = .ok (.ireturn, 1) := by decide +kernel
set_option maxRecDepth 20000 in
theorem ggX4_head_X4_formAt : GoodIn wsX4_head wsX4_formAt := goodIn_ca (goodIn_r _ [5, 6, 7, 8, 19, 20, 21, 22, 23, 24, 25, 26, 27, 28, 29] (by decide +kernel) (by decide +kernel)) (goodIn_sub (fun _ h => List.mem_cons_of_mem _ (List.mem_append_right _ h)) (by decide +kernel))
set_option maxRecDepth 20000 in
theorem gX4_head_X4_formAt : GoodIn wsX4_head (wsV RX4 55 RX4 yX4_formAt wsX4_formAt) := goodIn_app (goodIn_of _ (by decide +kernel)) ggX4_head_X4_formAt
set_option maxRecDepth 20000 in
theorem ggX4_head_X2_girthAt : GoodIn wsX4_head wsX2_girthAt := goodIn_r _ [13, 14, 15, 16, 17, 4, 18, 30, 31, 32, 33] (by decide +kernel) (by decide +kernel)
set_option maxRecDepth 20000 in
theorem gX4_head_X2_girthAt : GoodIn wsX4_head (wsV RX4 63 RX2 yX2_girthAt wsX2_girthAt) := goodIn_app (goodIn_of _ (by decide +kernel)) ggX4_head_X2_girthAt
theorem dX4_head_0 : decode cX4_head 0 = .ok (.aload_n 0, 1) := by decide +kernel
theorem dX4_head_1 : decode cX4_head 1 = .ok (.iload_n 1, 1) := by decide +kernel
theorem dX4_head_2 : decode cX4_head 2 = .ok (.invokevirtual 55, 3) := by decide +kernel
theorem dX4_head_5 : decode cX4_head 5 = .ok (.iconst 0, 1) := by decide +kernel
theorem dX4_head_6 : decode cX4_head 6 = .ok (.invokevirtual 63, 3) := by decide +kernel
theorem dX4_head_9 : decode cX4_head 9 = .ok (.bipush 113, 2) := by decide +kernel
theorem dX4_head_11 : decode cX4_head 11 = .ok (.imul, 1) := by decide +kernel
theorem dX4_head_12 : decode cX4_head 12 = .ok (.sipush 355, 3) := by decide +kernel
theorem dX4_head_15 : decode cX4_head 15 = .ok (.idiv, 1) := by decide +kernel
theorem dX4_head_16 : decode cX4_head 16 = .ok (.ireturn, 1) := by decide +kernel
theorem dX4_days_0 : decode cX4_days 0 = .ok (.iload_n 1, 1) := by decide +kernel
theorem dX4_days_1 : decode cX4_days 1 = .ok (.ifCond .lt 14, 3) := by decide +kernel
theorem dX4_days_4 : decode cX4_days 4 = .ok (.iload_n 1, 1) := by decide +kernel
theorem dX4_days_5 : decode cX4_days 5 = .ok (.ldc 87, 2) := by decide +kernel
theorem dX4_days_7 : decode cX4_days 7 = .ok (.aload_n 0, 1) := by decide +kernel
theorem dX4_days_8 : decode cX4_days 8 = .ok (.getfield 88, 3) := by decide +kernel
theorem dX4_days_11 : decode cX4_days 11 = .ok (.isub, 1) := by decide +kernel
theorem dX4_days_12 : decode cX4_days 12 = .ok (.if_icmp .le 13, 3) := by decide +kernel
theorem dX4_days_15 : decode cX4_days 15 = .ok (.new 77, 3) := by decide +kernel
theorem dX4_days_18 : decode cX4_days 18 = .ok (.dup, 1) := by decide +kernel
theorem dX4_days_19 : decode cX4_days 19 = .ok (.ldc 91, 2) := by decide +kernel
theorem dX4_days_21 : decode cX4_days 21 = .ok (.invokespecial 81, 3) := by decide +kernel
theorem dX4_days_24 : decode cX4_days 24 = .ok (.athrow, 1) := by decide +kernel
theorem dX4_days_25 : decode cX4_days 25 = .ok (.aload_n 0, 1) := by decide +kernel
theorem dX4_days_26 : decode cX4_days 26 = .ok (.dup, 1) := by decide +kernel
theorem dX4_days_27 : decode cX4_days 27 = .ok (.getfield 88, 3) := by decide +kernel
theorem dX4_days_30 : decode cX4_days 30 = .ok (.iload_n 1, 1) := by decide +kernel
theorem dX4_days_31 : decode cX4_days 31 = .ok (.iadd, 1) := by decide +kernel
theorem dX4_days_32 : decode cX4_days 32 = .ok (.putfield 88, 3) := by decide +kernel
theorem dX4_days_35 : decode cX4_days 35 = .ok (.aload_n 0, 1) := by decide +kernel
theorem dX4_days_36 : decode cX4_days 36 = .ok (.getfield 88, 3) := by decide +kernel
theorem dX4_days_39 : decode cX4_days 39 = .ok (.ireturn, 1) := by decide +kernel
set_option maxRecDepth 20000 in
theorem ggX4_bolt_X0_init : GoodIn wsX4_bolt wsX0_init := goodIn_r _ [9, 10, 11, 12, 13, 14, 15, 16, 17, 29, 30, 31, 32] (by decide +kernel) (by decide +kernel)
set_option maxRecDepth 20000 in
theorem gX4_bolt_X0_init : GoodIn wsX4_bolt (wsX0_init) := ggX4_bolt_X0_init
theorem dX4_bolt_0 : decode cX4_bolt 0 = .ok (.aload_n 0, 1) := by decide +kernel
theorem dX4_bolt_1 : decode cX4_bolt 1 = .ok (.getfield 93, 3) := by decide +kernel
theorem dX4_bolt_4 : decode cX4_bolt 4 = .ok (.bipush 40, 2) := by decide +kernel
theorem dX4_bolt_6 : decode cX4_bolt 6 = .ok (.if_icmp .ge 15, 3) := by decide +kernel
theorem dX4_bolt_9 : decode cX4_bolt 9 = .ok (.iload_n 1, 1) := by decide +kernel
theorem dX4_bolt_10 : decode cX4_bolt 10 = .ok (.iconst 1, 1) := by decide +kernel
theorem dX4_bolt_11 : decode cX4_bolt 11 = .ok (.if_icmp .lt 10, 3) := by decide +kernel
theorem dX4_bolt_14 : decode cX4_bolt 14 = .ok (.iload_n 1, 1) := by decide +kernel
theorem dX4_bolt_15 : decode cX4_bolt 15 = .ok (.sipush 600, 3) := by decide +kernel
theorem dX4_bolt_18 : decode cX4_bolt 18 = .ok (.if_icmp .le 5, 3) := by decide +kernel
theorem dX4_bolt_21 : decode cX4_bolt 21 = .ok (.iconst (-1), 1) := by decide +kernel
theorem dX4_bolt_22 : decode cX4_bolt 22 = .ok (.ireturn, 1) := by decide +kernel
theorem dX4_bolt_23 : decode cX4_bolt 23 = .ok (.aload_n 0, 1) := by decide +kernel
theorem dX4_bolt_24 : decode cX4_bolt 24 = .ok (.getfield 17, 3) := by decide +kernel
theorem dX4_bolt_27 : decode cX4_bolt 27 = .ok (.aload_n 0, 1) := by decide +kernel
theorem dX4_bolt_28 : decode cX4_bolt 28 = .ok (.getfield 93, 3) := by decide +kernel
theorem dX4_bolt_31 : decode cX4_bolt 31 = .ok (.new 15, 3) := by decide +kernel
theorem dX4_bolt_34 : decode cX4_bolt 34 = .ok (.dup, 1) := by decide +kernel
theorem dX4_bolt_35 : decode cX4_bolt 35 = .ok (.iload_n 1, 1) := by decide +kernel
theorem dX4_bolt_36 : decode cX4_bolt 36 = .ok (.aload_n 0, 1) := by decide +kernel
theorem dX4_bolt_37 : decode cX4_bolt 37 = .ok (.getfield 88, 3) := by decide +kernel
theorem dX4_bolt_40 : decode cX4_bolt 40 = .ok (.invokespecial 41, 3) := by decide +kernel
theorem dX4_bolt_43 : decode cX4_bolt 43 = .ok (.aastore, 1) := by decide +kernel
theorem dX4_bolt_44 : decode cX4_bolt 44 = .ok (.aload_n 0, 1) := by decide +kernel
theorem dX4_bolt_45 : decode cX4_bolt 45 = .ok (.dup, 1) := by decide +kernel
theorem dX4_bolt_46 : decode cX4_bolt 46 = .ok (.getfield 93, 3) := by decide +kernel
theorem dX4_bolt_49 : decode cX4_bolt 49 = .ok (.iconst 1, 1) := by decide +kernel
theorem dX4_bolt_50 : decode cX4_bolt 50 = .ok (.iadd, 1) := by decide +kernel
theorem dX4_bolt_51 : decode cX4_bolt 51 = .ok (.putfield 93, 3) := by decide +kernel
theorem dX4_bolt_54 : decode cX4_bolt 54 = .ok (.aload_n 0, 1) := by decide +kernel
theorem dX4_bolt_55 : decode cX4_bolt 55 = .ok (.getfield 93, 3) := by decide +kernel
theorem dX4_bolt_58 : decode cX4_bolt 58 = .ok (.iconst 1, 1) := by decide +kernel
theorem dX4_bolt_59 : decode cX4_bolt 59 = .ok (.isub, 1) := by decide +kernel
theorem dX4_bolt_60 : decode cX4_bolt 60 = .ok (.ireturn, 1) := by decide +kernel
set_option maxRecDepth 20000 in
theorem ggX4_flaw_X4_boltAt : GoodIn wsX4_flaw wsX4_boltAt := goodIn_ca (goodIn_r _ [16, 17, 18, 19, 32, 33, 34, 35, 36, 37, 38, 39, 40, 41, 42] (by decide +kernel) (by decide +kernel)) (goodIn_sub (fun _ h => List.mem_cons_of_mem _ (List.mem_append_right _ h)) (by decide +kernel))
set_option maxRecDepth 20000 in
theorem gX4_flaw_X4_boltAt : GoodIn wsX4_flaw (wsV RX4 96 RX4 yX4_boltAt wsX4_boltAt) := goodIn_app (goodIn_of _ (by decide +kernel)) ggX4_flaw_X4_boltAt
set_option maxRecDepth 20000 in
theorem ggX4_flaw_X0_addPart : GoodIn wsX4_flaw wsX0_addPart := goodIn_r _ [24, 25, 26, 27, 43, 44, 45, 46] (by decide +kernel) (by decide +kernel)
set_option maxRecDepth 20000 in
theorem gX4_flaw_X0_addPart : GoodIn wsX4_flaw (wsV RX4 114 RX0 yX0_addPart wsX0_addPart) := goodIn_app (goodIn_of _ (by decide +kernel)) ggX4_flaw_X0_addPart
set_option maxRecDepth 20000 in
theorem ggX4_flaw_X0_takePartsOf : GoodIn wsX4_flaw wsX0_takePartsOf := goodIn_r _ [31, 25, 26, 27, 43, 44, 45, 46] (by decide +kernel) (by decide +kernel)
set_option maxRecDepth 20000 in
theorem gX4_flaw_X0_takePartsOf : GoodIn wsX4_flaw (wsV RX4 121 RX0 yX0_takePartsOf wsX0_takePartsOf) := goodIn_app (goodIn_of _ (by decide +kernel)) ggX4_flaw_X0_takePartsOf
theorem dX4_flaw_0 : decode cX4_flaw 0 = .ok (.aload_n 0, 1) := by decide +kernel
theorem dX4_flaw_1 : decode cX4_flaw 1 = .ok (.iload_n 1, 1) := by decide +kernel
theorem dX4_flaw_2 : decode cX4_flaw 2 = .ok (.invokevirtual 96, 3) := by decide +kernel
theorem dX4_flaw_5 : decode cX4_flaw 5 = .ok (.astore 4, 2) := by decide +kernel
theorem dX4_flaw_7 : decode cX4_flaw 7 = .ok (.iload_n 2, 1) := by decide +kernel
theorem dX4_flaw_8 : decode cX4_flaw 8 = .ok (.ifCond .lt 15, 3) := by decide +kernel
theorem dX4_flaw_11 : decode cX4_flaw 11 = .ok (.iload_n 2, 1) := by decide +kernel
theorem dX4_flaw_12 : decode cX4_flaw 12 = .ok (.iload_n 3, 1) := by decide +kernel
theorem dX4_flaw_13 : decode cX4_flaw 13 = .ok (.if_icmp .ge 10, 3) := by decide +kernel
theorem dX4_flaw_16 : decode cX4_flaw 16 = .ok (.iload_n 3, 1) := by decide +kernel
theorem dX4_flaw_17 : decode cX4_flaw 17 = .ok (.sipush 600, 3) := by decide +kernel
theorem dX4_flaw_20 : decode cX4_flaw 20 = .ok (.if_icmp .le 5, 3) := by decide +kernel
theorem dX4_flaw_23 : decode cX4_flaw 23 = .ok (.iconst (-1), 1) := by decide +kernel
theorem dX4_flaw_24 : decode cX4_flaw 24 = .ok (.ireturn, 1) := by decide +kernel
theorem dX4_flaw_25 : decode cX4_flaw 25 = .ok (.aload_n 0, 1) := by decide +kernel
theorem dX4_flaw_26 : decode cX4_flaw 26 = .ok (.getfield 44, 3) := by decide +kernel
theorem dX4_flaw_29 : decode cX4_flaw 29 = .ok (.iconst 0, 1) := by decide +kernel
theorem dX4_flaw_30 : decode cX4_flaw 30 = .ok (.putfield 100, 3) := by decide +kernel
theorem dX4_flaw_33 : decode cX4_flaw 33 = .ok (.iconst 0, 1) := by decide +kernel
theorem dX4_flaw_34 : decode cX4_flaw 34 = .ok (.istore 5, 2) := by decide +kernel
theorem dX4_flaw_36 : decode cX4_flaw 36 = .ok (.iload 5, 2) := by decide +kernel
theorem dX4_flaw_38 : decode cX4_flaw 38 = .ok (.aload 4, 2) := by decide +kernel
theorem dX4_flaw_40 : decode cX4_flaw 40 = .ok (.getfield 100, 3) := by decide +kernel
theorem dX4_flaw_43 : decode cX4_flaw 43 = .ok (.if_icmp .ge 83, 3) := by decide +kernel
theorem dX4_flaw_46 : decode cX4_flaw 46 = .ok (.aload_n 0, 1) := by decide +kernel
theorem dX4_flaw_47 : decode cX4_flaw 47 = .ok (.getfield 44, 3) := by decide +kernel
theorem dX4_flaw_50 : decode cX4_flaw 50 = .ok (.aload 4, 2) := by decide +kernel
theorem dX4_flaw_52 : decode cX4_flaw 52 = .ok (.getfield 103, 3) := by decide +kernel
theorem dX4_flaw_55 : decode cX4_flaw 55 = .ok (.iload 5, 2) := by decide +kernel
theorem dX4_flaw_57 : decode cX4_flaw 57 = .ok (.iaload, 1) := by decide +kernel
theorem dX4_flaw_58 : decode cX4_flaw 58 = .ok (.aload 4, 2) := by decide +kernel
theorem dX4_flaw_60 : decode cX4_flaw 60 = .ok (.getfield 106, 3) := by decide +kernel
theorem dX4_flaw_63 : decode cX4_flaw 63 = .ok (.iload 5, 2) := by decide +kernel
theorem dX4_flaw_65 : decode cX4_flaw 65 = .ok (.iaload, 1) := by decide +kernel
theorem dX4_flaw_66 : decode cX4_flaw 66 = .ok (.iload_n 2, 1) := by decide +kernel
theorem dX4_flaw_67 : decode cX4_flaw 67 = .ok (.invokestatic 109, 3) := by decide +kernel
theorem dX4_flaw_70 : decode cX4_flaw 70 = .ok (.invokevirtual 114, 3) := by decide +kernel
theorem dX4_flaw_73 : decode cX4_flaw 73 = .ok (.ifCond .eq 37, 3) := by decide +kernel
theorem dX4_flaw_76 : decode cX4_flaw 76 = .ok (.aload_n 0, 1) := by decide +kernel
theorem dX4_flaw_77 : decode cX4_flaw 77 = .ok (.getfield 44, 3) := by decide +kernel
theorem dX4_flaw_80 : decode cX4_flaw 80 = .ok (.aload 4, 2) := by decide +kernel
theorem dX4_flaw_82 : decode cX4_flaw 82 = .ok (.getfield 103, 3) := by decide +kernel
theorem dX4_flaw_85 : decode cX4_flaw 85 = .ok (.iload 5, 2) := by decide +kernel
theorem dX4_flaw_87 : decode cX4_flaw 87 = .ok (.iaload, 1) := by decide +kernel
theorem dX4_flaw_88 : decode cX4_flaw 88 = .ok (.iload_n 3, 1) := by decide +kernel
theorem dX4_flaw_89 : decode cX4_flaw 89 = .ok (.invokestatic 118, 3) := by decide +kernel
theorem dX4_flaw_92 : decode cX4_flaw 92 = .ok (.aload 4, 2) := by decide +kernel
theorem dX4_flaw_94 : decode cX4_flaw 94 = .ok (.getfield 106, 3) := by decide +kernel
theorem dX4_flaw_97 : decode cX4_flaw 97 = .ok (.iload 5, 2) := by decide +kernel
theorem dX4_flaw_99 : decode cX4_flaw 99 = .ok (.iaload, 1) := by decide +kernel
theorem dX4_flaw_100 : decode cX4_flaw 100 = .ok (.invokevirtual 114, 3) := by decide +kernel
theorem dX4_flaw_103 : decode cX4_flaw 103 = .ok (.ifCond .eq 7, 3) := by decide +kernel
theorem dX4_flaw_106 : decode cX4_flaw 106 = .ok (.iconst 1, 1) := by decide +kernel
theorem dX4_flaw_107 : decode cX4_flaw 107 = .ok (.goto 4, 3) := by decide +kernel
theorem dX4_flaw_110 : decode cX4_flaw 110 = .ok (.iconst 0, 1) := by decide +kernel
theorem dX4_flaw_111 : decode cX4_flaw 111 = .ok (.istore 6, 2) := by decide +kernel
theorem dX4_flaw_113 : decode cX4_flaw 113 = .ok (.iload 6, 2) := by decide +kernel
theorem dX4_flaw_115 : decode cX4_flaw 115 = .ok (.ifCond .ne 5, 3) := by decide +kernel
theorem dX4_flaw_118 : decode cX4_flaw 118 = .ok (.iconst (-1), 1) := by decide +kernel
theorem dX4_flaw_119 : decode cX4_flaw 119 = .ok (.ireturn, 1) := by decide +kernel
theorem dX4_flaw_120 : decode cX4_flaw 120 = .ok (.iinc 5 1, 3) := by decide +kernel
theorem dX4_flaw_123 : decode cX4_flaw 123 = .ok (.goto (-87), 3) := by decide +kernel
theorem dX4_flaw_126 : decode cX4_flaw 126 = .ok (.aload 4, 2) := by decide +kernel
theorem dX4_flaw_128 : decode cX4_flaw 128 = .ok (.aload_n 0, 1) := by decide +kernel
theorem dX4_flaw_129 : decode cX4_flaw 129 = .ok (.getfield 44, 3) := by decide +kernel
theorem dX4_flaw_132 : decode cX4_flaw 132 = .ok (.invokevirtual 121, 3) := by decide +kernel
theorem dX4_flaw_135 : decode cX4_flaw 135 = .ok (.aload 4, 2) := by decide +kernel
theorem dX4_flaw_137 : decode cX4_flaw 137 = .ok (.getfield 100, 3) := by decide +kernel
theorem dX4_flaw_140 : decode cX4_flaw 140 = .ok (.ireturn, 1) := by decide +kernel
set_option maxRecDepth 20000 in
theorem ggX4_clear_X4_boltAt : GoodIn wsX4_clear wsX4_boltAt := goodIn_ca (goodIn_r _ [10, 1, 2, 11, 16, 17, 18, 19, 20, 21, 22, 23, 24, 25, 26] (by decide +kernel) (by decide +kernel)) (goodIn_sub (fun _ h => List.mem_cons_of_mem _ (List.mem_append_right _ h)) (by decide +kernel))
set_option maxRecDepth 20000 in
theorem gX4_clear_X4_boltAt : GoodIn wsX4_clear (wsV RX4 96 RX4 yX4_boltAt wsX4_boltAt) := goodIn_app (goodIn_of _ (by decide +kernel)) ggX4_clear_X4_boltAt
theorem dX4_clear_0 : decode cX4_clear 0 = .ok (.aload_n 0, 1) := by decide +kernel
theorem dX4_clear_1 : decode cX4_clear 1 = .ok (.iload_n 1, 1) := by decide +kernel
theorem dX4_clear_2 : decode cX4_clear 2 = .ok (.invokevirtual 96, 3) := by decide +kernel
theorem dX4_clear_5 : decode cX4_clear 5 = .ok (.astore 4, 2) := by decide +kernel
theorem dX4_clear_7 : decode cX4_clear 7 = .ok (.iload_n 2, 1) := by decide +kernel
theorem dX4_clear_8 : decode cX4_clear 8 = .ok (.ifCond .lt 21, 3) := by decide +kernel
theorem dX4_clear_11 : decode cX4_clear 11 = .ok (.iload_n 2, 1) := by decide +kernel
theorem dX4_clear_12 : decode cX4_clear 12 = .ok (.aload 4, 2) := by decide +kernel
theorem dX4_clear_14 : decode cX4_clear 14 = .ok (.getfield 100, 3) := by decide +kernel
theorem dX4_clear_17 : decode cX4_clear 17 = .ok (.if_icmp .ge 12, 3) := by decide +kernel
theorem dX4_clear_20 : decode cX4_clear 20 = .ok (.iload_n 3, 1) := by decide +kernel
theorem dX4_clear_21 : decode cX4_clear 21 = .ok (.ifCond .lt 8, 3) := by decide +kernel
theorem dX4_clear_24 : decode cX4_clear 24 = .ok (.iload_n 3, 1) := by decide +kernel
theorem dX4_clear_25 : decode cX4_clear 25 = .ok (.iconst 1, 1) := by decide +kernel
theorem dX4_clear_26 : decode cX4_clear 26 = .ok (.if_icmp .le 13, 3) := by decide +kernel
theorem dX4_clear_29 : decode cX4_clear 29 = .ok (.new 125, 3) := by decide +kernel
theorem dX4_clear_32 : decode cX4_clear 32 = .ok (.dup, 1) := by decide +kernel
theorem dX4_clear_33 : decode cX4_clear 33 = .ok (.ldc 127, 2) := by decide +kernel
theorem dX4_clear_35 : decode cX4_clear 35 = .ok (.invokespecial 129, 3) := by decide +kernel
theorem dX4_clear_38 : decode cX4_clear 38 = .ok (.athrow, 1) := by decide +kernel
theorem dX4_clear_39 : decode cX4_clear 39 = .ok (.iload_n 3, 1) := by decide +kernel
theorem dX4_clear_40 : decode cX4_clear 40 = .ok (.ifCond .ne 13, 3) := by decide +kernel
theorem dX4_clear_43 : decode cX4_clear 43 = .ok (.aload 4, 2) := by decide +kernel
theorem dX4_clear_45 : decode cX4_clear 45 = .ok (.getfield 103, 3) := by decide +kernel
theorem dX4_clear_48 : decode cX4_clear 48 = .ok (.iload_n 2, 1) := by decide +kernel
theorem dX4_clear_49 : decode cX4_clear 49 = .ok (.iaload, 1) := by decide +kernel
theorem dX4_clear_50 : decode cX4_clear 50 = .ok (.goto 10, 3) := by decide +kernel
theorem dX4_clear_53 : decode cX4_clear 53 = .ok (.aload 4, 2) := by decide +kernel
theorem dX4_clear_55 : decode cX4_clear 55 = .ok (.getfield 106, 3) := by decide +kernel
theorem dX4_clear_58 : decode cX4_clear 58 = .ok (.iload_n 2, 1) := by decide +kernel
theorem dX4_clear_59 : decode cX4_clear 59 = .ok (.iaload, 1) := by decide +kernel
theorem dX4_clear_60 : decode cX4_clear 60 = .ok (.ireturn, 1) := by decide +kernel
set_option maxRecDepth 20000 in
theorem ggX4_ripe_X4_boltAt : GoodIn wsX4_ripe wsX4_boltAt := goodIn_ca (goodIn_r _ [5, 6, 7, 8, 15, 16, 17, 18, 19, 20, 21, 22, 23, 24, 25] (by decide +kernel) (by decide +kernel)) (goodIn_sub (fun _ h => List.mem_cons_of_mem _ (List.mem_append_right _ h)) (by decide +kernel))
set_option maxRecDepth 20000 in
theorem gX4_ripe_X4_boltAt : GoodIn wsX4_ripe (wsV RX4 96 RX4 yX4_boltAt wsX4_boltAt) := goodIn_app (goodIn_of _ (by decide +kernel)) ggX4_ripe_X4_boltAt
set_option maxRecDepth 20000 in
theorem ggX4_ripe_X4_isRipe : GoodIn wsX4_ripe wsX4_isRipe := goodIn_r _ [12, 13, 14, 15, 16, 17, 18, 19, 20, 21, 22, 23, 24, 25, 26, 27, 28, 29] (by decide +kernel) (by decide +kernel)
set_option maxRecDepth 20000 in
theorem gX4_ripe_X4_isRipe : GoodIn wsX4_ripe (wsV RX4 130 RX4 yX4_isRipe wsX4_isRipe) := goodIn_app (goodIn_of _ (by decide +kernel)) ggX4_ripe_X4_isRipe
theorem dX4_ripe_0 : decode cX4_ripe 0 = .ok (.aload_n 0, 1) := by decide +kernel
theorem dX4_ripe_1 : decode cX4_ripe 1 = .ok (.aload_n 0, 1) := by decide +kernel
theorem dX4_ripe_2 : decode cX4_ripe 2 = .ok (.iload_n 1, 1) := by decide +kernel
theorem dX4_ripe_3 : decode cX4_ripe 3 = .ok (.invokevirtual 96, 3) := by decide +kernel
theorem dX4_ripe_6 : decode cX4_ripe 6 = .ok (.invokevirtual 130, 3) := by decide +kernel
theorem dX4_ripe_9 : decode cX4_ripe 9 = .ok (.ireturn, 1) := by decide +kernel
set_option maxRecDepth 20000 in
theorem ggX4_fewest_X4_formAt : GoodIn wsX4_fewest wsX4_formAt := goodIn_ca (goodIn_r _ [5, 6, 7, 8, 96, 97, 98, 99, 100, 101, 102, 103, 104, 105, 106] (by decide +kernel) (by decide +kernel)) (goodIn_sub (fun _ h => List.mem_cons_of_mem _ (List.mem_append_right _ h)) (by decide +kernel))
set_option maxRecDepth 20000 in
theorem gX4_fewest_X4_formAt : GoodIn wsX4_fewest (wsV RX4 55 RX4 yX4_formAt wsX4_formAt) := goodIn_app (goodIn_of _ (by decide +kernel)) ggX4_fewest_X4_formAt
set_option maxRecDepth 20000 in
theorem ggX4_fewest_X4_setFor : GoodIn wsX4_fewest wsX4_setFor := goodIn_r _ [12, 13, 14, 15, 16, 17, 18, 19, 20, 21, 22, 23, 4, 24, 25, 26, 27, 28, 29, 30, 31, 32, 33, 34, 35, 36, 37, 38, 39, 40, 41, 42, 43, 44, 45, 46, 47, 48, 49, 50, 51, 52, 53, 54, 55, 56, 57, 58, 59, 60, 61, 62, 63, 64, 65, 66, 67, 68, 69, 70, 71, 72, 73, 74, 75, 76, 77, 78, 79, 80, 81, 82, 83, 84, 85, 86, 87, 88, 89, 90, 91, 92, 93, 94, 96, 97, 98, 99, 100, 101, 102, 103, 104, 105, 106, 107, 108, 109, 110, 111, 112, 113, 114, 115, 116, 117, 118, 119, 120, 121, 122, 123, 124, 125, 126, 127, 128] (by decide +kernel) (by decide +kernel)
set_option maxRecDepth 20000 in
theorem gX4_fewest_X4_setFor : GoodIn wsX4_fewest (wsV RX4 134 RX4 yX4_setFor wsX4_setFor) := goodIn_app (goodIn_of _ (by decide +kernel)) ggX4_fewest_X4_setFor
set_option maxRecDepth 20000 in
theorem ggX4_fewest_J6_bitCount_0f7a4 : GoodIn wsX4_fewest wsJ6_bitCount_0f7a4 := goodIn_r _ [91, 92, 93, 94] (by decide +kernel) (by decide +kernel)
set_option maxRecDepth 20000 in
theorem gX4_fewest_J6_bitCount_0f7a4 : GoodIn wsX4_fewest (va_wsS RX4 138 yJ6_bitCount_0f7a4 wsJ6_bitCount_0f7a4) := goodIn_app (goodIn_of _ (by decide +kernel)) ggX4_fewest_J6_bitCount_0f7a4
theorem dX4_fewest_0 : decode cX4_fewest 0 = .ok (.aload_n 0, 1) := by decide +kernel
theorem dX4_fewest_1 : decode cX4_fewest 1 = .ok (.aload_n 0, 1) := by decide +kernel
theorem dX4_fewest_2 : decode cX4_fewest 2 = .ok (.iload_n 1, 1) := by decide +kernel
theorem dX4_fewest_3 : decode cX4_fewest 3 = .ok (.invokevirtual 55, 3) := by decide +kernel
theorem dX4_fewest_6 : decode cX4_fewest 6 = .ok (.invokevirtual 134, 3) := by decide +kernel
theorem dX4_fewest_9 : decode cX4_fewest 9 = .ok (.istore_n 2, 1) := by decide +kernel
theorem dX4_fewest_10 : decode cX4_fewest 10 = .ok (.iload_n 2, 1) := by decide +kernel
theorem dX4_fewest_11 : decode cX4_fewest 11 = .ok (.ifCond .ne 7, 3) := by decide +kernel
theorem dX4_fewest_14 : decode cX4_fewest 14 = .ok (.iconst (-1), 1) := by decide +kernel
theorem dX4_fewest_15 : decode cX4_fewest 15 = .ok (.goto 7, 3) := by decide +kernel
theorem dX4_fewest_18 : decode cX4_fewest 18 = .ok (.iload_n 2, 1) := by decide +kernel
theorem dX4_fewest_19 : decode cX4_fewest 19 = .ok (.invokestatic 138, 3) := by decide +kernel
theorem dX4_fewest_22 : decode cX4_fewest 22 = .ok (.ireturn, 1) := by decide +kernel
set_option maxRecDepth 20000 in
theorem ggX4_make_X4_formAt : GoodIn wsX4_make wsX4_formAt := goodIn_ca (goodIn_r _ [11, 12, 13, 14, 179, 180, 181, 182, 183, 184, 185, 186, 187, 188, 189] (by decide +kernel) (by decide +kernel)) (goodIn_sub (fun _ h => List.mem_cons_of_mem _ (List.mem_append_right _ h)) (by decide +kernel))
set_option maxRecDepth 20000 in
theorem gX4_make_X4_formAt : GoodIn wsX4_make (wsV RX4 55 RX4 yX4_formAt wsX4_formAt) := goodIn_app (goodIn_of _ (by decide +kernel)) ggX4_make_X4_formAt
set_option maxRecDepth 20000 in
theorem ggX4_make_X4_setFor : GoodIn wsX4_make wsX4_setFor := goodIn_r _ [18, 5, 19, 20, 21, 22, 23, 24, 25, 26, 27, 28, 10, 29, 30, 31, 32, 33, 34, 35, 36, 37, 38, 39, 40, 41, 42, 43, 44, 45, 46, 47, 48, 49, 50, 51, 52, 53, 54, 55, 56, 57, 58, 59, 60, 61, 62, 63, 64, 65, 66, 67, 68, 69, 70, 71, 72, 73, 74, 75, 76, 77, 78, 79, 80, 81, 82, 83, 84, 85, 86, 87, 88, 89, 90, 91, 92, 93, 94, 95, 96, 97, 98, 99, 179, 180, 181, 182, 183, 184, 185, 186, 187, 188, 189, 198, 199, 200, 201, 202, 203, 204, 205, 206, 207, 208, 209, 210, 211, 212, 213, 214, 215, 216, 217, 218, 219] (by decide +kernel) (by decide +kernel)
set_option maxRecDepth 20000 in
theorem gX4_make_X4_setFor : GoodIn wsX4_make (wsV RX4 134 RX4 yX4_setFor wsX4_setFor) := goodIn_app (goodIn_of _ (by decide +kernel)) ggX4_make_X4_setFor
set_option maxRecDepth 20000 in
theorem ggX4_make_X1_init : GoodIn wsX4_make wsX1_init := goodIn_r _ [102, 103, 104, 105, 106, 107, 108, 109, 110, 111, 112, 113, 190, 191, 192, 193, 194, 195, 196, 197] (by decide +kernel) (by decide +kernel)
set_option maxRecDepth 20000 in
theorem gX4_make_X1_init : GoodIn wsX4_make (wsX1_init) := ggX4_make_X1_init
set_option maxRecDepth 20000 in
theorem ggX4_make_X2_wides : GoodIn wsX4_make wsX2_wides := goodIn_r _ [70, 26, 27, 28, 10, 29, 198, 199, 200, 201] (by decide +kernel) (by decide +kernel)
set_option maxRecDepth 20000 in
theorem gX4_make_X2_wides : GoodIn wsX4_make (wsV RX4 149 RX2 yX2_wides wsX2_wides) := goodIn_app (goodIn_of _ (by decide +kernel)) ggX4_make_X2_wides
set_option maxRecDepth 20000 in
theorem ggX4_make_X2_narrows : GoodIn wsX4_make wsX2_narrows := goodIn_r _ [74, 27, 75, 68, 69, 24, 70, 26, 28, 10, 29, 198, 199, 200, 201] (by decide +kernel) (by decide +kernel)
set_option maxRecDepth 20000 in
theorem gX4_make_X2_narrows : GoodIn wsX4_make (wsV RX4 153 RX2 yX2_narrows wsX2_narrows) := goodIn_app (goodIn_of _ (by decide +kernel)) ggX4_make_X2_narrows
set_option maxRecDepth 20000 in
theorem ggX4_make_X3_cutSet : GoodIn wsX4_make wsX3_cutSet := goodIn_r _ [117, 36, 118, 119, 84, 80, 81, 82, 33, 83, 56, 120, 121, 122, 123, 59, 124, 125, 91, 126, 58, 37, 28, 10, 29, 85, 86, 87, 88, 66, 60, 61, 89, 90, 92, 127, 128, 129, 130, 35, 51, 131, 132, 133, 134, 48, 50, 135, 136, 137, 138, 139, 140, 141, 142, 143, 144, 145, 146, 202, 203, 204, 205, 206, 207, 208, 209, 210, 211, 212, 213, 214, 215, 216, 217, 218, 219] (by decide +kernel) (by decide +kernel)
set_option maxRecDepth 20000 in
theorem gX4_make_X3_cutSet : GoodIn wsX4_make (wsV RX4 156 RX3 yX3_cutSet wsX3_cutSet) := goodIn_app (goodIn_of _ (by decide +kernel)) ggX4_make_X3_cutSet
set_option maxRecDepth 20000 in
theorem ggX4_make_X4_handOut : GoodIn wsX4_make wsX4_handOut := goodIn_r _ [150, 5, 151, 152, 153, 154, 155, 156, 157, 4, 158, 113, 159, 107, 160, 161, 162, 24, 163, 164, 165, 166, 167, 168, 169, 170, 171, 172, 27, 173, 174, 175, 176, 26, 177, 28, 10, 29, 178, 22, 23, 25, 179, 180, 181, 182, 183, 184, 185, 186, 187, 188, 189, 202, 203, 204, 205, 206, 207, 208, 209, 210, 211, 212, 213, 214, 215, 190, 191, 192, 193, 194, 195, 196, 197, 198, 199, 200, 201] (by decide +kernel) (by decide +kernel)
set_option maxRecDepth 20000 in
theorem gX4_make_X4_handOut : GoodIn wsX4_make (wsV RX4 160 RX4 yX4_handOut wsX4_handOut) := goodIn_app (goodIn_of _ (by decide +kernel)) ggX4_make_X4_handOut
theorem dX4_make_0 : decode cX4_make 0 = .ok (.aload_n 0, 1) := by decide +kernel
theorem dX4_make_1 : decode cX4_make 1 = .ok (.iload_n 1, 1) := by decide +kernel
theorem dX4_make_2 : decode cX4_make 2 = .ok (.invokevirtual 55, 3) := by decide +kernel
theorem dX4_make_5 : decode cX4_make 5 = .ok (.astore_n 2, 1) := by decide +kernel
theorem dX4_make_6 : decode cX4_make 6 = .ok (.aload_n 0, 1) := by decide +kernel
theorem dX4_make_7 : decode cX4_make 7 = .ok (.getfield 143, 3) := by decide +kernel
theorem dX4_make_10 : decode cX4_make 10 = .ok (.bipush 30, 2) := by decide +kernel
theorem dX4_make_12 : decode cX4_make 12 = .ok (.if_icmp .lt 5, 3) := by decide +kernel
theorem dX4_make_15 : decode cX4_make 15 = .ok (.iconst (-1), 1) := by decide +kernel
theorem dX4_make_16 : decode cX4_make 16 = .ok (.ireturn, 1) := by decide +kernel
theorem dX4_make_17 : decode cX4_make 17 = .ok (.aload_n 0, 1) := by decide +kernel
theorem dX4_make_18 : decode cX4_make 18 = .ok (.aload_n 2, 1) := by decide +kernel
theorem dX4_make_19 : decode cX4_make 19 = .ok (.invokevirtual 134, 3) := by decide +kernel
theorem dX4_make_22 : decode cX4_make 22 = .ok (.istore_n 3, 1) := by decide +kernel
theorem dX4_make_23 : decode cX4_make 23 = .ok (.iload_n 3, 1) := by decide +kernel
theorem dX4_make_24 : decode cX4_make 24 = .ok (.ifCond .ne 5, 3) := by decide +kernel
theorem dX4_make_27 : decode cX4_make 27 = .ok (.iconst (-1), 1) := by decide +kernel
theorem dX4_make_28 : decode cX4_make 28 = .ok (.ireturn, 1) := by decide +kernel
theorem dX4_make_29 : decode cX4_make 29 = .ok (.new 21, 3) := by decide +kernel
theorem dX4_make_32 : decode cX4_make 32 = .ok (.dup, 1) := by decide +kernel
theorem dX4_make_33 : decode cX4_make 33 = .ok (.iload_n 1, 1) := by decide +kernel
theorem dX4_make_34 : decode cX4_make 34 = .ok (.aload_n 2, 1) := by decide +kernel
theorem dX4_make_35 : decode cX4_make 35 = .ok (.invokespecial 146, 3) := by decide +kernel
theorem dX4_make_38 : decode cX4_make 38 = .ok (.astore 4, 2) := by decide +kernel
theorem dX4_make_40 : decode cX4_make 40 = .ok (.aload_n 0, 1) := by decide +kernel
theorem dX4_make_41 : decode cX4_make 41 = .ok (.getfield 37, 3) := by decide +kernel
theorem dX4_make_44 : decode cX4_make 44 = .ok (.iload_n 3, 1) := by decide +kernel
theorem dX4_make_45 : decode cX4_make 45 = .ok (.aload_n 2, 1) := by decide +kernel
theorem dX4_make_46 : decode cX4_make 46 = .ok (.invokevirtual 149, 3) := by decide +kernel
theorem dX4_make_49 : decode cX4_make 49 = .ok (.aload_n 2, 1) := by decide +kernel
theorem dX4_make_50 : decode cX4_make 50 = .ok (.invokevirtual 153, 3) := by decide +kernel
theorem dX4_make_53 : decode cX4_make 53 = .ok (.invokevirtual 156, 3) := by decide +kernel
theorem dX4_make_56 : decode cX4_make 56 = .ok (.aload_n 0, 1) := by decide +kernel
theorem dX4_make_57 : decode cX4_make 57 = .ok (.aload 4, 2) := by decide +kernel
theorem dX4_make_59 : decode cX4_make 59 = .ok (.invokevirtual 160, 3) := by decide +kernel
theorem dX4_make_62 : decode cX4_make 62 = .ok (.aload_n 0, 1) := by decide +kernel
theorem dX4_make_63 : decode cX4_make 63 = .ok (.getfield 23, 3) := by decide +kernel
theorem dX4_make_66 : decode cX4_make 66 = .ok (.aload_n 0, 1) := by decide +kernel
theorem dX4_make_67 : decode cX4_make 67 = .ok (.getfield 143, 3) := by decide +kernel
theorem dX4_make_70 : decode cX4_make 70 = .ok (.aload 4, 2) := by decide +kernel
theorem dX4_make_72 : decode cX4_make 72 = .ok (.aastore, 1) := by decide +kernel
theorem dX4_make_73 : decode cX4_make 73 = .ok (.aload_n 0, 1) := by decide +kernel
theorem dX4_make_74 : decode cX4_make 74 = .ok (.dup, 1) := by decide +kernel
theorem dX4_make_75 : decode cX4_make 75 = .ok (.getfield 143, 3) := by decide +kernel
theorem dX4_make_78 : decode cX4_make 78 = .ok (.iconst 1, 1) := by decide +kernel
theorem dX4_make_79 : decode cX4_make 79 = .ok (.iadd, 1) := by decide +kernel
theorem dX4_make_80 : decode cX4_make 80 = .ok (.putfield 143, 3) := by decide +kernel
theorem dX4_make_83 : decode cX4_make 83 = .ok (.aload_n 0, 1) := by decide +kernel
theorem dX4_make_84 : decode cX4_make 84 = .ok (.getfield 143, 3) := by decide +kernel
theorem dX4_make_87 : decode cX4_make 87 = .ok (.iconst 1, 1) := by decide +kernel
theorem dX4_make_88 : decode cX4_make 88 = .ok (.isub, 1) := by decide +kernel
theorem dX4_make_89 : decode cX4_make 89 = .ok (.ireturn, 1) := by decide +kernel
set_option maxRecDepth 20000 in
theorem ggX4_stave_X4_caskAt : GoodIn wsX4_stave wsX4_caskAt := goodIn_ca (goodIn_r _ [10, 1, 2, 11, 43, 44, 45, 46, 47, 48, 49, 50, 51, 52, 53] (by decide +kernel) (by decide +kernel)) (goodIn_sub (fun _ h => List.mem_cons_of_mem _ (List.mem_append_right _ h)) (by decide +kernel))
set_option maxRecDepth 20000 in
theorem gX4_stave_X4_caskAt : GoodIn wsX4_stave (wsV RX4 164 RX4 yX4_caskAt wsX4_caskAt) := goodIn_app (goodIn_of _ (by decide +kernel)) ggX4_stave_X4_caskAt
set_option maxRecDepth 20000 in
theorem ggX4_stave_X4_checkStave : GoodIn wsX4_stave wsX4_checkStave := goodIn_ca (goodIn_r _ [14, 1, 2, 15, 54, 55, 56, 57] (by decide +kernel) (by decide +kernel)) (goodIn_sub (fun _ h => List.mem_cons_of_mem _ (List.mem_append_right _ h)) (by decide +kernel))
set_option maxRecDepth 20000 in
theorem gX4_stave_X4_checkStave : GoodIn wsX4_stave (va_wsS RX4 67 yX4_checkStave wsX4_checkStave) := goodIn_app (goodIn_of _ (by decide +kernel)) ggX4_stave_X4_checkStave
set_option maxRecDepth 20000 in
theorem ggX4_stave_X2_bilgeWidth : GoodIn wsX4_stave wsX2_bilgeWidth := goodIn_r _ [20, 21, 22, 23, 24, 19, 25, 26, 27, 28, 29, 30, 31, 32, 33, 9, 34, 54, 55, 56, 57] (by decide +kernel) (by decide +kernel)
set_option maxRecDepth 20000 in
theorem gX4_stave_X2_bilgeWidth : GoodIn wsX4_stave (wsV RX4 174 RX2 yX2_bilgeWidth wsX2_bilgeWidth) := goodIn_app (goodIn_of _ (by decide +kernel)) ggX4_stave_X2_bilgeWidth
theorem dX4_stave_0 : decode cX4_stave 0 = .ok (.aload_n 0, 1) := by decide +kernel
theorem dX4_stave_1 : decode cX4_stave 1 = .ok (.iload_n 1, 1) := by decide +kernel
theorem dX4_stave_2 : decode cX4_stave 2 = .ok (.invokevirtual 164, 3) := by decide +kernel
theorem dX4_stave_5 : decode cX4_stave 5 = .ok (.astore 4, 2) := by decide +kernel
theorem dX4_stave_7 : decode cX4_stave 7 = .ok (.aload 4, 2) := by decide +kernel
theorem dX4_stave_9 : decode cX4_stave 9 = .ok (.getfield 168, 3) := by decide +kernel
theorem dX4_stave_12 : decode cX4_stave 12 = .ok (.iload_n 2, 1) := by decide +kernel
theorem dX4_stave_13 : decode cX4_stave 13 = .ok (.invokestatic 67, 3) := by decide +kernel
theorem dX4_stave_16 : decode cX4_stave 16 = .ok (.iload_n 3, 1) := by decide +kernel
theorem dX4_stave_17 : decode cX4_stave 17 = .ok (.ifCond .lt 8, 3) := by decide +kernel
theorem dX4_stave_20 : decode cX4_stave 20 = .ok (.iload_n 3, 1) := by decide +kernel
theorem dX4_stave_21 : decode cX4_stave 21 = .ok (.iconst 2, 1) := by decide +kernel
theorem dX4_stave_22 : decode cX4_stave 22 = .ok (.if_icmp .le 13, 3) := by decide +kernel
theorem dX4_stave_25 : decode cX4_stave 25 = .ok (.new 125, 3) := by decide +kernel
theorem dX4_stave_28 : decode cX4_stave 28 = .ok (.dup, 1) := by decide +kernel
theorem dX4_stave_29 : decode cX4_stave 29 = .ok (.ldc 172, 2) := by decide +kernel
theorem dX4_stave_31 : decode cX4_stave 31 = .ok (.invokespecial 129, 3) := by decide +kernel
theorem dX4_stave_34 : decode cX4_stave 34 = .ok (.athrow, 1) := by decide +kernel
theorem dX4_stave_35 : decode cX4_stave 35 = .ok (.iload_n 3, 1) := by decide +kernel
theorem dX4_stave_36 : decode cX4_stave 36 = .ok (.iconst 2, 1) := by decide +kernel
theorem dX4_stave_37 : decode cX4_stave 37 = .ok (.if_icmp .ne 13, 3) := by decide +kernel
theorem dX4_stave_40 : decode cX4_stave 40 = .ok (.aload 4, 2) := by decide +kernel
theorem dX4_stave_42 : decode cX4_stave 42 = .ok (.getfield 168, 3) := by decide +kernel
theorem dX4_stave_45 : decode cX4_stave 45 = .ok (.iload_n 2, 1) := by decide +kernel
theorem dX4_stave_46 : decode cX4_stave 46 = .ok (.invokevirtual 174, 3) := by decide +kernel
theorem dX4_stave_49 : decode cX4_stave 49 = .ok (.ireturn, 1) := by decide +kernel
theorem dX4_stave_50 : decode cX4_stave 50 = .ok (.iload_n 3, 1) := by decide +kernel
theorem dX4_stave_51 : decode cX4_stave 51 = .ok (.ifCond .ne 13, 3) := by decide +kernel
theorem dX4_stave_54 : decode cX4_stave 54 = .ok (.aload 4, 2) := by decide +kernel
theorem dX4_stave_56 : decode cX4_stave 56 = .ok (.getfield 177, 3) := by decide +kernel
theorem dX4_stave_59 : decode cX4_stave 59 = .ok (.iload_n 2, 1) := by decide +kernel
theorem dX4_stave_60 : decode cX4_stave 60 = .ok (.iaload, 1) := by decide +kernel
theorem dX4_stave_61 : decode cX4_stave 61 = .ok (.goto 10, 3) := by decide +kernel
theorem dX4_stave_64 : decode cX4_stave 64 = .ok (.aload 4, 2) := by decide +kernel
theorem dX4_stave_66 : decode cX4_stave 66 = .ok (.getfield 180, 3) := by decide +kernel
theorem dX4_stave_69 : decode cX4_stave 69 = .ok (.iload_n 2, 1) := by decide +kernel
theorem dX4_stave_70 : decode cX4_stave 70 = .ok (.iaload, 1) := by decide +kernel
theorem dX4_stave_71 : decode cX4_stave 71 = .ok (.ireturn, 1) := by decide +kernel
set_option maxRecDepth 20000 in
theorem ggX4_formOf_X4_caskAt : GoodIn wsX4_formOf wsX4_caskAt := goodIn_ca (goodIn_r _ [6, 7, 8, 9, 18, 19, 20, 21, 22, 23, 24, 25, 26, 27, 28] (by decide +kernel) (by decide +kernel)) (goodIn_sub (fun _ h => List.mem_cons_of_mem _ (List.mem_append_right _ h)) (by decide +kernel))
set_option maxRecDepth 20000 in
theorem gX4_formOf_X4_caskAt : GoodIn wsX4_formOf (wsV RX4 164 RX4 yX4_caskAt wsX4_caskAt) := goodIn_app (goodIn_of _ (by decide +kernel)) ggX4_formOf_X4_caskAt
theorem dX4_formOf_0 : decode cX4_formOf 0 = .ok (.aload_n 0, 1) := by decide +kernel
theorem dX4_formOf_1 : decode cX4_formOf 1 = .ok (.iload_n 1, 1) := by decide +kernel
theorem dX4_formOf_2 : decode cX4_formOf 2 = .ok (.invokevirtual 164, 3) := by decide +kernel
theorem dX4_formOf_5 : decode cX4_formOf 5 = .ok (.getfield 183, 3) := by decide +kernel
theorem dX4_formOf_8 : decode cX4_formOf 8 = .ok (.ireturn, 1) := by decide +kernel
set_option maxRecDepth 20000 in
theorem ggX4_bars_X4_checkKind : GoodIn wsX4_bars wsX4_checkKind := goodIn_ca (goodIn_r _ [5, 6, 7] (by decide +kernel) (by decide +kernel)) (goodIn_sub (fun _ h => List.mem_cons_of_mem _ (List.mem_append_right _ h)) (by decide +kernel))
set_option maxRecDepth 20000 in
theorem gX4_bars_X4_checkKind : GoodIn wsX4_bars (va_wsS RX4 186 yX4_checkKind wsX4_checkKind) := goodIn_app (goodIn_of _ (by decide +kernel)) ggX4_bars_X4_checkKind
theorem dX4_bars_0 : decode cX4_bars 0 = .ok (.iload_n 1, 1) := by decide +kernel
theorem dX4_bars_1 : decode cX4_bars 1 = .ok (.invokestatic 186, 3) := by decide +kernel
theorem dX4_bars_4 : decode cX4_bars 4 = .ok (.iload_n 2, 1) := by decide +kernel
theorem dX4_bars_5 : decode cX4_bars 5 = .ok (.invokestatic 186, 3) := by decide +kernel
theorem dX4_bars_8 : decode cX4_bars 8 = .ok (.aload_n 0, 1) := by decide +kernel
theorem dX4_bars_9 : decode cX4_bars 9 = .ok (.getfield 27, 3) := by decide +kernel
theorem dX4_bars_12 : decode cX4_bars 12 = .ok (.iload_n 1, 1) := by decide +kernel
theorem dX4_bars_13 : decode cX4_bars 13 = .ok (.iaload, 1) := by decide +kernel
theorem dX4_bars_14 : decode cX4_bars 14 = .ok (.iload_n 2, 1) := by decide +kernel
theorem dX4_bars_15 : decode cX4_bars 15 = .ok (.ishr, 1) := by decide +kernel
theorem dX4_bars_16 : decode cX4_bars 16 = .ok (.iconst 1, 1) := by decide +kernel
theorem dX4_bars_17 : decode cX4_bars 17 = .ok (.iand, 1) := by decide +kernel
theorem dX4_bars_18 : decode cX4_bars 18 = .ok (.ifCond .eq 7, 3) := by decide +kernel
theorem dX4_bars_21 : decode cX4_bars 21 = .ok (.iconst 1, 1) := by decide +kernel
theorem dX4_bars_22 : decode cX4_bars 22 = .ok (.goto 4, 3) := by decide +kernel
theorem dX4_bars_25 : decode cX4_bars 25 = .ok (.iconst 0, 1) := by decide +kernel
theorem dX4_bars_26 : decode cX4_bars 26 = .ok (.istore 4, 2) := by decide +kernel
theorem dX4_bars_28 : decode cX4_bars 28 = .ok (.aload_n 0, 1) := by decide +kernel
theorem dX4_bars_29 : decode cX4_bars 29 = .ok (.getfield 27, 3) := by decide +kernel
theorem dX4_bars_32 : decode cX4_bars 32 = .ok (.iload_n 1, 1) := by decide +kernel
theorem dX4_bars_33 : decode cX4_bars 33 = .ok (.iload_n 3, 1) := by decide +kernel
theorem dX4_bars_34 : decode cX4_bars 34 = .ok (.ifCond .eq 16, 3) := by decide +kernel
theorem dX4_bars_37 : decode cX4_bars 37 = .ok (.aload_n 0, 1) := by decide +kernel
theorem dX4_bars_38 : decode cX4_bars 38 = .ok (.getfield 27, 3) := by decide +kernel
theorem dX4_bars_41 : decode cX4_bars 41 = .ok (.iload_n 1, 1) := by decide +kernel
theorem dX4_bars_42 : decode cX4_bars 42 = .ok (.iaload, 1) := by decide +kernel
theorem dX4_bars_43 : decode cX4_bars 43 = .ok (.iconst 1, 1) := by decide +kernel
theorem dX4_bars_44 : decode cX4_bars 44 = .ok (.iload_n 2, 1) := by decide +kernel
theorem dX4_bars_45 : decode cX4_bars 45 = .ok (.ishl, 1) := by decide +kernel
theorem dX4_bars_46 : decode cX4_bars 46 = .ok (.ior, 1) := by decide +kernel
theorem dX4_bars_47 : decode cX4_bars 47 = .ok (.goto 15, 3) := by decide +kernel
theorem dX4_bars_50 : decode cX4_bars 50 = .ok (.aload_n 0, 1) := by decide +kernel
theorem dX4_bars_51 : decode cX4_bars 51 = .ok (.getfield 27, 3) := by decide +kernel
theorem dX4_bars_54 : decode cX4_bars 54 = .ok (.iload_n 1, 1) := by decide +kernel
theorem dX4_bars_55 : decode cX4_bars 55 = .ok (.iaload, 1) := by decide +kernel
theorem dX4_bars_56 : decode cX4_bars 56 = .ok (.iconst 1, 1) := by decide +kernel
theorem dX4_bars_57 : decode cX4_bars 57 = .ok (.iload_n 2, 1) := by decide +kernel
theorem dX4_bars_58 : decode cX4_bars 58 = .ok (.ishl, 1) := by decide +kernel
theorem dX4_bars_59 : decode cX4_bars 59 = .ok (.iconst (-1), 1) := by decide +kernel
theorem dX4_bars_60 : decode cX4_bars 60 = .ok (.ixor, 1) := by decide +kernel
theorem dX4_bars_61 : decode cX4_bars 61 = .ok (.iand, 1) := by decide +kernel
theorem dX4_bars_62 : decode cX4_bars 62 = .ok (.iastore, 1) := by decide +kernel
theorem dX4_bars_63 : decode cX4_bars 63 = .ok (.iload 4, 2) := by decide +kernel
theorem dX4_bars_65 : decode cX4_bars 65 = .ok (.ireturn, 1) := by decide +kernel
set_option maxRecDepth 20000 in
theorem ggX4_may_X4_caskAt : GoodIn wsX4_may wsX4_caskAt := goodIn_ca (goodIn_r _ [5, 6, 7, 8, 27, 28, 29, 30, 31, 32, 33, 34, 35, 36, 37] (by decide +kernel) (by decide +kernel)) (goodIn_sub (fun _ h => List.mem_cons_of_mem _ (List.mem_append_left _ (List.mem_append_right _ h))) (by decide +kernel))
set_option maxRecDepth 20000 in
theorem gX4_may_X4_caskAt : GoodIn wsX4_may (wsV RX4 164 RX4 yX4_caskAt wsX4_caskAt) := goodIn_app (goodIn_of _ (by decide +kernel)) ggX4_may_X4_caskAt
set_option maxRecDepth 20000 in
theorem ggX4_may_X4_checkKind : GoodIn wsX4_may wsX4_checkKind := goodIn_ca (goodIn_r _ [11, 12, 13] (by decide +kernel) (by decide +kernel)) (goodIn_sub (fun _ h => List.mem_cons_of_mem _ (List.mem_append_right _ h)) (by decide +kernel))
set_option maxRecDepth 20000 in
theorem gX4_may_X4_checkKind : GoodIn wsX4_may (va_wsS RX4 186 yX4_checkKind wsX4_checkKind) := goodIn_app (goodIn_of _ (by decide +kernel)) ggX4_may_X4_checkKind
set_option maxRecDepth 20000 in
theorem ggX4_may_X4_isLet : GoodIn wsX4_may wsX4_isLet := goodIn_r _ [17, 18, 19, 20, 21, 22, 23, 24, 25, 26, 27, 28, 29, 30, 31, 32, 33, 34, 35, 36, 37, 38, 39, 40, 41, 42, 43, 44, 45, 46, 47, 48, 49] (by decide +kernel) (by decide +kernel)
set_option maxRecDepth 20000 in
theorem gX4_may_X4_isLet : GoodIn wsX4_may (wsV RX4 190 RX4 yX4_isLet wsX4_isLet) := goodIn_app (goodIn_of _ (by decide +kernel)) ggX4_may_X4_isLet
theorem dX4_may_0 : decode cX4_may 0 = .ok (.aload_n 0, 1) := by decide +kernel
theorem dX4_may_1 : decode cX4_may 1 = .ok (.iload_n 1, 1) := by decide +kernel
theorem dX4_may_2 : decode cX4_may 2 = .ok (.invokevirtual 164, 3) := by decide +kernel
theorem dX4_may_5 : decode cX4_may 5 = .ok (.astore_n 3, 1) := by decide +kernel
theorem dX4_may_6 : decode cX4_may 6 = .ok (.iload_n 2, 1) := by decide +kernel
theorem dX4_may_7 : decode cX4_may 7 = .ok (.invokestatic 186, 3) := by decide +kernel
theorem dX4_may_10 : decode cX4_may 10 = .ok (.aload_n 0, 1) := by decide +kernel
theorem dX4_may_11 : decode cX4_may 11 = .ok (.aload_n 3, 1) := by decide +kernel
theorem dX4_may_12 : decode cX4_may 12 = .ok (.iload_n 2, 1) := by decide +kernel
theorem dX4_may_13 : decode cX4_may 13 = .ok (.invokevirtual 190, 3) := by decide +kernel
theorem dX4_may_16 : decode cX4_may 16 = .ok (.ireturn, 1) := by decide +kernel
set_option maxRecDepth 20000 in
theorem ggX4_tell_X4_caskAt : GoodIn wsX4_tell wsX4_caskAt := goodIn_ca (goodIn_r _ [7, 8, 9, 10, 41, 42, 43, 44, 45, 46, 47, 48, 49, 50, 51] (by decide +kernel) (by decide +kernel)) (goodIn_sub (fun _ h => List.mem_cons_of_mem _ (List.mem_append_left _ (List.mem_append_right _ h))) (by decide +kernel))
set_option maxRecDepth 20000 in
theorem gX4_tell_X4_caskAt : GoodIn wsX4_tell (wsV RX4 164 RX4 yX4_caskAt wsX4_caskAt) := goodIn_app (goodIn_of _ (by decide +kernel)) ggX4_tell_X4_caskAt
set_option maxRecDepth 20000 in
theorem ggX4_tell_X4_checkKind : GoodIn wsX4_tell wsX4_checkKind := goodIn_ca (goodIn_r _ [13, 14, 15] (by decide +kernel) (by decide +kernel)) (goodIn_sub (fun _ h => List.mem_cons_of_mem _ (List.mem_append_right _ h)) (by decide +kernel))
set_option maxRecDepth 20000 in
theorem gX4_tell_X4_checkKind : GoodIn wsX4_tell (va_wsS RX4 186 yX4_checkKind wsX4_checkKind) := goodIn_app (goodIn_of _ (by decide +kernel)) ggX4_tell_X4_checkKind
set_option maxRecDepth 20000 in
theorem ggX4_tell_X4_isLet : GoodIn wsX4_tell wsX4_isLet := goodIn_r _ [19, 20, 21, 22, 23, 24, 25, 26, 27, 28, 41, 42, 43, 44, 45, 46, 47, 48, 49, 50, 51, 52, 53, 54, 55, 56, 57, 58, 59, 60, 61, 62, 63] (by decide +kernel) (by decide +kernel)
set_option maxRecDepth 20000 in
theorem gX4_tell_X4_isLet : GoodIn wsX4_tell (wsV RX4 190 RX4 yX4_isLet wsX4_isLet) := goodIn_app (goodIn_of _ (by decide +kernel)) ggX4_tell_X4_isLet
set_option maxRecDepth 20000 in
theorem ggX4_tell_X1_meet : GoodIn wsX4_tell wsX1_meet := goodIn_r _ [32, 26, 27, 28, 52, 53, 54, 55, 56, 57, 58, 59, 60, 61, 62, 63] (by decide +kernel) (by decide +kernel)
set_option maxRecDepth 20000 in
theorem gX4_tell_X1_meet : GoodIn wsX4_tell (wsV RX4 197 RX1 yX1_meet wsX1_meet) := goodIn_app (goodIn_of _ (by decide +kernel)) ggX4_tell_X1_meet
set_option maxRecDepth 20000 in
theorem ggX4_tell_X1_addEntry : GoodIn wsX4_tell wsX1_addEntry := goodIn_r _ [36, 37, 38, 39, 40, 52, 53, 54, 55, 56, 57, 58, 59] (by decide +kernel) (by decide +kernel)
set_option maxRecDepth 20000 in
theorem gX4_tell_X1_addEntry : GoodIn wsX4_tell (wsV RX4 200 RX1 yX1_addEntry wsX1_addEntry) := goodIn_app (goodIn_of _ (by decide +kernel)) ggX4_tell_X1_addEntry
theorem dX4_tell_0 : decode cX4_tell 0 = .ok (.aload_n 0, 1) := by decide +kernel
theorem dX4_tell_1 : decode cX4_tell 1 = .ok (.iload_n 1, 1) := by decide +kernel
theorem dX4_tell_2 : decode cX4_tell 2 = .ok (.invokevirtual 164, 3) := by decide +kernel
theorem dX4_tell_5 : decode cX4_tell 5 = .ok (.astore 4, 2) := by decide +kernel
theorem dX4_tell_7 : decode cX4_tell 7 = .ok (.iload_n 3, 1) := by decide +kernel
theorem dX4_tell_8 : decode cX4_tell 8 = .ok (.bipush 16, 2) := by decide +kernel
theorem dX4_tell_10 : decode cX4_tell 10 = .ok (.if_icmp .eq 7, 3) := by decide +kernel
theorem dX4_tell_13 : decode cX4_tell 13 = .ok (.iload_n 3, 1) := by decide +kernel
theorem dX4_tell_14 : decode cX4_tell 14 = .ok (.invokestatic 186, 3) := by decide +kernel
theorem dX4_tell_17 : decode cX4_tell 17 = .ok (.iload_n 2, 1) := by decide +kernel
theorem dX4_tell_18 : decode cX4_tell 18 = .ok (.ifCond .lt 21, 3) := by decide +kernel
theorem dX4_tell_21 : decode cX4_tell 21 = .ok (.iload_n 2, 1) := by decide +kernel
theorem dX4_tell_22 : decode cX4_tell 22 = .ok (.aload_n 0, 1) := by decide +kernel
theorem dX4_tell_23 : decode cX4_tell 23 = .ok (.getfield 88, 3) := by decide +kernel
theorem dX4_tell_26 : decode cX4_tell 26 = .ok (.if_icmp .gt 13, 3) := by decide +kernel
theorem dX4_tell_29 : decode cX4_tell 29 = .ok (.aload 4, 2) := by decide +kernel
theorem dX4_tell_31 : decode cX4_tell 31 = .ok (.getfield 194, 3) := by decide +kernel
theorem dX4_tell_34 : decode cX4_tell 34 = .ok (.bipush 40, 2) := by decide +kernel
theorem dX4_tell_36 : decode cX4_tell 36 = .ok (.if_icmp .lt 5, 3) := by decide +kernel
theorem dX4_tell_39 : decode cX4_tell 39 = .ok (.iconst (-1), 1) := by decide +kernel
theorem dX4_tell_40 : decode cX4_tell 40 = .ok (.ireturn, 1) := by decide +kernel
theorem dX4_tell_41 : decode cX4_tell 41 = .ok (.iload_n 3, 1) := by decide +kernel
theorem dX4_tell_42 : decode cX4_tell 42 = .ok (.bipush 16, 2) := by decide +kernel
theorem dX4_tell_44 : decode cX4_tell 44 = .ok (.if_icmp .eq 21, 3) := by decide +kernel
theorem dX4_tell_47 : decode cX4_tell 47 = .ok (.aload_n 0, 1) := by decide +kernel
theorem dX4_tell_48 : decode cX4_tell 48 = .ok (.aload 4, 2) := by decide +kernel
theorem dX4_tell_50 : decode cX4_tell 50 = .ok (.iload_n 3, 1) := by decide +kernel
theorem dX4_tell_51 : decode cX4_tell 51 = .ok (.invokevirtual 190, 3) := by decide +kernel
theorem dX4_tell_54 : decode cX4_tell 54 = .ok (.ifCond .ne 5, 3) := by decide +kernel
theorem dX4_tell_57 : decode cX4_tell 57 = .ok (.iconst (-1), 1) := by decide +kernel
theorem dX4_tell_58 : decode cX4_tell 58 = .ok (.ireturn, 1) := by decide +kernel
theorem dX4_tell_59 : decode cX4_tell 59 = .ok (.aload 4, 2) := by decide +kernel
theorem dX4_tell_61 : decode cX4_tell 61 = .ok (.iload_n 3, 1) := by decide +kernel
theorem dX4_tell_62 : decode cX4_tell 62 = .ok (.invokevirtual 197, 3) := by decide +kernel
theorem dX4_tell_65 : decode cX4_tell 65 = .ok (.aload 4, 2) := by decide +kernel
theorem dX4_tell_67 : decode cX4_tell 67 = .ok (.iload_n 2, 1) := by decide +kernel
theorem dX4_tell_68 : decode cX4_tell 68 = .ok (.aload_n 0, 1) := by decide +kernel
theorem dX4_tell_69 : decode cX4_tell 69 = .ok (.getfield 88, 3) := by decide +kernel
theorem dX4_tell_72 : decode cX4_tell 72 = .ok (.iload_n 3, 1) := by decide +kernel
theorem dX4_tell_73 : decode cX4_tell 73 = .ok (.invokevirtual 200, 3) := by decide +kernel
theorem dX4_tell_76 : decode cX4_tell 76 = .ok (.aload 4, 2) := by decide +kernel
theorem dX4_tell_78 : decode cX4_tell 78 = .ok (.getfield 194, 3) := by decide +kernel
theorem dX4_tell_81 : decode cX4_tell 81 = .ok (.ireturn, 1) := by decide +kernel
set_option maxRecDepth 20000 in
theorem ggX4_held_X4_caskAt : GoodIn wsX4_held wsX4_caskAt := goodIn_ca (goodIn_r _ [5, 6, 7, 8, 18, 19, 20, 21, 22, 23, 24, 25, 26, 27, 28] (by decide +kernel) (by decide +kernel)) (goodIn_sub (fun _ h => List.mem_cons_of_mem _ (List.mem_append_right _ h)) (by decide +kernel))
set_option maxRecDepth 20000 in
theorem gX4_held_X4_caskAt : GoodIn wsX4_held (wsV RX4 164 RX4 yX4_caskAt wsX4_caskAt) := goodIn_app (goodIn_of _ (by decide +kernel)) ggX4_held_X4_caskAt
set_option maxRecDepth 20000 in
theorem ggX4_held_X1_heldOn : GoodIn wsX4_held wsX1_heldOn := goodIn_r _ [13, 14, 15, 16, 17, 29, 30, 31, 32, 33, 34, 35, 36] (by decide +kernel) (by decide +kernel)
set_option maxRecDepth 20000 in
theorem gX4_held_X1_heldOn : GoodIn wsX4_held (wsV RX4 203 RX1 yX1_heldOn wsX1_heldOn) := goodIn_app (goodIn_of _ (by decide +kernel)) ggX4_held_X1_heldOn
theorem dX4_held_0 : decode cX4_held 0 = .ok (.aload_n 0, 1) := by decide +kernel
theorem dX4_held_1 : decode cX4_held 1 = .ok (.iload_n 1, 1) := by decide +kernel
theorem dX4_held_2 : decode cX4_held 2 = .ok (.invokevirtual 164, 3) := by decide +kernel
theorem dX4_held_5 : decode cX4_held 5 = .ok (.iload_n 2, 1) := by decide +kernel
theorem dX4_held_6 : decode cX4_held 6 = .ok (.iload_n 3, 1) := by decide +kernel
theorem dX4_held_7 : decode cX4_held 7 = .ok (.invokevirtual 203, 3) := by decide +kernel
theorem dX4_held_10 : decode cX4_held 10 = .ok (.ireturn, 1) := by decide +kernel
set_option maxRecDepth 20000 in
theorem ggX4_lacks_X4_caskAt : GoodIn wsX4_lacks wsX4_caskAt := goodIn_ca (goodIn_r _ [13, 14, 15, 16, 32, 33, 34, 35, 36, 37, 38, 39, 40, 41, 42] (by decide +kernel) (by decide +kernel)) (goodIn_sub (fun _ h => List.mem_cons_of_mem _ (List.mem_append_right _ h)) (by decide +kernel))
set_option maxRecDepth 20000 in
theorem gX4_lacks_X4_caskAt : GoodIn wsX4_lacks (wsV RX4 164 RX4 yX4_caskAt wsX4_caskAt) := goodIn_app (goodIn_of _ (by decide +kernel)) ggX4_lacks_X4_caskAt
set_option maxRecDepth 20000 in
theorem ggX4_lacks_X1_nextEntryDay : GoodIn wsX4_lacks wsX1_nextEntryDay := goodIn_r _ [21, 22, 23, 24, 25, 5, 6, 7, 43, 44, 45, 46, 47, 48, 49, 50] (by decide +kernel) (by decide +kernel)
set_option maxRecDepth 20000 in
theorem gX4_lacks_X1_nextEntryDay : GoodIn wsX4_lacks (wsV RX4 208 RX1 yX1_nextEntryDay wsX1_nextEntryDay) := goodIn_app (goodIn_of _ (by decide +kernel)) ggX4_lacks_X1_nextEntryDay
set_option maxRecDepth 20000 in
theorem ggX4_lacks_X1_heldOn : GoodIn wsX4_lacks wsX1_heldOn := goodIn_r _ [29, 23, 30, 24, 31, 43, 44, 45, 46, 47, 48, 49, 50] (by decide +kernel) (by decide +kernel)
set_option maxRecDepth 20000 in
theorem gX4_lacks_X1_heldOn : GoodIn wsX4_lacks (wsV RX4 203 RX1 yX1_heldOn wsX1_heldOn) := goodIn_app (goodIn_of _ (by decide +kernel)) ggX4_lacks_X1_heldOn
theorem dX4_lacks_0 : decode cX4_lacks 0 = .ok (.aload_n 0, 1) := by decide +kernel
theorem dX4_lacks_1 : decode cX4_lacks 1 = .ok (.iload_n 1, 1) := by decide +kernel
theorem dX4_lacks_2 : decode cX4_lacks 2 = .ok (.invokevirtual 164, 3) := by decide +kernel
theorem dX4_lacks_5 : decode cX4_lacks 5 = .ok (.astore 5, 2) := by decide +kernel
theorem dX4_lacks_7 : decode cX4_lacks 7 = .ok (.iload_n 2, 1) := by decide +kernel
theorem dX4_lacks_8 : decode cX4_lacks 8 = .ok (.ifCond .lt 25, 3) := by decide +kernel
theorem dX4_lacks_11 : decode cX4_lacks 11 = .ok (.iload_n 2, 1) := by decide +kernel
theorem dX4_lacks_12 : decode cX4_lacks 12 = .ok (.iload_n 3, 1) := by decide +kernel
theorem dX4_lacks_13 : decode cX4_lacks 13 = .ok (.if_icmp .gt 20, 3) := by decide +kernel
theorem dX4_lacks_16 : decode cX4_lacks 16 = .ok (.iload_n 3, 1) := by decide +kernel
theorem dX4_lacks_17 : decode cX4_lacks 17 = .ok (.ldc 87, 2) := by decide +kernel
theorem dX4_lacks_19 : decode cX4_lacks 19 = .ok (.if_icmp .gt 14, 3) := by decide +kernel
theorem dX4_lacks_22 : decode cX4_lacks 22 = .ok (.iload 4, 2) := by decide +kernel
theorem dX4_lacks_24 : decode cX4_lacks 24 = .ok (.ifCond .lt 9, 3) := by decide +kernel
theorem dX4_lacks_27 : decode cX4_lacks 27 = .ok (.iload 4, 2) := by decide +kernel
theorem dX4_lacks_29 : decode cX4_lacks 29 = .ok (.iconst 1, 1) := by decide +kernel
theorem dX4_lacks_30 : decode cX4_lacks 30 = .ok (.if_icmp .le 13, 3) := by decide +kernel
theorem dX4_lacks_33 : decode cX4_lacks 33 = .ok (.new 77, 3) := by decide +kernel
theorem dX4_lacks_36 : decode cX4_lacks 36 = .ok (.dup, 1) := by decide +kernel
theorem dX4_lacks_37 : decode cX4_lacks 37 = .ok (.ldc 206, 2) := by decide +kernel
theorem dX4_lacks_39 : decode cX4_lacks 39 = .ok (.invokespecial 81, 3) := by decide +kernel
theorem dX4_lacks_42 : decode cX4_lacks 42 = .ok (.athrow, 1) := by decide +kernel
theorem dX4_lacks_43 : decode cX4_lacks 43 = .ok (.iload 4, 2) := by decide +kernel
theorem dX4_lacks_45 : decode cX4_lacks 45 = .ok (.ifCond .ne 7, 3) := by decide +kernel
theorem dX4_lacks_48 : decode cX4_lacks 48 = .ok (.iconst (-1), 1) := by decide +kernel
theorem dX4_lacks_49 : decode cX4_lacks 49 = .ok (.goto 5, 3) := by decide +kernel
theorem dX4_lacks_52 : decode cX4_lacks 52 = .ok (.bipush 16, 2) := by decide +kernel
theorem dX4_lacks_54 : decode cX4_lacks 54 = .ok (.istore 6, 2) := by decide +kernel
theorem dX4_lacks_56 : decode cX4_lacks 56 = .ok (.iconst 0, 1) := by decide +kernel
theorem dX4_lacks_57 : decode cX4_lacks 57 = .ok (.istore 7, 2) := by decide +kernel
theorem dX4_lacks_59 : decode cX4_lacks 59 = .ok (.iload_n 2, 1) := by decide +kernel
theorem dX4_lacks_60 : decode cX4_lacks 60 = .ok (.istore 8, 2) := by decide +kernel
theorem dX4_lacks_62 : decode cX4_lacks 62 = .ok (.iconst 0, 1) := by decide +kernel
theorem dX4_lacks_63 : decode cX4_lacks 63 = .ok (.istore 9, 2) := by decide +kernel
theorem dX4_lacks_65 : decode cX4_lacks 65 = .ok (.iload 9, 2) := by decide +kernel
theorem dX4_lacks_67 : decode cX4_lacks 67 = .ok (.bipush 40, 2) := by decide +kernel
theorem dX4_lacks_69 : decode cX4_lacks 69 = .ok (.if_icmp .gt 60, 3) := by decide +kernel
theorem dX4_lacks_72 : decode cX4_lacks 72 = .ok (.iload 8, 2) := by decide +kernel
theorem dX4_lacks_74 : decode cX4_lacks 74 = .ok (.iload_n 3, 1) := by decide +kernel
theorem dX4_lacks_75 : decode cX4_lacks 75 = .ok (.if_icmp .gt 54, 3) := by decide +kernel
theorem dX4_lacks_78 : decode cX4_lacks 78 = .ok (.aload 5, 2) := by decide +kernel
theorem dX4_lacks_80 : decode cX4_lacks 80 = .ok (.iload 8, 2) := by decide +kernel
theorem dX4_lacks_82 : decode cX4_lacks 82 = .ok (.invokevirtual 208, 3) := by decide +kernel
theorem dX4_lacks_85 : decode cX4_lacks 85 = .ok (.iload_n 3, 1) := by decide +kernel
theorem dX4_lacks_86 : decode cX4_lacks 86 = .ok (.iconst 1, 1) := by decide +kernel
theorem dX4_lacks_87 : decode cX4_lacks 87 = .ok (.iadd, 1) := by decide +kernel
theorem dX4_lacks_88 : decode cX4_lacks 88 = .ok (.invokestatic 109, 3) := by decide +kernel
theorem dX4_lacks_91 : decode cX4_lacks 91 = .ok (.istore 10, 2) := by decide +kernel
theorem dX4_lacks_93 : decode cX4_lacks 93 = .ok (.aload 5, 2) := by decide +kernel
theorem dX4_lacks_95 : decode cX4_lacks 95 = .ok (.iload 8, 2) := by decide +kernel
theorem dX4_lacks_97 : decode cX4_lacks 97 = .ok (.aload_n 0, 1) := by decide +kernel
theorem dX4_lacks_98 : decode cX4_lacks 98 = .ok (.getfield 88, 3) := by decide +kernel
theorem dX4_lacks_101 : decode cX4_lacks 101 = .ok (.invokevirtual 203, 3) := by decide +kernel
theorem dX4_lacks_104 : decode cX4_lacks 104 = .ok (.iload 6, 2) := by decide +kernel
theorem dX4_lacks_106 : decode cX4_lacks 106 = .ok (.if_icmp .ne 13, 3) := by decide +kernel
theorem dX4_lacks_109 : decode cX4_lacks 109 = .ok (.iload 7, 2) := by decide +kernel
theorem dX4_lacks_111 : decode cX4_lacks 111 = .ok (.iload 10, 2) := by decide +kernel
theorem dX4_lacks_113 : decode cX4_lacks 113 = .ok (.iload 8, 2) := by decide +kernel
theorem dX4_lacks_115 : decode cX4_lacks 115 = .ok (.isub, 1) := by decide +kernel
theorem dX4_lacks_116 : decode cX4_lacks 116 = .ok (.iadd, 1) := by decide +kernel
theorem dX4_lacks_117 : decode cX4_lacks 117 = .ok (.istore 7, 2) := by decide +kernel
theorem dX4_lacks_119 : decode cX4_lacks 119 = .ok (.iload 10, 2) := by decide +kernel
theorem dX4_lacks_121 : decode cX4_lacks 121 = .ok (.istore 8, 2) := by decide +kernel
theorem dX4_lacks_123 : decode cX4_lacks 123 = .ok (.iinc 9 1, 3) := by decide +kernel
theorem dX4_lacks_126 : decode cX4_lacks 126 = .ok (.goto (-61), 3) := by decide +kernel
theorem dX4_lacks_129 : decode cX4_lacks 129 = .ok (.iload 7, 2) := by decide +kernel
theorem dX4_lacks_131 : decode cX4_lacks 131 = .ok (.ireturn, 1) := by decide +kernel
set_option maxRecDepth 20000 in
theorem ggX4_swap_X4_caskAt : GoodIn wsX4_swap wsX4_caskAt := goodIn_ca (goodIn_r _ [8, 9, 10, 11, 43, 44, 45, 46, 47, 48, 49, 50, 51, 52, 53] (by decide +kernel) (by decide +kernel)) (goodIn_sub (fun _ h => List.mem_cons_of_mem _ (List.mem_append_right _ h)) (by decide +kernel))
set_option maxRecDepth 20000 in
theorem gX4_swap_X4_caskAt : GoodIn wsX4_swap (wsV RX4 164 RX4 yX4_caskAt wsX4_caskAt) := goodIn_app (goodIn_of _ (by decide +kernel)) ggX4_swap_X4_caskAt
set_option maxRecDepth 20000 in
theorem ggX4_swap_X4_checkStave : GoodIn wsX4_swap wsX4_checkStave := goodIn_ca (goodIn_r _ [14, 9, 10, 15, 54, 55, 56, 57] (by decide +kernel) (by decide +kernel)) (goodIn_sub (fun _ h => List.mem_cons_of_mem _ (List.mem_append_right _ h)) (by decide +kernel))
set_option maxRecDepth 20000 in
theorem gX4_swap_X4_checkStave : GoodIn wsX4_swap (va_wsS RX4 67 yX4_checkStave wsX4_checkStave) := goodIn_app (goodIn_of _ (by decide +kernel)) ggX4_swap_X4_checkStave
set_option maxRecDepth 20000 in
theorem ggX4_swap_X2_bilgeWidth : GoodIn wsX4_swap wsX2_bilgeWidth := goodIn_r _ [20, 21, 22, 23, 24, 19, 25, 26, 27, 28, 29, 30, 31, 32, 33, 7, 34, 54, 55, 56, 57] (by decide +kernel) (by decide +kernel)
set_option maxRecDepth 20000 in
theorem gX4_swap_X2_bilgeWidth : GoodIn wsX4_swap (wsV RX4 174 RX2 yX2_bilgeWidth wsX2_bilgeWidth) := goodIn_app (goodIn_of _ (by decide +kernel)) ggX4_swap_X2_bilgeWidth
theorem dX4_swap_0 : decode cX4_swap 0 = .ok (.aload_n 0, 1) := by decide +kernel
theorem dX4_swap_1 : decode cX4_swap 1 = .ok (.iload_n 1, 1) := by decide +kernel
theorem dX4_swap_2 : decode cX4_swap 2 = .ok (.invokevirtual 164, 3) := by decide +kernel
theorem dX4_swap_5 : decode cX4_swap 5 = .ok (.astore 5, 2) := by decide +kernel
theorem dX4_swap_7 : decode cX4_swap 7 = .ok (.aload_n 0, 1) := by decide +kernel
theorem dX4_swap_8 : decode cX4_swap 8 = .ok (.iload_n 3, 1) := by decide +kernel
theorem dX4_swap_9 : decode cX4_swap 9 = .ok (.invokevirtual 164, 3) := by decide +kernel
theorem dX4_swap_12 : decode cX4_swap 12 = .ok (.astore 6, 2) := by decide +kernel
theorem dX4_swap_14 : decode cX4_swap 14 = .ok (.aload 5, 2) := by decide +kernel
theorem dX4_swap_16 : decode cX4_swap 16 = .ok (.getfield 168, 3) := by decide +kernel
theorem dX4_swap_19 : decode cX4_swap 19 = .ok (.iload_n 2, 1) := by decide +kernel
theorem dX4_swap_20 : decode cX4_swap 20 = .ok (.invokestatic 67, 3) := by decide +kernel
theorem dX4_swap_23 : decode cX4_swap 23 = .ok (.aload 6, 2) := by decide +kernel
theorem dX4_swap_25 : decode cX4_swap 25 = .ok (.getfield 168, 3) := by decide +kernel
theorem dX4_swap_28 : decode cX4_swap 28 = .ok (.iload 4, 2) := by decide +kernel
theorem dX4_swap_30 : decode cX4_swap 30 = .ok (.invokestatic 67, 3) := by decide +kernel
theorem dX4_swap_33 : decode cX4_swap 33 = .ok (.iload_n 1, 1) := by decide +kernel
theorem dX4_swap_34 : decode cX4_swap 34 = .ok (.iload_n 3, 1) := by decide +kernel
theorem dX4_swap_35 : decode cX4_swap 35 = .ok (.if_icmp .eq 25, 3) := by decide +kernel
theorem dX4_swap_38 : decode cX4_swap 38 = .ok (.aload 5, 2) := by decide +kernel
theorem dX4_swap_40 : decode cX4_swap 40 = .ok (.getfield 168, 3) := by decide +kernel
theorem dX4_swap_43 : decode cX4_swap 43 = .ok (.iload_n 2, 1) := by decide +kernel
theorem dX4_swap_44 : decode cX4_swap 44 = .ok (.invokevirtual 174, 3) := by decide +kernel
theorem dX4_swap_47 : decode cX4_swap 47 = .ok (.aload 6, 2) := by decide +kernel
theorem dX4_swap_49 : decode cX4_swap 49 = .ok (.getfield 168, 3) := by decide +kernel
theorem dX4_swap_52 : decode cX4_swap 52 = .ok (.iload 4, 2) := by decide +kernel
theorem dX4_swap_54 : decode cX4_swap 54 = .ok (.invokevirtual 174, 3) := by decide +kernel
theorem dX4_swap_57 : decode cX4_swap 57 = .ok (.if_icmp .eq 5, 3) := by decide +kernel
theorem dX4_swap_60 : decode cX4_swap 60 = .ok (.iconst 0, 1) := by decide +kernel
theorem dX4_swap_61 : decode cX4_swap 61 = .ok (.ireturn, 1) := by decide +kernel
theorem dX4_swap_62 : decode cX4_swap 62 = .ok (.aload 5, 2) := by decide +kernel
theorem dX4_swap_64 : decode cX4_swap 64 = .ok (.getfield 177, 3) := by decide +kernel
theorem dX4_swap_67 : decode cX4_swap 67 = .ok (.iload_n 2, 1) := by decide +kernel
theorem dX4_swap_68 : decode cX4_swap 68 = .ok (.iaload, 1) := by decide +kernel
theorem dX4_swap_69 : decode cX4_swap 69 = .ok (.istore 7, 2) := by decide +kernel
theorem dX4_swap_71 : decode cX4_swap 71 = .ok (.aload 5, 2) := by decide +kernel
theorem dX4_swap_73 : decode cX4_swap 73 = .ok (.getfield 180, 3) := by decide +kernel
theorem dX4_swap_76 : decode cX4_swap 76 = .ok (.iload_n 2, 1) := by decide +kernel
theorem dX4_swap_77 : decode cX4_swap 77 = .ok (.iaload, 1) := by decide +kernel
theorem dX4_swap_78 : decode cX4_swap 78 = .ok (.istore 8, 2) := by decide +kernel
theorem dX4_swap_80 : decode cX4_swap 80 = .ok (.aload 5, 2) := by decide +kernel
theorem dX4_swap_82 : decode cX4_swap 82 = .ok (.getfield 177, 3) := by decide +kernel
theorem dX4_swap_85 : decode cX4_swap 85 = .ok (.iload_n 2, 1) := by decide +kernel
theorem dX4_swap_86 : decode cX4_swap 86 = .ok (.aload 6, 2) := by decide +kernel
theorem dX4_swap_88 : decode cX4_swap 88 = .ok (.getfield 177, 3) := by decide +kernel
theorem dX4_swap_91 : decode cX4_swap 91 = .ok (.iload 4, 2) := by decide +kernel
theorem dX4_swap_93 : decode cX4_swap 93 = .ok (.iaload, 1) := by decide +kernel
theorem dX4_swap_94 : decode cX4_swap 94 = .ok (.iastore, 1) := by decide +kernel
theorem dX4_swap_95 : decode cX4_swap 95 = .ok (.aload 5, 2) := by decide +kernel
theorem dX4_swap_97 : decode cX4_swap 97 = .ok (.getfield 180, 3) := by decide +kernel
theorem dX4_swap_100 : decode cX4_swap 100 = .ok (.iload_n 2, 1) := by decide +kernel
theorem dX4_swap_101 : decode cX4_swap 101 = .ok (.aload 6, 2) := by decide +kernel
theorem dX4_swap_103 : decode cX4_swap 103 = .ok (.getfield 180, 3) := by decide +kernel
theorem dX4_swap_106 : decode cX4_swap 106 = .ok (.iload 4, 2) := by decide +kernel
theorem dX4_swap_108 : decode cX4_swap 108 = .ok (.iaload, 1) := by decide +kernel
theorem dX4_swap_109 : decode cX4_swap 109 = .ok (.iastore, 1) := by decide +kernel
theorem dX4_swap_110 : decode cX4_swap 110 = .ok (.aload 6, 2) := by decide +kernel
theorem dX4_swap_112 : decode cX4_swap 112 = .ok (.getfield 177, 3) := by decide +kernel
theorem dX4_swap_115 : decode cX4_swap 115 = .ok (.iload 4, 2) := by decide +kernel
theorem dX4_swap_117 : decode cX4_swap 117 = .ok (.iload 7, 2) := by decide +kernel
theorem dX4_swap_119 : decode cX4_swap 119 = .ok (.iastore, 1) := by decide +kernel
theorem dX4_swap_120 : decode cX4_swap 120 = .ok (.aload 6, 2) := by decide +kernel
theorem dX4_swap_122 : decode cX4_swap 122 = .ok (.getfield 180, 3) := by decide +kernel
theorem dX4_swap_125 : decode cX4_swap 125 = .ok (.iload 4, 2) := by decide +kernel
theorem dX4_swap_127 : decode cX4_swap 127 = .ok (.iload 8, 2) := by decide +kernel
theorem dX4_swap_129 : decode cX4_swap 129 = .ok (.iastore, 1) := by decide +kernel
theorem dX4_swap_130 : decode cX4_swap 130 = .ok (.iconst 1, 1) := by decide +kernel
theorem dX4_swap_131 : decode cX4_swap 131 = .ok (.ireturn, 1) := by decide +kernel
set_option maxRecDepth 20000 in
theorem ggX4_renew_X4_caskAt : GoodIn wsX4_renew wsX4_caskAt := goodIn_ca (goodIn_r _ [10, 11, 12, 13, 67, 68, 69, 70, 71, 72, 73, 74, 75, 76, 77] (by decide +kernel) (by decide +kernel)) (goodIn_sub (fun _ h => List.mem_cons_of_mem _ (List.mem_append_right _ h)) (by decide +kernel))
set_option maxRecDepth 20000 in
theorem gX4_renew_X4_caskAt : GoodIn wsX4_renew (wsV RX4 164 RX4 yX4_caskAt wsX4_caskAt) := goodIn_app (goodIn_of _ (by decide +kernel)) ggX4_renew_X4_caskAt
set_option maxRecDepth 20000 in
theorem ggX4_renew_X4_checkStave : GoodIn wsX4_renew wsX4_checkStave := goodIn_ca (goodIn_r _ [16, 11, 12, 17, 78, 79, 80, 81] (by decide +kernel) (by decide +kernel)) (goodIn_sub (fun _ h => List.mem_cons_of_mem _ (List.mem_append_right _ h)) (by decide +kernel))
set_option maxRecDepth 20000 in
theorem gX4_renew_X4_checkStave : GoodIn wsX4_renew (va_wsS RX4 67 yX4_checkStave wsX4_checkStave) := goodIn_app (goodIn_of _ (by decide +kernel)) ggX4_renew_X4_checkStave
set_option maxRecDepth 20000 in
theorem ggX4_renew_X2_bilgeWidth : GoodIn wsX4_renew wsX2_bilgeWidth := goodIn_r _ [22, 23, 24, 25, 26, 21, 27, 28, 29, 30, 31, 32, 33, 34, 35, 9, 36, 78, 79, 80, 81] (by decide +kernel) (by decide +kernel)
set_option maxRecDepth 20000 in
theorem gX4_renew_X2_bilgeWidth : GoodIn wsX4_renew (wsV RX4 174 RX2 yX2_bilgeWidth wsX2_bilgeWidth) := goodIn_app (goodIn_of _ (by decide +kernel)) ggX4_renew_X2_bilgeWidth
set_option maxRecDepth 20000 in
theorem ggX4_renew_X4_isRipe : GoodIn wsX4_renew wsX4_isRipe := goodIn_r _ [40, 41, 42, 67, 68, 69, 70, 71, 72, 73, 74, 75, 76, 77, 82, 83, 84, 85] (by decide +kernel) (by decide +kernel)
set_option maxRecDepth 20000 in
theorem gX4_renew_X4_isRipe : GoodIn wsX4_renew (wsV RX4 130 RX4 yX4_isRipe wsX4_isRipe) := goodIn_app (goodIn_of _ (by decide +kernel)) ggX4_renew_X4_isRipe
set_option maxRecDepth 20000 in
theorem ggX4_renew_X0_cutFirst : GoodIn wsX4_renew wsX0_cutFirst := goodIn_r _ [47, 48, 49, 50, 51, 52, 53, 46, 54, 55, 56, 57, 58, 82, 83, 84, 85] (by decide +kernel) (by decide +kernel)
set_option maxRecDepth 20000 in
theorem gX4_renew_X0_cutFirst : GoodIn wsX4_renew (wsV RX4 211 RX0 yX0_cutFirst wsX0_cutFirst) := goodIn_app (goodIn_of _ (by decide +kernel)) ggX4_renew_X0_cutFirst
theorem dX4_renew_0 : decode cX4_renew 0 = .ok (.aload_n 0, 1) := by decide +kernel
theorem dX4_renew_1 : decode cX4_renew 1 = .ok (.iload_n 1, 1) := by decide +kernel
theorem dX4_renew_2 : decode cX4_renew 2 = .ok (.invokevirtual 164, 3) := by decide +kernel
theorem dX4_renew_5 : decode cX4_renew 5 = .ok (.astore_n 3, 1) := by decide +kernel
theorem dX4_renew_6 : decode cX4_renew 6 = .ok (.aload_n 3, 1) := by decide +kernel
theorem dX4_renew_7 : decode cX4_renew 7 = .ok (.getfield 168, 3) := by decide +kernel
theorem dX4_renew_10 : decode cX4_renew 10 = .ok (.iload_n 2, 1) := by decide +kernel
theorem dX4_renew_11 : decode cX4_renew 11 = .ok (.invokestatic 67, 3) := by decide +kernel
theorem dX4_renew_14 : decode cX4_renew 14 = .ok (.aload_n 3, 1) := by decide +kernel
theorem dX4_renew_15 : decode cX4_renew 15 = .ok (.getfield 168, 3) := by decide +kernel
theorem dX4_renew_18 : decode cX4_renew 18 = .ok (.iload_n 2, 1) := by decide +kernel
theorem dX4_renew_19 : decode cX4_renew 19 = .ok (.invokevirtual 174, 3) := by decide +kernel
theorem dX4_renew_22 : decode cX4_renew 22 = .ok (.iconst 2, 1) := by decide +kernel
theorem dX4_renew_23 : decode cX4_renew 23 = .ok (.iadd, 1) := by decide +kernel
theorem dX4_renew_24 : decode cX4_renew 24 = .ok (.istore 4, 2) := by decide +kernel
theorem dX4_renew_26 : decode cX4_renew 26 = .ok (.iconst 0, 1) := by decide +kernel
theorem dX4_renew_27 : decode cX4_renew 27 = .ok (.istore 5, 2) := by decide +kernel
theorem dX4_renew_29 : decode cX4_renew 29 = .ok (.iload 5, 2) := by decide +kernel
theorem dX4_renew_31 : decode cX4_renew 31 = .ok (.aload_n 0, 1) := by decide +kernel
theorem dX4_renew_32 : decode cX4_renew 32 = .ok (.getfield 93, 3) := by decide +kernel
theorem dX4_renew_35 : decode cX4_renew 35 = .ok (.if_icmp .ge 60, 3) := by decide +kernel
theorem dX4_renew_38 : decode cX4_renew 38 = .ok (.aload_n 0, 1) := by decide +kernel
theorem dX4_renew_39 : decode cX4_renew 39 = .ok (.getfield 17, 3) := by decide +kernel
theorem dX4_renew_42 : decode cX4_renew 42 = .ok (.iload 5, 2) := by decide +kernel
theorem dX4_renew_44 : decode cX4_renew 44 = .ok (.aaload, 1) := by decide +kernel
theorem dX4_renew_45 : decode cX4_renew 45 = .ok (.astore 6, 2) := by decide +kernel
theorem dX4_renew_47 : decode cX4_renew 47 = .ok (.aload 6, 2) := by decide +kernel
theorem dX4_renew_49 : decode cX4_renew 49 = .ok (.ifnull 40, 3) := by decide +kernel
theorem dX4_renew_52 : decode cX4_renew 52 = .ok (.aload_n 0, 1) := by decide +kernel
theorem dX4_renew_53 : decode cX4_renew 53 = .ok (.aload 6, 2) := by decide +kernel
theorem dX4_renew_55 : decode cX4_renew 55 = .ok (.invokevirtual 130, 3) := by decide +kernel
theorem dX4_renew_58 : decode cX4_renew 58 = .ok (.ifCond .eq 31, 3) := by decide +kernel
theorem dX4_renew_61 : decode cX4_renew 61 = .ok (.aload 6, 2) := by decide +kernel
theorem dX4_renew_63 : decode cX4_renew 63 = .ok (.iload 4, 2) := by decide +kernel
theorem dX4_renew_65 : decode cX4_renew 65 = .ok (.invokevirtual 211, 3) := by decide +kernel
theorem dX4_renew_68 : decode cX4_renew 68 = .ok (.ifCond .eq 21, 3) := by decide +kernel
theorem dX4_renew_71 : decode cX4_renew 71 = .ok (.aload_n 3, 1) := by decide +kernel
theorem dX4_renew_72 : decode cX4_renew 72 = .ok (.getfield 177, 3) := by decide +kernel
theorem dX4_renew_75 : decode cX4_renew 75 = .ok (.iload_n 2, 1) := by decide +kernel
theorem dX4_renew_76 : decode cX4_renew 76 = .ok (.iload 5, 2) := by decide +kernel
theorem dX4_renew_78 : decode cX4_renew 78 = .ok (.iastore, 1) := by decide +kernel
theorem dX4_renew_79 : decode cX4_renew 79 = .ok (.aload_n 3, 1) := by decide +kernel
theorem dX4_renew_80 : decode cX4_renew 80 = .ok (.getfield 180, 3) := by decide +kernel
theorem dX4_renew_83 : decode cX4_renew 83 = .ok (.iload_n 2, 1) := by decide +kernel
theorem dX4_renew_84 : decode cX4_renew 84 = .ok (.iconst 0, 1) := by decide +kernel
theorem dX4_renew_85 : decode cX4_renew 85 = .ok (.iastore, 1) := by decide +kernel
theorem dX4_renew_86 : decode cX4_renew 86 = .ok (.iload 5, 2) := by decide +kernel
theorem dX4_renew_88 : decode cX4_renew 88 = .ok (.ireturn, 1) := by decide +kernel
theorem dX4_renew_89 : decode cX4_renew 89 = .ok (.iinc 5 1, 3) := by decide +kernel
theorem dX4_renew_92 : decode cX4_renew 92 = .ok (.goto (-63), 3) := by decide +kernel
theorem dX4_renew_95 : decode cX4_renew 95 = .ok (.iconst (-1), 1) := by decide +kernel
theorem dX4_renew_96 : decode cX4_renew 96 = .ok (.ireturn, 1) := by decide +kernel
set_option maxRecDepth 20000 in
theorem ggX4_weight_X4_checkKind : GoodIn wsX4_weight wsX4_checkKind := goodIn_ca (goodIn_r _ [7, 1, 2] (by decide +kernel) (by decide +kernel)) (goodIn_sub (fun _ h => List.mem_cons_of_mem _ (List.mem_append_right _ h)) (by decide +kernel))
set_option maxRecDepth 20000 in
theorem gX4_weight_X4_checkKind : GoodIn wsX4_weight (va_wsS RX4 186 yX4_checkKind wsX4_checkKind) := goodIn_app (goodIn_of _ (by decide +kernel)) ggX4_weight_X4_checkKind
theorem dX4_weight_0 : decode cX4_weight 0 = .ok (.iload_n 1, 1) := by decide +kernel
theorem dX4_weight_1 : decode cX4_weight 1 = .ok (.invokestatic 186, 3) := by decide +kernel
theorem dX4_weight_4 : decode cX4_weight 4 = .ok (.iload_n 2, 1) := by decide +kernel
theorem dX4_weight_5 : decode cX4_weight 5 = .ok (.iconst 1, 1) := by decide +kernel
theorem dX4_weight_6 : decode cX4_weight 6 = .ok (.if_icmp .lt 10, 3) := by decide +kernel
theorem dX4_weight_9 : decode cX4_weight 9 = .ok (.iload_n 2, 1) := by decide +kernel
theorem dX4_weight_10 : decode cX4_weight 10 = .ok (.sipush 5000, 3) := by decide +kernel
theorem dX4_weight_13 : decode cX4_weight 13 = .ok (.if_icmp .le 13, 3) := by decide +kernel
theorem dX4_weight_16 : decode cX4_weight 16 = .ok (.new 77, 3) := by decide +kernel
theorem dX4_weight_19 : decode cX4_weight 19 = .ok (.dup, 1) := by decide +kernel
theorem dX4_weight_20 : decode cX4_weight 20 = .ok (.ldc 215, 2) := by decide +kernel
theorem dX4_weight_22 : decode cX4_weight 22 = .ok (.invokespecial 81, 3) := by decide +kernel
theorem dX4_weight_25 : decode cX4_weight 25 = .ok (.athrow, 1) := by decide +kernel
theorem dX4_weight_26 : decode cX4_weight 26 = .ok (.aload_n 0, 1) := by decide +kernel
theorem dX4_weight_27 : decode cX4_weight 27 = .ok (.getfield 31, 3) := by decide +kernel
theorem dX4_weight_30 : decode cX4_weight 30 = .ok (.iload_n 1, 1) := by decide +kernel
theorem dX4_weight_31 : decode cX4_weight 31 = .ok (.iaload, 1) := by decide +kernel
theorem dX4_weight_32 : decode cX4_weight 32 = .ok (.istore_n 3, 1) := by decide +kernel
theorem dX4_weight_33 : decode cX4_weight 33 = .ok (.aload_n 0, 1) := by decide +kernel
theorem dX4_weight_34 : decode cX4_weight 34 = .ok (.getfield 31, 3) := by decide +kernel
theorem dX4_weight_37 : decode cX4_weight 37 = .ok (.iload_n 1, 1) := by decide +kernel
theorem dX4_weight_38 : decode cX4_weight 38 = .ok (.iload_n 2, 1) := by decide +kernel
theorem dX4_weight_39 : decode cX4_weight 39 = .ok (.iastore, 1) := by decide +kernel
theorem dX4_weight_40 : decode cX4_weight 40 = .ok (.iload_n 3, 1) := by decide +kernel
theorem dX4_weight_41 : decode cX4_weight 41 = .ok (.ireturn, 1) := by decide +kernel
set_option maxRecDepth 20000 in
theorem ggX4_weighs_X4_caskAt : GoodIn wsX4_weighs wsX4_caskAt := goodIn_ca (goodIn_r _ [10, 11, 12, 13, 60, 61, 62, 63, 64, 65, 66, 67, 68, 69, 70] (by decide +kernel) (by decide +kernel)) (goodIn_sub (fun _ h => List.mem_cons_of_mem _ (List.mem_append_left _ (List.mem_append_right _ h))) (by decide +kernel))
set_option maxRecDepth 20000 in
theorem gX4_weighs_X4_caskAt : GoodIn wsX4_weighs (wsV RX4 164 RX4 yX4_caskAt wsX4_caskAt) := goodIn_app (goodIn_of _ (by decide +kernel)) ggX4_weighs_X4_caskAt
set_option maxRecDepth 20000 in
theorem ggX4_weighs_X4_checkHeight : GoodIn wsX4_weighs wsX4_checkHeight := goodIn_ca (goodIn_r _ [16, 17, 18, 19, 71, 72, 73, 74] (by decide +kernel) (by decide +kernel)) (goodIn_sub (fun _ h => List.mem_cons_of_mem _ (List.mem_append_right _ h)) (by decide +kernel))
set_option maxRecDepth 20000 in
theorem gX4_weighs_X4_checkHeight : GoodIn wsX4_weighs (va_wsS RX4 59 yX4_checkHeight wsX4_checkHeight) := goodIn_app (goodIn_of _ (by decide +kernel)) ggX4_weighs_X4_checkHeight
set_option maxRecDepth 20000 in
theorem ggX4_weighs_X1_heldOn : GoodIn wsX4_weighs wsX1_heldOn := goodIn_r _ [24, 25, 26, 27, 28, 52, 53, 54, 55, 56, 57, 58, 59] (by decide +kernel) (by decide +kernel)
set_option maxRecDepth 20000 in
theorem gX4_weighs_X1_heldOn : GoodIn wsX4_weighs (wsV RX4 203 RX1 yX1_heldOn wsX1_heldOn) := goodIn_app (goodIn_of _ (by decide +kernel)) ggX4_weighs_X1_heldOn
set_option maxRecDepth 20000 in
theorem ggX4_weighs_X2_contentTo : GoodIn wsX4_weighs wsX2_contentTo := goodIn_r _ [33, 34, 35, 36, 32, 37, 38, 39, 40, 41, 42, 43, 44, 45, 9, 46, 47, 48, 49, 50, 51, 71, 72, 73, 74] (by decide +kernel) (by decide +kernel)
set_option maxRecDepth 20000 in
theorem gX4_weighs_X2_contentTo : GoodIn wsX4_weighs (wsV RX4 74 RX2 yX2_contentTo wsX2_contentTo) := goodIn_app (goodIn_of _ (by decide +kernel)) ggX4_weighs_X2_contentTo
theorem dX4_weighs_0 : decode cX4_weighs 0 = .ok (.aload_n 0, 1) := by decide +kernel
theorem dX4_weighs_1 : decode cX4_weighs 1 = .ok (.iload_n 1, 1) := by decide +kernel
theorem dX4_weighs_2 : decode cX4_weighs 2 = .ok (.invokevirtual 164, 3) := by decide +kernel
theorem dX4_weighs_5 : decode cX4_weighs 5 = .ok (.astore_n 3, 1) := by decide +kernel
theorem dX4_weighs_6 : decode cX4_weighs 6 = .ok (.aload_n 3, 1) := by decide +kernel
theorem dX4_weighs_7 : decode cX4_weighs 7 = .ok (.getfield 168, 3) := by decide +kernel
theorem dX4_weighs_10 : decode cX4_weighs 10 = .ok (.iload_n 2, 1) := by decide +kernel
theorem dX4_weighs_11 : decode cX4_weighs 11 = .ok (.invokestatic 59, 3) := by decide +kernel
theorem dX4_weighs_14 : decode cX4_weighs 14 = .ok (.aload_n 3, 1) := by decide +kernel
theorem dX4_weighs_15 : decode cX4_weighs 15 = .ok (.aload_n 0, 1) := by decide +kernel
theorem dX4_weighs_16 : decode cX4_weighs 16 = .ok (.getfield 88, 3) := by decide +kernel
theorem dX4_weighs_19 : decode cX4_weighs 19 = .ok (.aload_n 0, 1) := by decide +kernel
theorem dX4_weighs_20 : decode cX4_weighs 20 = .ok (.getfield 88, 3) := by decide +kernel
theorem dX4_weighs_23 : decode cX4_weighs 23 = .ok (.invokevirtual 203, 3) := by decide +kernel
theorem dX4_weighs_26 : decode cX4_weighs 26 = .ok (.istore 4, 2) := by decide +kernel
theorem dX4_weighs_28 : decode cX4_weighs 28 = .ok (.iload 4, 2) := by decide +kernel
theorem dX4_weighs_30 : decode cX4_weighs 30 = .ok (.ifCond .lt 10, 3) := by decide +kernel
theorem dX4_weighs_33 : decode cX4_weighs 33 = .ok (.iload 4, 2) := by decide +kernel
theorem dX4_weighs_35 : decode cX4_weighs 35 = .ok (.bipush 16, 2) := by decide +kernel
theorem dX4_weighs_37 : decode cX4_weighs 37 = .ok (.if_icmp .lt 7, 3) := by decide +kernel
theorem dX4_weighs_40 : decode cX4_weighs 40 = .ok (.ldc2_w 217, 3) := by decide +kernel
theorem dX4_weighs_43 : decode cX4_weighs 43 = .ok (.lreturn, 1) := by decide +kernel
theorem dX4_weighs_44 : decode cX4_weighs 44 = .ok (.aload_n 3, 1) := by decide +kernel
theorem dX4_weighs_45 : decode cX4_weighs 45 = .ok (.getfield 168, 3) := by decide +kernel
theorem dX4_weighs_48 : decode cX4_weighs 48 = .ok (.iload_n 2, 1) := by decide +kernel
theorem dX4_weighs_49 : decode cX4_weighs 49 = .ok (.invokevirtual 74, 3) := by decide +kernel
theorem dX4_weighs_52 : decode cX4_weighs 52 = .ok (.i2l, 1) := by decide +kernel
theorem dX4_weighs_53 : decode cX4_weighs 53 = .ok (.aload_n 0, 1) := by decide +kernel
theorem dX4_weighs_54 : decode cX4_weighs 54 = .ok (.getfield 31, 3) := by decide +kernel
theorem dX4_weighs_57 : decode cX4_weighs 57 = .ok (.iload 4, 2) := by decide +kernel
theorem dX4_weighs_59 : decode cX4_weighs 59 = .ok (.iaload, 1) := by decide +kernel
theorem dX4_weighs_60 : decode cX4_weighs 60 = .ok (.i2l, 1) := by decide +kernel
theorem dX4_weighs_61 : decode cX4_weighs 61 = .ok (.lmul, 1) := by decide +kernel
theorem dX4_weighs_62 : decode cX4_weighs 62 = .ok (.ldc2_w 219, 3) := by decide +kernel
theorem dX4_weighs_65 : decode cX4_weighs 65 = .ok (.ldiv, 1) := by decide +kernel
theorem dX4_weighs_66 : decode cX4_weighs 66 = .ok (.lreturn, 1) := by decide +kernel
theorem dX4_count_0 : decode cX4_count 0 = .ok (.iload_n 1, 1) := by decide +kernel
theorem dX4_count_1 : decode cX4_count 1 = .ok (.tableswitch 51 0 3 #[31, 36, 41, 46], 31) := by decide +kernel
theorem dX4_count_32 : decode cX4_count 32 = .ok (.aload_n 0, 1) := by decide +kernel
theorem dX4_count_33 : decode cX4_count 33 = .ok (.getfield 88, 3) := by decide +kernel
theorem dX4_count_36 : decode cX4_count 36 = .ok (.ireturn, 1) := by decide +kernel
theorem dX4_count_37 : decode cX4_count 37 = .ok (.aload_n 0, 1) := by decide +kernel
theorem dX4_count_38 : decode cX4_count 38 = .ok (.getfield 48, 3) := by decide +kernel
theorem dX4_count_41 : decode cX4_count 41 = .ok (.ireturn, 1) := by decide +kernel
theorem dX4_count_42 : decode cX4_count 42 = .ok (.aload_n 0, 1) := by decide +kernel
theorem dX4_count_43 : decode cX4_count 43 = .ok (.getfield 93, 3) := by decide +kernel
theorem dX4_count_46 : decode cX4_count 46 = .ok (.ireturn, 1) := by decide +kernel
theorem dX4_count_47 : decode cX4_count 47 = .ok (.aload_n 0, 1) := by decide +kernel
theorem dX4_count_48 : decode cX4_count 48 = .ok (.getfield 143, 3) := by decide +kernel
theorem dX4_count_51 : decode cX4_count 51 = .ok (.ireturn, 1) := by decide +kernel
theorem dX4_count_52 : decode cX4_count 52 = .ok (.new 125, 3) := by decide +kernel
theorem dX4_count_55 : decode cX4_count 55 = .ok (.dup, 1) := by decide +kernel
theorem dX4_count_56 : decode cX4_count 56 = .ok (.ldc 172, 2) := by decide +kernel
theorem dX4_count_58 : decode cX4_count 58 = .ok (.invokespecial 129, 3) := by decide +kernel
theorem dX4_count_61 : decode cX4_count 61 = .ok (.athrow, 1) := by decide +kernel
theorem dX4_formAt_0 : decode cX4_formAt 0 = .ok (.iload_n 1, 1) := by decide +kernel
theorem dX4_formAt_1 : decode cX4_formAt 1 = .ok (.ifCond .lt 9, 3) := by decide +kernel
theorem dX4_formAt_4 : decode cX4_formAt 4 = .ok (.iload_n 1, 1) := by decide +kernel
theorem dX4_formAt_5 : decode cX4_formAt 5 = .ok (.bipush 8, 2) := by decide +kernel
theorem dX4_formAt_7 : decode cX4_formAt 7 = .ok (.if_icmp .lt 7, 3) := by decide +kernel
theorem dX4_formAt_10 : decode cX4_formAt 10 = .ok (.aconst_null, 1) := by decide +kernel
theorem dX4_formAt_11 : decode cX4_formAt 11 = .ok (.goto 9, 3) := by decide +kernel
theorem dX4_formAt_14 : decode cX4_formAt 14 = .ok (.aload_n 0, 1) := by decide +kernel
theorem dX4_formAt_15 : decode cX4_formAt 15 = .ok (.getfield 11, 3) := by decide +kernel
theorem dX4_formAt_18 : decode cX4_formAt 18 = .ok (.iload_n 1, 1) := by decide +kernel
theorem dX4_formAt_19 : decode cX4_formAt 19 = .ok (.aaload, 1) := by decide +kernel
theorem dX4_formAt_20 : decode cX4_formAt 20 = .ok (.astore_n 2, 1) := by decide +kernel
theorem dX4_formAt_21 : decode cX4_formAt 21 = .ok (.aload_n 2, 1) := by decide +kernel
theorem dX4_formAt_22 : decode cX4_formAt 22 = .ok (.ifnonnull 13, 3) := by decide +kernel
theorem dX4_formAt_25 : decode cX4_formAt 25 = .ok (.new 125, 3) := by decide +kernel
theorem dX4_formAt_28 : decode cX4_formAt 28 = .ok (.dup, 1) := by decide +kernel
theorem dX4_formAt_29 : decode cX4_formAt 29 = .ok (.ldc 221, 2) := by decide +kernel
theorem dX4_formAt_31 : decode cX4_formAt 31 = .ok (.invokespecial 129, 3) := by decide +kernel
theorem dX4_formAt_34 : decode cX4_formAt 34 = .ok (.athrow, 1) := by decide +kernel
theorem dX4_formAt_35 : decode cX4_formAt 35 = .ok (.aload_n 2, 1) := by decide +kernel
theorem dX4_formAt_36 : decode cX4_formAt 36 = .ok (.areturn, 1) := by decide +kernel
theorem dX4_boltAt_0 : decode cX4_boltAt 0 = .ok (.iload_n 1, 1) := by decide +kernel
theorem dX4_boltAt_1 : decode cX4_boltAt 1 = .ok (.ifCond .lt 9, 3) := by decide +kernel
theorem dX4_boltAt_4 : decode cX4_boltAt 4 = .ok (.iload_n 1, 1) := by decide +kernel
theorem dX4_boltAt_5 : decode cX4_boltAt 5 = .ok (.bipush 40, 2) := by decide +kernel
theorem dX4_boltAt_7 : decode cX4_boltAt 7 = .ok (.if_icmp .lt 7, 3) := by decide +kernel
theorem dX4_boltAt_10 : decode cX4_boltAt 10 = .ok (.aconst_null, 1) := by decide +kernel
theorem dX4_boltAt_11 : decode cX4_boltAt 11 = .ok (.goto 9, 3) := by decide +kernel
theorem dX4_boltAt_14 : decode cX4_boltAt 14 = .ok (.aload_n 0, 1) := by decide +kernel
theorem dX4_boltAt_15 : decode cX4_boltAt 15 = .ok (.getfield 17, 3) := by decide +kernel
theorem dX4_boltAt_18 : decode cX4_boltAt 18 = .ok (.iload_n 1, 1) := by decide +kernel
theorem dX4_boltAt_19 : decode cX4_boltAt 19 = .ok (.aaload, 1) := by decide +kernel
theorem dX4_boltAt_20 : decode cX4_boltAt 20 = .ok (.astore_n 2, 1) := by decide +kernel
theorem dX4_boltAt_21 : decode cX4_boltAt 21 = .ok (.aload_n 2, 1) := by decide +kernel
theorem dX4_boltAt_22 : decode cX4_boltAt 22 = .ok (.ifnonnull 13, 3) := by decide +kernel
theorem dX4_boltAt_25 : decode cX4_boltAt 25 = .ok (.new 125, 3) := by decide +kernel
theorem dX4_boltAt_28 : decode cX4_boltAt 28 = .ok (.dup, 1) := by decide +kernel
theorem dX4_boltAt_29 : decode cX4_boltAt 29 = .ok (.ldc 223, 2) := by decide +kernel
theorem dX4_boltAt_31 : decode cX4_boltAt 31 = .ok (.invokespecial 129, 3) := by decide +kernel
theorem dX4_boltAt_34 : decode cX4_boltAt 34 = .ok (.athrow, 1) := by decide +kernel
theorem dX4_boltAt_35 : decode cX4_boltAt 35 = .ok (.aload_n 2, 1) := by decide +kernel
theorem dX4_boltAt_36 : decode cX4_boltAt 36 = .ok (.areturn, 1) := by decide +kernel
theorem dX4_caskAt_0 : decode cX4_caskAt 0 = .ok (.iload_n 1, 1) := by decide +kernel
theorem dX4_caskAt_1 : decode cX4_caskAt 1 = .ok (.ifCond .lt 9, 3) := by decide +kernel
theorem dX4_caskAt_4 : decode cX4_caskAt 4 = .ok (.iload_n 1, 1) := by decide +kernel
theorem dX4_caskAt_5 : decode cX4_caskAt 5 = .ok (.bipush 30, 2) := by decide +kernel
theorem dX4_caskAt_7 : decode cX4_caskAt 7 = .ok (.if_icmp .lt 7, 3) := by decide +kernel
theorem dX4_caskAt_10 : decode cX4_caskAt 10 = .ok (.aconst_null, 1) := by decide +kernel
theorem dX4_caskAt_11 : decode cX4_caskAt 11 = .ok (.goto 9, 3) := by decide +kernel
theorem dX4_caskAt_14 : decode cX4_caskAt 14 = .ok (.aload_n 0, 1) := by decide +kernel
theorem dX4_caskAt_15 : decode cX4_caskAt 15 = .ok (.getfield 23, 3) := by decide +kernel
theorem dX4_caskAt_18 : decode cX4_caskAt 18 = .ok (.iload_n 1, 1) := by decide +kernel
theorem dX4_caskAt_19 : decode cX4_caskAt 19 = .ok (.aaload, 1) := by decide +kernel
theorem dX4_caskAt_20 : decode cX4_caskAt 20 = .ok (.astore_n 2, 1) := by decide +kernel
theorem dX4_caskAt_21 : decode cX4_caskAt 21 = .ok (.aload_n 2, 1) := by decide +kernel
theorem dX4_caskAt_22 : decode cX4_caskAt 22 = .ok (.ifnonnull 13, 3) := by decide +kernel
theorem dX4_caskAt_25 : decode cX4_caskAt 25 = .ok (.new 125, 3) := by decide +kernel
theorem dX4_caskAt_28 : decode cX4_caskAt 28 = .ok (.dup, 1) := by decide +kernel
theorem dX4_caskAt_29 : decode cX4_caskAt 29 = .ok (.ldc 225, 2) := by decide +kernel
theorem dX4_caskAt_31 : decode cX4_caskAt 31 = .ok (.invokespecial 129, 3) := by decide +kernel
theorem dX4_caskAt_34 : decode cX4_caskAt 34 = .ok (.athrow, 1) := by decide +kernel
theorem dX4_caskAt_35 : decode cX4_caskAt 35 = .ok (.aload_n 2, 1) := by decide +kernel
theorem dX4_caskAt_36 : decode cX4_caskAt 36 = .ok (.areturn, 1) := by decide +kernel
theorem dX4_checkStave_0 : decode cX4_checkStave 0 = .ok (.iload_n 1, 1) := by decide +kernel
theorem dX4_checkStave_1 : decode cX4_checkStave 1 = .ok (.ifCond .lt 11, 3) := by decide +kernel
theorem dX4_checkStave_4 : decode cX4_checkStave 4 = .ok (.iload_n 1, 1) := by decide +kernel
theorem dX4_checkStave_5 : decode cX4_checkStave 5 = .ok (.aload_n 0, 1) := by decide +kernel
theorem dX4_checkStave_6 : decode cX4_checkStave 6 = .ok (.getfield 227, 3) := by decide +kernel
theorem dX4_checkStave_9 : decode cX4_checkStave 9 = .ok (.if_icmp .lt 13, 3) := by decide +kernel
theorem dX4_checkStave_12 : decode cX4_checkStave 12 = .ok (.new 125, 3) := by decide +kernel
theorem dX4_checkStave_15 : decode cX4_checkStave 15 = .ok (.dup, 1) := by decide +kernel
theorem dX4_checkStave_16 : decode cX4_checkStave 16 = .ok (.ldc 230, 2) := by decide +kernel
theorem dX4_checkStave_18 : decode cX4_checkStave 18 = .ok (.invokespecial 129, 3) := by decide +kernel
theorem dX4_checkStave_21 : decode cX4_checkStave 21 = .ok (.athrow, 1) := by decide +kernel
theorem dX4_checkStave_22 : decode cX4_checkStave 22 = .ok (.return_, 1) := by decide +kernel
theorem dX4_checkHeight_0 : decode cX4_checkHeight 0 = .ok (.iload_n 1, 1) := by decide +kernel
theorem dX4_checkHeight_1 : decode cX4_checkHeight 1 = .ok (.ifCond .lt 11, 3) := by decide +kernel
theorem dX4_checkHeight_4 : decode cX4_checkHeight 4 = .ok (.iload_n 1, 1) := by decide +kernel
theorem dX4_checkHeight_5 : decode cX4_checkHeight 5 = .ok (.aload_n 0, 1) := by decide +kernel
theorem dX4_checkHeight_6 : decode cX4_checkHeight 6 = .ok (.getfield 232, 3) := by decide +kernel
theorem dX4_checkHeight_9 : decode cX4_checkHeight 9 = .ok (.if_icmp .le 13, 3) := by decide +kernel
theorem dX4_checkHeight_12 : decode cX4_checkHeight 12 = .ok (.new 77, 3) := by decide +kernel
theorem dX4_checkHeight_15 : decode cX4_checkHeight 15 = .ok (.dup, 1) := by decide +kernel
theorem dX4_checkHeight_16 : decode cX4_checkHeight 16 = .ok (.ldc 235, 2) := by decide +kernel
theorem dX4_checkHeight_18 : decode cX4_checkHeight 18 = .ok (.invokespecial 81, 3) := by decide +kernel
theorem dX4_checkHeight_21 : decode cX4_checkHeight 21 = .ok (.athrow, 1) := by decide +kernel
theorem dX4_checkHeight_22 : decode cX4_checkHeight 22 = .ok (.return_, 1) := by decide +kernel
theorem dX4_checkKind_0 : decode cX4_checkKind 0 = .ok (.iload_n 0, 1) := by decide +kernel
theorem dX4_checkKind_1 : decode cX4_checkKind 1 = .ok (.ifCond .lt 9, 3) := by decide +kernel
theorem dX4_checkKind_4 : decode cX4_checkKind 4 = .ok (.iload_n 0, 1) := by decide +kernel
theorem dX4_checkKind_5 : decode cX4_checkKind 5 = .ok (.bipush 16, 2) := by decide +kernel
theorem dX4_checkKind_7 : decode cX4_checkKind 7 = .ok (.if_icmp .lt 13, 3) := by decide +kernel
theorem dX4_checkKind_10 : decode cX4_checkKind 10 = .ok (.new 77, 3) := by decide +kernel
theorem dX4_checkKind_13 : decode cX4_checkKind 13 = .ok (.dup, 1) := by decide +kernel
theorem dX4_checkKind_14 : decode cX4_checkKind 14 = .ok (.ldc 237, 2) := by decide +kernel
theorem dX4_checkKind_16 : decode cX4_checkKind 16 = .ok (.invokespecial 81, 3) := by decide +kernel
theorem dX4_checkKind_19 : decode cX4_checkKind 19 = .ok (.athrow, 1) := by decide +kernel
theorem dX4_checkKind_20 : decode cX4_checkKind 20 = .ok (.return_, 1) := by decide +kernel
theorem dX4_isRipe_0 : decode cX4_isRipe 0 = .ok (.aload_n 0, 1) := by decide +kernel
theorem dX4_isRipe_1 : decode cX4_isRipe 1 = .ok (.getfield 88, 3) := by decide +kernel
theorem dX4_isRipe_4 : decode cX4_isRipe 4 = .ok (.aload_n 1, 1) := by decide +kernel
theorem dX4_isRipe_5 : decode cX4_isRipe 5 = .ok (.getfield 239, 3) := by decide +kernel
theorem dX4_isRipe_8 : decode cX4_isRipe 8 = .ok (.isub, 1) := by decide +kernel
theorem dX4_isRipe_9 : decode cX4_isRipe 9 = .ok (.sipush 1095, 3) := by decide +kernel
theorem dX4_isRipe_12 : decode cX4_isRipe 12 = .ok (.if_icmp .lt 7, 3) := by decide +kernel
theorem dX4_isRipe_15 : decode cX4_isRipe 15 = .ok (.iconst 1, 1) := by decide +kernel
theorem dX4_isRipe_16 : decode cX4_isRipe 16 = .ok (.goto 4, 3) := by decide +kernel
theorem dX4_isRipe_19 : decode cX4_isRipe 19 = .ok (.iconst 0, 1) := by decide +kernel
theorem dX4_isRipe_20 : decode cX4_isRipe 20 = .ok (.ireturn, 1) := by decide +kernel
set_option maxRecDepth 20000 in
theorem ggX4_isLet_X1_wholePast : GoodIn wsX4_isLet wsX1_wholePast := goodIn_r _ [6, 7, 8, 9, 21, 22, 23, 24, 25, 26, 27, 28, 29, 30, 31, 32] (by decide +kernel) (by decide +kernel)
set_option maxRecDepth 20000 in
theorem gX4_isLet_X1_wholePast : GoodIn wsX4_isLet (wsV RX4 242 RX1 yX1_wholePast wsX1_wholePast) := goodIn_app (goodIn_of _ (by decide +kernel)) ggX4_isLet_X1_wholePast
theorem dX4_isLet_0 : decode cX4_isLet 0 = .ok (.aload_n 1, 1) := by decide +kernel
theorem dX4_isLet_1 : decode cX4_isLet 1 = .ok (.invokevirtual 242, 3) := by decide +kernel
theorem dX4_isLet_4 : decode cX4_isLet 4 = .ok (.istore_n 3, 1) := by decide +kernel
theorem dX4_isLet_5 : decode cX4_isLet 5 = .ok (.iconst 0, 1) := by decide +kernel
theorem dX4_isLet_6 : decode cX4_isLet 6 = .ok (.istore 4, 2) := by decide +kernel
theorem dX4_isLet_8 : decode cX4_isLet 8 = .ok (.iload 4, 2) := by decide +kernel
theorem dX4_isLet_10 : decode cX4_isLet 10 = .ok (.bipush 16, 2) := by decide +kernel
theorem dX4_isLet_12 : decode cX4_isLet 12 = .ok (.if_icmp .ge 34, 3) := by decide +kernel
theorem dX4_isLet_15 : decode cX4_isLet 15 = .ok (.iload_n 3, 1) := by decide +kernel
theorem dX4_isLet_16 : decode cX4_isLet 16 = .ok (.iload 4, 2) := by decide +kernel
theorem dX4_isLet_18 : decode cX4_isLet 18 = .ok (.ishr, 1) := by decide +kernel
theorem dX4_isLet_19 : decode cX4_isLet 19 = .ok (.iconst 1, 1) := by decide +kernel
theorem dX4_isLet_20 : decode cX4_isLet 20 = .ok (.iand, 1) := by decide +kernel
theorem dX4_isLet_21 : decode cX4_isLet 21 = .ok (.ifCond .eq 19, 3) := by decide +kernel
theorem dX4_isLet_24 : decode cX4_isLet 24 = .ok (.aload_n 0, 1) := by decide +kernel
theorem dX4_isLet_25 : decode cX4_isLet 25 = .ok (.getfield 27, 3) := by decide +kernel
theorem dX4_isLet_28 : decode cX4_isLet 28 = .ok (.iload 4, 2) := by decide +kernel
theorem dX4_isLet_30 : decode cX4_isLet 30 = .ok (.iaload, 1) := by decide +kernel
theorem dX4_isLet_31 : decode cX4_isLet 31 = .ok (.iload_n 2, 1) := by decide +kernel
theorem dX4_isLet_32 : decode cX4_isLet 32 = .ok (.ishr, 1) := by decide +kernel
theorem dX4_isLet_33 : decode cX4_isLet 33 = .ok (.iconst 1, 1) := by decide +kernel
theorem dX4_isLet_34 : decode cX4_isLet 34 = .ok (.iand, 1) := by decide +kernel
theorem dX4_isLet_35 : decode cX4_isLet 35 = .ok (.ifCond .eq 5, 3) := by decide +kernel
theorem dX4_isLet_38 : decode cX4_isLet 38 = .ok (.iconst 0, 1) := by decide +kernel
theorem dX4_isLet_39 : decode cX4_isLet 39 = .ok (.ireturn, 1) := by decide +kernel
theorem dX4_isLet_40 : decode cX4_isLet 40 = .ok (.iinc 4 1, 3) := by decide +kernel
theorem dX4_isLet_43 : decode cX4_isLet 43 = .ok (.goto (-35), 3) := by decide +kernel
theorem dX4_isLet_46 : decode cX4_isLet 46 = .ok (.iconst 1, 1) := by decide +kernel
theorem dX4_isLet_47 : decode cX4_isLet 47 = .ok (.ireturn, 1) := by decide +kernel
set_option maxRecDepth 20000 in
theorem ggX4_setFor_X2_narrowPiece : GoodIn wsX4_setFor wsX2_narrowPiece := goodIn_r _ [8, 9, 10, 11, 12, 13, 95, 96, 97, 98] (by decide +kernel) (by decide +kernel)
set_option maxRecDepth 20000 in
theorem gX4_setFor_X2_narrowPiece : GoodIn wsX4_setFor (wsV RX4 245 RX2 yX2_narrowPiece wsX2_narrowPiece) := goodIn_app (goodIn_of _ (by decide +kernel)) ggX4_setFor_X2_narrowPiece
set_option maxRecDepth 20000 in
theorem ggX4_setFor_X3_prepare : GoodIn wsX4_setFor wsX3_prepare := goodIn_r _ [18, 19, 20, 21, 99, 100, 101, 102, 103, 104, 105, 106, 107, 108, 109, 110, 111, 112] (by decide +kernel) (by decide +kernel)
set_option maxRecDepth 20000 in
theorem gX4_setFor_X3_prepare : GoodIn wsX4_setFor (wsV RX4 248 RX3 yX3_prepare wsX3_prepare) := goodIn_app (goodIn_of _ (by decide +kernel)) ggX4_setFor_X3_prepare
set_option maxRecDepth 20000 in
theorem ggX4_setFor_X4_isRipe : GoodIn wsX4_setFor wsX4_isRipe := goodIn_r _ [25, 26, 27, 84, 85, 86, 87, 88, 89, 90, 91, 92, 93, 94, 113, 114, 115, 116] (by decide +kernel) (by decide +kernel)
set_option maxRecDepth 20000 in
theorem gX4_setFor_X4_isRipe : GoodIn wsX4_setFor (wsV RX4 130 RX4 yX4_isRipe wsX4_isRipe) := goodIn_app (goodIn_of _ (by decide +kernel)) ggX4_setFor_X4_isRipe
set_option maxRecDepth 20000 in
theorem ggX4_setFor_X3_lay : GoodIn wsX4_setFor wsX3_lay := goodIn_r _ [31, 19, 32, 33, 34, 35, 36, 37, 38, 17, 39, 20, 21, 40, 41, 42, 43, 44, 45, 11, 12, 13, 46, 47, 48, 49, 50, 99, 100, 101, 102, 103, 104, 105, 106, 107, 108, 109, 110, 111, 112, 113, 114, 115, 116] (by decide +kernel) (by decide +kernel)
set_option maxRecDepth 20000 in
theorem gX4_setFor_X3_lay : GoodIn wsX4_setFor (wsV RX4 251 RX3 yX3_lay wsX3_lay) := goodIn_app (goodIn_of _ (by decide +kernel)) ggX4_setFor_X3_lay
set_option maxRecDepth 20000 in
theorem ggX4_setFor_X2_wides : GoodIn wsX4_setFor wsX2_wides := goodIn_r _ [54, 9, 10, 11, 12, 13, 95, 96, 97, 98] (by decide +kernel) (by decide +kernel)
set_option maxRecDepth 20000 in
theorem gX4_setFor_X2_wides : GoodIn wsX4_setFor (wsV RX4 149 RX2 yX2_wides wsX2_wides) := goodIn_app (goodIn_of _ (by decide +kernel)) ggX4_setFor_X2_wides
set_option maxRecDepth 20000 in
theorem ggX4_setFor_X2_narrows : GoodIn wsX4_setFor wsX2_narrows := goodIn_r _ [58, 10, 59, 52, 53, 7, 54, 9, 11, 12, 13, 95, 96, 97, 98] (by decide +kernel) (by decide +kernel)
set_option maxRecDepth 20000 in
theorem gX4_setFor_X2_narrows : GoodIn wsX4_setFor (wsV RX4 153 RX2 yX2_narrows wsX2_narrows) := goodIn_app (goodIn_of _ (by decide +kernel)) ggX4_setFor_X2_narrows
set_option maxRecDepth 20000 in
theorem ggX4_setFor_X3_fewestSet : GoodIn wsX4_setFor wsX3_fewestSet := goodIn_r _ [63, 19, 64, 65, 66, 17, 67, 20, 68, 40, 69, 70, 71, 72, 43, 50, 44, 45, 73, 74, 75, 76, 21, 77, 78, 79, 80, 81, 82, 83, 99, 100, 101, 102, 103, 104, 105, 106, 107, 108, 109, 110, 111, 112] (by decide +kernel) (by decide +kernel)
set_option maxRecDepth 20000 in
theorem gX4_setFor_X3_fewestSet : GoodIn wsX4_setFor (wsV RX4 255 RX3 yX3_fewestSet wsX3_fewestSet) := goodIn_app (goodIn_of _ (by decide +kernel)) ggX4_setFor_X3_fewestSet
theorem dX4_setFor_0 : decode cX4_setFor 0 = .ok (.aload_n 0, 1) := by decide +kernel
theorem dX4_setFor_1 : decode cX4_setFor 1 = .ok (.getfield 37, 3) := by decide +kernel
theorem dX4_setFor_4 : decode cX4_setFor 4 = .ok (.aload_n 1, 1) := by decide +kernel
theorem dX4_setFor_5 : decode cX4_setFor 5 = .ok (.invokevirtual 245, 3) := by decide +kernel
theorem dX4_setFor_8 : decode cX4_setFor 8 = .ok (.invokevirtual 248, 3) := by decide +kernel
theorem dX4_setFor_11 : decode cX4_setFor 11 = .ok (.iconst 0, 1) := by decide +kernel
theorem dX4_setFor_12 : decode cX4_setFor 12 = .ok (.istore_n 2, 1) := by decide +kernel
theorem dX4_setFor_13 : decode cX4_setFor 13 = .ok (.iload_n 2, 1) := by decide +kernel
theorem dX4_setFor_14 : decode cX4_setFor 14 = .ok (.aload_n 0, 1) := by decide +kernel
theorem dX4_setFor_15 : decode cX4_setFor 15 = .ok (.getfield 93, 3) := by decide +kernel
theorem dX4_setFor_18 : decode cX4_setFor 18 = .ok (.if_icmp .ge 37, 3) := by decide +kernel
theorem dX4_setFor_21 : decode cX4_setFor 21 = .ok (.aload_n 0, 1) := by decide +kernel
theorem dX4_setFor_22 : decode cX4_setFor 22 = .ok (.getfield 17, 3) := by decide +kernel
theorem dX4_setFor_25 : decode cX4_setFor 25 = .ok (.iload_n 2, 1) := by decide +kernel
theorem dX4_setFor_26 : decode cX4_setFor 26 = .ok (.aaload, 1) := by decide +kernel
theorem dX4_setFor_27 : decode cX4_setFor 27 = .ok (.astore_n 3, 1) := by decide +kernel
theorem dX4_setFor_28 : decode cX4_setFor 28 = .ok (.aload_n 3, 1) := by decide +kernel
theorem dX4_setFor_29 : decode cX4_setFor 29 = .ok (.ifnull 20, 3) := by decide +kernel
theorem dX4_setFor_32 : decode cX4_setFor 32 = .ok (.aload_n 0, 1) := by decide +kernel
theorem dX4_setFor_33 : decode cX4_setFor 33 = .ok (.aload_n 3, 1) := by decide +kernel
theorem dX4_setFor_34 : decode cX4_setFor 34 = .ok (.invokevirtual 130, 3) := by decide +kernel
theorem dX4_setFor_37 : decode cX4_setFor 37 = .ok (.ifCond .eq 12, 3) := by decide +kernel
theorem dX4_setFor_40 : decode cX4_setFor 40 = .ok (.aload_n 0, 1) := by decide +kernel
theorem dX4_setFor_41 : decode cX4_setFor 41 = .ok (.getfield 37, 3) := by decide +kernel
theorem dX4_setFor_44 : decode cX4_setFor 44 = .ok (.aload_n 3, 1) := by decide +kernel
theorem dX4_setFor_45 : decode cX4_setFor 45 = .ok (.iload_n 2, 1) := by decide +kernel
theorem dX4_setFor_46 : decode cX4_setFor 46 = .ok (.invokevirtual 251, 3) := by decide +kernel
theorem dX4_setFor_49 : decode cX4_setFor 49 = .ok (.iinc 2 1, 3) := by decide +kernel
theorem dX4_setFor_52 : decode cX4_setFor 52 = .ok (.goto (-39), 3) := by decide +kernel
theorem dX4_setFor_55 : decode cX4_setFor 55 = .ok (.aload_n 0, 1) := by decide +kernel
theorem dX4_setFor_56 : decode cX4_setFor 56 = .ok (.getfield 37, 3) := by decide +kernel
theorem dX4_setFor_59 : decode cX4_setFor 59 = .ok (.aload_n 1, 1) := by decide +kernel
theorem dX4_setFor_60 : decode cX4_setFor 60 = .ok (.invokevirtual 149, 3) := by decide +kernel
theorem dX4_setFor_63 : decode cX4_setFor 63 = .ok (.aload_n 1, 1) := by decide +kernel
theorem dX4_setFor_64 : decode cX4_setFor 64 = .ok (.invokevirtual 153, 3) := by decide +kernel
theorem dX4_setFor_67 : decode cX4_setFor 67 = .ok (.invokevirtual 255, 3) := by decide +kernel
theorem dX4_setFor_70 : decode cX4_setFor 70 = .ok (.ireturn, 1) := by decide +kernel
set_option maxRecDepth 20000 in
theorem ggX4_handOut_X1_takePieces : GoodIn wsX4_handOut wsX1_takePieces := goodIn_r _ [10, 11, 12, 13, 14, 15, 16, 17, 18, 19, 20, 21, 22, 23, 24, 25, 26, 27, 28, 29, 30, 31, 32, 33, 34, 35, 36, 37, 38, 39, 40, 41, 67, 68, 69, 70, 71, 72, 73, 74, 75, 76, 77, 78] (by decide +kernel) (by decide +kernel)
set_option maxRecDepth 20000 in
theorem gX4_handOut_X1_takePieces : GoodIn wsX4_handOut (wsV RX4 265 RX1 yX1_takePieces wsX1_takePieces) := goodIn_app (goodIn_of _ (by decide +kernel)) ggX4_handOut_X1_takePieces
theorem dX4_handOut_0 : decode cX4_handOut 0 = .ok (.iconst 0, 1) := by decide +kernel
theorem dX4_handOut_1 : decode cX4_handOut 1 = .ok (.istore_n 2, 1) := by decide +kernel
theorem dX4_handOut_2 : decode cX4_handOut 2 = .ok (.iconst 0, 1) := by decide +kernel
theorem dX4_handOut_3 : decode cX4_handOut 3 = .ok (.istore_n 3, 1) := by decide +kernel
theorem dX4_handOut_4 : decode cX4_handOut 4 = .ok (.iconst 0, 1) := by decide +kernel
theorem dX4_handOut_5 : decode cX4_handOut 5 = .ok (.istore 4, 2) := by decide +kernel
theorem dX4_handOut_7 : decode cX4_handOut 7 = .ok (.iload 4, 2) := by decide +kernel
theorem dX4_handOut_9 : decode cX4_handOut 9 = .ok (.aload_n 0, 1) := by decide +kernel
theorem dX4_handOut_10 : decode cX4_handOut 10 = .ok (.getfield 37, 3) := by decide +kernel
theorem dX4_handOut_13 : decode cX4_handOut 13 = .ok (.getfield 258, 3) := by decide +kernel
theorem dX4_handOut_16 : decode cX4_handOut 16 = .ok (.if_icmp .ge 63, 3) := by decide +kernel
theorem dX4_handOut_19 : decode cX4_handOut 19 = .ok (.aload_n 1, 1) := by decide +kernel
theorem dX4_handOut_20 : decode cX4_handOut 20 = .ok (.aload_n 0, 1) := by decide +kernel
theorem dX4_handOut_21 : decode cX4_handOut 21 = .ok (.getfield 37, 3) := by decide +kernel
theorem dX4_handOut_24 : decode cX4_handOut 24 = .ok (.getfield 259, 3) := by decide +kernel
theorem dX4_handOut_27 : decode cX4_handOut 27 = .ok (.iload 4, 2) := by decide +kernel
theorem dX4_handOut_29 : decode cX4_handOut 29 = .ok (.iaload, 1) := by decide +kernel
theorem dX4_handOut_30 : decode cX4_handOut 30 = .ok (.iconst 1, 1) := by decide +kernel
theorem dX4_handOut_31 : decode cX4_handOut 31 = .ok (.iload_n 2, 1) := by decide +kernel
theorem dX4_handOut_32 : decode cX4_handOut 32 = .ok (.aload_n 0, 1) := by decide +kernel
theorem dX4_handOut_33 : decode cX4_handOut 33 = .ok (.getfield 37, 3) := by decide +kernel
theorem dX4_handOut_36 : decode cX4_handOut 36 = .ok (.getfield 262, 3) := by decide +kernel
theorem dX4_handOut_39 : decode cX4_handOut 39 = .ok (.iload 4, 2) := by decide +kernel
theorem dX4_handOut_41 : decode cX4_handOut 41 = .ok (.iaload, 1) := by decide +kernel
theorem dX4_handOut_42 : decode cX4_handOut 42 = .ok (.invokevirtual 265, 3) := by decide +kernel
theorem dX4_handOut_45 : decode cX4_handOut 45 = .ok (.istore_n 2, 1) := by decide +kernel
theorem dX4_handOut_46 : decode cX4_handOut 46 = .ok (.aload_n 1, 1) := by decide +kernel
theorem dX4_handOut_47 : decode cX4_handOut 47 = .ok (.aload_n 0, 1) := by decide +kernel
theorem dX4_handOut_48 : decode cX4_handOut 48 = .ok (.getfield 37, 3) := by decide +kernel
theorem dX4_handOut_51 : decode cX4_handOut 51 = .ok (.getfield 269, 3) := by decide +kernel
theorem dX4_handOut_54 : decode cX4_handOut 54 = .ok (.iload 4, 2) := by decide +kernel
theorem dX4_handOut_56 : decode cX4_handOut 56 = .ok (.iaload, 1) := by decide +kernel
theorem dX4_handOut_57 : decode cX4_handOut 57 = .ok (.iconst 0, 1) := by decide +kernel
theorem dX4_handOut_58 : decode cX4_handOut 58 = .ok (.iload_n 3, 1) := by decide +kernel
theorem dX4_handOut_59 : decode cX4_handOut 59 = .ok (.aload_n 0, 1) := by decide +kernel
theorem dX4_handOut_60 : decode cX4_handOut 60 = .ok (.getfield 37, 3) := by decide +kernel
theorem dX4_handOut_63 : decode cX4_handOut 63 = .ok (.getfield 262, 3) := by decide +kernel
theorem dX4_handOut_66 : decode cX4_handOut 66 = .ok (.iload 4, 2) := by decide +kernel
theorem dX4_handOut_68 : decode cX4_handOut 68 = .ok (.iaload, 1) := by decide +kernel
theorem dX4_handOut_69 : decode cX4_handOut 69 = .ok (.invokevirtual 265, 3) := by decide +kernel
theorem dX4_handOut_72 : decode cX4_handOut 72 = .ok (.istore_n 3, 1) := by decide +kernel
theorem dX4_handOut_73 : decode cX4_handOut 73 = .ok (.iinc 4 1, 3) := by decide +kernel
theorem dX4_handOut_76 : decode cX4_handOut 76 = .ok (.goto (-69), 3) := by decide +kernel
theorem dX4_handOut_79 : decode cX4_handOut 79 = .ok (.return_, 1) := by decide +kernel
theorem dX4_parted_0 : decode cX4_parted 0 = .ok (.iload_n 1, 1) := by decide +kernel
theorem dX4_parted_1 : decode cX4_parted 1 = .ok (.ifCond .gt 7, 3) := by decide +kernel
theorem dX4_parted_4 : decode cX4_parted 4 = .ok (.iconst 0, 1) := by decide +kernel
theorem dX4_parted_5 : decode cX4_parted 5 = .ok (.goto 6, 3) := by decide +kernel
theorem dX4_parted_8 : decode cX4_parted 8 = .ok (.iload_n 0, 1) := by decide +kernel
theorem dX4_parted_9 : decode cX4_parted 9 = .ok (.iload_n 1, 1) := by decide +kernel
theorem dX4_parted_10 : decode cX4_parted 10 = .ok (.idiv, 1) := by decide +kernel
theorem dX4_parted_11 : decode cX4_parted 11 = .ok (.ireturn, 1) := by decide +kernel
