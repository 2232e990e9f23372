set_option maxRecDepth 20000 in
theorem ggL_girth_X4_girth : GoodIn wsL_girth wsX4_girth := goodIn_ca (goodIn_ca (goodIn_r _ [7, 8, 9, 10, 6, 11, 12, 13, 14, 15, 16, 17, 18, 19, 20, 21, 22, 23, 24, 25, 26, 27, 28, 29, 30, 31, 32, 33, 34, 35, 36, 37, 38, 39, 40, 41, 42, 43, 44, 45] (by decide +kernel) (by decide +kernel)) (goodIn_sub (fun _ h => List.mem_cons_of_mem _ (List.mem_append_left _ (List.mem_append_right _ h))) (by decide +kernel))) (goodIn_sub (fun _ h => List.mem_cons_of_mem _ (List.mem_append_right _ h)) (by decide +kernel))
set_option maxRecDepth 20000 in
theorem gL_girth_X4_girth : GoodIn wsL_girth (wsV RL 7 RX4 yX4_girth wsX4_girth) := goodIn_app (goodIn_of _ (by decide +kernel)) ggL_girth_X4_girth
theorem dL_girth_0 : decode cL_girth 0 = .ok (.aload_n 3, 1) := by decide +kernel
theorem dL_girth_1 : decode cL_girth 1 = .ok (.iconst 0, 1) := by decide +kernel
theorem dL_girth_2 : decode cL_girth 2 = .ok (.aload_n 0, 1) := by decide +kernel
theorem dL_girth_3 : decode cL_girth 3 = .ok (.iload_n 1, 1) := by decide +kernel
theorem dL_girth_4 : decode cL_girth 4 = .ok (.iload_n 2, 1) := by decide +kernel
theorem dL_girth_5 : decode cL_girth 5 = .ok (.invokevirtual 7, 3) := by decide +kernel
theorem dL_girth_8 : decode cL_girth 8 = .ok (.i2l, 1) := by decide +kernel
theorem dL_girth_9 : decode cL_girth 9 = .ok (.lastore, 1) := by decide +kernel
theorem dL_girth_10 : decode cL_girth 10 = .ok (.goto 11, 3) := by decide +kernel
theorem dL_girth_13 : decode cL_girth 13 = .ok (.astore 4, 2) := by decide +kernel
theorem dL_girth_15 : decode cL_girth 15 = .ok (.iconst 1, 1) := by decide +kernel
theorem dL_girth_16 : decode cL_girth 16 = .ok (.ireturn, 1) := by decide +kernel
theorem dL_girth_17 : decode cL_girth 17 = .ok (.astore 4, 2) := by decide +kernel
theorem dL_girth_19 : decode cL_girth 19 = .ok (.iconst 2, 1) := by decide +kernel
theorem dL_girth_20 : decode cL_girth 20 = .ok (.ireturn, 1) := by decide +kernel
theorem dL_girth_21 : decode cL_girth 21 = .ok (.iconst 0, 1) := by decide +kernel
theorem dL_girth_22 : decode cL_girth 22 = .ok (.ireturn, 1) := by decide +kernel
set_option maxRecDepth 20000 in
theorem ggL_width_X4_width : GoodIn wsL_width wsX4_width := goodIn_ca (goodIn_ca (goodIn_r _ [7, 8, 9, 10, 6, 11, 12, 13, 14, 15, 16, 17, 18, 19, 20, 21, 22, 23, 24, 25, 26, 27, 28, 29, 30, 31, 32, 33, 34, 35, 36, 37, 38, 39, 40, 41, 42, 43, 44, 45, 46, 47, 48, 49, 50, 51, 52, 53, 54] (by decide +kernel) (by decide +kernel)) (goodIn_sub (fun _ h => List.mem_cons_of_mem _ (List.mem_append_left _ (List.mem_append_right _ h))) (by decide +kernel))) (goodIn_sub (fun _ h => List.mem_cons_of_mem _ (List.mem_append_right _ h)) (by decide +kernel))
set_option maxRecDepth 20000 in
theorem gL_width_X4_width : GoodIn wsL_width (wsV RL 17 RX4 yX4_width wsX4_width) := goodIn_app (goodIn_of _ (by decide +kernel)) ggL_width_X4_width
theorem dL_width_0 : decode cL_width 0 = .ok (.aload 4, 2) := by decide +kernel
theorem dL_width_2 : decode cL_width 2 = .ok (.iconst 0, 1) := by decide +kernel
theorem dL_width_3 : decode cL_width 3 = .ok (.aload_n 0, 1) := by decide +kernel
theorem dL_width_4 : decode cL_width 4 = .ok (.iload_n 1, 1) := by decide +kernel
theorem dL_width_5 : decode cL_width 5 = .ok (.iload_n 2, 1) := by decide +kernel
theorem dL_width_6 : decode cL_width 6 = .ok (.iload_n 3, 1) := by decide +kernel
theorem dL_width_7 : decode cL_width 7 = .ok (.invokevirtual 17, 3) := by decide +kernel
theorem dL_width_10 : decode cL_width 10 = .ok (.i2l, 1) := by decide +kernel
theorem dL_width_11 : decode cL_width 11 = .ok (.lastore, 1) := by decide +kernel
theorem dL_width_12 : decode cL_width 12 = .ok (.goto 11, 3) := by decide +kernel
theorem dL_width_15 : decode cL_width 15 = .ok (.astore 5, 2) := by decide +kernel
theorem dL_width_17 : decode cL_width 17 = .ok (.iconst 1, 1) := by decide +kernel
theorem dL_width_18 : decode cL_width 18 = .ok (.ireturn, 1) := by decide +kernel
theorem dL_width_19 : decode cL_width 19 = .ok (.astore 5, 2) := by decide +kernel
theorem dL_width_21 : decode cL_width 21 = .ok (.iconst 2, 1) := by decide +kernel
theorem dL_width_22 : decode cL_width 22 = .ok (.ireturn, 1) := by decide +kernel
theorem dL_width_23 : decode cL_width 23 = .ok (.iconst 0, 1) := by decide +kernel
theorem dL_width_24 : decode cL_width 24 = .ok (.ireturn, 1) := by decide +kernel
set_option maxRecDepth 20000 in
theorem ggL_holds_X4_holds : GoodIn wsL_holds wsX4_holds := goodIn_ca (goodIn_ca (goodIn_r _ [7, 8, 9, 10, 6, 11, 12, 13, 14, 15, 16, 17, 18, 19, 20, 21, 22, 23, 24, 25, 26, 27, 28, 29, 30, 31, 32, 33, 34, 35, 36, 37, 38, 39, 40, 41, 42, 43, 44, 45, 46, 47, 48, 49, 50, 51, 52, 53, 54, 55, 56, 57, 58] (by decide +kernel) (by decide +kernel)) (goodIn_sub (fun _ h => List.mem_cons_of_mem _ (List.mem_append_left _ (List.mem_append_right _ h))) (by decide +kernel))) (goodIn_sub (fun _ h => List.mem_cons_of_mem _ (List.mem_append_right _ h)) (by decide +kernel))
set_option maxRecDepth 20000 in
theorem gL_holds_X4_holds : GoodIn wsL_holds (wsV RL 21 RX4 yX4_holds wsX4_holds) := goodIn_app (goodIn_of _ (by decide +kernel)) ggL_holds_X4_holds
theorem dL_holds_0 : decode cL_holds 0 = .ok (.aload_n 3, 1) := by decide +kernel
theorem dL_holds_1 : decode cL_holds 1 = .ok (.iconst 0, 1) := by decide +kernel
theorem dL_holds_2 : decode cL_holds 2 = .ok (.aload_n 0, 1) := by decide +kernel
theorem dL_holds_3 : decode cL_holds 3 = .ok (.iload_n 1, 1) := by decide +kernel
theorem dL_holds_4 : decode cL_holds 4 = .ok (.iload_n 2, 1) := by decide +kernel
theorem dL_holds_5 : decode cL_holds 5 = .ok (.invokevirtual 21, 3) := by decide +kernel
theorem dL_holds_8 : decode cL_holds 8 = .ok (.i2l, 1) := by decide +kernel
theorem dL_holds_9 : decode cL_holds 9 = .ok (.lastore, 1) := by decide +kernel
theorem dL_holds_10 : decode cL_holds 10 = .ok (.goto 11, 3) := by decide +kernel
theorem dL_holds_13 : decode cL_holds 13 = .ok (.astore 4, 2) := by decide +kernel
theorem dL_holds_15 : decode cL_holds 15 = .ok (.iconst 1, 1) := by decide +kernel
theorem dL_holds_16 : decode cL_holds 16 = .ok (.ireturn, 1) := by decide +kernel
theorem dL_holds_17 : decode cL_holds 17 = .ok (.astore 4, 2) := by decide +kernel
theorem dL_holds_19 : decode cL_holds 19 = .ok (.iconst 2, 1) := by decide +kernel
theorem dL_holds_20 : decode cL_holds 20 = .ok (.ireturn, 1) := by decide +kernel
theorem dL_holds_21 : decode cL_holds 21 = .ok (.iconst 0, 1) := by decide +kernel
theorem dL_holds_22 : decode cL_holds 22 = .ok (.ireturn, 1) := by decide +kernel
set_option maxRecDepth 20000 in
theorem ggL_level_X4_level : GoodIn wsL_level wsX4_level := goodIn_ca (goodIn_ca (goodIn_r _ [7, 8, 9, 10, 11, 12, 6, 13, 14, 15, 16, 17, 18, 19, 20, 21, 22, 23, 24, 25, 26, 27, 28, 29, 30, 31, 32, 33, 34, 35, 36, 37, 38, 39, 40, 41, 42, 43, 44, 45, 46, 47, 48, 49, 50, 51, 52, 53, 54] (by decide +kernel) (by decide +kernel)) (goodIn_sub (fun _ h => List.mem_cons_of_mem _ (List.mem_append_left _ (List.mem_append_right _ h))) (by decide +kernel))) (goodIn_sub (fun _ h => List.mem_cons_of_mem _ (List.mem_append_right _ h)) (by decide +kernel))
set_option maxRecDepth 20000 in
theorem gL_level_X4_level : GoodIn wsL_level (wsV RL 24 RX4 yX4_level wsX4_level) := goodIn_app (goodIn_of _ (by decide +kernel)) ggL_level_X4_level
theorem dL_level_0 : decode cL_level 0 = .ok (.aload_n 3, 1) := by decide +kernel
theorem dL_level_1 : decode cL_level 1 = .ok (.iconst 0, 1) := by decide +kernel
theorem dL_level_2 : decode cL_level 2 = .ok (.aload_n 0, 1) := by decide +kernel
theorem dL_level_3 : decode cL_level 3 = .ok (.iload_n 1, 1) := by decide +kernel
theorem dL_level_4 : decode cL_level 4 = .ok (.iload_n 2, 1) := by decide +kernel
theorem dL_level_5 : decode cL_level 5 = .ok (.invokevirtual 24, 3) := by decide +kernel
theorem dL_level_8 : decode cL_level 8 = .ok (.i2l, 1) := by decide +kernel
theorem dL_level_9 : decode cL_level 9 = .ok (.lastore, 1) := by decide +kernel
theorem dL_level_10 : decode cL_level 10 = .ok (.goto 11, 3) := by decide +kernel
theorem dL_level_13 : decode cL_level 13 = .ok (.astore 4, 2) := by decide +kernel
theorem dL_level_15 : decode cL_level 15 = .ok (.iconst 1, 1) := by decide +kernel
theorem dL_level_16 : decode cL_level 16 = .ok (.ireturn, 1) := by decide +kernel
theorem dL_level_17 : decode cL_level 17 = .ok (.astore 4, 2) := by decide +kernel
theorem dL_level_19 : decode cL_level 19 = .ok (.iconst 2, 1) := by decide +kernel
theorem dL_level_20 : decode cL_level 20 = .ok (.ireturn, 1) := by decide +kernel
theorem dL_level_21 : decode cL_level 21 = .ok (.iconst 0, 1) := by decide +kernel
theorem dL_level_22 : decode cL_level 22 = .ok (.ireturn, 1) := by decide +kernel
set_option maxRecDepth 20000 in
theorem ggL_head_X4_head : GoodIn wsL_head wsX4_head := goodIn_ca (goodIn_r _ [6, 7, 8, 9, 5, 10, 11, 12, 13, 14, 15, 16, 17, 18, 19, 20, 21, 22, 23, 24, 25, 26, 27, 28, 29, 30, 31, 32, 33, 34, 35, 36, 37, 38] (by decide +kernel) (by decide +kernel)) (goodIn_sub (fun _ h => List.mem_cons_of_mem _ (List.mem_append_right _ h)) (by decide +kernel))
set_option maxRecDepth 20000 in
theorem gL_head_X4_head : GoodIn wsL_head (wsV RL 27 RX4 yX4_head wsX4_head) := goodIn_app (goodIn_of _ (by decide +kernel)) ggL_head_X4_head
theorem dL_head_0 : decode cL_head 0 = .ok (.aload_n 2, 1) := by decide +kernel
theorem dL_head_1 : decode cL_head 1 = .ok (.iconst 0, 1) := by decide +kernel
theorem dL_head_2 : decode cL_head 2 = .ok (.aload_n 0, 1) := by decide +kernel
theorem dL_head_3 : decode cL_head 3 = .ok (.iload_n 1, 1) := by decide +kernel
theorem dL_head_4 : decode cL_head 4 = .ok (.invokevirtual 27, 3) := by decide +kernel
theorem dL_head_7 : decode cL_head 7 = .ok (.i2l, 1) := by decide +kernel
theorem dL_head_8 : decode cL_head 8 = .ok (.lastore, 1) := by decide +kernel
theorem dL_head_9 : decode cL_head 9 = .ok (.goto 6, 3) := by decide +kernel
theorem dL_head_12 : decode cL_head 12 = .ok (.astore_n 3, 1) := by decide +kernel
theorem dL_head_13 : decode cL_head 13 = .ok (.iconst 1, 1) := by decide +kernel
theorem dL_head_14 : decode cL_head 14 = .ok (.ireturn, 1) := by decide +kernel
theorem dL_head_15 : decode cL_head 15 = .ok (.iconst 0, 1) := by decide +kernel
theorem dL_head_16 : decode cL_head 16 = .ok (.ireturn, 1) := by decide +kernel
set_option maxRecDepth 20000 in
theorem ggL_days_X4_days : GoodIn wsL_days wsX4_days := goodIn_ca (goodIn_r _ [6, 7, 8, 9, 10, 11, 12, 13, 14, 15, 16, 17, 18, 19, 20, 21] (by decide +kernel) (by decide +kernel)) (goodIn_sub (fun _ h => List.mem_cons_of_mem _ (List.mem_append_right _ h)) (by decide +kernel))
set_option maxRecDepth 20000 in
theorem gL_days_X4_days : GoodIn wsL_days (wsV RL 31 RX4 yX4_days wsX4_days) := goodIn_app (goodIn_of _ (by decide +kernel)) ggL_days_X4_days
theorem dL_days_0 : decode cL_days 0 = .ok (.aload_n 2, 1) := by decide +kernel
theorem dL_days_1 : decode cL_days 1 = .ok (.iconst 0, 1) := by decide +kernel
theorem dL_days_2 : decode cL_days 2 = .ok (.aload_n 0, 1) := by decide +kernel
theorem dL_days_3 : decode cL_days 3 = .ok (.iload_n 1, 1) := by decide +kernel
theorem dL_days_4 : decode cL_days 4 = .ok (.invokevirtual 31, 3) := by decide +kernel
theorem dL_days_7 : decode cL_days 7 = .ok (.i2l, 1) := by decide +kernel
theorem dL_days_8 : decode cL_days 8 = .ok (.lastore, 1) := by decide +kernel
theorem dL_days_9 : decode cL_days 9 = .ok (.goto 6, 3) := by decide +kernel
theorem dL_days_12 : decode cL_days 12 = .ok (.astore_n 3, 1) := by decide +kernel
theorem dL_days_13 : decode cL_days 13 = .ok (.iconst 1, 1) := by decide +kernel
theorem dL_days_14 : decode cL_days 14 = .ok (.ireturn, 1) := by decide +kernel
theorem dL_days_15 : decode cL_days 15 = .ok (.iconst 0, 1) := by decide +kernel
theorem dL_days_16 : decode cL_days 16 = .ok (.ireturn, 1) := by decide +kernel
set_option maxRecDepth 20000 in
theorem ggL_flaw_X4_flaw : GoodIn wsL_flaw wsX4_flaw := goodIn_ca (goodIn_r _ [6, 7, 8, 9, 10, 11, 12, 13, 14, 15, 16, 17, 18, 19, 20, 5, 21, 22, 23, 24, 25, 26, 27, 28, 29, 30, 31, 32, 33, 34, 35, 36, 37, 38, 39, 40, 41, 42, 43, 44, 45, 46, 47, 48, 49, 50, 51] (by decide +kernel) (by decide +kernel)) (goodIn_sub (fun _ h => List.mem_cons_of_mem _ (List.mem_append_right _ h)) (by decide +kernel))
set_option maxRecDepth 20000 in
theorem gL_flaw_X4_flaw : GoodIn wsL_flaw (wsV RL 34 RX4 yX4_flaw wsX4_flaw) := goodIn_app (goodIn_of _ (by decide +kernel)) ggL_flaw_X4_flaw
theorem dL_flaw_0 : decode cL_flaw 0 = .ok (.aload 4, 2) := by decide +kernel
theorem dL_flaw_2 : decode cL_flaw 2 = .ok (.iconst 0, 1) := by decide +kernel
theorem dL_flaw_3 : decode cL_flaw 3 = .ok (.aload_n 0, 1) := by decide +kernel
theorem dL_flaw_4 : decode cL_flaw 4 = .ok (.iload_n 1, 1) := by decide +kernel
theorem dL_flaw_5 : decode cL_flaw 5 = .ok (.iload_n 2, 1) := by decide +kernel
theorem dL_flaw_6 : decode cL_flaw 6 = .ok (.iload_n 3, 1) := by decide +kernel
theorem dL_flaw_7 : decode cL_flaw 7 = .ok (.invokevirtual 34, 3) := by decide +kernel
theorem dL_flaw_10 : decode cL_flaw 10 = .ok (.i2l, 1) := by decide +kernel
theorem dL_flaw_11 : decode cL_flaw 11 = .ok (.lastore, 1) := by decide +kernel
theorem dL_flaw_12 : decode cL_flaw 12 = .ok (.goto 7, 3) := by decide +kernel
theorem dL_flaw_15 : decode cL_flaw 15 = .ok (.astore 5, 2) := by decide +kernel
theorem dL_flaw_17 : decode cL_flaw 17 = .ok (.iconst 1, 1) := by decide +kernel
theorem dL_flaw_18 : decode cL_flaw 18 = .ok (.ireturn, 1) := by decide +kernel
theorem dL_flaw_19 : decode cL_flaw 19 = .ok (.iconst 0, 1) := by decide +kernel
theorem dL_flaw_20 : decode cL_flaw 20 = .ok (.ireturn, 1) := by decide +kernel
set_option maxRecDepth 20000 in
theorem ggL_clear_X4_clear : GoodIn wsL_clear wsX4_clear := goodIn_ca (goodIn_r _ [6, 7, 8, 9, 10, 11, 12, 13, 14, 5, 15, 16, 17, 18, 19, 20, 21, 22, 23, 24, 25, 26, 27, 28, 29, 30, 31] (by decide +kernel) (by decide +kernel)) (goodIn_sub (fun _ h => List.mem_cons_of_mem _ (List.mem_append_right _ h)) (by decide +kernel))
set_option maxRecDepth 20000 in
theorem gL_clear_X4_clear : GoodIn wsL_clear (wsV RL 37 RX4 yX4_clear wsX4_clear) := goodIn_app (goodIn_of _ (by decide +kernel)) ggL_clear_X4_clear
theorem dL_clear_0 : decode cL_clear 0 = .ok (.aload 4, 2) := by decide +kernel
theorem dL_clear_2 : decode cL_clear 2 = .ok (.iconst 0, 1) := by decide +kernel
theorem dL_clear_3 : decode cL_clear 3 = .ok (.aload_n 0, 1) := by decide +kernel
theorem dL_clear_4 : decode cL_clear 4 = .ok (.iload_n 1, 1) := by decide +kernel
theorem dL_clear_5 : decode cL_clear 5 = .ok (.iload_n 2, 1) := by decide +kernel
theorem dL_clear_6 : decode cL_clear 6 = .ok (.iload_n 3, 1) := by decide +kernel
theorem dL_clear_7 : decode cL_clear 7 = .ok (.invokevirtual 37, 3) := by decide +kernel
theorem dL_clear_10 : decode cL_clear 10 = .ok (.i2l, 1) := by decide +kernel
theorem dL_clear_11 : decode cL_clear 11 = .ok (.lastore, 1) := by decide +kernel
theorem dL_clear_12 : decode cL_clear 12 = .ok (.goto 7, 3) := by decide +kernel
theorem dL_clear_15 : decode cL_clear 15 = .ok (.astore 5, 2) := by decide +kernel
theorem dL_clear_17 : decode cL_clear 17 = .ok (.iconst 1, 1) := by decide +kernel
theorem dL_clear_18 : decode cL_clear 18 = .ok (.ireturn, 1) := by decide +kernel
theorem dL_clear_19 : decode cL_clear 19 = .ok (.iconst 0, 1) := by decide +kernel
theorem dL_clear_20 : decode cL_clear 20 = .ok (.ireturn, 1) := by decide +kernel
set_option maxRecDepth 20000 in
theorem ggL_ripe_X4_ripe : GoodIn wsL_ripe wsX4_ripe := goodIn_ca (goodIn_r _ [6, 7, 8, 9, 5, 10, 11, 12, 13, 14, 15, 16, 17, 18, 19, 20, 21, 22, 23, 24, 25, 26, 27, 28, 29, 30, 31, 32, 33, 34] (by decide +kernel) (by decide +kernel)) (goodIn_sub (fun _ h => List.mem_cons_of_mem _ (List.mem_append_right _ h)) (by decide +kernel))
set_option maxRecDepth 20000 in
theorem gL_ripe_X4_ripe : GoodIn wsL_ripe (wsV RL 40 RX4 yX4_ripe wsX4_ripe) := goodIn_app (goodIn_of _ (by decide +kernel)) ggL_ripe_X4_ripe
theorem dL_ripe_0 : decode cL_ripe 0 = .ok (.aload_n 2, 1) := by decide +kernel
theorem dL_ripe_1 : decode cL_ripe 1 = .ok (.iconst 0, 1) := by decide +kernel
theorem dL_ripe_2 : decode cL_ripe 2 = .ok (.aload_n 0, 1) := by decide +kernel
theorem dL_ripe_3 : decode cL_ripe 3 = .ok (.iload_n 1, 1) := by decide +kernel
theorem dL_ripe_4 : decode cL_ripe 4 = .ok (.invokevirtual 40, 3) := by decide +kernel
theorem dL_ripe_7 : decode cL_ripe 7 = .ok (.ifCond .eq 7, 3) := by decide +kernel
theorem dL_ripe_10 : decode cL_ripe 10 = .ok (.lconst 1, 1) := by decide +kernel
theorem dL_ripe_11 : decode cL_ripe 11 = .ok (.goto 4, 3) := by decide +kernel
theorem dL_ripe_14 : decode cL_ripe 14 = .ok (.lconst 0, 1) := by decide +kernel
theorem dL_ripe_15 : decode cL_ripe 15 = .ok (.lastore, 1) := by decide +kernel
theorem dL_ripe_16 : decode cL_ripe 16 = .ok (.goto 6, 3) := by decide +kernel
theorem dL_ripe_19 : decode cL_ripe 19 = .ok (.astore_n 3, 1) := by decide +kernel
theorem dL_ripe_20 : decode cL_ripe 20 = .ok (.iconst 1, 1) := by decide +kernel
theorem dL_ripe_21 : decode cL_ripe 21 = .ok (.ireturn, 1) := by decide +kernel
theorem dL_ripe_22 : decode cL_ripe 22 = .ok (.iconst 0, 1) := by decide +kernel
theorem dL_ripe_23 : decode cL_ripe 23 = .ok (.ireturn, 1) := by decide +kernel
set_option maxRecDepth 20000 in
theorem ggL_fewest_X4_fewest : GoodIn wsL_fewest wsX4_fewest := goodIn_ca (goodIn_r _ [6, 7, 8, 9, 5, 10, 11, 12, 13, 14, 15, 16, 17, 18, 19, 20, 21, 22, 23, 24, 25, 26, 27, 28, 29, 30, 31, 32, 33, 34, 35, 36, 37, 38, 39, 40, 41, 42, 43, 44, 45, 46, 47, 48, 49, 50, 51, 52, 53, 54, 55, 56, 57, 58, 59, 60, 61, 62, 63, 64, 65, 66, 67, 68, 69, 70, 71, 72, 73, 74, 75, 76, 77, 78, 79, 80, 81, 82, 83, 84, 85, 86, 87, 88, 89, 90, 91, 92, 93, 94, 95, 96, 97, 98, 99, 100, 101, 102, 103, 104, 105, 106, 107, 108, 109, 110, 111, 112, 113, 114, 115, 116, 117, 118, 119, 120, 121, 122, 123, 124, 125, 126, 127, 128, 129, 130, 131, 132, 133] (by decide +kernel) (by decide +kernel)) (goodIn_sub (fun _ h => List.mem_cons_of_mem _ (List.mem_append_right _ h)) (by decide +kernel))
set_option maxRecDepth 20000 in
theorem gL_fewest_X4_fewest : GoodIn wsL_fewest (wsV RL 44 RX4 yX4_fewest wsX4_fewest) := goodIn_app (goodIn_of _ (by decide +kernel)) ggL_fewest_X4_fewest
theorem dL_fewest_0 : decode cL_fewest 0 = .ok (.aload_n 2, 1) := by decide +kernel
theorem dL_fewest_1 : decode cL_fewest 1 = .ok (.iconst 0, 1) := by decide +kernel
theorem dL_fewest_2 : decode cL_fewest 2 = .ok (.aload_n 0, 1) := by decide +kernel
theorem dL_fewest_3 : decode cL_fewest 3 = .ok (.iload_n 1, 1) := by decide +kernel
theorem dL_fewest_4 : decode cL_fewest 4 = .ok (.invokevirtual 44, 3) := by decide +kernel
theorem dL_fewest_7 : decode cL_fewest 7 = .ok (.i2l, 1) := by decide +kernel
theorem dL_fewest_8 : decode cL_fewest 8 = .ok (.lastore, 1) := by decide +kernel
theorem dL_fewest_9 : decode cL_fewest 9 = .ok (.goto 6, 3) := by decide +kernel
theorem dL_fewest_12 : decode cL_fewest 12 = .ok (.astore_n 3, 1) := by decide +kernel
theorem dL_fewest_13 : decode cL_fewest 13 = .ok (.iconst 1, 1) := by decide +kernel
theorem dL_fewest_14 : decode cL_fewest 14 = .ok (.ireturn, 1) := by decide +kernel
theorem dL_fewest_15 : decode cL_fewest 15 = .ok (.iconst 0, 1) := by decide +kernel
theorem dL_fewest_16 : decode cL_fewest 16 = .ok (.ireturn, 1) := by decide +kernel
set_option maxRecDepth 20000 in
theorem ggL_make_X4_make : GoodIn wsL_make wsX4_make := goodIn_ca (goodIn_r _ [6, 7, 8, 9, 10, 11, 12, 13, 14, 15, 5, 16, 17, 18, 19, 20, 21, 22, 23, 24, 25, 26, 27, 28, 29, 30, 31, 32, 33, 34, 35, 36, 37, 38, 39, 40, 41, 42, 43, 44, 45, 46, 47, 48, 49, 50, 51, 52, 53, 54, 55, 56, 57, 58, 59, 60, 61, 62, 63, 64, 65, 66, 67, 68, 69, 70, 71, 72, 73, 74, 75, 76, 77, 78, 79, 80, 81, 82, 83, 84, 85, 86, 87, 88, 89, 90, 91, 92, 93, 94, 95, 96, 97, 98, 99, 100, 101, 102, 103, 104, 105, 106, 107, 108, 109, 110, 111, 112, 113, 114, 115, 116, 117, 118, 119, 120, 121, 122, 123, 124, 125, 126, 127, 128, 129, 130, 131, 132, 133, 134, 135, 136, 137, 138, 139, 140, 141, 142, 143, 144, 145, 146, 147, 148, 149, 150, 151, 152, 153, 154, 155, 156, 157, 158, 159, 160, 161, 162, 163, 164, 165, 166, 167, 168, 169, 170, 171, 172, 173, 174, 175, 176, 177, 178, 179, 180, 181, 182, 183, 184, 185, 186, 187, 188, 189, 190, 191, 192, 193, 194, 195, 196, 197, 198, 199, 200, 201, 202, 203, 204, 205, 206, 207, 208, 209, 210, 211, 212, 213, 214, 215, 216, 217, 218, 219, 220, 221, 222, 223, 224] (by decide +kernel) (by decide +kernel)) (goodIn_sub (fun _ h => List.mem_cons_of_mem _ (List.mem_append_right _ h)) (by decide +kernel))
set_option maxRecDepth 20000 in
theorem gL_make_X4_make : GoodIn wsL_make (wsV RL 47 RX4 yX4_make wsX4_make) := goodIn_app (goodIn_of _ (by decide +kernel)) ggL_make_X4_make
theorem dL_make_0 : decode cL_make 0 = .ok (.aload_n 2, 1) := by decide +kernel
theorem dL_make_1 : decode cL_make 1 = .ok (.iconst 0, 1) := by decide +kernel
theorem dL_make_2 : decode cL_make 2 = .ok (.aload_n 0, 1) := by decide +kernel
theorem dL_make_3 : decode cL_make 3 = .ok (.iload_n 1, 1) := by decide +kernel
theorem dL_make_4 : decode cL_make 4 = .ok (.invokevirtual 47, 3) := by decide +kernel
theorem dL_make_7 : decode cL_make 7 = .ok (.i2l, 1) := by decide +kernel
theorem dL_make_8 : decode cL_make 8 = .ok (.lastore, 1) := by decide +kernel
theorem dL_make_9 : decode cL_make 9 = .ok (.goto 6, 3) := by decide +kernel
theorem dL_make_12 : decode cL_make 12 = .ok (.astore_n 3, 1) := by decide +kernel
theorem dL_make_13 : decode cL_make 13 = .ok (.iconst 1, 1) := by decide +kernel
theorem dL_make_14 : decode cL_make 14 = .ok (.ireturn, 1) := by decide +kernel
theorem dL_make_15 : decode cL_make 15 = .ok (.iconst 0, 1) := by decide +kernel
theorem dL_make_16 : decode cL_make 16 = .ok (.ireturn, 1) := by decide +kernel
set_option maxRecDepth 20000 in
theorem ggL_stave_X4_stave : GoodIn wsL_stave wsX4_stave := goodIn_ca (goodIn_r _ [6, 7, 8, 9, 10, 11, 12, 13, 14, 5, 15, 16, 17, 18, 19, 20, 21, 22, 23, 24, 25, 26, 27, 28, 29, 30, 31, 32, 33, 34, 35, 36, 37, 38, 39, 40, 41, 42, 43, 44, 45, 46, 47, 48, 49, 50, 51, 52, 53, 54, 55, 56, 57, 58, 59, 60, 61, 62] (by decide +kernel) (by decide +kernel)) (goodIn_sub (fun _ h => List.mem_cons_of_mem _ (List.mem_append_right _ h)) (by decide +kernel))
set_option maxRecDepth 20000 in
theorem gL_stave_X4_stave : GoodIn wsL_stave (wsV RL 50 RX4 yX4_stave wsX4_stave) := goodIn_app (goodIn_of _ (by decide +kernel)) ggL_stave_X4_stave
theorem dL_stave_0 : decode cL_stave 0 = .ok (.aload 4, 2) := by decide +kernel
theorem dL_stave_2 : decode cL_stave 2 = .ok (.iconst 0, 1) := by decide +kernel
theorem dL_stave_3 : decode cL_stave 3 = .ok (.aload_n 0, 1) := by decide +kernel
theorem dL_stave_4 : decode cL_stave 4 = .ok (.iload_n 1, 1) := by decide +kernel
theorem dL_stave_5 : decode cL_stave 5 = .ok (.iload_n 2, 1) := by decide +kernel
theorem dL_stave_6 : decode cL_stave 6 = .ok (.iload_n 3, 1) := by decide +kernel
theorem dL_stave_7 : decode cL_stave 7 = .ok (.invokevirtual 50, 3) := by decide +kernel
theorem dL_stave_10 : decode cL_stave 10 = .ok (.i2l, 1) := by decide +kernel
theorem dL_stave_11 : decode cL_stave 11 = .ok (.lastore, 1) := by decide +kernel
theorem dL_stave_12 : decode cL_stave 12 = .ok (.goto 7, 3) := by decide +kernel
theorem dL_stave_15 : decode cL_stave 15 = .ok (.astore 5, 2) := by decide +kernel
theorem dL_stave_17 : decode cL_stave 17 = .ok (.iconst 1, 1) := by decide +kernel
theorem dL_stave_18 : decode cL_stave 18 = .ok (.ireturn, 1) := by decide +kernel
theorem dL_stave_19 : decode cL_stave 19 = .ok (.iconst 0, 1) := by decide +kernel
theorem dL_stave_20 : decode cL_stave 20 = .ok (.ireturn, 1) := by decide +kernel
set_option maxRecDepth 20000 in
theorem ggL_formOf_X4_formOf : GoodIn wsL_formOf wsX4_formOf := goodIn_ca (goodIn_r _ [6, 7, 8, 9, 10, 5, 11, 12, 13, 14, 15, 16, 17, 18, 19, 20, 21, 22, 23, 24, 25, 26, 27, 28, 29, 30, 31, 32, 33] (by decide +kernel) (by decide +kernel)) (goodIn_sub (fun _ h => List.mem_cons_of_mem _ (List.mem_append_right _ h)) (by decide +kernel))
set_option maxRecDepth 20000 in
theorem gL_formOf_X4_formOf : GoodIn wsL_formOf (wsV RL 53 RX4 yX4_formOf wsX4_formOf) := goodIn_app (goodIn_of _ (by decide +kernel)) ggL_formOf_X4_formOf
theorem dL_formOf_0 : decode cL_formOf 0 = .ok (.aload_n 2, 1) := by decide +kernel
theorem dL_formOf_1 : decode cL_formOf 1 = .ok (.iconst 0, 1) := by decide +kernel
theorem dL_formOf_2 : decode cL_formOf 2 = .ok (.aload_n 0, 1) := by decide +kernel
theorem dL_formOf_3 : decode cL_formOf 3 = .ok (.iload_n 1, 1) := by decide +kernel
theorem dL_formOf_4 : decode cL_formOf 4 = .ok (.invokevirtual 53, 3) := by decide +kernel
