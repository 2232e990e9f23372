theorem dX0_init_0 : decode cX0_init 0 = .ok (.aload_n 0, 1) := by decide +kernel
theorem dX0_init_1 : decode cX0_init 1 = .ok (.invokespecial 3, 3) := by decide +kernel
theorem dX0_init_4 : decode cX0_init 4 = .ok (.aload_n 0, 1) := by decide +kernel
theorem dX0_init_5 : decode cX0_init 5 = .ok (.iconst 4, 1) := by decide +kernel
theorem dX0_init_6 : decode cX0_init 6 = .ok (.newarray .int, 2) := by decide +kernel
theorem dX0_init_8 : decode cX0_init 8 = .ok (.putfield 9, 3) := by decide +kernel
theorem dX0_init_11 : decode cX0_init 11 = .ok (.aload_n 0, 1) := by decide +kernel
theorem dX0_init_12 : decode cX0_init 12 = .ok (.iconst 4, 1) := by decide +kernel
theorem dX0_init_13 : decode cX0_init 13 = .ok (.newarray .int, 2) := by decide +kernel
theorem dX0_init_15 : decode cX0_init 15 = .ok (.putfield 15, 3) := by decide +kernel
theorem dX0_init_18 : decode cX0_init 18 = .ok (.aload_n 0, 1) := by decide +kernel
theorem dX0_init_19 : decode cX0_init 19 = .ok (.iload_n 2, 1) := by decide +kernel
theorem dX0_init_20 : decode cX0_init 20 = .ok (.putfield 18, 3) := by decide +kernel
theorem dX0_init_23 : decode cX0_init 23 = .ok (.aload_n 0, 1) := by decide +kernel
theorem dX0_init_24 : decode cX0_init 24 = .ok (.getfield 15, 3) := by decide +kernel
theorem dX0_init_27 : decode cX0_init 27 = .ok (.iconst 0, 1) := by decide +kernel
theorem dX0_init_28 : decode cX0_init 28 = .ok (.iload_n 1, 1) := by decide +kernel
theorem dX0_init_29 : decode cX0_init 29 = .ok (.iastore, 1) := by decide +kernel
theorem dX0_init_30 : decode cX0_init 30 = .ok (.aload_n 0, 1) := by decide +kernel
theorem dX0_init_31 : decode cX0_init 31 = .ok (.iconst 1, 1) := by decide +kernel
theorem dX0_init_32 : decode cX0_init 32 = .ok (.putfield 22, 3) := by decide +kernel
theorem dX0_init_35 : decode cX0_init 35 = .ok (.return_, 1) := by decide +kernel
theorem dX0_addPart_0 : decode cX0_addPart 0 = .ok (.iload_n 1, 1) := by decide +kernel
theorem dX0_addPart_1 : decode cX0_addPart 1 = .ok (.iload_n 2, 1) := by decide +kernel
theorem dX0_addPart_2 : decode cX0_addPart 2 = .ok (.if_icmp .lt 5, 3) := by decide +kernel
theorem dX0_addPart_5 : decode cX0_addPart 5 = .ok (.iconst 1, 1) := by decide +kernel
theorem dX0_addPart_6 : decode cX0_addPart 6 = .ok (.ireturn, 1) := by decide +kernel
theorem dX0_addPart_7 : decode cX0_addPart 7 = .ok (.aload_n 0, 1) := by decide +kernel
theorem dX0_addPart_8 : decode cX0_addPart 8 = .ok (.getfield 22, 3) := by decide +kernel
theorem dX0_addPart_11 : decode cX0_addPart 11 = .ok (.iconst 4, 1) := by decide +kernel
theorem dX0_addPart_12 : decode cX0_addPart 12 = .ok (.if_icmp .lt 5, 3) := by decide +kernel
theorem dX0_addPart_15 : decode cX0_addPart 15 = .ok (.iconst 0, 1) := by decide +kernel
theorem dX0_addPart_16 : decode cX0_addPart 16 = .ok (.ireturn, 1) := by decide +kernel
theorem dX0_addPart_17 : decode cX0_addPart 17 = .ok (.aload_n 0, 1) := by decide +kernel
theorem dX0_addPart_18 : decode cX0_addPart 18 = .ok (.getfield 9, 3) := by decide +kernel
theorem dX0_addPart_21 : decode cX0_addPart 21 = .ok (.aload_n 0, 1) := by decide +kernel
theorem dX0_addPart_22 : decode cX0_addPart 22 = .ok (.getfield 22, 3) := by decide +kernel
theorem dX0_addPart_25 : decode cX0_addPart 25 = .ok (.iload_n 1, 1) := by decide +kernel
theorem dX0_addPart_26 : decode cX0_addPart 26 = .ok (.iastore, 1) := by decide +kernel
theorem dX0_addPart_27 : decode cX0_addPart 27 = .ok (.aload_n 0, 1) := by decide +kernel
theorem dX0_addPart_28 : decode cX0_addPart 28 = .ok (.getfield 15, 3) := by decide +kernel
theorem dX0_addPart_31 : decode cX0_addPart 31 = .ok (.aload_n 0, 1) := by decide +kernel
theorem dX0_addPart_32 : decode cX0_addPart 32 = .ok (.getfield 22, 3) := by decide +kernel
theorem dX0_addPart_35 : decode cX0_addPart 35 = .ok (.iload_n 2, 1) := by decide +kernel
theorem dX0_addPart_36 : decode cX0_addPart 36 = .ok (.iastore, 1) := by decide +kernel
theorem dX0_addPart_37 : decode cX0_addPart 37 = .ok (.aload_n 0, 1) := by decide +kernel
theorem dX0_addPart_38 : decode cX0_addPart 38 = .ok (.dup, 1) := by decide +kernel
theorem dX0_addPart_39 : decode cX0_addPart 39 = .ok (.getfield 22, 3) := by decide +kernel
theorem dX0_addPart_42 : decode cX0_addPart 42 = .ok (.iconst 1, 1) := by decide +kernel
theorem dX0_addPart_43 : decode cX0_addPart 43 = .ok (.iadd, 1) := by decide +kernel
theorem dX0_addPart_44 : decode cX0_addPart 44 = .ok (.putfield 22, 3) := by decide +kernel
theorem dX0_addPart_47 : decode cX0_addPart 47 = .ok (.iconst 1, 1) := by decide +kernel
theorem dX0_addPart_48 : decode cX0_addPart 48 = .ok (.ireturn, 1) := by decide +kernel
theorem dX0_takePartsOf_0 : decode cX0_takePartsOf 0 = .ok (.aload_n 0, 1) := by decide +kernel
theorem dX0_takePartsOf_1 : decode cX0_takePartsOf 1 = .ok (.aload_n 1, 1) := by decide +kernel
theorem dX0_takePartsOf_2 : decode cX0_takePartsOf 2 = .ok (.getfield 22, 3) := by decide +kernel
theorem dX0_takePartsOf_5 : decode cX0_takePartsOf 5 = .ok (.putfield 22, 3) := by decide +kernel
theorem dX0_takePartsOf_8 : decode cX0_takePartsOf 8 = .ok (.iconst 0, 1) := by decide +kernel
theorem dX0_takePartsOf_9 : decode cX0_takePartsOf 9 = .ok (.istore_n 2, 1) := by decide +kernel
theorem dX0_takePartsOf_10 : decode cX0_takePartsOf 10 = .ok (.iload_n 2, 1) := by decide +kernel
theorem dX0_takePartsOf_11 : decode cX0_takePartsOf 11 = .ok (.aload_n 0, 1) := by decide +kernel
theorem dX0_takePartsOf_12 : decode cX0_takePartsOf 12 = .ok (.getfield 22, 3) := by decide +kernel
theorem dX0_takePartsOf_15 : decode cX0_takePartsOf 15 = .ok (.if_icmp .ge 33, 3) := by decide +kernel
theorem dX0_takePartsOf_18 : decode cX0_takePartsOf 18 = .ok (.aload_n 0, 1) := by decide +kernel
theorem dX0_takePartsOf_19 : decode cX0_takePartsOf 19 = .ok (.getfield 9, 3) := by decide +kernel
theorem dX0_takePartsOf_22 : decode cX0_takePartsOf 22 = .ok (.iload_n 2, 1) := by decide +kernel
theorem dX0_takePartsOf_23 : decode cX0_takePartsOf 23 = .ok (.aload_n 1, 1) := by decide +kernel
theorem dX0_takePartsOf_24 : decode cX0_takePartsOf 24 = .ok (.getfield 9, 3) := by decide +kernel
theorem dX0_takePartsOf_27 : decode cX0_takePartsOf 27 = .ok (.iload_n 2, 1) := by decide +kernel
theorem dX0_takePartsOf_28 : decode cX0_takePartsOf 28 = .ok (.iaload, 1) := by decide +kernel
theorem dX0_takePartsOf_29 : decode cX0_takePartsOf 29 = .ok (.iastore, 1) := by decide +kernel
theorem dX0_takePartsOf_30 : decode cX0_takePartsOf 30 = .ok (.aload_n 0, 1) := by decide +kernel
theorem dX0_takePartsOf_31 : decode cX0_takePartsOf 31 = .ok (.getfield 15, 3) := by decide +kernel
theorem dX0_takePartsOf_34 : decode cX0_takePartsOf 34 = .ok (.iload_n 2, 1) := by decide +kernel
theorem dX0_takePartsOf_35 : decode cX0_takePartsOf 35 = .ok (.aload_n 1, 1) := by decide +kernel
theorem dX0_takePartsOf_36 : decode cX0_takePartsOf 36 = .ok (.getfield 15, 3) := by decide +kernel
theorem dX0_takePartsOf_39 : decode cX0_takePartsOf 39 = .ok (.iload_n 2, 1) := by decide +kernel
theorem dX0_takePartsOf_40 : decode cX0_takePartsOf 40 = .ok (.iaload, 1) := by decide +kernel
theorem dX0_takePartsOf_41 : decode cX0_takePartsOf 41 = .ok (.iastore, 1) := by decide +kernel
theorem dX0_takePartsOf_42 : decode cX0_takePartsOf 42 = .ok (.iinc 2 1, 3) := by decide +kernel
theorem dX0_takePartsOf_45 : decode cX0_takePartsOf 45 = .ok (.goto (-35), 3) := by decide +kernel
theorem dX0_takePartsOf_48 : decode cX0_takePartsOf 48 = .ok (.return_, 1) := by decide +kernel
set_option maxRecDepth 20000 in
theorem ggX0_cutFirst_X0_dropEmptyParts : GoodIn wsX0_cutFirst wsX0_dropEmptyParts := goodIn_r _ [8, 1, 3, 2, 9, 10, 11, 7, 12, 13, 14, 15, 16] (by decide +kernel) (by decide +kernel)
set_option maxRecDepth 20000 in
theorem gX0_cutFirst_X0_dropEmptyParts : GoodIn wsX0_cutFirst (wsV RX0 25 RX0 yX0_dropEmptyParts wsX0_dropEmptyParts) := goodIn_app (goodIn_of _ (by decide +kernel)) ggX0_cutFirst_X0_dropEmptyParts
theorem dX0_cutFirst_0 : decode cX0_cutFirst 0 = .ok (.iconst 0, 1) := by decide +kernel
theorem dX0_cutFirst_1 : decode cX0_cutFirst 1 = .ok (.istore_n 2, 1) := by decide +kernel
theorem dX0_cutFirst_2 : decode cX0_cutFirst 2 = .ok (.iload_n 2, 1) := by decide +kernel
theorem dX0_cutFirst_3 : decode cX0_cutFirst 3 = .ok (.aload_n 0, 1) := by decide +kernel
theorem dX0_cutFirst_4 : decode cX0_cutFirst 4 = .ok (.getfield 22, 3) := by decide +kernel
theorem dX0_cutFirst_7 : decode cX0_cutFirst 7 = .ok (.if_icmp .ge 42, 3) := by decide +kernel
theorem dX0_cutFirst_10 : decode cX0_cutFirst 10 = .ok (.aload_n 0, 1) := by decide +kernel
theorem dX0_cutFirst_11 : decode cX0_cutFirst 11 = .ok (.getfield 15, 3) := by decide +kernel
theorem dX0_cutFirst_14 : decode cX0_cutFirst 14 = .ok (.iload_n 2, 1) := by decide +kernel
theorem dX0_cutFirst_15 : decode cX0_cutFirst 15 = .ok (.iaload, 1) := by decide +kernel
theorem dX0_cutFirst_16 : decode cX0_cutFirst 16 = .ok (.aload_n 0, 1) := by decide +kernel
theorem dX0_cutFirst_17 : decode cX0_cutFirst 17 = .ok (.getfield 9, 3) := by decide +kernel
theorem dX0_cutFirst_20 : decode cX0_cutFirst 20 = .ok (.iload_n 2, 1) := by decide +kernel
theorem dX0_cutFirst_21 : decode cX0_cutFirst 21 = .ok (.iaload, 1) := by decide +kernel
theorem dX0_cutFirst_22 : decode cX0_cutFirst 22 = .ok (.isub, 1) := by decide +kernel
theorem dX0_cutFirst_23 : decode cX0_cutFirst 23 = .ok (.iload_n 1, 1) := by decide +kernel
theorem dX0_cutFirst_24 : decode cX0_cutFirst 24 = .ok (.if_icmp .lt 19, 3) := by decide +kernel
theorem dX0_cutFirst_27 : decode cX0_cutFirst 27 = .ok (.aload_n 0, 1) := by decide +kernel
theorem dX0_cutFirst_28 : decode cX0_cutFirst 28 = .ok (.getfield 9, 3) := by decide +kernel
theorem dX0_cutFirst_31 : decode cX0_cutFirst 31 = .ok (.iload_n 2, 1) := by decide +kernel
theorem dX0_cutFirst_32 : decode cX0_cutFirst 32 = .ok (.dup2, 1) := by decide +kernel
theorem dX0_cutFirst_33 : decode cX0_cutFirst 33 = .ok (.iaload, 1) := by decide +kernel
theorem dX0_cutFirst_34 : decode cX0_cutFirst 34 = .ok (.iload_n 1, 1) := by decide +kernel
theorem dX0_cutFirst_35 : decode cX0_cutFirst 35 = .ok (.iadd, 1) := by decide +kernel
theorem dX0_cutFirst_36 : decode cX0_cutFirst 36 = .ok (.iastore, 1) := by decide +kernel
theorem dX0_cutFirst_37 : decode cX0_cutFirst 37 = .ok (.aload_n 0, 1) := by decide +kernel
theorem dX0_cutFirst_38 : decode cX0_cutFirst 38 = .ok (.invokevirtual 25, 3) := by decide +kernel
theorem dX0_cutFirst_41 : decode cX0_cutFirst 41 = .ok (.iconst 1, 1) := by decide +kernel
theorem dX0_cutFirst_42 : decode cX0_cutFirst 42 = .ok (.ireturn, 1) := by decide +kernel
theorem dX0_cutFirst_43 : decode cX0_cutFirst 43 = .ok (.iinc 2 1, 3) := by decide +kernel
theorem dX0_cutFirst_46 : decode cX0_cutFirst 46 = .ok (.goto (-44), 3) := by decide +kernel
theorem dX0_cutFirst_49 : decode cX0_cutFirst 49 = .ok (.iconst 0, 1) := by decide +kernel
theorem dX0_cutFirst_50 : decode cX0_cutFirst 50 = .ok (.ireturn, 1) := by decide +kernel
set_option maxRecDepth 20000 in
theorem ggX0_dropEmptyParts_X0_addPart : GoodIn wsX0_dropEmptyParts wsX0_addPart := goodIn_r _ [8, 1, 2, 3, 9, 10, 11, 12] (by decide +kernel) (by decide +kernel)
set_option maxRecDepth 20000 in
theorem gX0_dropEmptyParts_X0_addPart : GoodIn wsX0_dropEmptyParts (wsV RX0 28 RX0 yX0_addPart wsX0_addPart) := goodIn_app (goodIn_of _ (by decide +kernel)) ggX0_dropEmptyParts_X0_addPart
theorem dX0_dropEmptyParts_0 : decode cX0_dropEmptyParts 0 = .ok (.aload_n 0, 1) := by decide +kernel
theorem dX0_dropEmptyParts_1 : decode cX0_dropEmptyParts 1 = .ok (.getfield 22, 3) := by decide +kernel
theorem dX0_dropEmptyParts_4 : decode cX0_dropEmptyParts 4 = .ok (.istore_n 1, 1) := by decide +kernel
theorem dX0_dropEmptyParts_5 : decode cX0_dropEmptyParts 5 = .ok (.aload_n 0, 1) := by decide +kernel
theorem dX0_dropEmptyParts_6 : decode cX0_dropEmptyParts 6 = .ok (.iconst 0, 1) := by decide +kernel
theorem dX0_dropEmptyParts_7 : decode cX0_dropEmptyParts 7 = .ok (.putfield 22, 3) := by decide +kernel
theorem dX0_dropEmptyParts_10 : decode cX0_dropEmptyParts 10 = .ok (.iconst 0, 1) := by decide +kernel
theorem dX0_dropEmptyParts_11 : decode cX0_dropEmptyParts 11 = .ok (.istore_n 2, 1) := by decide +kernel
theorem dX0_dropEmptyParts_12 : decode cX0_dropEmptyParts 12 = .ok (.iload_n 2, 1) := by decide +kernel
theorem dX0_dropEmptyParts_13 : decode cX0_dropEmptyParts 13 = .ok (.iload_n 1, 1) := by decide +kernel
theorem dX0_dropEmptyParts_14 : decode cX0_dropEmptyParts 14 = .ok (.if_icmp .ge 26, 3) := by decide +kernel
theorem dX0_dropEmptyParts_17 : decode cX0_dropEmptyParts 17 = .ok (.aload_n 0, 1) := by decide +kernel
theorem dX0_dropEmptyParts_18 : decode cX0_dropEmptyParts 18 = .ok (.aload_n 0, 1) := by decide +kernel
theorem dX0_dropEmptyParts_19 : decode cX0_dropEmptyParts 19 = .ok (.getfield 9, 3) := by decide +kernel
theorem dX0_dropEmptyParts_22 : decode cX0_dropEmptyParts 22 = .ok (.iload_n 2, 1) := by decide +kernel
theorem dX0_dropEmptyParts_23 : decode cX0_dropEmptyParts 23 = .ok (.iaload, 1) := by decide +kernel
theorem dX0_dropEmptyParts_24 : decode cX0_dropEmptyParts 24 = .ok (.aload_n 0, 1) := by decide +kernel
theorem dX0_dropEmptyParts_25 : decode cX0_dropEmptyParts 25 = .ok (.getfield 15, 3) := by decide +kernel
theorem dX0_dropEmptyParts_28 : decode cX0_dropEmptyParts 28 = .ok (.iload_n 2, 1) := by decide +kernel
theorem dX0_dropEmptyParts_29 : decode cX0_dropEmptyParts 29 = .ok (.iaload, 1) := by decide +kernel
theorem dX0_dropEmptyParts_30 : decode cX0_dropEmptyParts 30 = .ok (.invokevirtual 28, 3) := by decide +kernel
theorem dX0_dropEmptyParts_33 : decode cX0_dropEmptyParts 33 = .ok (.pop, 1) := by decide +kernel
theorem dX0_dropEmptyParts_34 : decode cX0_dropEmptyParts 34 = .ok (.iinc 2 1, 3) := by decide +kernel
theorem dX0_dropEmptyParts_37 : decode cX0_dropEmptyParts 37 = .ok (.goto (-25), 3) := by decide +kernel
theorem dX0_dropEmptyParts_40 : decode cX0_dropEmptyParts 40 = .ok (.return_, 1) := by decide +kernel
theorem dX1_init_0 : decode cX1_init 0 = .ok (.aload_n 0, 1) := by decide +kernel
theorem dX1_init_1 : decode cX1_init 1 = .ok (.invokespecial 3, 3) := by decide +kernel
theorem dX1_init_4 : decode cX1_init 4 = .ok (.aload_n 0, 1) := by decide +kernel
theorem dX1_init_5 : decode cX1_init 5 = .ok (.bipush 40, 2) := by decide +kernel
theorem dX1_init_7 : decode cX1_init 7 = .ok (.newarray .int, 2) := by decide +kernel
theorem dX1_init_9 : decode cX1_init 9 = .ok (.putfield 9, 3) := by decide +kernel
theorem dX1_init_12 : decode cX1_init 12 = .ok (.aload_n 0, 1) := by decide +kernel
theorem dX1_init_13 : decode cX1_init 13 = .ok (.bipush 40, 2) := by decide +kernel
theorem dX1_init_15 : decode cX1_init 15 = .ok (.newarray .int, 2) := by decide +kernel
theorem dX1_init_17 : decode cX1_init 17 = .ok (.putfield 15, 3) := by decide +kernel
theorem dX1_init_20 : decode cX1_init 20 = .ok (.aload_n 0, 1) := by decide +kernel
theorem dX1_init_21 : decode cX1_init 21 = .ok (.bipush 40, 2) := by decide +kernel
theorem dX1_init_23 : decode cX1_init 23 = .ok (.newarray .int, 2) := by decide +kernel
theorem dX1_init_25 : decode cX1_init 25 = .ok (.putfield 18, 3) := by decide +kernel
theorem dX1_init_28 : decode cX1_init 28 = .ok (.aload_n 0, 1) := by decide +kernel
theorem dX1_init_29 : decode cX1_init 29 = .ok (.bipush 40, 2) := by decide +kernel
theorem dX1_init_31 : decode cX1_init 31 = .ok (.newarray .int, 2) := by decide +kernel
theorem dX1_init_33 : decode cX1_init 33 = .ok (.putfield 21, 3) := by decide +kernel
theorem dX1_init_36 : decode cX1_init 36 = .ok (.aload_n 0, 1) := by decide +kernel
theorem dX1_init_37 : decode cX1_init 37 = .ok (.bipush 40, 2) := by decide +kernel
theorem dX1_init_39 : decode cX1_init 39 = .ok (.newarray .int, 2) := by decide +kernel
theorem dX1_init_41 : decode cX1_init 41 = .ok (.putfield 24, 3) := by decide +kernel
theorem dX1_init_44 : decode cX1_init 44 = .ok (.aload_n 0, 1) := by decide +kernel
theorem dX1_init_45 : decode cX1_init 45 = .ok (.iload_n 1, 1) := by decide +kernel
theorem dX1_init_46 : decode cX1_init 46 = .ok (.putfield 27, 3) := by decide +kernel
theorem dX1_init_49 : decode cX1_init 49 = .ok (.aload_n 0, 1) := by decide +kernel
theorem dX1_init_50 : decode cX1_init 50 = .ok (.aload_n 2, 1) := by decide +kernel
theorem dX1_init_51 : decode cX1_init 51 = .ok (.putfield 31, 3) := by decide +kernel
theorem dX1_init_54 : decode cX1_init 54 = .ok (.return_, 1) := by decide +kernel
set_option maxRecDepth 20000 in
theorem ggX1_takePieces_X2_isWide : GoodIn wsX1_takePieces wsX2_isWide := goodIn_r _ [8, 9, 10, 11, 7, 12, 13, 14, 15, 16, 17, 18, 19, 20, 21, 22, 23, 24, 25, 26, 27, 28, 29, 30, 31, 40, 41, 42, 43] (by decide +kernel) (by decide +kernel)
set_option maxRecDepth 20000 in
theorem gX1_takePieces_X2_isWide : GoodIn wsX1_takePieces (wsV RX1 40 RX2 yX2_isWide wsX2_isWide) := goodIn_app (goodIn_of _ (by decide +kernel)) ggX1_takePieces_X2_isWide
theorem dX1_takePieces_0 : decode cX1_takePieces 0 = .ok (.iload_n 1, 1) := by decide +kernel
theorem dX1_takePieces_1 : decode cX1_takePieces 1 = .ok (.istore 5, 2) := by decide +kernel
theorem dX1_takePieces_3 : decode cX1_takePieces 3 = .ok (.iload_n 3, 1) := by decide +kernel
theorem dX1_takePieces_4 : decode cX1_takePieces 4 = .ok (.istore 6, 2) := by decide +kernel
theorem dX1_takePieces_6 : decode cX1_takePieces 6 = .ok (.iload 5, 2) := by decide +kernel
theorem dX1_takePieces_8 : decode cX1_takePieces 8 = .ok (.ifCond .le 46, 3) := by decide +kernel
theorem dX1_takePieces_11 : decode cX1_takePieces 11 = .ok (.iload 6, 2) := by decide +kernel
theorem dX1_takePieces_13 : decode cX1_takePieces 13 = .ok (.aload_n 0, 1) := by decide +kernel
theorem dX1_takePieces_14 : decode cX1_takePieces 14 = .ok (.getfield 31, 3) := by decide +kernel
theorem dX1_takePieces_17 : decode cX1_takePieces 17 = .ok (.getfield 35, 3) := by decide +kernel
theorem dX1_takePieces_20 : decode cX1_takePieces 20 = .ok (.if_icmp .ge 34, 3) := by decide +kernel
theorem dX1_takePieces_23 : decode cX1_takePieces 23 = .ok (.aload_n 0, 1) := by decide +kernel
theorem dX1_takePieces_24 : decode cX1_takePieces 24 = .ok (.getfield 31, 3) := by decide +kernel
theorem dX1_takePieces_27 : decode cX1_takePieces 27 = .ok (.iload 6, 2) := by decide +kernel
theorem dX1_takePieces_29 : decode cX1_takePieces 29 = .ok (.invokevirtual 40, 3) := by decide +kernel
theorem dX1_takePieces_32 : decode cX1_takePieces 32 = .ok (.iload_n 2, 1) := by decide +kernel
theorem dX1_takePieces_33 : decode cX1_takePieces 33 = .ok (.if_icmp .ne 15, 3) := by decide +kernel
theorem dX1_takePieces_36 : decode cX1_takePieces 36 = .ok (.aload_n 0, 1) := by decide +kernel
theorem dX1_takePieces_37 : decode cX1_takePieces 37 = .ok (.getfield 9, 3) := by decide +kernel
theorem dX1_takePieces_40 : decode cX1_takePieces 40 = .ok (.iload 6, 2) := by decide +kernel
theorem dX1_takePieces_42 : decode cX1_takePieces 42 = .ok (.iload 4, 2) := by decide +kernel
theorem dX1_takePieces_44 : decode cX1_takePieces 44 = .ok (.iastore, 1) := by decide +kernel
theorem dX1_takePieces_45 : decode cX1_takePieces 45 = .ok (.iinc 5 (-1), 3) := by decide +kernel
theorem dX1_takePieces_48 : decode cX1_takePieces 48 = .ok (.iinc 6 1, 3) := by decide +kernel
theorem dX1_takePieces_51 : decode cX1_takePieces 51 = .ok (.goto (-45), 3) := by decide +kernel
theorem dX1_takePieces_54 : decode cX1_takePieces 54 = .ok (.iload 6, 2) := by decide +kernel
theorem dX1_takePieces_56 : decode cX1_takePieces 56 = .ok (.ireturn, 1) := by decide +kernel
theorem dX1_wholePast_0 : decode cX1_wholePast 0 = .ok (.iconst 0, 1) := by decide +kernel
theorem dX1_wholePast_1 : decode cX1_wholePast 1 = .ok (.istore_n 1, 1) := by decide +kernel
theorem dX1_wholePast_2 : decode cX1_wholePast 2 = .ok (.iconst 0, 1) := by decide +kernel
theorem dX1_wholePast_3 : decode cX1_wholePast 3 = .ok (.istore_n 2, 1) := by decide +kernel
theorem dX1_wholePast_4 : decode cX1_wholePast 4 = .ok (.iload_n 2, 1) := by decide +kernel
theorem dX1_wholePast_5 : decode cX1_wholePast 5 = .ok (.aload_n 0, 1) := by decide +kernel
theorem dX1_wholePast_6 : decode cX1_wholePast 6 = .ok (.getfield 31, 3) := by decide +kernel
theorem dX1_wholePast_9 : decode cX1_wholePast 9 = .ok (.getfield 35, 3) := by decide +kernel
theorem dX1_wholePast_12 : decode cX1_wholePast 12 = .ok (.if_icmp .ge 18, 3) := by decide +kernel
theorem dX1_wholePast_15 : decode cX1_wholePast 15 = .ok (.iload_n 1, 1) := by decide +kernel
theorem dX1_wholePast_16 : decode cX1_wholePast 16 = .ok (.aload_n 0, 1) := by decide +kernel
theorem dX1_wholePast_17 : decode cX1_wholePast 17 = .ok (.getfield 15, 3) := by decide +kernel
theorem dX1_wholePast_20 : decode cX1_wholePast 20 = .ok (.iload_n 2, 1) := by decide +kernel
theorem dX1_wholePast_21 : decode cX1_wholePast 21 = .ok (.iaload, 1) := by decide +kernel
theorem dX1_wholePast_22 : decode cX1_wholePast 22 = .ok (.ior, 1) := by decide +kernel
theorem dX1_wholePast_23 : decode cX1_wholePast 23 = .ok (.istore_n 1, 1) := by decide +kernel
theorem dX1_wholePast_24 : decode cX1_wholePast 24 = .ok (.iinc 2 1, 3) := by decide +kernel
theorem dX1_wholePast_27 : decode cX1_wholePast 27 = .ok (.goto (-23), 3) := by decide +kernel
theorem dX1_wholePast_30 : decode cX1_wholePast 30 = .ok (.iload_n 1, 1) := by decide +kernel
theorem dX1_wholePast_31 : decode cX1_wholePast 31 = .ok (.ireturn, 1) := by decide +kernel
theorem dX1_meet_0 : decode cX1_meet 0 = .ok (.iconst 0, 1) := by decide +kernel
theorem dX1_meet_1 : decode cX1_meet 1 = .ok (.istore_n 2, 1) := by decide +kernel
theorem dX1_meet_2 : decode cX1_meet 2 = .ok (.iload_n 2, 1) := by decide +kernel
theorem dX1_meet_3 : decode cX1_meet 3 = .ok (.aload_n 0, 1) := by decide +kernel
theorem dX1_meet_4 : decode cX1_meet 4 = .ok (.getfield 31, 3) := by decide +kernel
theorem dX1_meet_7 : decode cX1_meet 7 = .ok (.getfield 35, 3) := by decide +kernel
theorem dX1_meet_10 : decode cX1_meet 10 = .ok (.if_icmp .ge 21, 3) := by decide +kernel
theorem dX1_meet_13 : decode cX1_meet 13 = .ok (.aload_n 0, 1) := by decide +kernel
theorem dX1_meet_14 : decode cX1_meet 14 = .ok (.getfield 15, 3) := by decide +kernel
theorem dX1_meet_17 : decode cX1_meet 17 = .ok (.iload_n 2, 1) := by decide +kernel
theorem dX1_meet_18 : decode cX1_meet 18 = .ok (.dup2, 1) := by decide +kernel
theorem dX1_meet_19 : decode cX1_meet 19 = .ok (.iaload, 1) := by decide +kernel
theorem dX1_meet_20 : decode cX1_meet 20 = .ok (.iconst 1, 1) := by decide +kernel
theorem dX1_meet_21 : decode cX1_meet 21 = .ok (.iload_n 1, 1) := by decide +kernel
theorem dX1_meet_22 : decode cX1_meet 22 = .ok (.ishl, 1) := by decide +kernel
theorem dX1_meet_23 : decode cX1_meet 23 = .ok (.ior, 1) := by decide +kernel
theorem dX1_meet_24 : decode cX1_meet 24 = .ok (.iastore, 1) := by decide +kernel
theorem dX1_meet_25 : decode cX1_meet 25 = .ok (.iinc 2 1, 3) := by decide +kernel
theorem dX1_meet_28 : decode cX1_meet 28 = .ok (.goto (-26), 3) := by decide +kernel
theorem dX1_meet_31 : decode cX1_meet 31 = .ok (.return_, 1) := by decide +kernel
theorem dX1_addEntry_0 : decode cX1_addEntry 0 = .ok (.aload_n 0, 1) := by decide +kernel
theorem dX1_addEntry_1 : decode cX1_addEntry 1 = .ok (.getfield 44, 3) := by decide +kernel
theorem dX1_addEntry_4 : decode cX1_addEntry 4 = .ok (.bipush 40, 2) := by decide +kernel
theorem dX1_addEntry_6 : decode cX1_addEntry 6 = .ok (.if_icmp .ge 43, 3) := by decide +kernel
theorem dX1_addEntry_9 : decode cX1_addEntry 9 = .ok (.aload_n 0, 1) := by decide +kernel
theorem dX1_addEntry_10 : decode cX1_addEntry 10 = .ok (.getfield 18, 3) := by decide +kernel
theorem dX1_addEntry_13 : decode cX1_addEntry 13 = .ok (.aload_n 0, 1) := by decide +kernel
theorem dX1_addEntry_14 : decode cX1_addEntry 14 = .ok (.getfield 44, 3) := by decide +kernel
theorem dX1_addEntry_17 : decode cX1_addEntry 17 = .ok (.iload_n 1, 1) := by decide +kernel
theorem dX1_addEntry_18 : decode cX1_addEntry 18 = .ok (.iastore, 1) := by decide +kernel
theorem dX1_addEntry_19 : decode cX1_addEntry 19 = .ok (.aload_n 0, 1) := by decide +kernel
theorem dX1_addEntry_20 : decode cX1_addEntry 20 = .ok (.getfield 21, 3) := by decide +kernel
theorem dX1_addEntry_23 : decode cX1_addEntry 23 = .ok (.aload_n 0, 1) := by decide +kernel
theorem dX1_addEntry_24 : decode cX1_addEntry 24 = .ok (.getfield 44, 3) := by decide +kernel
theorem dX1_addEntry_27 : decode cX1_addEntry 27 = .ok (.iload_n 2, 1) := by decide +kernel
theorem dX1_addEntry_28 : decode cX1_addEntry 28 = .ok (.iastore, 1) := by decide +kernel
theorem dX1_addEntry_29 : decode cX1_addEntry 29 = .ok (.aload_n 0, 1) := by decide +kernel
theorem dX1_addEntry_30 : decode cX1_addEntry 30 = .ok (.getfield 24, 3) := by decide +kernel
theorem dX1_addEntry_33 : decode cX1_addEntry 33 = .ok (.aload_n 0, 1) := by decide +kernel
theorem dX1_addEntry_34 : decode cX1_addEntry 34 = .ok (.getfield 44, 3) := by decide +kernel
theorem dX1_addEntry_37 : decode cX1_addEntry 37 = .ok (.iload_n 3, 1) := by decide +kernel
theorem dX1_addEntry_38 : decode cX1_addEntry 38 = .ok (.iastore, 1) := by decide +kernel
theorem dX1_addEntry_39 : decode cX1_addEntry 39 = .ok (.aload_n 0, 1) := by decide +kernel
theorem dX1_addEntry_40 : decode cX1_addEntry 40 = .ok (.dup, 1) := by decide +kernel
theorem dX1_addEntry_41 : decode cX1_addEntry 41 = .ok (.getfield 44, 3) := by decide +kernel
theorem dX1_addEntry_44 : decode cX1_addEntry 44 = .ok (.iconst 1, 1) := by decide +kernel
theorem dX1_addEntry_45 : decode cX1_addEntry 45 = .ok (.iadd, 1) := by decide +kernel
theorem dX1_addEntry_46 : decode cX1_addEntry 46 = .ok (.putfield 44, 3) := by decide +kernel
theorem dX1_addEntry_49 : decode cX1_addEntry 49 = .ok (.return_, 1) := by decide +kernel
theorem dX1_heldOn_0 : decode cX1_heldOn 0 = .ok (.iconst (-1), 1) := by decide +kernel
theorem dX1_heldOn_1 : decode cX1_heldOn 1 = .ok (.istore_n 3, 1) := by decide +kernel
theorem dX1_heldOn_2 : decode cX1_heldOn 2 = .ok (.iconst (-1), 1) := by decide +kernel
theorem dX1_heldOn_3 : decode cX1_heldOn 3 = .ok (.istore 4, 2) := by decide +kernel
theorem dX1_heldOn_5 : decode cX1_heldOn 5 = .ok (.iconst 0, 1) := by decide +kernel
theorem dX1_heldOn_6 : decode cX1_heldOn 6 = .ok (.istore 5, 2) := by decide +kernel
theorem dX1_heldOn_8 : decode cX1_heldOn 8 = .ok (.iload 5, 2) := by decide +kernel
theorem dX1_heldOn_10 : decode cX1_heldOn 10 = .ok (.aload_n 0, 1) := by decide +kernel
theorem dX1_heldOn_11 : decode cX1_heldOn 11 = .ok (.getfield 44, 3) := by decide +kernel
theorem dX1_heldOn_14 : decode cX1_heldOn 14 = .ok (.if_icmp .ge 59, 3) := by decide +kernel
theorem dX1_heldOn_17 : decode cX1_heldOn 17 = .ok (.aload_n 0, 1) := by decide +kernel
theorem dX1_heldOn_18 : decode cX1_heldOn 18 = .ok (.getfield 21, 3) := by decide +kernel
theorem dX1_heldOn_21 : decode cX1_heldOn 21 = .ok (.iload 5, 2) := by decide +kernel
theorem dX1_heldOn_23 : decode cX1_heldOn 23 = .ok (.iaload, 1) := by decide +kernel
theorem dX1_heldOn_24 : decode cX1_heldOn 24 = .ok (.iload_n 2, 1) := by decide +kernel
theorem dX1_heldOn_25 : decode cX1_heldOn 25 = .ok (.if_icmp .gt 42, 3) := by decide +kernel
theorem dX1_heldOn_28 : decode cX1_heldOn 28 = .ok (.aload_n 0, 1) := by decide +kernel
theorem dX1_heldOn_29 : decode cX1_heldOn 29 = .ok (.getfield 18, 3) := by decide +kernel
theorem dX1_heldOn_32 : decode cX1_heldOn 32 = .ok (.iload 5, 2) := by decide +kernel
theorem dX1_heldOn_34 : decode cX1_heldOn 34 = .ok (.iaload, 1) := by decide +kernel
theorem dX1_heldOn_35 : decode cX1_heldOn 35 = .ok (.iload_n 1, 1) := by decide +kernel
theorem dX1_heldOn_36 : decode cX1_heldOn 36 = .ok (.if_icmp .gt 31, 3) := by decide +kernel
theorem dX1_heldOn_39 : decode cX1_heldOn 39 = .ok (.aload_n 0, 1) := by decide +kernel
theorem dX1_heldOn_40 : decode cX1_heldOn 40 = .ok (.getfield 18, 3) := by decide +kernel
theorem dX1_heldOn_43 : decode cX1_heldOn 43 = .ok (.iload 5, 2) := by decide +kernel
theorem dX1_heldOn_45 : decode cX1_heldOn 45 = .ok (.iaload, 1) := by decide +kernel
theorem dX1_heldOn_46 : decode cX1_heldOn 46 = .ok (.iload_n 3, 1) := by decide +kernel
theorem dX1_heldOn_47 : decode cX1_heldOn 47 = .ok (.if_icmp .lt 20, 3) := by decide +kernel
theorem dX1_heldOn_50 : decode cX1_heldOn 50 = .ok (.aload_n 0, 1) := by decide +kernel
theorem dX1_heldOn_51 : decode cX1_heldOn 51 = .ok (.getfield 18, 3) := by decide +kernel
theorem dX1_heldOn_54 : decode cX1_heldOn 54 = .ok (.iload 5, 2) := by decide +kernel
theorem dX1_heldOn_56 : decode cX1_heldOn 56 = .ok (.iaload, 1) := by decide +kernel
theorem dX1_heldOn_57 : decode cX1_heldOn 57 = .ok (.istore_n 3, 1) := by decide +kernel
theorem dX1_heldOn_58 : decode cX1_heldOn 58 = .ok (.aload_n 0, 1) := by decide +kernel
theorem dX1_heldOn_59 : decode cX1_heldOn 59 = .ok (.getfield 24, 3) := by decide +kernel
theorem dX1_heldOn_62 : decode cX1_heldOn 62 = .ok (.iload 5, 2) := by decide +kernel
theorem dX1_heldOn_64 : decode cX1_heldOn 64 = .ok (.iaload, 1) := by decide +kernel
theorem dX1_heldOn_65 : decode cX1_heldOn 65 = .ok (.istore 4, 2) := by decide +kernel
theorem dX1_heldOn_67 : decode cX1_heldOn 67 = .ok (.iinc 5 1, 3) := by decide +kernel
theorem dX1_heldOn_70 : decode cX1_heldOn 70 = .ok (.goto (-62), 3) := by decide +kernel
theorem dX1_heldOn_73 : decode cX1_heldOn 73 = .ok (.iload 4, 2) := by decide +kernel
theorem dX1_heldOn_75 : decode cX1_heldOn 75 = .ok (.ireturn, 1) := by decide +kernel
theorem dX1_nextEntryDay_0 : decode cX1_nextEntryDay 0 = .ok (.ldc 47, 2) := by decide +kernel
theorem dX1_nextEntryDay_2 : decode cX1_nextEntryDay 2 = .ok (.istore_n 2, 1) := by decide +kernel
theorem dX1_nextEntryDay_3 : decode cX1_nextEntryDay 3 = .ok (.iconst 0, 1) := by decide +kernel
theorem dX1_nextEntryDay_4 : decode cX1_nextEntryDay 4 = .ok (.istore_n 3, 1) := by decide +kernel
theorem dX1_nextEntryDay_5 : decode cX1_nextEntryDay 5 = .ok (.iload_n 3, 1) := by decide +kernel
theorem dX1_nextEntryDay_6 : decode cX1_nextEntryDay 6 = .ok (.aload_n 0, 1) := by decide +kernel
theorem dX1_nextEntryDay_7 : decode cX1_nextEntryDay 7 = .ok (.getfield 44, 3) := by decide +kernel
theorem dX1_nextEntryDay_10 : decode cX1_nextEntryDay 10 = .ok (.if_icmp .ge 30, 3) := by decide +kernel
theorem dX1_nextEntryDay_13 : decode cX1_nextEntryDay 13 = .ok (.aload_n 0, 1) := by decide +kernel
theorem dX1_nextEntryDay_14 : decode cX1_nextEntryDay 14 = .ok (.getfield 18, 3) := by decide +kernel
theorem dX1_nextEntryDay_17 : decode cX1_nextEntryDay 17 = .ok (.iload_n 3, 1) := by decide +kernel
theorem dX1_nextEntryDay_18 : decode cX1_nextEntryDay 18 = .ok (.iaload, 1) := by decide +kernel
theorem dX1_nextEntryDay_19 : decode cX1_nextEntryDay 19 = .ok (.iload_n 1, 1) := by decide +kernel
theorem dX1_nextEntryDay_20 : decode cX1_nextEntryDay 20 = .ok (.if_icmp .le 14, 3) := by decide +kernel
theorem dX1_nextEntryDay_23 : decode cX1_nextEntryDay 23 = .ok (.iload_n 2, 1) := by decide +kernel
theorem dX1_nextEntryDay_24 : decode cX1_nextEntryDay 24 = .ok (.aload_n 0, 1) := by decide +kernel
theorem dX1_nextEntryDay_25 : decode cX1_nextEntryDay 25 = .ok (.getfield 18, 3) := by decide +kernel
theorem dX1_nextEntryDay_28 : decode cX1_nextEntryDay 28 = .ok (.iload_n 3, 1) := by decide +kernel
theorem dX1_nextEntryDay_29 : decode cX1_nextEntryDay 29 = .ok (.iaload, 1) := by decide +kernel
theorem dX1_nextEntryDay_30 : decode cX1_nextEntryDay 30 = .ok (.invokestatic 48, 3) := by decide +kernel
theorem dX1_nextEntryDay_33 : decode cX1_nextEntryDay 33 = .ok (.istore_n 2, 1) := by decide +kernel
theorem dX1_nextEntryDay_34 : decode cX1_nextEntryDay 34 = .ok (.iinc 3 1, 3) := by decide +kernel
theorem dX1_nextEntryDay_37 : decode cX1_nextEntryDay 37 = .ok (.goto (-32), 3) := by decide +kernel
theorem dX1_nextEntryDay_40 : decode cX1_nextEntryDay 40 = .ok (.iload_n 2, 1) := by decide +kernel
theorem dX1_nextEntryDay_41 : decode cX1_nextEntryDay 41 = .ok (.ireturn, 1) := by decide +kernel
theorem dX2_init_0 : decode cX2_init 0 = .ok (.aload_n 0, 1) := by decide +kernel
theorem dX2_init_1 : decode cX2_init 1 = .ok (.invokespecial 3, 3) := by decide +kernel
theorem dX2_init_4 : decode cX2_init 4 = .ok (.aload_n 0, 1) := by decide +kernel
theorem dX2_init_5 : decode cX2_init 5 = .ok (.iload_n 1, 1) := by decide +kernel
theorem dX2_init_6 : decode cX2_init 6 = .ok (.putfield 9, 3) := by decide +kernel
theorem dX2_init_9 : decode cX2_init 9 = .ok (.aload_n 0, 1) := by decide +kernel
theorem dX2_init_10 : decode cX2_init 10 = .ok (.iload_n 2, 1) := by decide +kernel
theorem dX2_init_11 : decode cX2_init 11 = .ok (.putfield 15, 3) := by decide +kernel
theorem dX2_init_14 : decode cX2_init 14 = .ok (.aload_n 0, 1) := by decide +kernel
theorem dX2_init_15 : decode cX2_init 15 = .ok (.iload_n 3, 1) := by decide +kernel
theorem dX2_init_16 : decode cX2_init 16 = .ok (.putfield 18, 3) := by decide +kernel
theorem dX2_init_19 : decode cX2_init 19 = .ok (.aload_n 0, 1) := by decide +kernel
theorem dX2_init_20 : decode cX2_init 20 = .ok (.iload 4, 2) := by decide +kernel
theorem dX2_init_22 : decode cX2_init 22 = .ok (.putfield 21, 3) := by decide +kernel
theorem dX2_init_25 : decode cX2_init 25 = .ok (.return_, 1) := by decide +kernel
set_option maxRecDepth 20000 in
theorem ggX2_girthAt_X4_parted : GoodIn wsX2_girthAt wsX4_parted := goodIn_r _ [6] (by decide +kernel) (by decide +kernel)
set_option maxRecDepth 20000 in
theorem gX2_girthAt_X4_parted_n24 : GoodIn wsX2_girthAt (wsX4_parted) := ggX2_girthAt_X4_parted
theorem dX2_girthAt_0 : decode cX2_girthAt 0 = .ok (.iconst 2, 1) := by decide +kernel
theorem dX2_girthAt_1 : decode cX2_girthAt 1 = .ok (.iload_n 1, 1) := by decide +kernel
theorem dX2_girthAt_2 : decode cX2_girthAt 2 = .ok (.imul, 1) := by decide +kernel
theorem dX2_girthAt_3 : decode cX2_girthAt 3 = .ok (.aload_n 0, 1) := by decide +kernel
theorem dX2_girthAt_4 : decode cX2_girthAt 4 = .ok (.getfield 9, 3) := by decide +kernel
theorem dX2_girthAt_7 : decode cX2_girthAt 7 = .ok (.isub, 1) := by decide +kernel
theorem dX2_girthAt_8 : decode cX2_girthAt 8 = .ok (.istore_n 2, 1) := by decide +kernel
theorem dX2_girthAt_9 : decode cX2_girthAt 9 = .ok (.aload_n 0, 1) := by decide +kernel
theorem dX2_girthAt_10 : decode cX2_girthAt 10 = .ok (.getfield 15, 3) := by decide +kernel
theorem dX2_girthAt_13 : decode cX2_girthAt 13 = .ok (.aload_n 0, 1) := by decide +kernel
theorem dX2_girthAt_14 : decode cX2_girthAt 14 = .ok (.getfield 15, 3) := by decide +kernel
theorem dX2_girthAt_17 : decode cX2_girthAt 17 = .ok (.aload_n 0, 1) := by decide +kernel
theorem dX2_girthAt_18 : decode cX2_girthAt 18 = .ok (.getfield 18, 3) := by decide +kernel
theorem dX2_girthAt_21 : decode cX2_girthAt 21 = .ok (.isub, 1) := by decide +kernel
theorem dX2_girthAt_22 : decode cX2_girthAt 22 = .ok (.iload_n 2, 1) := by decide +kernel
theorem dX2_girthAt_23 : decode cX2_girthAt 23 = .ok (.imul, 1) := by decide +kernel
theorem dX2_girthAt_24 : decode cX2_girthAt 24 = .ok (.iload_n 2, 1) := by decide +kernel
theorem dX2_girthAt_25 : decode cX2_girthAt 25 = .ok (.imul, 1) := by decide +kernel
theorem dX2_girthAt_26 : decode cX2_girthAt 26 = .ok (.aload_n 0, 1) := by decide +kernel
theorem dX2_girthAt_27 : decode cX2_girthAt 27 = .ok (.getfield 9, 3) := by decide +kernel
theorem dX2_girthAt_30 : decode cX2_girthAt 30 = .ok (.aload_n 0, 1) := by decide +kernel
theorem dX2_girthAt_31 : decode cX2_girthAt 31 = .ok (.getfield 9, 3) := by decide +kernel
theorem dX2_girthAt_34 : decode cX2_girthAt 34 = .ok (.imul, 1) := by decide +kernel
theorem dX2_girthAt_35 : decode cX2_girthAt 35 = .ok (.invokestatic 24, 3) := by decide +kernel
theorem dX2_girthAt_38 : decode cX2_girthAt 38 = .ok (.isub, 1) := by decide +kernel
theorem dX2_girthAt_39 : decode cX2_girthAt 39 = .ok (.ireturn, 1) := by decide +kernel
set_option maxRecDepth 20000 in
theorem ggX2_widthAt_X2_girthAt : GoodIn wsX2_widthAt wsX2_girthAt := goodIn_r _ [6, 7, 8, 9, 10, 11, 12, 13, 14, 15, 16] (by decide +kernel) (by decide +kernel)
set_option maxRecDepth 20000 in
theorem gX2_widthAt_X2_girthAt : GoodIn wsX2_widthAt (wsV RX2 28 RX2 yX2_girthAt wsX2_girthAt) := goodIn_app (goodIn_of _ (by decide +kernel)) ggX2_widthAt_X2_girthAt
set_option maxRecDepth 20000 in
theorem ggX2_widthAt_X4_parted : GoodIn wsX2_widthAt wsX4_parted := goodIn_r _ [12] (by decide +kernel) (by decide +kernel)
set_option maxRecDepth 20000 in
theorem gX2_widthAt_X4_parted_n24 : GoodIn wsX2_widthAt (wsX4_parted) := ggX2_widthAt_X4_parted
theorem dX2_widthAt_0 : decode cX2_widthAt 0 = .ok (.aload_n 0, 1) := by decide +kernel
theorem dX2_widthAt_1 : decode cX2_widthAt 1 = .ok (.iload_n 2, 1) := by decide +kernel
theorem dX2_widthAt_2 : decode cX2_widthAt 2 = .ok (.invokevirtual 28, 3) := by decide +kernel
theorem dX2_widthAt_5 : decode cX2_widthAt 5 = .ok (.istore_n 3, 1) := by decide +kernel
theorem dX2_widthAt_6 : decode cX2_widthAt 6 = .ok (.iload_n 3, 1) := by decide +kernel
theorem dX2_widthAt_7 : decode cX2_widthAt 7 = .ok (.iload_n 1, 1) := by decide +kernel
theorem dX2_widthAt_8 : decode cX2_widthAt 8 = .ok (.iconst 1, 1) := by decide +kernel
theorem dX2_widthAt_9 : decode cX2_widthAt 9 = .ok (.iadd, 1) := by decide +kernel
theorem dX2_widthAt_10 : decode cX2_widthAt 10 = .ok (.imul, 1) := by decide +kernel
theorem dX2_widthAt_11 : decode cX2_widthAt 11 = .ok (.aload_n 0, 1) := by decide +kernel
theorem dX2_widthAt_12 : decode cX2_widthAt 12 = .ok (.getfield 21, 3) := by decide +kernel
theorem dX2_widthAt_15 : decode cX2_widthAt 15 = .ok (.invokestatic 24, 3) := by decide +kernel
theorem dX2_widthAt_18 : decode cX2_widthAt 18 = .ok (.iload_n 3, 1) := by decide +kernel
theorem dX2_widthAt_19 : decode cX2_widthAt 19 = .ok (.iload_n 1, 1) := by decide +kernel
theorem dX2_widthAt_20 : decode cX2_widthAt 20 = .ok (.imul, 1) := by decide +kernel
theorem dX2_widthAt_21 : decode cX2_widthAt 21 = .ok (.aload_n 0, 1) := by decide +kernel
theorem dX2_widthAt_22 : decode cX2_widthAt 22 = .ok (.getfield 21, 3) := by decide +kernel
theorem dX2_widthAt_25 : decode cX2_widthAt 25 = .ok (.invokestatic 24, 3) := by decide +kernel
theorem dX2_widthAt_28 : decode cX2_widthAt 28 = .ok (.isub, 1) := by decide +kernel
theorem dX2_widthAt_29 : decode cX2_widthAt 29 = .ok (.ireturn, 1) := by decide +kernel
set_option maxRecDepth 20000 in
theorem ggX2_bilgeWidth_X2_widthAt : GoodIn wsX2_bilgeWidth wsX2_widthAt := goodIn_r _ [6, 7, 8, 9, 10, 5, 11, 1, 12, 13, 14, 15, 16, 17, 18, 19, 20] (by decide +kernel) (by decide +kernel)
set_option maxRecDepth 20000 in
theorem gX2_bilgeWidth_X2_widthAt : GoodIn wsX2_bilgeWidth (wsV RX2 32 RX2 yX2_widthAt wsX2_widthAt) := goodIn_app (goodIn_of _ (by decide +kernel)) ggX2_bilgeWidth_X2_widthAt
theorem dX2_bilgeWidth_0 : decode cX2_bilgeWidth 0 = .ok (.aload_n 0, 1) := by decide +kernel
theorem dX2_bilgeWidth_1 : decode cX2_bilgeWidth 1 = .ok (.iload_n 1, 1) := by decide +kernel
theorem dX2_bilgeWidth_2 : decode cX2_bilgeWidth 2 = .ok (.aload_n 0, 1) := by decide +kernel
theorem dX2_bilgeWidth_3 : decode cX2_bilgeWidth 3 = .ok (.getfield 9, 3) := by decide +kernel
theorem dX2_bilgeWidth_6 : decode cX2_bilgeWidth 6 = .ok (.iconst 2, 1) := by decide +kernel
theorem dX2_bilgeWidth_7 : decode cX2_bilgeWidth 7 = .ok (.idiv, 1) := by decide +kernel
theorem dX2_bilgeWidth_8 : decode cX2_bilgeWidth 8 = .ok (.invokevirtual 32, 3) := by decide +kernel
theorem dX2_bilgeWidth_11 : decode cX2_bilgeWidth 11 = .ok (.ireturn, 1) := by decide +kernel
set_option maxRecDepth 20000 in
theorem ggX2_contentTo_X2_squareAt : GoodIn wsX2_contentTo wsX2_squareAt := goodIn_r _ [5, 6, 7, 8, 4, 9, 10, 11, 12, 13, 14, 15, 21, 22, 23, 24] (by decide +kernel) (by decide +kernel)
set_option maxRecDepth 20000 in
theorem gX2_contentTo_X2_squareAt : GoodIn wsX2_contentTo (wsV RX2 35 RX2 yX2_squareAt wsX2_squareAt) := goodIn_app (goodIn_of _ (by decide +kernel)) ggX2_contentTo_X2_squareAt
set_option maxRecDepth 20000 in
theorem ggX2_contentTo_X2_content : GoodIn wsX2_contentTo wsX2_content := goodIn_r _ [18, 19, 20] (by decide +kernel) (by decide +kernel)
set_option maxRecDepth 20000 in
theorem gX2_contentTo_X2_content : GoodIn wsX2_contentTo (va_wsS RX2 39 yX2_content wsX2_content) := goodIn_app (goodIn_of _ (by decide +kernel)) ggX2_contentTo_X2_content
theorem dX2_contentTo_0 : decode cX2_contentTo 0 = .ok (.lconst 0, 1) := by decide +kernel
theorem dX2_contentTo_1 : decode cX2_contentTo 1 = .ok (.lstore_n 2, 1) := by decide +kernel
theorem dX2_contentTo_2 : decode cX2_contentTo 2 = .ok (.iconst 0, 1) := by decide +kernel
theorem dX2_contentTo_3 : decode cX2_contentTo 3 = .ok (.istore 4, 2) := by decide +kernel
theorem dX2_contentTo_5 : decode cX2_contentTo 5 = .ok (.iload 4, 2) := by decide +kernel
theorem dX2_contentTo_7 : decode cX2_contentTo 7 = .ok (.iload_n 1, 1) := by decide +kernel
theorem dX2_contentTo_8 : decode cX2_contentTo 8 = .ok (.if_icmp .ge 18, 3) := by decide +kernel
theorem dX2_contentTo_11 : decode cX2_contentTo 11 = .ok (.lload_n 2, 1) := by decide +kernel
theorem dX2_contentTo_12 : decode cX2_contentTo 12 = .ok (.aload_n 0, 1) := by decide +kernel
theorem dX2_contentTo_13 : decode cX2_contentTo 13 = .ok (.iload 4, 2) := by decide +kernel
theorem dX2_contentTo_15 : decode cX2_contentTo 15 = .ok (.invokevirtual 35, 3) := by decide +kernel
theorem dX2_contentTo_18 : decode cX2_contentTo 18 = .ok (.ladd, 1) := by decide +kernel
theorem dX2_contentTo_19 : decode cX2_contentTo 19 = .ok (.lstore_n 2, 1) := by decide +kernel
theorem dX2_contentTo_20 : decode cX2_contentTo 20 = .ok (.iinc 4 1, 3) := by decide +kernel
theorem dX2_contentTo_23 : decode cX2_contentTo 23 = .ok (.goto (-18), 3) := by decide +kernel
theorem dX2_contentTo_26 : decode cX2_contentTo 26 = .ok (.lload_n 2, 1) := by decide +kernel
theorem dX2_contentTo_27 : decode cX2_contentTo 27 = .ok (.invokestatic 39, 3) := by decide +kernel
theorem dX2_contentTo_30 : decode cX2_contentTo 30 = .ok (.ireturn, 1) := by decide +kernel
set_option maxRecDepth 20000 in
theorem ggX2_leastLevel_X2_content : GoodIn wsX2_leastLevel wsX2_content := goodIn_r _ [5, 6, 7] (by decide +kernel) (by decide +kernel)
set_option maxRecDepth 20000 in
theorem gX2_leastLevel_X2_content : GoodIn wsX2_leastLevel (va_wsS RX2 39 yX2_content wsX2_content) := goodIn_app (goodIn_of _ (by decide +kernel)) ggX2_leastLevel_X2_content
set_option maxRecDepth 20000 in
theorem ggX2_leastLevel_X2_squareAt : GoodIn wsX2_leastLevel wsX2_squareAt := goodIn_r _ [11, 12, 13, 14, 4, 15, 1, 16, 17, 18, 19, 20, 21, 22, 23, 24] (by decide +kernel) (by decide +kernel)
set_option maxRecDepth 20000 in
theorem gX2_leastLevel_X2_squareAt : GoodIn wsX2_leastLevel (wsV RX2 35 RX2 yX2_squareAt wsX2_squareAt) := goodIn_app (goodIn_of _ (by decide +kernel)) ggX2_leastLevel_X2_squareAt
theorem dX2_leastLevel_0 : decode cX2_leastLevel 0 = .ok (.lconst 0, 1) := by decide +kernel
theorem dX2_leastLevel_1 : decode cX2_leastLevel 1 = .ok (.lstore_n 2, 1) := by decide +kernel
theorem dX2_leastLevel_2 : decode cX2_leastLevel 2 = .ok (.iconst 0, 1) := by decide +kernel
theorem dX2_leastLevel_3 : decode cX2_leastLevel 3 = .ok (.istore 4, 2) := by decide +kernel
theorem dX2_leastLevel_5 : decode cX2_leastLevel 5 = .ok (.iload 4, 2) := by decide +kernel
theorem dX2_leastLevel_7 : decode cX2_leastLevel 7 = .ok (.aload_n 0, 1) := by decide +kernel
theorem dX2_leastLevel_8 : decode cX2_leastLevel 8 = .ok (.getfield 9, 3) := by decide +kernel
theorem dX2_leastLevel_11 : decode cX2_leastLevel 11 = .ok (.if_icmp .gt 29, 3) := by decide +kernel
theorem dX2_leastLevel_14 : decode cX2_leastLevel 14 = .ok (.lload_n 2, 1) := by decide +kernel
theorem dX2_leastLevel_15 : decode cX2_leastLevel 15 = .ok (.invokestatic 39, 3) := by decide +kernel
theorem dX2_leastLevel_18 : decode cX2_leastLevel 18 = .ok (.iload_n 1, 1) := by decide +kernel
theorem dX2_leastLevel_19 : decode cX2_leastLevel 19 = .ok (.if_icmp .lt 6, 3) := by decide +kernel
theorem dX2_leastLevel_22 : decode cX2_leastLevel 22 = .ok (.iload 4, 2) := by decide +kernel
theorem dX2_leastLevel_24 : decode cX2_leastLevel 24 = .ok (.ireturn, 1) := by decide +kernel
theorem dX2_leastLevel_25 : decode cX2_leastLevel 25 = .ok (.lload_n 2, 1) := by decide +kernel
theorem dX2_leastLevel_26 : decode cX2_leastLevel 26 = .ok (.aload_n 0, 1) := by decide +kernel
theorem dX2_leastLevel_27 : decode cX2_leastLevel 27 = .ok (.iload 4, 2) := by decide +kernel
theorem dX2_leastLevel_29 : decode cX2_leastLevel 29 = .ok (.invokevirtual 35, 3) := by decide +kernel
theorem dX2_leastLevel_32 : decode cX2_leastLevel 32 = .ok (.ladd, 1) := by decide +kernel
theorem dX2_leastLevel_33 : decode cX2_leastLevel 33 = .ok (.lstore_n 2, 1) := by decide +kernel
theorem dX2_leastLevel_34 : decode cX2_leastLevel 34 = .ok (.iinc 4 1, 3) := by decide +kernel
theorem dX2_leastLevel_37 : decode cX2_leastLevel 37 = .ok (.goto (-32), 3) := by decide +kernel
theorem dX2_leastLevel_40 : decode cX2_leastLevel 40 = .ok (.iconst (-1), 1) := by decide +kernel
theorem dX2_leastLevel_41 : decode cX2_leastLevel 41 = .ok (.ireturn, 1) := by decide +kernel
set_option maxRecDepth 20000 in
theorem ggX2_squareAt_X2_girthAt : GoodIn wsX2_squareAt wsX2_girthAt := goodIn_r _ [5, 6, 7, 8, 9, 10, 11, 12, 13, 14, 15] (by decide +kernel) (by decide +kernel)
set_option maxRecDepth 20000 in
theorem gX2_squareAt_X2_girthAt : GoodIn wsX2_squareAt (wsV RX2 28 RX2 yX2_girthAt wsX2_girthAt) := goodIn_app (goodIn_of _ (by decide +kernel)) ggX2_squareAt_X2_girthAt
theorem dX2_squareAt_0 : decode cX2_squareAt 0 = .ok (.aload_n 0, 1) := by decide +kernel
theorem dX2_squareAt_1 : decode cX2_squareAt 1 = .ok (.iload_n 1, 1) := by decide +kernel
theorem dX2_squareAt_2 : decode cX2_squareAt 2 = .ok (.invokevirtual 28, 3) := by decide +kernel
theorem dX2_squareAt_5 : decode cX2_squareAt 5 = .ok (.i2l, 1) := by decide +kernel
theorem dX2_squareAt_6 : decode cX2_squareAt 6 = .ok (.lstore_n 2, 1) := by decide +kernel
theorem dX2_squareAt_7 : decode cX2_squareAt 7 = .ok (.lload_n 2, 1) := by decide +kernel
theorem dX2_squareAt_8 : decode cX2_squareAt 8 = .ok (.lload_n 2, 1) := by decide +kernel
theorem dX2_squareAt_9 : decode cX2_squareAt 9 = .ok (.lmul, 1) := by decide +kernel
theorem dX2_squareAt_10 : decode cX2_squareAt 10 = .ok (.lreturn, 1) := by decide +kernel
theorem dX2_content_0 : decode cX2_content 0 = .ok (.lload_n 0, 1) := by decide +kernel
theorem dX2_content_1 : decode cX2_content 1 = .ok (.ldc2_w 43, 3) := by decide +kernel
theorem dX2_content_4 : decode cX2_content 4 = .ok (.lmul, 1) := by decide +kernel
theorem dX2_content_5 : decode cX2_content 5 = .ok (.ldc2_w 45, 3) := by decide +kernel
theorem dX2_content_8 : decode cX2_content 8 = .ok (.ldiv, 1) := by decide +kernel
theorem dX2_content_9 : decode cX2_content 9 = .ok (.l2i, 1) := by decide +kernel
theorem dX2_content_10 : decode cX2_content 10 = .ok (.ireturn, 1) := by decide +kernel
set_option maxRecDepth 20000 in
theorem ggX2_narrowPiece_X4_parted : GoodIn wsX2_narrowPiece wsX4_parted := goodIn_r _ [5] (by decide +kernel) (by decide +kernel)
set_option maxRecDepth 20000 in
theorem gX2_narrowPiece_X4_parted_n24 : GoodIn wsX2_narrowPiece (wsX4_parted) := ggX2_narrowPiece_X4_parted
theorem dX2_narrowPiece_0 : decode cX2_narrowPiece 0 = .ok (.aload_n 0, 1) := by decide +kernel
theorem dX2_narrowPiece_1 : decode cX2_narrowPiece 1 = .ok (.getfield 15, 3) := by decide +kernel
theorem dX2_narrowPiece_4 : decode cX2_narrowPiece 4 = .ok (.aload_n 0, 1) := by decide +kernel
theorem dX2_narrowPiece_5 : decode cX2_narrowPiece 5 = .ok (.getfield 21, 3) := by decide +kernel
theorem dX2_narrowPiece_8 : decode cX2_narrowPiece 8 = .ok (.invokestatic 24, 3) := by decide +kernel
theorem dX2_narrowPiece_11 : decode cX2_narrowPiece 11 = .ok (.iconst 2, 1) := by decide +kernel
theorem dX2_narrowPiece_12 : decode cX2_narrowPiece 12 = .ok (.iadd, 1) := by decide +kernel
theorem dX2_narrowPiece_13 : decode cX2_narrowPiece 13 = .ok (.ireturn, 1) := by decide +kernel
set_option maxRecDepth 20000 in
theorem ggX2_wides_X4_parted : GoodIn wsX2_wides wsX4_parted := goodIn_r _ [5] (by decide +kernel) (by decide +kernel)
set_option maxRecDepth 20000 in
theorem gX2_wides_X4_parted_n24 : GoodIn wsX2_wides (wsX4_parted) := ggX2_wides_X4_parted
theorem dX2_wides_0 : decode cX2_wides 0 = .ok (.aload_n 0, 1) := by decide +kernel
theorem dX2_wides_1 : decode cX2_wides 1 = .ok (.getfield 15, 3) := by decide +kernel
theorem dX2_wides_4 : decode cX2_wides 4 = .ok (.aload_n 0, 1) := by decide +kernel
theorem dX2_wides_5 : decode cX2_wides 5 = .ok (.getfield 15, 3) := by decide +kernel
theorem dX2_wides_8 : decode cX2_wides 8 = .ok (.aload_n 0, 1) := by decide +kernel
theorem dX2_wides_9 : decode cX2_wides 9 = .ok (.getfield 21, 3) := by decide +kernel
theorem dX2_wides_12 : decode cX2_wides 12 = .ok (.invokestatic 24, 3) := by decide +kernel
theorem dX2_wides_15 : decode cX2_wides 15 = .ok (.aload_n 0, 1) := by decide +kernel
theorem dX2_wides_16 : decode cX2_wides 16 = .ok (.getfield 21, 3) := by decide +kernel
theorem dX2_wides_19 : decode cX2_wides 19 = .ok (.imul, 1) := by decide +kernel
theorem dX2_wides_20 : decode cX2_wides 20 = .ok (.isub, 1) := by decide +kernel
theorem dX2_wides_21 : decode cX2_wides 21 = .ok (.ireturn, 1) := by decide +kernel
set_option maxRecDepth 20000 in
theorem ggX2_narrows_X2_wides : GoodIn wsX2_narrows wsX2_wides := goodIn_r _ [6, 7, 1, 8, 9, 10, 11, 12, 13, 14] (by decide +kernel) (by decide +kernel)
set_option maxRecDepth 20000 in
theorem gX2_narrows_X2_wides : GoodIn wsX2_narrows (wsV RX2 47 RX2 yX2_wides wsX2_wides) := goodIn_app (goodIn_of _ (by decide +kernel)) ggX2_narrows_X2_wides
theorem dX2_narrows_0 : decode cX2_narrows 0 = .ok (.aload_n 0, 1) := by decide +kernel
theorem dX2_narrows_1 : decode cX2_narrows 1 = .ok (.getfield 21, 3) := by decide +kernel
theorem dX2_narrows_4 : decode cX2_narrows 4 = .ok (.aload_n 0, 1) := by decide +kernel
theorem dX2_narrows_5 : decode cX2_narrows 5 = .ok (.invokevirtual 47, 3) := by decide +kernel
theorem dX2_narrows_8 : decode cX2_narrows 8 = .ok (.isub, 1) := by decide +kernel
theorem dX2_narrows_9 : decode cX2_narrows 9 = .ok (.ireturn, 1) := by decide +kernel
set_option maxRecDepth 20000 in
theorem ggX2_isWide_X2_bilgeWidth : GoodIn wsX2_isWide wsX2_bilgeWidth := goodIn_r _ [5, 6, 7, 8, 9, 4, 10, 11, 12, 13, 14, 15, 16, 17, 18, 19, 20, 25, 26, 27, 28] (by decide +kernel) (by decide +kernel)
set_option maxRecDepth 20000 in
theorem gX2_isWide_X2_bilgeWidth : GoodIn wsX2_isWide (wsV RX2 51 RX2 yX2_bilgeWidth wsX2_bilgeWidth) := goodIn_app (goodIn_of _ (by decide +kernel)) ggX2_isWide_X2_bilgeWidth
set_option maxRecDepth 20000 in
theorem ggX2_isWide_X2_narrowPiece : GoodIn wsX2_isWide wsX2_narrowPiece := goodIn_r _ [24, 16, 11, 18, 19, 20, 25, 26, 27, 28] (by decide +kernel) (by decide +kernel)
set_option maxRecDepth 20000 in
theorem gX2_isWide_X2_narrowPiece : GoodIn wsX2_isWide (wsV RX2 54 RX2 yX2_narrowPiece wsX2_narrowPiece) := goodIn_app (goodIn_of _ (by decide +kernel)) ggX2_isWide_X2_narrowPiece
theorem dX2_isWide_0 : decode cX2_isWide 0 = .ok (.aload_n 0, 1) := by decide +kernel
theorem dX2_isWide_1 : decode cX2_isWide 1 = .ok (.iload_n 1, 1) := by decide +kernel
theorem dX2_isWide_2 : decode cX2_isWide 2 = .ok (.invokevirtual 51, 3) := by decide +kernel
theorem dX2_isWide_5 : decode cX2_isWide 5 = .ok (.iconst 2, 1) := by decide +kernel
theorem dX2_isWide_6 : decode cX2_isWide 6 = .ok (.iadd, 1) := by decide +kernel
theorem dX2_isWide_7 : decode cX2_isWide 7 = .ok (.aload_n 0, 1) := by decide +kernel
theorem dX2_isWide_8 : decode cX2_isWide 8 = .ok (.invokevirtual 54, 3) := by decide +kernel
theorem dX2_isWide_11 : decode cX2_isWide 11 = .ok (.if_icmp .le 7, 3) := by decide +kernel
theorem dX2_isWide_14 : decode cX2_isWide 14 = .ok (.iconst 1, 1) := by decide +kernel
theorem dX2_isWide_15 : decode cX2_isWide 15 = .ok (.goto 4, 3) := by decide +kernel
theorem dX2_isWide_18 : decode cX2_isWide 18 = .ok (.iconst 0, 1) := by decide +kernel
theorem dX2_isWide_19 : decode cX2_isWide 19 = .ok (.ireturn, 1) := by decide +kernel
theorem dJ6_bitCount_0f7a4_0 : decode cJ6_bitCount_0f7a4 0 = .ok (.iload_n 0, 1) := by decide +kernel
theorem dJ6_bitCount_0f7a4_1 : decode cJ6_bitCount_0f7a4 1 = .ok (.iload_n 0, 1) := by decide +kernel
theorem dJ6_bitCount_0f7a4_2 : decode cJ6_bitCount_0f7a4 2 = .ok (.iconst 1, 1) := by decide +kernel
theorem dJ6_bitCount_0f7a4_3 : decode cJ6_bitCount_0f7a4 3 = .ok (.iushr, 1) := by decide +kernel
theorem dJ6_bitCount_0f7a4_4 : decode cJ6_bitCount_0f7a4 4 = .ok (.ldc_w 265, 3) := by decide +kernel
theorem dJ6_bitCount_0f7a4_7 : decode cJ6_bitCount_0f7a4 7 = .ok (.iand, 1) := by decide +kernel
theorem dJ6_bitCount_0f7a4_8 : decode cJ6_bitCount_0f7a4 8 = .ok (.isub, 1) := by decide +kernel
theorem dJ6_bitCount_0f7a4_9 : decode cJ6_bitCount_0f7a4 9 = .ok (.istore_n 0, 1) := by decide +kernel
theorem dJ6_bitCount_0f7a4_10 : decode cJ6_bitCount_0f7a4 10 = .ok (.iload_n 0, 1) := by decide +kernel
theorem dJ6_bitCount_0f7a4_11 : decode cJ6_bitCount_0f7a4 11 = .ok (.ldc_w 266, 3) := by decide +kernel
theorem dJ6_bitCount_0f7a4_14 : decode cJ6_bitCount_0f7a4 14 = .ok (.iand, 1) := by decide +kernel
theorem dJ6_bitCount_0f7a4_15 : decode cJ6_bitCount_0f7a4 15 = .ok (.iload_n 0, 1) := by decide +kernel
theorem dJ6_bitCount_0f7a4_16 : decode cJ6_bitCount_0f7a4 16 = .ok (.iconst 2, 1) := by decide +kernel
theorem dJ6_bitCount_0f7a4_17 : decode cJ6_bitCount_0f7a4 17 = .ok (.iushr, 1) := by decide +kernel
theorem dJ6_bitCount_0f7a4_18 : decode cJ6_bitCount_0f7a4 18 = .ok (.ldc_w 266, 3) := by decide +kernel
theorem dJ6_bitCount_0f7a4_21 : decode cJ6_bitCount_0f7a4 21 = .ok (.iand, 1) := by decide +kernel
theorem dJ6_bitCount_0f7a4_22 : decode cJ6_bitCount_0f7a4 22 = .ok (.iadd, 1) := by decide +kernel
theorem dJ6_bitCount_0f7a4_23 : decode cJ6_bitCount_0f7a4 23 = .ok (.istore_n 0, 1) := by decide +kernel
theorem dJ6_bitCount_0f7a4_24 : decode cJ6_bitCount_0f7a4 24 = .ok (.iload_n 0, 1) := by decide +kernel
theorem dJ6_bitCount_0f7a4_25 : decode cJ6_bitCount_0f7a4 25 = .ok (.iload_n 0, 1) := by decide +kernel
theorem dJ6_bitCount_0f7a4_26 : decode cJ6_bitCount_0f7a4 26 = .ok (.iconst 4, 1) := by decide +kernel
theorem dJ6_bitCount_0f7a4_27 : decode cJ6_bitCount_0f7a4 27 = .ok (.iushr, 1) := by decide +kernel
theorem dJ6_bitCount_0f7a4_28 : decode cJ6_bitCount_0f7a4 28 = .ok (.iadd, 1) := by decide +kernel
theorem dJ6_bitCount_0f7a4_29 : decode cJ6_bitCount_0f7a4 29 = .ok (.ldc_w 267, 3) := by decide +kernel
theorem dJ6_bitCount_0f7a4_32 : decode cJ6_bitCount_0f7a4 32 = .ok (.iand, 1) := by decide +kernel
theorem dJ6_bitCount_0f7a4_33 : decode cJ6_bitCount_0f7a4 33 = .ok (.istore_n 0, 1) := by decide +kernel
theorem dJ6_bitCount_0f7a4_34 : decode cJ6_bitCount_0f7a4 34 = .ok (.iload_n 0, 1) := by decide +kernel
theorem dJ6_bitCount_0f7a4_35 : decode cJ6_bitCount_0f7a4 35 = .ok (.iload_n 0, 1) := by decide +kernel
theorem dJ6_bitCount_0f7a4_36 : decode cJ6_bitCount_0f7a4 36 = .ok (.bipush 8, 2) := by decide +kernel
theorem dJ6_bitCount_0f7a4_38 : decode cJ6_bitCount_0f7a4 38 = .ok (.iushr, 1) := by decide +kernel
theorem dJ6_bitCount_0f7a4_39 : decode cJ6_bitCount_0f7a4 39 = .ok (.iadd, 1) := by decide +kernel
theorem dJ6_bitCount_0f7a4_40 : decode cJ6_bitCount_0f7a4 40 = .ok (.istore_n 0, 1) := by decide +kernel
theorem dJ6_bitCount_0f7a4_41 : decode cJ6_bitCount_0f7a4 41 = .ok (.iload_n 0, 1) := by decide +kernel
theorem dJ6_bitCount_0f7a4_42 : decode cJ6_bitCount_0f7a4 42 = .ok (.iload_n 0, 1) := by decide +kernel
theorem dJ6_bitCount_0f7a4_43 : decode cJ6_bitCount_0f7a4 43 = .ok (.bipush 16, 2) := by decide +kernel
theorem dJ6_bitCount_0f7a4_45 : decode cJ6_bitCount_0f7a4 45 = .ok (.iushr, 1) := by decide +kernel
theorem dJ6_bitCount_0f7a4_46 : decode cJ6_bitCount_0f7a4 46 = .ok (.iadd, 1) := by decide +kernel
theorem dJ6_bitCount_0f7a4_47 : decode cJ6_bitCount_0f7a4 47 = .ok (.istore_n 0, 1) := by decide +kernel
theorem dJ6_bitCount_0f7a4_48 : decode cJ6_bitCount_0f7a4 48 = .ok (.iload_n 0, 1) := by decide +kernel
theorem dJ6_bitCount_0f7a4_49 : decode cJ6_bitCount_0f7a4 49 = .ok (.bipush 63, 2) := by decide +kernel
theorem dJ6_bitCount_0f7a4_51 : decode cJ6_bitCount_0f7a4 51 = .ok (.iand, 1) := by decide +kernel
theorem dJ6_bitCount_0f7a4_52 : decode cJ6_bitCount_0f7a4 52 = .ok (.ireturn, 1) := by decide +kernel
theorem dJ9_max_7cf53_0 : decode cJ9_max_7cf53 0 = .ok (.iload_n 0, 1) := by decide +kernel
theorem dJ9_max_7cf53_1 : decode cJ9_max_7cf53 1 = .ok (.iload_n 1, 1) := by decide +kernel
theorem dJ9_max_7cf53_2 : decode cJ9_max_7cf53 2 = .ok (.if_icmp .lt 7, 3) := by decide +kernel
theorem dJ9_max_7cf53_5 : decode cJ9_max_7cf53 5 = .ok (.iload_n 0, 1) := by decide +kernel
theorem dJ9_max_7cf53_6 : decode cJ9_max_7cf53 6 = .ok (.goto 4, 3) := by decide +kernel
theorem dJ9_max_7cf53_9 : decode cJ9_max_7cf53 9 = .ok (.iload_n 1, 1) := by decide +kernel
theorem dJ9_max_7cf53_10 : decode cJ9_max_7cf53 10 = .ok (.ireturn, 1) := by decide +kernel
theorem dJ9_min_7cf53_0 : decode cJ9_min_7cf53 0 = .ok (.iload_n 0, 1) := by decide +kernel
theorem dJ9_min_7cf53_1 : decode cJ9_min_7cf53 1 = .ok (.iload_n 1, 1) := by decide +kernel
theorem dJ9_min_7cf53_2 : decode cJ9_min_7cf53 2 = .ok (.if_icmp .gt 7, 3) := by decide +kernel
theorem dJ9_min_7cf53_5 : decode cJ9_min_7cf53 5 = .ok (.iload_n 0, 1) := by decide +kernel
theorem dJ9_min_7cf53_6 : decode cJ9_min_7cf53 6 = .ok (.goto 4, 3) := by decide +kernel
theorem dJ9_min_7cf53_9 : decode cJ9_min_7cf53 9 = .ok (.iload_n 1, 1) := by decide +kernel
theorem dJ9_min_7cf53_10 : decode cJ9_min_7cf53 10 = .ok (.ireturn, 1) := by decide +kernel
