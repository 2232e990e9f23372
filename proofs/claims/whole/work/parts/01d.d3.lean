theorem dX3_init_0 : decode cX3_init 0 = .ok (.aload_n 0, 1) := by decide +kernel
theorem dX3_init_1 : decode cX3_init 1 = .ok (.invokespecial 3, 3) := by decide +kernel
theorem dX3_init_4 : decode cX3_init 4 = .ok (.aload_n 0, 1) := by decide +kernel
theorem dX3_init_5 : decode cX3_init 5 = .ok (.bipush 8, 2) := by decide +kernel
theorem dX3_init_7 : decode cX3_init 7 = .ok (.anewarray 9, 3) := by decide +kernel
theorem dX3_init_10 : decode cX3_init 10 = .ok (.putfield 11, 3) := by decide +kernel
theorem dX3_init_13 : decode cX3_init 13 = .ok (.aload_n 0, 1) := by decide +kernel
theorem dX3_init_14 : decode cX3_init 14 = .ok (.bipush 32, 2) := by decide +kernel
theorem dX3_init_16 : decode cX3_init 16 = .ok (.newarray .int, 2) := by decide +kernel
theorem dX3_init_18 : decode cX3_init 18 = .ok (.putfield 17, 3) := by decide +kernel
theorem dX3_init_21 : decode cX3_init 21 = .ok (.aload_n 0, 1) := by decide +kernel
theorem dX3_init_22 : decode cX3_init 22 = .ok (.bipush 32, 2) := by decide +kernel
theorem dX3_init_24 : decode cX3_init 24 = .ok (.newarray .int, 2) := by decide +kernel
theorem dX3_init_26 : decode cX3_init 26 = .ok (.putfield 21, 3) := by decide +kernel
theorem dX3_init_29 : decode cX3_init 29 = .ok (.aload_n 0, 1) := by decide +kernel
theorem dX3_init_30 : decode cX3_init 30 = .ok (.bipush 32, 2) := by decide +kernel
theorem dX3_init_32 : decode cX3_init 32 = .ok (.newarray .int, 2) := by decide +kernel
theorem dX3_init_34 : decode cX3_init 34 = .ok (.putfield 24, 3) := by decide +kernel
theorem dX3_init_37 : decode cX3_init 37 = .ok (.aload_n 0, 1) := by decide +kernel
theorem dX3_init_38 : decode cX3_init 38 = .ok (.bipush 32, 2) := by decide +kernel
theorem dX3_init_40 : decode cX3_init 40 = .ok (.newarray .int, 2) := by decide +kernel
theorem dX3_init_42 : decode cX3_init 42 = .ok (.putfield 27, 3) := by decide +kernel
theorem dX3_init_45 : decode cX3_init 45 = .ok (.aload_n 0, 1) := by decide +kernel
theorem dX3_init_46 : decode cX3_init 46 = .ok (.bipush 32, 2) := by decide +kernel
theorem dX3_init_48 : decode cX3_init 48 = .ok (.newarray .int, 2) := by decide +kernel
theorem dX3_init_50 : decode cX3_init 50 = .ok (.putfield 30, 3) := by decide +kernel
theorem dX3_init_53 : decode cX3_init 53 = .ok (.aload_n 0, 1) := by decide +kernel
theorem dX3_init_54 : decode cX3_init 54 = .ok (.bipush 32, 2) := by decide +kernel
theorem dX3_init_56 : decode cX3_init 56 = .ok (.newarray .int, 2) := by decide +kernel
theorem dX3_init_58 : decode cX3_init 58 = .ok (.putfield 33, 3) := by decide +kernel
theorem dX3_init_61 : decode cX3_init 61 = .ok (.aload_n 0, 1) := by decide +kernel
theorem dX3_init_62 : decode cX3_init 62 = .ok (.bipush 32, 2) := by decide +kernel
theorem dX3_init_64 : decode cX3_init 64 = .ok (.newarray .int, 2) := by decide +kernel
theorem dX3_init_66 : decode cX3_init 66 = .ok (.putfield 36, 3) := by decide +kernel
theorem dX3_init_69 : decode cX3_init 69 = .ok (.aload_n 0, 1) := by decide +kernel
theorem dX3_init_70 : decode cX3_init 70 = .ok (.bipush 32, 2) := by decide +kernel
theorem dX3_init_72 : decode cX3_init 72 = .ok (.newarray .boolean, 2) := by decide +kernel
theorem dX3_init_74 : decode cX3_init 74 = .ok (.putfield 39, 3) := by decide +kernel
theorem dX3_init_77 : decode cX3_init 77 = .ok (.aload_n 0, 1) := by decide +kernel
theorem dX3_init_78 : decode cX3_init 78 = .ok (.bipush 32, 2) := by decide +kernel
theorem dX3_init_80 : decode cX3_init 80 = .ok (.newarray .int, 2) := by decide +kernel
theorem dX3_init_82 : decode cX3_init 82 = .ok (.putfield 43, 3) := by decide +kernel
theorem dX3_init_85 : decode cX3_init 85 = .ok (.aload_n 0, 1) := by decide +kernel
theorem dX3_init_86 : decode cX3_init 86 = .ok (.bipush 32, 2) := by decide +kernel
theorem dX3_init_88 : decode cX3_init 88 = .ok (.newarray .int, 2) := by decide +kernel
theorem dX3_init_90 : decode cX3_init 90 = .ok (.putfield 46, 3) := by decide +kernel
theorem dX3_init_93 : decode cX3_init 93 = .ok (.return_, 1) := by decide +kernel
theorem dX3_prepare_0 : decode cX3_prepare 0 = .ok (.aload_n 0, 1) := by decide +kernel
theorem dX3_prepare_1 : decode cX3_prepare 1 = .ok (.iconst 0, 1) := by decide +kernel
theorem dX3_prepare_2 : decode cX3_prepare 2 = .ok (.putfield 49, 3) := by decide +kernel
theorem dX3_prepare_5 : decode cX3_prepare 5 = .ok (.aload_n 0, 1) := by decide +kernel
theorem dX3_prepare_6 : decode cX3_prepare 6 = .ok (.iconst 0, 1) := by decide +kernel
theorem dX3_prepare_7 : decode cX3_prepare 7 = .ok (.putfield 53, 3) := by decide +kernel
theorem dX3_prepare_10 : decode cX3_prepare 10 = .ok (.aload_n 0, 1) := by decide +kernel
theorem dX3_prepare_11 : decode cX3_prepare 11 = .ok (.iload_n 1, 1) := by decide +kernel
theorem dX3_prepare_12 : decode cX3_prepare 12 = .ok (.putfield 56, 3) := by decide +kernel
theorem dX3_prepare_15 : decode cX3_prepare 15 = .ok (.return_, 1) := by decide +kernel
set_option maxRecDepth 20000 in
theorem ggX3_lay_X3_layPart : GoodIn wsX3_lay wsX3_layPart := goodIn_r _ [10, 11, 12, 13, 1, 14, 15, 16, 17, 18, 19, 20, 21, 22, 23, 24, 9, 25, 26, 27, 28, 29, 30, 31, 32, 33, 34, 35, 36, 37, 38, 39, 40] (by decide +kernel) (by decide +kernel)
set_option maxRecDepth 20000 in
theorem gX3_lay_X3_layPart : GoodIn wsX3_lay (wsV RX3 66 RX3 yX3_layPart wsX3_layPart) := goodIn_app (goodIn_of _ (by decide +kernel)) ggX3_lay_X3_layPart
theorem dX3_lay_0 : decode cX3_lay 0 = .ok (.aload_n 0, 1) := by decide +kernel
theorem dX3_lay_1 : decode cX3_lay 1 = .ok (.getfield 49, 3) := by decide +kernel
theorem dX3_lay_4 : decode cX3_lay 4 = .ok (.bipush 8, 2) := by decide +kernel
theorem dX3_lay_6 : decode cX3_lay 6 = .ok (.if_icmp .lt 4, 3) := by decide +kernel
theorem dX3_lay_9 : decode cX3_lay 9 = .ok (.return_, 1) := by decide +kernel
theorem dX3_lay_10 : decode cX3_lay 10 = .ok (.iconst 0, 1) := by decide +kernel
theorem dX3_lay_11 : decode cX3_lay 11 = .ok (.istore_n 3, 1) := by decide +kernel
theorem dX3_lay_12 : decode cX3_lay 12 = .ok (.iload_n 3, 1) := by decide +kernel
theorem dX3_lay_13 : decode cX3_lay 13 = .ok (.aload_n 1, 1) := by decide +kernel
theorem dX3_lay_14 : decode cX3_lay 14 = .ok (.getfield 59, 3) := by decide +kernel
theorem dX3_lay_17 : decode cX3_lay 17 = .ok (.if_icmp .ge 27, 3) := by decide +kernel
theorem dX3_lay_20 : decode cX3_lay 20 = .ok (.aload_n 0, 1) := by decide +kernel
theorem dX3_lay_21 : decode cX3_lay 21 = .ok (.aload_n 1, 1) := by decide +kernel
theorem dX3_lay_22 : decode cX3_lay 22 = .ok (.getfield 60, 3) := by decide +kernel
theorem dX3_lay_25 : decode cX3_lay 25 = .ok (.iload_n 3, 1) := by decide +kernel
theorem dX3_lay_26 : decode cX3_lay 26 = .ok (.iaload, 1) := by decide +kernel
theorem dX3_lay_27 : decode cX3_lay 27 = .ok (.aload_n 1, 1) := by decide +kernel
theorem dX3_lay_28 : decode cX3_lay 28 = .ok (.getfield 63, 3) := by decide +kernel
theorem dX3_lay_31 : decode cX3_lay 31 = .ok (.iload_n 3, 1) := by decide +kernel
theorem dX3_lay_32 : decode cX3_lay 32 = .ok (.iaload, 1) := by decide +kernel
theorem dX3_lay_33 : decode cX3_lay 33 = .ok (.isub, 1) := by decide +kernel
theorem dX3_lay_34 : decode cX3_lay 34 = .ok (.iload_n 2, 1) := by decide +kernel
theorem dX3_lay_35 : decode cX3_lay 35 = .ok (.invokevirtual 66, 3) := by decide +kernel
theorem dX3_lay_38 : decode cX3_lay 38 = .ok (.iinc 3 1, 3) := by decide +kernel
theorem dX3_lay_41 : decode cX3_lay 41 = .ok (.goto (-29), 3) := by decide +kernel
theorem dX3_lay_44 : decode cX3_lay 44 = .ok (.aload_n 0, 1) := by decide +kernel
theorem dX3_lay_45 : decode cX3_lay 45 = .ok (.getfield 11, 3) := by decide +kernel
theorem dX3_lay_48 : decode cX3_lay 48 = .ok (.aload_n 0, 1) := by decide +kernel
theorem dX3_lay_49 : decode cX3_lay 49 = .ok (.getfield 49, 3) := by decide +kernel
theorem dX3_lay_52 : decode cX3_lay 52 = .ok (.aload_n 1, 1) := by decide +kernel
theorem dX3_lay_53 : decode cX3_lay 53 = .ok (.aastore, 1) := by decide +kernel
theorem dX3_lay_54 : decode cX3_lay 54 = .ok (.aload_n 0, 1) := by decide +kernel
theorem dX3_lay_55 : decode cX3_lay 55 = .ok (.dup, 1) := by decide +kernel
theorem dX3_lay_56 : decode cX3_lay 56 = .ok (.getfield 49, 3) := by decide +kernel
theorem dX3_lay_59 : decode cX3_lay 59 = .ok (.iconst 1, 1) := by decide +kernel
theorem dX3_lay_60 : decode cX3_lay 60 = .ok (.iadd, 1) := by decide +kernel
theorem dX3_lay_61 : decode cX3_lay 61 = .ok (.putfield 49, 3) := by decide +kernel
theorem dX3_lay_64 : decode cX3_lay 64 = .ok (.return_, 1) := by decide +kernel
set_option maxRecDepth 20000 in
theorem ggX3_layPart_X4_parted : GoodIn wsX3_layPart wsX4_parted := goodIn_r _ [12] (by decide +kernel) (by decide +kernel)
set_option maxRecDepth 20000 in
theorem gX3_layPart_X4_parted_n70 : GoodIn wsX3_layPart (wsX4_parted) := ggX3_layPart_X4_parted
set_option maxRecDepth 20000 in
theorem ggX3_layPart_X3_sortIn : GoodIn wsX3_layPart wsX3_sortIn := goodIn_r _ [17, 9, 18, 19, 20, 21, 22, 23, 24, 25, 26, 27, 28, 29, 30, 31, 32] (by decide +kernel) (by decide +kernel)
set_option maxRecDepth 20000 in
theorem gX3_layPart_X3_sortIn : GoodIn wsX3_layPart (wsV RX3 74 RX3 yX3_sortIn wsX3_sortIn) := goodIn_app (goodIn_of _ (by decide +kernel)) ggX3_layPart_X3_sortIn
theorem dX3_layPart_0 : decode cX3_layPart 0 = .ok (.aload_n 0, 1) := by decide +kernel
theorem dX3_layPart_1 : decode cX3_layPart 1 = .ok (.getfield 53, 3) := by decide +kernel
theorem dX3_layPart_4 : decode cX3_layPart 4 = .ok (.bipush 32, 2) := by decide +kernel
theorem dX3_layPart_6 : decode cX3_layPart 6 = .ok (.if_icmp .lt 4, 3) := by decide +kernel
theorem dX3_layPart_9 : decode cX3_layPart 9 = .ok (.return_, 1) := by decide +kernel
theorem dX3_layPart_10 : decode cX3_layPart 10 = .ok (.iload_n 1, 1) := by decide +kernel
theorem dX3_layPart_11 : decode cX3_layPart 11 = .ok (.aload_n 0, 1) := by decide +kernel
theorem dX3_layPart_12 : decode cX3_layPart 12 = .ok (.getfield 56, 3) := by decide +kernel
theorem dX3_layPart_15 : decode cX3_layPart 15 = .ok (.iconst 1, 1) := by decide +kernel
theorem dX3_layPart_16 : decode cX3_layPart 16 = .ok (.iadd, 1) := by decide +kernel
theorem dX3_layPart_17 : decode cX3_layPart 17 = .ok (.invokestatic 70, 3) := by decide +kernel
theorem dX3_layPart_20 : decode cX3_layPart 20 = .ok (.istore_n 3, 1) := by decide +kernel
theorem dX3_layPart_21 : decode cX3_layPart 21 = .ok (.aload_n 0, 1) := by decide +kernel
theorem dX3_layPart_22 : decode cX3_layPart 22 = .ok (.getfield 17, 3) := by decide +kernel
theorem dX3_layPart_25 : decode cX3_layPart 25 = .ok (.aload_n 0, 1) := by decide +kernel
theorem dX3_layPart_26 : decode cX3_layPart 26 = .ok (.getfield 53, 3) := by decide +kernel
theorem dX3_layPart_29 : decode cX3_layPart 29 = .ok (.aload_n 0, 1) := by decide +kernel
theorem dX3_layPart_30 : decode cX3_layPart 30 = .ok (.getfield 49, 3) := by decide +kernel
theorem dX3_layPart_33 : decode cX3_layPart 33 = .ok (.iastore, 1) := by decide +kernel
theorem dX3_layPart_34 : decode cX3_layPart 34 = .ok (.aload_n 0, 1) := by decide +kernel
theorem dX3_layPart_35 : decode cX3_layPart 35 = .ok (.getfield 21, 3) := by decide +kernel
theorem dX3_layPart_38 : decode cX3_layPart 38 = .ok (.aload_n 0, 1) := by decide +kernel
theorem dX3_layPart_39 : decode cX3_layPart 39 = .ok (.getfield 53, 3) := by decide +kernel
theorem dX3_layPart_42 : decode cX3_layPart 42 = .ok (.iload_n 2, 1) := by decide +kernel
theorem dX3_layPart_43 : decode cX3_layPart 43 = .ok (.iastore, 1) := by decide +kernel
theorem dX3_layPart_44 : decode cX3_layPart 44 = .ok (.aload_n 0, 1) := by decide +kernel
theorem dX3_layPart_45 : decode cX3_layPart 45 = .ok (.getfield 24, 3) := by decide +kernel
theorem dX3_layPart_48 : decode cX3_layPart 48 = .ok (.aload_n 0, 1) := by decide +kernel
theorem dX3_layPart_49 : decode cX3_layPart 49 = .ok (.getfield 53, 3) := by decide +kernel
theorem dX3_layPart_52 : decode cX3_layPart 52 = .ok (.iload_n 1, 1) := by decide +kernel
theorem dX3_layPart_53 : decode cX3_layPart 53 = .ok (.iastore, 1) := by decide +kernel
theorem dX3_layPart_54 : decode cX3_layPart 54 = .ok (.aload_n 0, 1) := by decide +kernel
theorem dX3_layPart_55 : decode cX3_layPart 55 = .ok (.getfield 27, 3) := by decide +kernel
theorem dX3_layPart_58 : decode cX3_layPart 58 = .ok (.aload_n 0, 1) := by decide +kernel
theorem dX3_layPart_59 : decode cX3_layPart 59 = .ok (.getfield 53, 3) := by decide +kernel
theorem dX3_layPart_62 : decode cX3_layPart 62 = .ok (.iload_n 3, 1) := by decide +kernel
theorem dX3_layPart_63 : decode cX3_layPart 63 = .ok (.iastore, 1) := by decide +kernel
theorem dX3_layPart_64 : decode cX3_layPart 64 = .ok (.aload_n 0, 1) := by decide +kernel
theorem dX3_layPart_65 : decode cX3_layPart 65 = .ok (.getfield 30, 3) := by decide +kernel
theorem dX3_layPart_68 : decode cX3_layPart 68 = .ok (.aload_n 0, 1) := by decide +kernel
theorem dX3_layPart_69 : decode cX3_layPart 69 = .ok (.getfield 53, 3) := by decide +kernel
theorem dX3_layPart_72 : decode cX3_layPart 72 = .ok (.iload_n 1, 1) := by decide +kernel
theorem dX3_layPart_73 : decode cX3_layPart 73 = .ok (.aload_n 0, 1) := by decide +kernel
theorem dX3_layPart_74 : decode cX3_layPart 74 = .ok (.getfield 56, 3) := by decide +kernel
theorem dX3_layPart_77 : decode cX3_layPart 77 = .ok (.invokestatic 70, 3) := by decide +kernel
theorem dX3_layPart_80 : decode cX3_layPart 80 = .ok (.iload_n 3, 1) := by decide +kernel
theorem dX3_layPart_81 : decode cX3_layPart 81 = .ok (.isub, 1) := by decide +kernel
theorem dX3_layPart_82 : decode cX3_layPart 82 = .ok (.iastore, 1) := by decide +kernel
theorem dX3_layPart_83 : decode cX3_layPart 83 = .ok (.aload_n 0, 1) := by decide +kernel
theorem dX3_layPart_84 : decode cX3_layPart 84 = .ok (.getfield 33, 3) := by decide +kernel
theorem dX3_layPart_87 : decode cX3_layPart 87 = .ok (.aload_n 0, 1) := by decide +kernel
theorem dX3_layPart_88 : decode cX3_layPart 88 = .ok (.getfield 53, 3) := by decide +kernel
theorem dX3_layPart_91 : decode cX3_layPart 91 = .ok (.aload_n 0, 1) := by decide +kernel
theorem dX3_layPart_92 : decode cX3_layPart 92 = .ok (.getfield 56, 3) := by decide +kernel
theorem dX3_layPart_95 : decode cX3_layPart 95 = .ok (.iload_n 1, 1) := by decide +kernel
theorem dX3_layPart_96 : decode cX3_layPart 96 = .ok (.iload_n 3, 1) := by decide +kernel
theorem dX3_layPart_97 : decode cX3_layPart 97 = .ok (.aload_n 0, 1) := by decide +kernel
theorem dX3_layPart_98 : decode cX3_layPart 98 = .ok (.getfield 56, 3) := by decide +kernel
theorem dX3_layPart_101 : decode cX3_layPart 101 = .ok (.iconst 1, 1) := by decide +kernel
theorem dX3_layPart_102 : decode cX3_layPart 102 = .ok (.iadd, 1) := by decide +kernel
theorem dX3_layPart_103 : decode cX3_layPart 103 = .ok (.imul, 1) := by decide +kernel
theorem dX3_layPart_104 : decode cX3_layPart 104 = .ok (.isub, 1) := by decide +kernel
theorem dX3_layPart_105 : decode cX3_layPart 105 = .ok (.isub, 1) := by decide +kernel
theorem dX3_layPart_106 : decode cX3_layPart 106 = .ok (.iastore, 1) := by decide +kernel
theorem dX3_layPart_107 : decode cX3_layPart 107 = .ok (.aload_n 0, 1) := by decide +kernel
theorem dX3_layPart_108 : decode cX3_layPart 108 = .ok (.aload_n 0, 1) := by decide +kernel
theorem dX3_layPart_109 : decode cX3_layPart 109 = .ok (.getfield 53, 3) := by decide +kernel
theorem dX3_layPart_112 : decode cX3_layPart 112 = .ok (.invokevirtual 74, 3) := by decide +kernel
theorem dX3_layPart_115 : decode cX3_layPart 115 = .ok (.aload_n 0, 1) := by decide +kernel
theorem dX3_layPart_116 : decode cX3_layPart 116 = .ok (.dup, 1) := by decide +kernel
theorem dX3_layPart_117 : decode cX3_layPart 117 = .ok (.getfield 53, 3) := by decide +kernel
theorem dX3_layPart_120 : decode cX3_layPart 120 = .ok (.iconst 1, 1) := by decide +kernel
theorem dX3_layPart_121 : decode cX3_layPart 121 = .ok (.iadd, 1) := by decide +kernel
theorem dX3_layPart_122 : decode cX3_layPart 122 = .ok (.putfield 53, 3) := by decide +kernel
theorem dX3_layPart_125 : decode cX3_layPart 125 = .ok (.return_, 1) := by decide +kernel
theorem dX3_sortIn_0 : decode cX3_sortIn 0 = .ok (.iload_n 1, 1) := by decide +kernel
theorem dX3_sortIn_1 : decode cX3_sortIn 1 = .ok (.istore_n 2, 1) := by decide +kernel
theorem dX3_sortIn_2 : decode cX3_sortIn 2 = .ok (.iload_n 2, 1) := by decide +kernel
theorem dX3_sortIn_3 : decode cX3_sortIn 3 = .ok (.ifCond .le 45, 3) := by decide +kernel
theorem dX3_sortIn_6 : decode cX3_sortIn 6 = .ok (.aload_n 0, 1) := by decide +kernel
theorem dX3_sortIn_7 : decode cX3_sortIn 7 = .ok (.getfield 33, 3) := by decide +kernel
theorem dX3_sortIn_10 : decode cX3_sortIn 10 = .ok (.aload_n 0, 1) := by decide +kernel
theorem dX3_sortIn_11 : decode cX3_sortIn 11 = .ok (.getfield 36, 3) := by decide +kernel
theorem dX3_sortIn_14 : decode cX3_sortIn 14 = .ok (.iload_n 2, 1) := by decide +kernel
theorem dX3_sortIn_15 : decode cX3_sortIn 15 = .ok (.iconst 1, 1) := by decide +kernel
theorem dX3_sortIn_16 : decode cX3_sortIn 16 = .ok (.isub, 1) := by decide +kernel
theorem dX3_sortIn_17 : decode cX3_sortIn 17 = .ok (.iaload, 1) := by decide +kernel
theorem dX3_sortIn_18 : decode cX3_sortIn 18 = .ok (.iaload, 1) := by decide +kernel
theorem dX3_sortIn_19 : decode cX3_sortIn 19 = .ok (.aload_n 0, 1) := by decide +kernel
theorem dX3_sortIn_20 : decode cX3_sortIn 20 = .ok (.getfield 33, 3) := by decide +kernel
theorem dX3_sortIn_23 : decode cX3_sortIn 23 = .ok (.iload_n 1, 1) := by decide +kernel
theorem dX3_sortIn_24 : decode cX3_sortIn 24 = .ok (.iaload, 1) := by decide +kernel
theorem dX3_sortIn_25 : decode cX3_sortIn 25 = .ok (.if_icmp .le 23, 3) := by decide +kernel
theorem dX3_sortIn_28 : decode cX3_sortIn 28 = .ok (.aload_n 0, 1) := by decide +kernel
theorem dX3_sortIn_29 : decode cX3_sortIn 29 = .ok (.getfield 36, 3) := by decide +kernel
theorem dX3_sortIn_32 : decode cX3_sortIn 32 = .ok (.iload_n 2, 1) := by decide +kernel
theorem dX3_sortIn_33 : decode cX3_sortIn 33 = .ok (.aload_n 0, 1) := by decide +kernel
theorem dX3_sortIn_34 : decode cX3_sortIn 34 = .ok (.getfield 36, 3) := by decide +kernel
theorem dX3_sortIn_37 : decode cX3_sortIn 37 = .ok (.iload_n 2, 1) := by decide +kernel
theorem dX3_sortIn_38 : decode cX3_sortIn 38 = .ok (.iconst 1, 1) := by decide +kernel
theorem dX3_sortIn_39 : decode cX3_sortIn 39 = .ok (.isub, 1) := by decide +kernel
theorem dX3_sortIn_40 : decode cX3_sortIn 40 = .ok (.iaload, 1) := by decide +kernel
theorem dX3_sortIn_41 : decode cX3_sortIn 41 = .ok (.iastore, 1) := by decide +kernel
theorem dX3_sortIn_42 : decode cX3_sortIn 42 = .ok (.iinc 2 (-1), 3) := by decide +kernel
theorem dX3_sortIn_45 : decode cX3_sortIn 45 = .ok (.goto (-43), 3) := by decide +kernel
theorem dX3_sortIn_48 : decode cX3_sortIn 48 = .ok (.aload_n 0, 1) := by decide +kernel
theorem dX3_sortIn_49 : decode cX3_sortIn 49 = .ok (.getfield 36, 3) := by decide +kernel
theorem dX3_sortIn_52 : decode cX3_sortIn 52 = .ok (.iload_n 2, 1) := by decide +kernel
theorem dX3_sortIn_53 : decode cX3_sortIn 53 = .ok (.iload_n 1, 1) := by decide +kernel
theorem dX3_sortIn_54 : decode cX3_sortIn 54 = .ok (.iastore, 1) := by decide +kernel
theorem dX3_sortIn_55 : decode cX3_sortIn 55 = .ok (.return_, 1) := by decide +kernel
set_option maxRecDepth 20000 in
theorem ggX3_fewestSet_X3_openSet : GoodIn wsX3_fewestSet wsX3_openSet := goodIn_r _ [6, 7, 8, 9, 30, 31, 32, 33, 34, 35, 36, 37, 38, 39, 40, 41, 42, 43] (by decide +kernel) (by decide +kernel)
set_option maxRecDepth 20000 in
theorem gX3_fewestSet_X3_openSet : GoodIn wsX3_fewestSet (wsV RX3 78 RX3 yX3_openSet wsX3_openSet) := goodIn_app (goodIn_of _ (by decide +kernel)) ggX3_fewestSet_X3_openSet
set_option maxRecDepth 20000 in
theorem ggX3_fewestSet_X3_canGive : GoodIn wsX3_fewestSet wsX3_canGive := goodIn_r _ [13, 7, 8, 14, 15, 16, 17, 18, 19, 20, 21, 22, 30, 31, 32, 33, 34, 35, 36, 37, 38, 39, 40, 41, 42, 43] (by decide +kernel) (by decide +kernel)
set_option maxRecDepth 20000 in
theorem gX3_fewestSet_X3_canGive : GoodIn wsX3_fewestSet (wsV RX3 81 RX3 yX3_canGive wsX3_canGive) := goodIn_app (goodIn_of _ (by decide +kernel)) ggX3_fewestSet_X3_canGive
set_option maxRecDepth 20000 in
theorem ggX3_fewestSet_J6_bitCount_0f7a4 : GoodIn wsX3_fewestSet wsJ6_bitCount_0f7a4 := goodIn_r _ [26, 27, 28, 29] (by decide +kernel) (by decide +kernel)
set_option maxRecDepth 20000 in
theorem gX3_fewestSet_J6_bitCount_0f7a4 : GoodIn wsX3_fewestSet (va_wsS RX3 85 yJ6_bitCount_0f7a4 wsJ6_bitCount_0f7a4) := goodIn_app (goodIn_of _ (by decide +kernel)) ggX3_fewestSet_J6_bitCount_0f7a4
theorem dX3_fewestSet_0 : decode cX3_fewestSet 0 = .ok (.iconst 0, 1) := by decide +kernel
theorem dX3_fewestSet_1 : decode cX3_fewestSet 1 = .ok (.istore_n 3, 1) := by decide +kernel
theorem dX3_fewestSet_2 : decode cX3_fewestSet 2 = .ok (.bipush 9, 2) := by decide +kernel
theorem dX3_fewestSet_4 : decode cX3_fewestSet 4 = .ok (.istore 4, 2) := by decide +kernel
theorem dX3_fewestSet_6 : decode cX3_fewestSet 6 = .ok (.sipush 256, 3) := by decide +kernel
theorem dX3_fewestSet_9 : decode cX3_fewestSet 9 = .ok (.istore 5, 2) := by decide +kernel
theorem dX3_fewestSet_11 : decode cX3_fewestSet 11 = .ok (.iconst 1, 1) := by decide +kernel
theorem dX3_fewestSet_12 : decode cX3_fewestSet 12 = .ok (.bipush 8, 2) := by decide +kernel
theorem dX3_fewestSet_14 : decode cX3_fewestSet 14 = .ok (.aload_n 0, 1) := by decide +kernel
theorem dX3_fewestSet_15 : decode cX3_fewestSet 15 = .ok (.getfield 49, 3) := by decide +kernel
theorem dX3_fewestSet_18 : decode cX3_fewestSet 18 = .ok (.isub, 1) := by decide +kernel
theorem dX3_fewestSet_19 : decode cX3_fewestSet 19 = .ok (.ishl, 1) := by decide +kernel
theorem dX3_fewestSet_20 : decode cX3_fewestSet 20 = .ok (.istore 6, 2) := by decide +kernel
theorem dX3_fewestSet_22 : decode cX3_fewestSet 22 = .ok (.aload_n 0, 1) := by decide +kernel
theorem dX3_fewestSet_23 : decode cX3_fewestSet 23 = .ok (.iload 5, 2) := by decide +kernel
theorem dX3_fewestSet_25 : decode cX3_fewestSet 25 = .ok (.iload 6, 2) := by decide +kernel
theorem dX3_fewestSet_27 : decode cX3_fewestSet 27 = .ok (.isub, 1) := by decide +kernel
theorem dX3_fewestSet_28 : decode cX3_fewestSet 28 = .ok (.invokevirtual 78, 3) := by decide +kernel
theorem dX3_fewestSet_31 : decode cX3_fewestSet 31 = .ok (.aload_n 0, 1) := by decide +kernel
theorem dX3_fewestSet_32 : decode cX3_fewestSet 32 = .ok (.iload_n 1, 1) := by decide +kernel
theorem dX3_fewestSet_33 : decode cX3_fewestSet 33 = .ok (.iload_n 2, 1) := by decide +kernel
theorem dX3_fewestSet_34 : decode cX3_fewestSet 34 = .ok (.invokevirtual 81, 3) := by decide +kernel
theorem dX3_fewestSet_37 : decode cX3_fewestSet 37 = .ok (.ifCond .ne 5, 3) := by decide +kernel
theorem dX3_fewestSet_40 : decode cX3_fewestSet 40 = .ok (.iconst 0, 1) := by decide +kernel
theorem dX3_fewestSet_41 : decode cX3_fewestSet 41 = .ok (.ireturn, 1) := by decide +kernel
theorem dX3_fewestSet_42 : decode cX3_fewestSet 42 = .ok (.iload 5, 2) := by decide +kernel
theorem dX3_fewestSet_44 : decode cX3_fewestSet 44 = .ok (.iload 6, 2) := by decide +kernel
theorem dX3_fewestSet_46 : decode cX3_fewestSet 46 = .ok (.isub, 1) := by decide +kernel
theorem dX3_fewestSet_47 : decode cX3_fewestSet 47 = .ok (.istore 7, 2) := by decide +kernel
theorem dX3_fewestSet_49 : decode cX3_fewestSet 49 = .ok (.iload 7, 2) := by decide +kernel
theorem dX3_fewestSet_51 : decode cX3_fewestSet 51 = .ok (.ifCond .le 49, 3) := by decide +kernel
theorem dX3_fewestSet_54 : decode cX3_fewestSet 54 = .ok (.iload 7, 2) := by decide +kernel
theorem dX3_fewestSet_56 : decode cX3_fewestSet 56 = .ok (.invokestatic 85, 3) := by decide +kernel
theorem dX3_fewestSet_59 : decode cX3_fewestSet 59 = .ok (.istore 8, 2) := by decide +kernel
theorem dX3_fewestSet_61 : decode cX3_fewestSet 61 = .ok (.iload 8, 2) := by decide +kernel
theorem dX3_fewestSet_63 : decode cX3_fewestSet 63 = .ok (.iload 4, 2) := by decide +kernel
theorem dX3_fewestSet_65 : decode cX3_fewestSet 65 = .ok (.if_icmp .ge 25, 3) := by decide +kernel
theorem dX3_fewestSet_68 : decode cX3_fewestSet 68 = .ok (.aload_n 0, 1) := by decide +kernel
theorem dX3_fewestSet_69 : decode cX3_fewestSet 69 = .ok (.iload 7, 2) := by decide +kernel
theorem dX3_fewestSet_71 : decode cX3_fewestSet 71 = .ok (.invokevirtual 78, 3) := by decide +kernel
theorem dX3_fewestSet_74 : decode cX3_fewestSet 74 = .ok (.aload_n 0, 1) := by decide +kernel
theorem dX3_fewestSet_75 : decode cX3_fewestSet 75 = .ok (.iload_n 1, 1) := by decide +kernel
theorem dX3_fewestSet_76 : decode cX3_fewestSet 76 = .ok (.iload_n 2, 1) := by decide +kernel
theorem dX3_fewestSet_77 : decode cX3_fewestSet 77 = .ok (.invokevirtual 81, 3) := by decide +kernel
theorem dX3_fewestSet_80 : decode cX3_fewestSet 80 = .ok (.ifCond .eq 10, 3) := by decide +kernel
theorem dX3_fewestSet_83 : decode cX3_fewestSet 83 = .ok (.iload 7, 2) := by decide +kernel
theorem dX3_fewestSet_85 : decode cX3_fewestSet 85 = .ok (.istore_n 3, 1) := by decide +kernel
theorem dX3_fewestSet_86 : decode cX3_fewestSet 86 = .ok (.iload 8, 2) := by decide +kernel
theorem dX3_fewestSet_88 : decode cX3_fewestSet 88 = .ok (.istore 4, 2) := by decide +kernel
theorem dX3_fewestSet_90 : decode cX3_fewestSet 90 = .ok (.iload 7, 2) := by decide +kernel
theorem dX3_fewestSet_92 : decode cX3_fewestSet 92 = .ok (.iload 6, 2) := by decide +kernel
theorem dX3_fewestSet_94 : decode cX3_fewestSet 94 = .ok (.isub, 1) := by decide +kernel
theorem dX3_fewestSet_95 : decode cX3_fewestSet 95 = .ok (.istore 7, 2) := by decide +kernel
theorem dX3_fewestSet_97 : decode cX3_fewestSet 97 = .ok (.goto (-48), 3) := by decide +kernel
theorem dX3_fewestSet_100 : decode cX3_fewestSet 100 = .ok (.iload_n 3, 1) := by decide +kernel
theorem dX3_fewestSet_101 : decode cX3_fewestSet 101 = .ok (.ireturn, 1) := by decide +kernel
theorem dX3_openSet_0 : decode cX3_openSet 0 = .ok (.iconst 0, 1) := by decide +kernel
theorem dX3_openSet_1 : decode cX3_openSet 1 = .ok (.istore_n 2, 1) := by decide +kernel
theorem dX3_openSet_2 : decode cX3_openSet 2 = .ok (.iload_n 2, 1) := by decide +kernel
theorem dX3_openSet_3 : decode cX3_openSet 3 = .ok (.aload_n 0, 1) := by decide +kernel
theorem dX3_openSet_4 : decode cX3_openSet 4 = .ok (.getfield 53, 3) := by decide +kernel
theorem dX3_openSet_7 : decode cX3_openSet 7 = .ok (.if_icmp .ge 36, 3) := by decide +kernel
theorem dX3_openSet_10 : decode cX3_openSet 10 = .ok (.aload_n 0, 1) := by decide +kernel
theorem dX3_openSet_11 : decode cX3_openSet 11 = .ok (.getfield 39, 3) := by decide +kernel
theorem dX3_openSet_14 : decode cX3_openSet 14 = .ok (.iload_n 2, 1) := by decide +kernel
theorem dX3_openSet_15 : decode cX3_openSet 15 = .ok (.iload_n 1, 1) := by decide +kernel
theorem dX3_openSet_16 : decode cX3_openSet 16 = .ok (.bipush 7, 2) := by decide +kernel
theorem dX3_openSet_18 : decode cX3_openSet 18 = .ok (.aload_n 0, 1) := by decide +kernel
theorem dX3_openSet_19 : decode cX3_openSet 19 = .ok (.getfield 17, 3) := by decide +kernel
theorem dX3_openSet_22 : decode cX3_openSet 22 = .ok (.iload_n 2, 1) := by decide +kernel
theorem dX3_openSet_23 : decode cX3_openSet 23 = .ok (.iaload, 1) := by decide +kernel
theorem dX3_openSet_24 : decode cX3_openSet 24 = .ok (.isub, 1) := by decide +kernel
theorem dX3_openSet_25 : decode cX3_openSet 25 = .ok (.ishr, 1) := by decide +kernel
theorem dX3_openSet_26 : decode cX3_openSet 26 = .ok (.iconst 1, 1) := by decide +kernel
theorem dX3_openSet_27 : decode cX3_openSet 27 = .ok (.iand, 1) := by decide +kernel
theorem dX3_openSet_28 : decode cX3_openSet 28 = .ok (.ifCond .eq 7, 3) := by decide +kernel
theorem dX3_openSet_31 : decode cX3_openSet 31 = .ok (.iconst 1, 1) := by decide +kernel
theorem dX3_openSet_32 : decode cX3_openSet 32 = .ok (.goto 4, 3) := by decide +kernel
theorem dX3_openSet_35 : decode cX3_openSet 35 = .ok (.iconst 0, 1) := by decide +kernel
theorem dX3_openSet_36 : decode cX3_openSet 36 = .ok (.bastore, 1) := by decide +kernel
theorem dX3_openSet_37 : decode cX3_openSet 37 = .ok (.iinc 2 1, 3) := by decide +kernel
theorem dX3_openSet_40 : decode cX3_openSet 40 = .ok (.goto (-38), 3) := by decide +kernel
theorem dX3_openSet_43 : decode cX3_openSet 43 = .ok (.return_, 1) := by decide +kernel
theorem dX3_canGive_0 : decode cX3_canGive 0 = .ok (.iconst 0, 1) := by decide +kernel
theorem dX3_canGive_1 : decode cX3_canGive 1 = .ok (.istore_n 3, 1) := by decide +kernel
theorem dX3_canGive_2 : decode cX3_canGive 2 = .ok (.iconst 0, 1) := by decide +kernel
theorem dX3_canGive_3 : decode cX3_canGive 3 = .ok (.istore 4, 2) := by decide +kernel
theorem dX3_canGive_5 : decode cX3_canGive 5 = .ok (.iload 4, 2) := by decide +kernel
theorem dX3_canGive_7 : decode cX3_canGive 7 = .ok (.aload_n 0, 1) := by decide +kernel
theorem dX3_canGive_8 : decode cX3_canGive 8 = .ok (.getfield 53, 3) := by decide +kernel
theorem dX3_canGive_11 : decode cX3_canGive 11 = .ok (.if_icmp .ge 33, 3) := by decide +kernel
theorem dX3_canGive_14 : decode cX3_canGive 14 = .ok (.iload_n 3, 1) := by decide +kernel
theorem dX3_canGive_15 : decode cX3_canGive 15 = .ok (.aload_n 0, 1) := by decide +kernel
theorem dX3_canGive_16 : decode cX3_canGive 16 = .ok (.getfield 39, 3) := by decide +kernel
theorem dX3_canGive_19 : decode cX3_canGive 19 = .ok (.iload 4, 2) := by decide +kernel
theorem dX3_canGive_21 : decode cX3_canGive 21 = .ok (.baload, 1) := by decide +kernel
theorem dX3_canGive_22 : decode cX3_canGive 22 = .ok (.ifCond .eq 13, 3) := by decide +kernel
theorem dX3_canGive_25 : decode cX3_canGive 25 = .ok (.aload_n 0, 1) := by decide +kernel
theorem dX3_canGive_26 : decode cX3_canGive 26 = .ok (.getfield 27, 3) := by decide +kernel
theorem dX3_canGive_29 : decode cX3_canGive 29 = .ok (.iload 4, 2) := by decide +kernel
theorem dX3_canGive_31 : decode cX3_canGive 31 = .ok (.iaload, 1) := by decide +kernel
theorem dX3_canGive_32 : decode cX3_canGive 32 = .ok (.goto 4, 3) := by decide +kernel
theorem dX3_canGive_35 : decode cX3_canGive 35 = .ok (.iconst 0, 1) := by decide +kernel
theorem dX3_canGive_36 : decode cX3_canGive 36 = .ok (.iadd, 1) := by decide +kernel
theorem dX3_canGive_37 : decode cX3_canGive 37 = .ok (.istore_n 3, 1) := by decide +kernel
theorem dX3_canGive_38 : decode cX3_canGive 38 = .ok (.iinc 4 1, 3) := by decide +kernel
theorem dX3_canGive_41 : decode cX3_canGive 41 = .ok (.goto (-36), 3) := by decide +kernel
theorem dX3_canGive_44 : decode cX3_canGive 44 = .ok (.iload_n 1, 1) := by decide +kernel
theorem dX3_canGive_45 : decode cX3_canGive 45 = .ok (.iload_n 2, 1) := by decide +kernel
theorem dX3_canGive_46 : decode cX3_canGive 46 = .ok (.iadd, 1) := by decide +kernel
theorem dX3_canGive_47 : decode cX3_canGive 47 = .ok (.iload_n 3, 1) := by decide +kernel
theorem dX3_canGive_48 : decode cX3_canGive 48 = .ok (.isub, 1) := by decide +kernel
theorem dX3_canGive_49 : decode cX3_canGive 49 = .ok (.istore 4, 2) := by decide +kernel
theorem dX3_canGive_51 : decode cX3_canGive 51 = .ok (.iconst 0, 1) := by decide +kernel
theorem dX3_canGive_52 : decode cX3_canGive 52 = .ok (.istore 5, 2) := by decide +kernel
theorem dX3_canGive_54 : decode cX3_canGive 54 = .ok (.iconst 0, 1) := by decide +kernel
theorem dX3_canGive_55 : decode cX3_canGive 55 = .ok (.istore 6, 2) := by decide +kernel
theorem dX3_canGive_57 : decode cX3_canGive 57 = .ok (.iload 6, 2) := by decide +kernel
theorem dX3_canGive_59 : decode cX3_canGive 59 = .ok (.aload_n 0, 1) := by decide +kernel
theorem dX3_canGive_60 : decode cX3_canGive 60 = .ok (.getfield 53, 3) := by decide +kernel
theorem dX3_canGive_63 : decode cX3_canGive 63 = .ok (.if_icmp .ge 70, 3) := by decide +kernel
theorem dX3_canGive_66 : decode cX3_canGive 66 = .ok (.iload 4, 2) := by decide +kernel
theorem dX3_canGive_68 : decode cX3_canGive 68 = .ok (.ifCond .le 65, 3) := by decide +kernel
theorem dX3_canGive_71 : decode cX3_canGive 71 = .ok (.aload_n 0, 1) := by decide +kernel
theorem dX3_canGive_72 : decode cX3_canGive 72 = .ok (.getfield 36, 3) := by decide +kernel
theorem dX3_canGive_75 : decode cX3_canGive 75 = .ok (.iload 6, 2) := by decide +kernel
theorem dX3_canGive_77 : decode cX3_canGive 77 = .ok (.iaload, 1) := by decide +kernel
theorem dX3_canGive_78 : decode cX3_canGive 78 = .ok (.istore 7, 2) := by decide +kernel
theorem dX3_canGive_80 : decode cX3_canGive 80 = .ok (.aload_n 0, 1) := by decide +kernel
theorem dX3_canGive_81 : decode cX3_canGive 81 = .ok (.getfield 39, 3) := by decide +kernel
theorem dX3_canGive_84 : decode cX3_canGive 84 = .ok (.iload 7, 2) := by decide +kernel
theorem dX3_canGive_86 : decode cX3_canGive 86 = .ok (.baload, 1) := by decide +kernel
theorem dX3_canGive_87 : decode cX3_canGive 87 = .ok (.ifCond .eq 40, 3) := by decide +kernel
theorem dX3_canGive_90 : decode cX3_canGive 90 = .ok (.aload_n 0, 1) := by decide +kernel
theorem dX3_canGive_91 : decode cX3_canGive 91 = .ok (.getfield 30, 3) := by decide +kernel
theorem dX3_canGive_94 : decode cX3_canGive 94 = .ok (.iload 7, 2) := by decide +kernel
theorem dX3_canGive_96 : decode cX3_canGive 96 = .ok (.iaload, 1) := by decide +kernel
theorem dX3_canGive_97 : decode cX3_canGive 97 = .ok (.ifCond .le 30, 3) := by decide +kernel
theorem dX3_canGive_100 : decode cX3_canGive 100 = .ok (.iload_n 3, 1) := by decide +kernel
theorem dX3_canGive_101 : decode cX3_canGive 101 = .ok (.aload_n 0, 1) := by decide +kernel
theorem dX3_canGive_102 : decode cX3_canGive 102 = .ok (.getfield 33, 3) := by decide +kernel
theorem dX3_canGive_105 : decode cX3_canGive 105 = .ok (.iload 7, 2) := by decide +kernel
theorem dX3_canGive_107 : decode cX3_canGive 107 = .ok (.iaload, 1) := by decide +kernel
theorem dX3_canGive_108 : decode cX3_canGive 108 = .ok (.isub, 1) := by decide +kernel
theorem dX3_canGive_109 : decode cX3_canGive 109 = .ok (.istore_n 3, 1) := by decide +kernel
theorem dX3_canGive_110 : decode cX3_canGive 110 = .ok (.iload 5, 2) := by decide +kernel
theorem dX3_canGive_112 : decode cX3_canGive 112 = .ok (.aload_n 0, 1) := by decide +kernel
theorem dX3_canGive_113 : decode cX3_canGive 113 = .ok (.getfield 30, 3) := by decide +kernel
theorem dX3_canGive_116 : decode cX3_canGive 116 = .ok (.iload 7, 2) := by decide +kernel
theorem dX3_canGive_118 : decode cX3_canGive 118 = .ok (.iaload, 1) := by decide +kernel
theorem dX3_canGive_119 : decode cX3_canGive 119 = .ok (.iconst 1, 1) := by decide +kernel
theorem dX3_canGive_120 : decode cX3_canGive 120 = .ok (.isub, 1) := by decide +kernel
theorem dX3_canGive_121 : decode cX3_canGive 121 = .ok (.iadd, 1) := by decide +kernel
theorem dX3_canGive_122 : decode cX3_canGive 122 = .ok (.istore 5, 2) := by decide +kernel
theorem dX3_canGive_124 : decode cX3_canGive 124 = .ok (.iinc 4 (-1), 3) := by decide +kernel
theorem dX3_canGive_127 : decode cX3_canGive 127 = .ok (.iinc 6 1, 3) := by decide +kernel
theorem dX3_canGive_130 : decode cX3_canGive 130 = .ok (.goto (-73), 3) := by decide +kernel
theorem dX3_canGive_133 : decode cX3_canGive 133 = .ok (.iconst 0, 1) := by decide +kernel
theorem dX3_canGive_134 : decode cX3_canGive 134 = .ok (.iload 4, 2) := by decide +kernel
theorem dX3_canGive_136 : decode cX3_canGive 136 = .ok (.invokestatic 91, 3) := by decide +kernel
theorem dX3_canGive_139 : decode cX3_canGive 139 = .ok (.istore 6, 2) := by decide +kernel
theorem dX3_canGive_141 : decode cX3_canGive 141 = .ok (.iload 6, 2) := by decide +kernel
theorem dX3_canGive_143 : decode cX3_canGive 143 = .ok (.iload 5, 2) := by decide +kernel
theorem dX3_canGive_145 : decode cX3_canGive 145 = .ok (.if_icmp .gt 20, 3) := by decide +kernel
theorem dX3_canGive_148 : decode cX3_canGive 148 = .ok (.iload_n 3, 1) := by decide +kernel
theorem dX3_canGive_149 : decode cX3_canGive 149 = .ok (.iload 6, 2) := by decide +kernel
theorem dX3_canGive_151 : decode cX3_canGive 151 = .ok (.aload_n 0, 1) := by decide +kernel
theorem dX3_canGive_152 : decode cX3_canGive 152 = .ok (.getfield 56, 3) := by decide +kernel
theorem dX3_canGive_155 : decode cX3_canGive 155 = .ok (.imul, 1) := by decide +kernel
theorem dX3_canGive_156 : decode cX3_canGive 156 = .ok (.isub, 1) := by decide +kernel
theorem dX3_canGive_157 : decode cX3_canGive 157 = .ok (.iload_n 1, 1) := by decide +kernel
theorem dX3_canGive_158 : decode cX3_canGive 158 = .ok (.if_icmp .lt 7, 3) := by decide +kernel
theorem dX3_canGive_161 : decode cX3_canGive 161 = .ok (.iconst 1, 1) := by decide +kernel
theorem dX3_canGive_162 : decode cX3_canGive 162 = .ok (.goto 4, 3) := by decide +kernel
theorem dX3_canGive_165 : decode cX3_canGive 165 = .ok (.iconst 0, 1) := by decide +kernel
theorem dX3_canGive_166 : decode cX3_canGive 166 = .ok (.ireturn, 1) := by decide +kernel
set_option maxRecDepth 20000 in
theorem ggX3_cutSet_X3_openSet : GoodIn wsX3_cutSet wsX3_openSet := goodIn_r _ [9, 1, 4, 10, 59, 60, 61, 62, 63, 64, 65, 66, 67, 68, 69, 70, 71, 72] (by decide +kernel) (by decide +kernel)
set_option maxRecDepth 20000 in
theorem gX3_cutSet_X3_openSet : GoodIn wsX3_cutSet (wsV RX3 78 RX3 yX3_openSet wsX3_openSet) := goodIn_app (goodIn_of _ (by decide +kernel)) ggX3_cutSet_X3_openSet
set_option maxRecDepth 20000 in
theorem ggX3_cutSet_X3_choose : GoodIn wsX3_cutSet wsX3_choose := goodIn_r _ [14, 15, 16, 17, 18, 19, 20, 21, 2, 3, 22, 23, 24, 25, 26, 27, 8, 28, 1, 4, 29, 30, 31, 32, 33, 34, 59, 60, 61, 62, 63, 64, 65, 66, 67, 68, 69, 70, 71, 72] (by decide +kernel) (by decide +kernel)
set_option maxRecDepth 20000 in
theorem gX3_cutSet_X3_choose : GoodIn wsX3_cutSet (wsV RX3 96 RX3 yX3_choose wsX3_choose) := goodIn_app (goodIn_of _ (by decide +kernel)) ggX3_cutSet_X3_choose
set_option maxRecDepth 20000 in
theorem ggX3_cutSet_X3_shorten : GoodIn wsX3_cutSet wsX3_shorten := goodIn_r _ [38, 39, 40, 41, 42, 43, 8, 44, 45, 1, 46, 2, 21, 3, 47, 48, 49, 50, 51, 52, 53, 54, 55, 56, 57, 58, 59, 60, 61, 62, 63, 64, 65, 66, 67, 68, 69, 70, 71, 72, 73, 74, 75, 76] (by decide +kernel) (by decide +kernel)
set_option maxRecDepth 20000 in
theorem gX3_cutSet_X3_shorten : GoodIn wsX3_cutSet (wsV RX3 100 RX3 yX3_shorten wsX3_shorten) := goodIn_app (goodIn_of _ (by decide +kernel)) ggX3_cutSet_X3_shorten
theorem dX3_cutSet_0 : decode cX3_cutSet 0 = .ok (.iload_n 2, 1) := by decide +kernel
theorem dX3_cutSet_1 : decode cX3_cutSet 1 = .ok (.istore 4, 2) := by decide +kernel
theorem dX3_cutSet_3 : decode cX3_cutSet 3 = .ok (.iload_n 3, 1) := by decide +kernel
theorem dX3_cutSet_4 : decode cX3_cutSet 4 = .ok (.istore 5, 2) := by decide +kernel
theorem dX3_cutSet_6 : decode cX3_cutSet 6 = .ok (.aload_n 0, 1) := by decide +kernel
theorem dX3_cutSet_7 : decode cX3_cutSet 7 = .ok (.iload_n 1, 1) := by decide +kernel
theorem dX3_cutSet_8 : decode cX3_cutSet 8 = .ok (.invokevirtual 78, 3) := by decide +kernel
theorem dX3_cutSet_11 : decode cX3_cutSet 11 = .ok (.iconst 0, 1) := by decide +kernel
theorem dX3_cutSet_12 : decode cX3_cutSet 12 = .ok (.istore 6, 2) := by decide +kernel
theorem dX3_cutSet_14 : decode cX3_cutSet 14 = .ok (.iload 6, 2) := by decide +kernel
theorem dX3_cutSet_16 : decode cX3_cutSet 16 = .ok (.aload_n 0, 1) := by decide +kernel
theorem dX3_cutSet_17 : decode cX3_cutSet 17 = .ok (.getfield 53, 3) := by decide +kernel
theorem dX3_cutSet_20 : decode cX3_cutSet 20 = .ok (.if_icmp .ge 77, 3) := by decide +kernel
theorem dX3_cutSet_23 : decode cX3_cutSet 23 = .ok (.aload_n 0, 1) := by decide +kernel
theorem dX3_cutSet_24 : decode cX3_cutSet 24 = .ok (.getfield 43, 3) := by decide +kernel
theorem dX3_cutSet_27 : decode cX3_cutSet 27 = .ok (.iload 6, 2) := by decide +kernel
theorem dX3_cutSet_29 : decode cX3_cutSet 29 = .ok (.iconst 0, 1) := by decide +kernel
theorem dX3_cutSet_30 : decode cX3_cutSet 30 = .ok (.iastore, 1) := by decide +kernel
theorem dX3_cutSet_31 : decode cX3_cutSet 31 = .ok (.aload_n 0, 1) := by decide +kernel
theorem dX3_cutSet_32 : decode cX3_cutSet 32 = .ok (.getfield 46, 3) := by decide +kernel
theorem dX3_cutSet_35 : decode cX3_cutSet 35 = .ok (.iload 6, 2) := by decide +kernel
theorem dX3_cutSet_37 : decode cX3_cutSet 37 = .ok (.iconst 0, 1) := by decide +kernel
theorem dX3_cutSet_38 : decode cX3_cutSet 38 = .ok (.iastore, 1) := by decide +kernel
theorem dX3_cutSet_39 : decode cX3_cutSet 39 = .ok (.aload_n 0, 1) := by decide +kernel
theorem dX3_cutSet_40 : decode cX3_cutSet 40 = .ok (.getfield 39, 3) := by decide +kernel
theorem dX3_cutSet_43 : decode cX3_cutSet 43 = .ok (.iload 6, 2) := by decide +kernel
theorem dX3_cutSet_45 : decode cX3_cutSet 45 = .ok (.baload, 1) := by decide +kernel
theorem dX3_cutSet_46 : decode cX3_cutSet 46 = .ok (.ifCond .eq 45, 3) := by decide +kernel
theorem dX3_cutSet_49 : decode cX3_cutSet 49 = .ok (.aload_n 0, 1) := by decide +kernel
theorem dX3_cutSet_50 : decode cX3_cutSet 50 = .ok (.getfield 39, 3) := by decide +kernel
theorem dX3_cutSet_53 : decode cX3_cutSet 53 = .ok (.iload 6, 2) := by decide +kernel
theorem dX3_cutSet_55 : decode cX3_cutSet 55 = .ok (.iconst 0, 1) := by decide +kernel
theorem dX3_cutSet_56 : decode cX3_cutSet 56 = .ok (.bastore, 1) := by decide +kernel
theorem dX3_cutSet_57 : decode cX3_cutSet 57 = .ok (.aload_n 0, 1) := by decide +kernel
theorem dX3_cutSet_58 : decode cX3_cutSet 58 = .ok (.iload 6, 2) := by decide +kernel
theorem dX3_cutSet_60 : decode cX3_cutSet 60 = .ok (.iload 4, 2) := by decide +kernel
theorem dX3_cutSet_62 : decode cX3_cutSet 62 = .ok (.iload 5, 2) := by decide +kernel
theorem dX3_cutSet_64 : decode cX3_cutSet 64 = .ok (.invokevirtual 96, 3) := by decide +kernel
theorem dX3_cutSet_67 : decode cX3_cutSet 67 = .ok (.iload 4, 2) := by decide +kernel
theorem dX3_cutSet_69 : decode cX3_cutSet 69 = .ok (.aload_n 0, 1) := by decide +kernel
theorem dX3_cutSet_70 : decode cX3_cutSet 70 = .ok (.getfield 43, 3) := by decide +kernel
theorem dX3_cutSet_73 : decode cX3_cutSet 73 = .ok (.iload 6, 2) := by decide +kernel
theorem dX3_cutSet_75 : decode cX3_cutSet 75 = .ok (.iaload, 1) := by decide +kernel
theorem dX3_cutSet_76 : decode cX3_cutSet 76 = .ok (.isub, 1) := by decide +kernel
theorem dX3_cutSet_77 : decode cX3_cutSet 77 = .ok (.istore 4, 2) := by decide +kernel
theorem dX3_cutSet_79 : decode cX3_cutSet 79 = .ok (.iload 5, 2) := by decide +kernel
theorem dX3_cutSet_81 : decode cX3_cutSet 81 = .ok (.aload_n 0, 1) := by decide +kernel
theorem dX3_cutSet_82 : decode cX3_cutSet 82 = .ok (.getfield 46, 3) := by decide +kernel
theorem dX3_cutSet_85 : decode cX3_cutSet 85 = .ok (.iload 6, 2) := by decide +kernel
theorem dX3_cutSet_87 : decode cX3_cutSet 87 = .ok (.iaload, 1) := by decide +kernel
theorem dX3_cutSet_88 : decode cX3_cutSet 88 = .ok (.isub, 1) := by decide +kernel
theorem dX3_cutSet_89 : decode cX3_cutSet 89 = .ok (.istore 5, 2) := by decide +kernel
theorem dX3_cutSet_91 : decode cX3_cutSet 91 = .ok (.iinc 6 1, 3) := by decide +kernel
theorem dX3_cutSet_94 : decode cX3_cutSet 94 = .ok (.goto (-80), 3) := by decide +kernel
theorem dX3_cutSet_97 : decode cX3_cutSet 97 = .ok (.aload_n 0, 1) := by decide +kernel
theorem dX3_cutSet_98 : decode cX3_cutSet 98 = .ok (.invokevirtual 100, 3) := by decide +kernel
theorem dX3_cutSet_101 : decode cX3_cutSet 101 = .ok (.return_, 1) := by decide +kernel
set_option maxRecDepth 20000 in
theorem ggX3_choose_X4_parted : GoodIn wsX3_choose wsX4_parted := goodIn_r _ [12] (by decide +kernel) (by decide +kernel)
set_option maxRecDepth 20000 in
theorem gX3_choose_X4_parted_n70 : GoodIn wsX3_choose (wsX4_parted) := ggX3_choose_X4_parted
set_option maxRecDepth 20000 in
theorem ggX3_choose_X3_canGive : GoodIn wsX3_choose wsX3_canGive := goodIn_r _ [17, 18, 19, 1, 20, 21, 22, 23, 24, 4, 25, 7, 26, 27, 28, 29, 30, 31, 32, 33, 34, 35, 36, 37, 38, 39] (by decide +kernel) (by decide +kernel)
set_option maxRecDepth 20000 in
theorem gX3_choose_X3_canGive : GoodIn wsX3_choose (wsV RX3 81 RX3 yX3_canGive wsX3_canGive) := goodIn_app (goodIn_of _ (by decide +kernel)) ggX3_choose_X3_canGive
theorem dX3_choose_0 : decode cX3_choose 0 = .ok (.aload_n 0, 1) := by decide +kernel
theorem dX3_choose_1 : decode cX3_choose 1 = .ok (.getfield 27, 3) := by decide +kernel
theorem dX3_choose_4 : decode cX3_choose 4 = .ok (.iload_n 1, 1) := by decide +kernel
theorem dX3_choose_5 : decode cX3_choose 5 = .ok (.iaload, 1) := by decide +kernel
theorem dX3_choose_6 : decode cX3_choose 6 = .ok (.iload_n 2, 1) := by decide +kernel
theorem dX3_choose_7 : decode cX3_choose 7 = .ok (.invokestatic 103, 3) := by decide +kernel
theorem dX3_choose_10 : decode cX3_choose 10 = .ok (.istore 4, 2) := by decide +kernel
theorem dX3_choose_12 : decode cX3_choose 12 = .ok (.iload 4, 2) := by decide +kernel
theorem dX3_choose_14 : decode cX3_choose 14 = .ok (.ifCond .lt 70, 3) := by decide +kernel
theorem dX3_choose_17 : decode cX3_choose 17 = .ok (.iload_n 3, 1) := by decide +kernel
theorem dX3_choose_18 : decode cX3_choose 18 = .ok (.aload_n 0, 1) := by decide +kernel
theorem dX3_choose_19 : decode cX3_choose 19 = .ok (.getfield 24, 3) := by decide +kernel
theorem dX3_choose_22 : decode cX3_choose 22 = .ok (.iload_n 1, 1) := by decide +kernel
theorem dX3_choose_23 : decode cX3_choose 23 = .ok (.iaload, 1) := by decide +kernel
theorem dX3_choose_24 : decode cX3_choose 24 = .ok (.iload 4, 2) := by decide +kernel
theorem dX3_choose_26 : decode cX3_choose 26 = .ok (.aload_n 0, 1) := by decide +kernel
theorem dX3_choose_27 : decode cX3_choose 27 = .ok (.getfield 56, 3) := by decide +kernel
theorem dX3_choose_30 : decode cX3_choose 30 = .ok (.iconst 1, 1) := by decide +kernel
theorem dX3_choose_31 : decode cX3_choose 31 = .ok (.iadd, 1) := by decide +kernel
theorem dX3_choose_32 : decode cX3_choose 32 = .ok (.imul, 1) := by decide +kernel
theorem dX3_choose_33 : decode cX3_choose 33 = .ok (.isub, 1) := by decide +kernel
theorem dX3_choose_34 : decode cX3_choose 34 = .ok (.aload_n 0, 1) := by decide +kernel
theorem dX3_choose_35 : decode cX3_choose 35 = .ok (.getfield 56, 3) := by decide +kernel
theorem dX3_choose_38 : decode cX3_choose 38 = .ok (.invokestatic 70, 3) := by decide +kernel
theorem dX3_choose_41 : decode cX3_choose 41 = .ok (.invokestatic 103, 3) := by decide +kernel
theorem dX3_choose_44 : decode cX3_choose 44 = .ok (.istore 5, 2) := by decide +kernel
theorem dX3_choose_46 : decode cX3_choose 46 = .ok (.aload_n 0, 1) := by decide +kernel
theorem dX3_choose_47 : decode cX3_choose 47 = .ok (.iload_n 2, 1) := by decide +kernel
theorem dX3_choose_48 : decode cX3_choose 48 = .ok (.iload 4, 2) := by decide +kernel
theorem dX3_choose_50 : decode cX3_choose 50 = .ok (.isub, 1) := by decide +kernel
theorem dX3_choose_51 : decode cX3_choose 51 = .ok (.iload_n 3, 1) := by decide +kernel
theorem dX3_choose_52 : decode cX3_choose 52 = .ok (.iload 5, 2) := by decide +kernel
theorem dX3_choose_54 : decode cX3_choose 54 = .ok (.isub, 1) := by decide +kernel
theorem dX3_choose_55 : decode cX3_choose 55 = .ok (.invokevirtual 81, 3) := by decide +kernel
theorem dX3_choose_58 : decode cX3_choose 58 = .ok (.ifCond .eq 20, 3) := by decide +kernel
theorem dX3_choose_61 : decode cX3_choose 61 = .ok (.aload_n 0, 1) := by decide +kernel
theorem dX3_choose_62 : decode cX3_choose 62 = .ok (.getfield 43, 3) := by decide +kernel
theorem dX3_choose_65 : decode cX3_choose 65 = .ok (.iload_n 1, 1) := by decide +kernel
theorem dX3_choose_66 : decode cX3_choose 66 = .ok (.iload 4, 2) := by decide +kernel
theorem dX3_choose_68 : decode cX3_choose 68 = .ok (.iastore, 1) := by decide +kernel
theorem dX3_choose_69 : decode cX3_choose 69 = .ok (.aload_n 0, 1) := by decide +kernel
theorem dX3_choose_70 : decode cX3_choose 70 = .ok (.getfield 46, 3) := by decide +kernel
theorem dX3_choose_73 : decode cX3_choose 73 = .ok (.iload_n 1, 1) := by decide +kernel
theorem dX3_choose_74 : decode cX3_choose 74 = .ok (.iload 5, 2) := by decide +kernel
theorem dX3_choose_76 : decode cX3_choose 76 = .ok (.iastore, 1) := by decide +kernel
theorem dX3_choose_77 : decode cX3_choose 77 = .ok (.return_, 1) := by decide +kernel
theorem dX3_choose_78 : decode cX3_choose 78 = .ok (.iinc 4 (-1), 3) := by decide +kernel
theorem dX3_choose_81 : decode cX3_choose 81 = .ok (.goto (-69), 3) := by decide +kernel
theorem dX3_choose_84 : decode cX3_choose 84 = .ok (.return_, 1) := by decide +kernel
set_option maxRecDepth 20000 in
theorem ggX3_shorten_X3_shortenBolt : GoodIn wsX3_shorten wsX3_shortenBolt := goodIn_r _ [7, 8, 9, 10, 11, 12, 13, 14, 15, 16, 17, 18, 19, 20, 21, 22, 23, 24, 25, 40, 41, 42, 43, 26, 27, 28, 29, 30, 31, 32, 33, 34, 35, 36, 37, 38, 39] (by decide +kernel) (by decide +kernel)
set_option maxRecDepth 20000 in
theorem gX3_shorten_X3_shortenBolt : GoodIn wsX3_shorten (wsV RX3 106 RX3 yX3_shortenBolt wsX3_shortenBolt) := goodIn_app (goodIn_of _ (by decide +kernel)) ggX3_shorten_X3_shortenBolt
theorem dX3_shorten_0 : decode cX3_shorten 0 = .ok (.iconst 0, 1) := by decide +kernel
theorem dX3_shorten_1 : decode cX3_shorten 1 = .ok (.istore_n 1, 1) := by decide +kernel
theorem dX3_shorten_2 : decode cX3_shorten 2 = .ok (.iconst 0, 1) := by decide +kernel
theorem dX3_shorten_3 : decode cX3_shorten 3 = .ok (.istore_n 2, 1) := by decide +kernel
theorem dX3_shorten_4 : decode cX3_shorten 4 = .ok (.iload_n 2, 1) := by decide +kernel
theorem dX3_shorten_5 : decode cX3_shorten 5 = .ok (.aload_n 0, 1) := by decide +kernel
theorem dX3_shorten_6 : decode cX3_shorten 6 = .ok (.getfield 49, 3) := by decide +kernel
theorem dX3_shorten_9 : decode cX3_shorten 9 = .ok (.if_icmp .ge 27, 3) := by decide +kernel
theorem dX3_shorten_12 : decode cX3_shorten 12 = .ok (.aload_n 0, 1) := by decide +kernel
theorem dX3_shorten_13 : decode cX3_shorten 13 = .ok (.getfield 11, 3) := by decide +kernel
theorem dX3_shorten_16 : decode cX3_shorten 16 = .ok (.iload_n 2, 1) := by decide +kernel
theorem dX3_shorten_17 : decode cX3_shorten 17 = .ok (.aaload, 1) := by decide +kernel
theorem dX3_shorten_18 : decode cX3_shorten 18 = .ok (.astore_n 3, 1) := by decide +kernel
theorem dX3_shorten_19 : decode cX3_shorten 19 = .ok (.aload_n 3, 1) := by decide +kernel
theorem dX3_shorten_20 : decode cX3_shorten 20 = .ok (.ifnull 10, 3) := by decide +kernel
theorem dX3_shorten_23 : decode cX3_shorten 23 = .ok (.aload_n 0, 1) := by decide +kernel
theorem dX3_shorten_24 : decode cX3_shorten 24 = .ok (.aload_n 3, 1) := by decide +kernel
theorem dX3_shorten_25 : decode cX3_shorten 25 = .ok (.iload_n 1, 1) := by decide +kernel
theorem dX3_shorten_26 : decode cX3_shorten 26 = .ok (.invokevirtual 106, 3) := by decide +kernel
theorem dX3_shorten_29 : decode cX3_shorten 29 = .ok (.istore_n 1, 1) := by decide +kernel
theorem dX3_shorten_30 : decode cX3_shorten 30 = .ok (.iinc 2 1, 3) := by decide +kernel
theorem dX3_shorten_33 : decode cX3_shorten 33 = .ok (.goto (-29), 3) := by decide +kernel
theorem dX3_shorten_36 : decode cX3_shorten 36 = .ok (.return_, 1) := by decide +kernel
set_option maxRecDepth 20000 in
theorem ggX3_shortenBolt_X0_dropEmptyParts : GoodIn wsX3_shortenBolt wsX0_dropEmptyParts := goodIn_r _ [11, 12, 13, 14, 15, 16, 17, 10, 18, 19, 20, 21, 22] (by decide +kernel) (by decide +kernel)
set_option maxRecDepth 20000 in
theorem gX3_shortenBolt_X0_dropEmptyParts : GoodIn wsX3_shortenBolt (wsV RX3 110 RX0 yX0_dropEmptyParts wsX0_dropEmptyParts) := goodIn_app (goodIn_of _ (by decide +kernel)) ggX3_shortenBolt_X0_dropEmptyParts
theorem dX3_shortenBolt_0 : decode cX3_shortenBolt 0 = .ok (.iload_n 2, 1) := by decide +kernel
theorem dX3_shortenBolt_1 : decode cX3_shortenBolt 1 = .ok (.istore_n 3, 1) := by decide +kernel
theorem dX3_shortenBolt_2 : decode cX3_shortenBolt 2 = .ok (.iconst 0, 1) := by decide +kernel
theorem dX3_shortenBolt_3 : decode cX3_shortenBolt 3 = .ok (.istore 4, 2) := by decide +kernel
theorem dX3_shortenBolt_5 : decode cX3_shortenBolt 5 = .ok (.iload 4, 2) := by decide +kernel
theorem dX3_shortenBolt_7 : decode cX3_shortenBolt 7 = .ok (.aload_n 1, 1) := by decide +kernel
theorem dX3_shortenBolt_8 : decode cX3_shortenBolt 8 = .ok (.getfield 59, 3) := by decide +kernel
theorem dX3_shortenBolt_11 : decode cX3_shortenBolt 11 = .ok (.if_icmp .ge 55, 3) := by decide +kernel
theorem dX3_shortenBolt_14 : decode cX3_shortenBolt 14 = .ok (.iload_n 3, 1) := by decide +kernel
theorem dX3_shortenBolt_15 : decode cX3_shortenBolt 15 = .ok (.aload_n 0, 1) := by decide +kernel
theorem dX3_shortenBolt_16 : decode cX3_shortenBolt 16 = .ok (.getfield 53, 3) := by decide +kernel
theorem dX3_shortenBolt_19 : decode cX3_shortenBolt 19 = .ok (.if_icmp .ge 47, 3) := by decide +kernel
theorem dX3_shortenBolt_22 : decode cX3_shortenBolt 22 = .ok (.aload_n 1, 1) := by decide +kernel
theorem dX3_shortenBolt_23 : decode cX3_shortenBolt 23 = .ok (.getfield 63, 3) := by decide +kernel
theorem dX3_shortenBolt_26 : decode cX3_shortenBolt 26 = .ok (.iload 4, 2) := by decide +kernel
theorem dX3_shortenBolt_28 : decode cX3_shortenBolt 28 = .ok (.dup2, 1) := by decide +kernel
theorem dX3_shortenBolt_29 : decode cX3_shortenBolt 29 = .ok (.iaload, 1) := by decide +kernel
theorem dX3_shortenBolt_30 : decode cX3_shortenBolt 30 = .ok (.aload_n 0, 1) := by decide +kernel
theorem dX3_shortenBolt_31 : decode cX3_shortenBolt 31 = .ok (.getfield 43, 3) := by decide +kernel
theorem dX3_shortenBolt_34 : decode cX3_shortenBolt 34 = .ok (.iload_n 3, 1) := by decide +kernel
theorem dX3_shortenBolt_35 : decode cX3_shortenBolt 35 = .ok (.iaload, 1) := by decide +kernel
theorem dX3_shortenBolt_36 : decode cX3_shortenBolt 36 = .ok (.aload_n 0, 1) := by decide +kernel
theorem dX3_shortenBolt_37 : decode cX3_shortenBolt 37 = .ok (.getfield 56, 3) := by decide +kernel
theorem dX3_shortenBolt_40 : decode cX3_shortenBolt 40 = .ok (.iconst 1, 1) := by decide +kernel
theorem dX3_shortenBolt_41 : decode cX3_shortenBolt 41 = .ok (.iadd, 1) := by decide +kernel
theorem dX3_shortenBolt_42 : decode cX3_shortenBolt 42 = .ok (.imul, 1) := by decide +kernel
theorem dX3_shortenBolt_43 : decode cX3_shortenBolt 43 = .ok (.aload_n 0, 1) := by decide +kernel
theorem dX3_shortenBolt_44 : decode cX3_shortenBolt 44 = .ok (.getfield 46, 3) := by decide +kernel
theorem dX3_shortenBolt_47 : decode cX3_shortenBolt 47 = .ok (.iload_n 3, 1) := by decide +kernel
theorem dX3_shortenBolt_48 : decode cX3_shortenBolt 48 = .ok (.iaload, 1) := by decide +kernel
theorem dX3_shortenBolt_49 : decode cX3_shortenBolt 49 = .ok (.aload_n 0, 1) := by decide +kernel
theorem dX3_shortenBolt_50 : decode cX3_shortenBolt 50 = .ok (.getfield 56, 3) := by decide +kernel
theorem dX3_shortenBolt_53 : decode cX3_shortenBolt 53 = .ok (.imul, 1) := by decide +kernel
theorem dX3_shortenBolt_54 : decode cX3_shortenBolt 54 = .ok (.iadd, 1) := by decide +kernel
theorem dX3_shortenBolt_55 : decode cX3_shortenBolt 55 = .ok (.iadd, 1) := by decide +kernel
theorem dX3_shortenBolt_56 : decode cX3_shortenBolt 56 = .ok (.iastore, 1) := by decide +kernel
theorem dX3_shortenBolt_57 : decode cX3_shortenBolt 57 = .ok (.iinc 3 1, 3) := by decide +kernel
theorem dX3_shortenBolt_60 : decode cX3_shortenBolt 60 = .ok (.iinc 4 1, 3) := by decide +kernel
theorem dX3_shortenBolt_63 : decode cX3_shortenBolt 63 = .ok (.goto (-58), 3) := by decide +kernel
theorem dX3_shortenBolt_66 : decode cX3_shortenBolt 66 = .ok (.aload_n 1, 1) := by decide +kernel
theorem dX3_shortenBolt_67 : decode cX3_shortenBolt 67 = .ok (.invokevirtual 110, 3) := by decide +kernel
theorem dX3_shortenBolt_70 : decode cX3_shortenBolt 70 = .ok (.iload_n 3, 1) := by decide +kernel
theorem dX3_shortenBolt_71 : decode cX3_shortenBolt 71 = .ok (.ireturn, 1) := by decide +kernel
