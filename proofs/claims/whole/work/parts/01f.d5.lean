theorem dX5_init_0 : decode cX5_init 0 = .ok (.aload_n 0, 1) := by decide +kernel
theorem dX5_init_1 : decode cX5_init 1 = .ok (.invokespecial 1, 3) := by decide +kernel
theorem dX5_init_4 : decode cX5_init 4 = .ok (.aload_n 0, 1) := by decide +kernel
theorem dX5_init_5 : decode cX5_init 5 = .ok (.bipush 8, 2) := by decide +kernel
theorem dX5_init_7 : decode cX5_init 7 = .ok (.newarray .int, 2) := by decide +kernel
theorem dX5_init_9 : decode cX5_init 9 = .ok (.putfield 9, 3) := by decide +kernel
theorem dX5_init_12 : decode cX5_init 12 = .ok (.aload_n 0, 1) := by decide +kernel
theorem dX5_init_13 : decode cX5_init 13 = .ok (.bipush 8, 2) := by decide +kernel
theorem dX5_init_15 : decode cX5_init 15 = .ok (.newarray .int, 2) := by decide +kernel
theorem dX5_init_17 : decode cX5_init 17 = .ok (.putfield 13, 3) := by decide +kernel
theorem dX5_init_20 : decode cX5_init 20 = .ok (.aload_n 0, 1) := by decide +kernel
theorem dX5_init_21 : decode cX5_init 21 = .ok (.bipush 8, 2) := by decide +kernel
theorem dX5_init_23 : decode cX5_init 23 = .ok (.newarray .int, 2) := by decide +kernel
theorem dX5_init_25 : decode cX5_init 25 = .ok (.putfield 16, 3) := by decide +kernel
theorem dX5_init_28 : decode cX5_init 28 = .ok (.aload_n 0, 1) := by decide +kernel
theorem dX5_init_29 : decode cX5_init 29 = .ok (.bipush 8, 2) := by decide +kernel
theorem dX5_init_31 : decode cX5_init 31 = .ok (.newarray .int, 2) := by decide +kernel
theorem dX5_init_33 : decode cX5_init 33 = .ok (.putfield 19, 3) := by decide +kernel
theorem dX5_init_36 : decode cX5_init 36 = .ok (.aload_n 0, 1) := by decide +kernel
theorem dX5_init_37 : decode cX5_init 37 = .ok (.bipush 40, 2) := by decide +kernel
theorem dX5_init_39 : decode cX5_init 39 = .ok (.newarray .int, 2) := by decide +kernel
theorem dX5_init_41 : decode cX5_init 41 = .ok (.putfield 22, 3) := by decide +kernel
theorem dX5_init_44 : decode cX5_init 44 = .ok (.aload_n 0, 1) := by decide +kernel
theorem dX5_init_45 : decode cX5_init 45 = .ok (.bipush 40, 2) := by decide +kernel
theorem dX5_init_47 : decode cX5_init 47 = .ok (.newarray .int, 2) := by decide +kernel
theorem dX5_init_49 : decode cX5_init 49 = .ok (.putfield 25, 3) := by decide +kernel
theorem dX5_init_52 : decode cX5_init 52 = .ok (.aload_n 0, 1) := by decide +kernel
theorem dX5_init_53 : decode cX5_init 53 = .ok (.sipush 200, 3) := by decide +kernel
theorem dX5_init_56 : decode cX5_init 56 = .ok (.newarray .int, 2) := by decide +kernel
theorem dX5_init_58 : decode cX5_init 58 = .ok (.putfield 28, 3) := by decide +kernel
theorem dX5_init_61 : decode cX5_init 61 = .ok (.aload_n 0, 1) := by decide +kernel
theorem dX5_init_62 : decode cX5_init 62 = .ok (.sipush 200, 3) := by decide +kernel
theorem dX5_init_65 : decode cX5_init 65 = .ok (.newarray .int, 2) := by decide +kernel
theorem dX5_init_67 : decode cX5_init 67 = .ok (.putfield 31, 3) := by decide +kernel
theorem dX5_init_70 : decode cX5_init 70 = .ok (.aload_n 0, 1) := by decide +kernel
theorem dX5_init_71 : decode cX5_init 71 = .ok (.bipush 30, 2) := by decide +kernel
theorem dX5_init_73 : decode cX5_init 73 = .ok (.newarray .int, 2) := by decide +kernel
theorem dX5_init_75 : decode cX5_init 75 = .ok (.putfield 34, 3) := by decide +kernel
theorem dX5_init_78 : decode cX5_init 78 = .ok (.aload_n 0, 1) := by decide +kernel
theorem dX5_init_79 : decode cX5_init 79 = .ok (.sipush 1200, 3) := by decide +kernel
theorem dX5_init_82 : decode cX5_init 82 = .ok (.newarray .int, 2) := by decide +kernel
theorem dX5_init_84 : decode cX5_init 84 = .ok (.putfield 37, 3) := by decide +kernel
theorem dX5_init_87 : decode cX5_init 87 = .ok (.aload_n 0, 1) := by decide +kernel
theorem dX5_init_88 : decode cX5_init 88 = .ok (.sipush 1200, 3) := by decide +kernel
theorem dX5_init_91 : decode cX5_init 91 = .ok (.newarray .int, 2) := by decide +kernel
theorem dX5_init_93 : decode cX5_init 93 = .ok (.putfield 40, 3) := by decide +kernel
theorem dX5_init_96 : decode cX5_init 96 = .ok (.aload_n 0, 1) := by decide +kernel
theorem dX5_init_97 : decode cX5_init 97 = .ok (.bipush 30, 2) := by decide +kernel
theorem dX5_init_99 : decode cX5_init 99 = .ok (.newarray .int, 2) := by decide +kernel
theorem dX5_init_101 : decode cX5_init 101 = .ok (.putfield 43, 3) := by decide +kernel
theorem dX5_init_104 : decode cX5_init 104 = .ok (.aload_n 0, 1) := by decide +kernel
theorem dX5_init_105 : decode cX5_init 105 = .ok (.sipush 1200, 3) := by decide +kernel
theorem dX5_init_108 : decode cX5_init 108 = .ok (.newarray .int, 2) := by decide +kernel
theorem dX5_init_110 : decode cX5_init 110 = .ok (.putfield 46, 3) := by decide +kernel
theorem dX5_init_113 : decode cX5_init 113 = .ok (.aload_n 0, 1) := by decide +kernel
theorem dX5_init_114 : decode cX5_init 114 = .ok (.sipush 1200, 3) := by decide +kernel
theorem dX5_init_117 : decode cX5_init 117 = .ok (.newarray .int, 2) := by decide +kernel
theorem dX5_init_119 : decode cX5_init 119 = .ok (.putfield 49, 3) := by decide +kernel
theorem dX5_init_122 : decode cX5_init 122 = .ok (.aload_n 0, 1) := by decide +kernel
theorem dX5_init_123 : decode cX5_init 123 = .ok (.sipush 1200, 3) := by decide +kernel
theorem dX5_init_126 : decode cX5_init 126 = .ok (.newarray .int, 2) := by decide +kernel
theorem dX5_init_128 : decode cX5_init 128 = .ok (.putfield 52, 3) := by decide +kernel
theorem dX5_init_131 : decode cX5_init 131 = .ok (.aload_n 0, 1) := by decide +kernel
theorem dX5_init_132 : decode cX5_init 132 = .ok (.sipush 256, 3) := by decide +kernel
theorem dX5_init_135 : decode cX5_init 135 = .ok (.newarray .boolean, 2) := by decide +kernel
theorem dX5_init_137 : decode cX5_init 137 = .ok (.putfield 55, 3) := by decide +kernel
theorem dX5_init_140 : decode cX5_init 140 = .ok (.aload_n 0, 1) := by decide +kernel
theorem dX5_init_141 : decode cX5_init 141 = .ok (.bipush 16, 2) := by decide +kernel
theorem dX5_init_143 : decode cX5_init 143 = .ok (.newarray .int, 2) := by decide +kernel
theorem dX5_init_145 : decode cX5_init 145 = .ok (.putfield 59, 3) := by decide +kernel
theorem dX5_init_148 : decode cX5_init 148 = .ok (.aload_n 0, 1) := by decide +kernel
theorem dX5_init_149 : decode cX5_init 149 = .ok (.bipush 32, 2) := by decide +kernel
theorem dX5_init_151 : decode cX5_init 151 = .ok (.newarray .int, 2) := by decide +kernel
theorem dX5_init_153 : decode cX5_init 153 = .ok (.putfield 62, 3) := by decide +kernel
theorem dX5_init_156 : decode cX5_init 156 = .ok (.aload_n 0, 1) := by decide +kernel
theorem dX5_init_157 : decode cX5_init 157 = .ok (.bipush 32, 2) := by decide +kernel
theorem dX5_init_159 : decode cX5_init 159 = .ok (.newarray .int, 2) := by decide +kernel
theorem dX5_init_161 : decode cX5_init 161 = .ok (.putfield 65, 3) := by decide +kernel
theorem dX5_init_164 : decode cX5_init 164 = .ok (.aload_n 0, 1) := by decide +kernel
theorem dX5_init_165 : decode cX5_init 165 = .ok (.sipush 1353, 3) := by decide +kernel
theorem dX5_init_168 : decode cX5_init 168 = .ok (.newarray .int, 2) := by decide +kernel
theorem dX5_init_170 : decode cX5_init 170 = .ok (.putfield 68, 3) := by decide +kernel
theorem dX5_init_173 : decode cX5_init 173 = .ok (.aload_n 0, 1) := by decide +kernel
theorem dX5_init_174 : decode cX5_init 174 = .ok (.bipush 10, 2) := by decide +kernel
theorem dX5_init_176 : decode cX5_init 176 = .ok (.newarray .int, 2) := by decide +kernel
theorem dX5_init_178 : decode cX5_init 178 = .ok (.putfield 71, 3) := by decide +kernel
theorem dX5_init_181 : decode cX5_init 181 = .ok (.aload_n 0, 1) := by decide +kernel
theorem dX5_init_182 : decode cX5_init 182 = .ok (.bipush 10, 2) := by decide +kernel
theorem dX5_init_184 : decode cX5_init 184 = .ok (.newarray .int, 2) := by decide +kernel
theorem dX5_init_186 : decode cX5_init 186 = .ok (.putfield 74, 3) := by decide +kernel
theorem dX5_init_189 : decode cX5_init 189 = .ok (.aload_n 0, 1) := by decide +kernel
theorem dX5_init_190 : decode cX5_init 190 = .ok (.bipush 8, 2) := by decide +kernel
theorem dX5_init_192 : decode cX5_init 192 = .ok (.newarray .int, 2) := by decide +kernel
theorem dX5_init_194 : decode cX5_init 194 = .ok (.putfield 77, 3) := by decide +kernel
theorem dX5_init_197 : decode cX5_init 197 = .ok (.aload_n 0, 1) := by decide +kernel
theorem dX5_init_198 : decode cX5_init 198 = .ok (.bipush 80, 2) := by decide +kernel
theorem dX5_init_200 : decode cX5_init 200 = .ok (.newarray .int, 2) := by decide +kernel
theorem dX5_init_202 : decode cX5_init 202 = .ok (.putfield 80, 3) := by decide +kernel
theorem dX5_init_205 : decode cX5_init 205 = .ok (.iconst 0, 1) := by decide +kernel
theorem dX5_init_206 : decode cX5_init 206 = .ok (.istore_n 1, 1) := by decide +kernel
theorem dX5_init_207 : decode cX5_init 207 = .ok (.iload_n 1, 1) := by decide +kernel
theorem dX5_init_208 : decode cX5_init 208 = .ok (.bipush 16, 2) := by decide +kernel
theorem dX5_init_210 : decode cX5_init 210 = .ok (.if_icmp .ge 18, 3) := by decide +kernel
theorem dX5_init_213 : decode cX5_init 213 = .ok (.aload_n 0, 1) := by decide +kernel
theorem dX5_init_214 : decode cX5_init 214 = .ok (.getfield 59, 3) := by decide +kernel
theorem dX5_init_217 : decode cX5_init 217 = .ok (.iload_n 1, 1) := by decide +kernel
theorem dX5_init_218 : decode cX5_init 218 = .ok (.sipush 1000, 3) := by decide +kernel
theorem dX5_init_221 : decode cX5_init 221 = .ok (.iastore, 1) := by decide +kernel
theorem dX5_init_222 : decode cX5_init 222 = .ok (.iinc 1 1, 3) := by decide +kernel
theorem dX5_init_225 : decode cX5_init 225 = .ok (.goto (-18), 3) := by decide +kernel
theorem dX5_init_228 : decode cX5_init 228 = .ok (.return_, 1) := by decide +kernel
theorem dX5_thrown_0 : decode cX5_thrown 0 = .ok (.aload_n 0, 1) := by decide +kernel
theorem dX5_thrown_1 : decode cX5_thrown 1 = .ok (.getfield 83, 3) := by decide +kernel
theorem dX5_thrown_4 : decode cX5_thrown 4 = .ok (.ireturn, 1) := by decide +kernel
theorem dX5_fail_0 : decode cX5_fail 0 = .ok (.aload_n 0, 1) := by decide +kernel
theorem dX5_fail_1 : decode cX5_fail 1 = .ok (.iload_n 1, 1) := by decide +kernel
theorem dX5_fail_2 : decode cX5_fail 2 = .ok (.putfield 83, 3) := by decide +kernel
theorem dX5_fail_5 : decode cX5_fail 5 = .ok (.iconst 0, 1) := by decide +kernel
theorem dX5_fail_6 : decode cX5_fail 6 = .ok (.ireturn, 1) := by decide +kernel
theorem dX5_isForm_0 : decode cX5_isForm 0 = .ok (.iload_n 1, 1) := by decide +kernel
theorem dX5_isForm_1 : decode cX5_isForm 1 = .ok (.ifCond .lt 15, 3) := by decide +kernel
theorem dX5_isForm_4 : decode cX5_isForm 4 = .ok (.iload_n 1, 1) := by decide +kernel
theorem dX5_isForm_5 : decode cX5_isForm 5 = .ok (.aload_n 0, 1) := by decide +kernel
theorem dX5_isForm_6 : decode cX5_isForm 6 = .ok (.getfield 87, 3) := by decide +kernel
theorem dX5_isForm_9 : decode cX5_isForm 9 = .ok (.if_icmp .ge 7, 3) := by decide +kernel
theorem dX5_isForm_12 : decode cX5_isForm 12 = .ok (.iconst 1, 1) := by decide +kernel
theorem dX5_isForm_13 : decode cX5_isForm 13 = .ok (.goto 4, 3) := by decide +kernel
theorem dX5_isForm_16 : decode cX5_isForm 16 = .ok (.iconst 0, 1) := by decide +kernel
theorem dX5_isForm_17 : decode cX5_isForm 17 = .ok (.ireturn, 1) := by decide +kernel
theorem dX5_form_0 : decode cX5_form 0 = .ok (.aload_n 0, 1) := by decide +kernel
theorem dX5_form_1 : decode cX5_form 1 = .ok (.iconst 0, 1) := by decide +kernel
theorem dX5_form_2 : decode cX5_form 2 = .ok (.putfield 83, 3) := by decide +kernel
theorem dX5_form_5 : decode cX5_form 5 = .ok (.aload_n 0, 1) := by decide +kernel
theorem dX5_form_6 : decode cX5_form 6 = .ok (.getfield 87, 3) := by decide +kernel
theorem dX5_form_9 : decode cX5_form 9 = .ok (.bipush 8, 2) := by decide +kernel
theorem dX5_form_11 : decode cX5_form 11 = .ok (.if_icmp .eq 60, 3) := by decide +kernel
theorem dX5_form_14 : decode cX5_form 14 = .ok (.iload_n 1, 1) := by decide +kernel
theorem dX5_form_15 : decode cX5_form 15 = .ok (.bipush 10, 2) := by decide +kernel
theorem dX5_form_17 : decode cX5_form 17 = .ok (.if_icmp .lt 54, 3) := by decide +kernel
theorem dX5_form_20 : decode cX5_form 20 = .ok (.iload_n 1, 1) := by decide +kernel
theorem dX5_form_21 : decode cX5_form 21 = .ok (.sipush 200, 3) := by decide +kernel
theorem dX5_form_24 : decode cX5_form 24 = .ok (.if_icmp .gt 47, 3) := by decide +kernel
theorem dX5_form_27 : decode cX5_form 27 = .ok (.iload_n 1, 1) := by decide +kernel
theorem dX5_form_28 : decode cX5_form 28 = .ok (.iconst 2, 1) := by decide +kernel
theorem dX5_form_29 : decode cX5_form 29 = .ok (.irem, 1) := by decide +kernel
theorem dX5_form_30 : decode cX5_form 30 = .ok (.ifCond .ne 41, 3) := by decide +kernel
theorem dX5_form_33 : decode cX5_form 33 = .ok (.iload_n 2, 1) := by decide +kernel
theorem dX5_form_34 : decode cX5_form 34 = .ok (.bipush 100, 2) := by decide +kernel
theorem dX5_form_36 : decode cX5_form 36 = .ok (.if_icmp .lt 35, 3) := by decide +kernel
theorem dX5_form_39 : decode cX5_form 39 = .ok (.iload_n 2, 1) := by decide +kernel
theorem dX5_form_40 : decode cX5_form 40 = .ok (.sipush 2000, 3) := by decide +kernel
theorem dX5_form_43 : decode cX5_form 43 = .ok (.if_icmp .gt 28, 3) := by decide +kernel
theorem dX5_form_46 : decode cX5_form 46 = .ok (.iload_n 3, 1) := by decide +kernel
theorem dX5_form_47 : decode cX5_form 47 = .ok (.bipush 50, 2) := by decide +kernel
theorem dX5_form_49 : decode cX5_form 49 = .ok (.if_icmp .lt 22, 3) := by decide +kernel
theorem dX5_form_52 : decode cX5_form 52 = .ok (.iload_n 3, 1) := by decide +kernel
theorem dX5_form_53 : decode cX5_form 53 = .ok (.iload_n 2, 1) := by decide +kernel
theorem dX5_form_54 : decode cX5_form 54 = .ok (.if_icmp .gt 17, 3) := by decide +kernel
theorem dX5_form_57 : decode cX5_form 57 = .ok (.iload 4, 2) := by decide +kernel
theorem dX5_form_59 : decode cX5_form 59 = .ok (.bipush 8, 2) := by decide +kernel
theorem dX5_form_61 : decode cX5_form 61 = .ok (.if_icmp .lt 10, 3) := by decide +kernel
theorem dX5_form_64 : decode cX5_form 64 = .ok (.iload 4, 2) := by decide +kernel
theorem dX5_form_66 : decode cX5_form 66 = .ok (.bipush 40, 2) := by decide +kernel
theorem dX5_form_68 : decode cX5_form 68 = .ok (.if_icmp .le 5, 3) := by decide +kernel
theorem dX5_form_71 : decode cX5_form 71 = .ok (.iconst (-1), 1) := by decide +kernel
theorem dX5_form_72 : decode cX5_form 72 = .ok (.ireturn, 1) := by decide +kernel
theorem dX5_form_73 : decode cX5_form 73 = .ok (.aload_n 0, 1) := by decide +kernel
theorem dX5_form_74 : decode cX5_form 74 = .ok (.getfield 9, 3) := by decide +kernel
theorem dX5_form_77 : decode cX5_form 77 = .ok (.aload_n 0, 1) := by decide +kernel
theorem dX5_form_78 : decode cX5_form 78 = .ok (.getfield 87, 3) := by decide +kernel
theorem dX5_form_81 : decode cX5_form 81 = .ok (.iload_n 1, 1) := by decide +kernel
theorem dX5_form_82 : decode cX5_form 82 = .ok (.iastore, 1) := by decide +kernel
theorem dX5_form_83 : decode cX5_form 83 = .ok (.aload_n 0, 1) := by decide +kernel
theorem dX5_form_84 : decode cX5_form 84 = .ok (.getfield 13, 3) := by decide +kernel
theorem dX5_form_87 : decode cX5_form 87 = .ok (.aload_n 0, 1) := by decide +kernel
theorem dX5_form_88 : decode cX5_form 88 = .ok (.getfield 87, 3) := by decide +kernel
theorem dX5_form_91 : decode cX5_form 91 = .ok (.iload_n 2, 1) := by decide +kernel
theorem dX5_form_92 : decode cX5_form 92 = .ok (.iastore, 1) := by decide +kernel
theorem dX5_form_93 : decode cX5_form 93 = .ok (.aload_n 0, 1) := by decide +kernel
theorem dX5_form_94 : decode cX5_form 94 = .ok (.getfield 16, 3) := by decide +kernel
theorem dX5_form_97 : decode cX5_form 97 = .ok (.aload_n 0, 1) := by decide +kernel
theorem dX5_form_98 : decode cX5_form 98 = .ok (.getfield 87, 3) := by decide +kernel
theorem dX5_form_101 : decode cX5_form 101 = .ok (.iload_n 3, 1) := by decide +kernel
theorem dX5_form_102 : decode cX5_form 102 = .ok (.iastore, 1) := by decide +kernel
theorem dX5_form_103 : decode cX5_form 103 = .ok (.aload_n 0, 1) := by decide +kernel
theorem dX5_form_104 : decode cX5_form 104 = .ok (.getfield 19, 3) := by decide +kernel
theorem dX5_form_107 : decode cX5_form 107 = .ok (.aload_n 0, 1) := by decide +kernel
theorem dX5_form_108 : decode cX5_form 108 = .ok (.getfield 87, 3) := by decide +kernel
theorem dX5_form_111 : decode cX5_form 111 = .ok (.iload 4, 2) := by decide +kernel
theorem dX5_form_113 : decode cX5_form 113 = .ok (.iastore, 1) := by decide +kernel
theorem dX5_form_114 : decode cX5_form 114 = .ok (.aload_n 0, 1) := by decide +kernel
theorem dX5_form_115 : decode cX5_form 115 = .ok (.dup, 1) := by decide +kernel
theorem dX5_form_116 : decode cX5_form 116 = .ok (.getfield 87, 3) := by decide +kernel
theorem dX5_form_119 : decode cX5_form 119 = .ok (.iconst 1, 1) := by decide +kernel
theorem dX5_form_120 : decode cX5_form 120 = .ok (.iadd, 1) := by decide +kernel
theorem dX5_form_121 : decode cX5_form 121 = .ok (.putfield 87, 3) := by decide +kernel
theorem dX5_form_124 : decode cX5_form 124 = .ok (.aload_n 0, 1) := by decide +kernel
theorem dX5_form_125 : decode cX5_form 125 = .ok (.getfield 87, 3) := by decide +kernel
theorem dX5_form_128 : decode cX5_form 128 = .ok (.iconst 1, 1) := by decide +kernel
theorem dX5_form_129 : decode cX5_form 129 = .ok (.isub, 1) := by decide +kernel
theorem dX5_form_130 : decode cX5_form 130 = .ok (.ireturn, 1) := by decide +kernel
theorem dX5_girthOf_0 : decode cX5_girthOf 0 = .ok (.iconst 2, 1) := by decide +kernel
theorem dX5_girthOf_1 : decode cX5_girthOf 1 = .ok (.iload_n 2, 1) := by decide +kernel
theorem dX5_girthOf_2 : decode cX5_girthOf 2 = .ok (.imul, 1) := by decide +kernel
theorem dX5_girthOf_3 : decode cX5_girthOf 3 = .ok (.aload_n 0, 1) := by decide +kernel
theorem dX5_girthOf_4 : decode cX5_girthOf 4 = .ok (.getfield 9, 3) := by decide +kernel
theorem dX5_girthOf_7 : decode cX5_girthOf 7 = .ok (.iload_n 1, 1) := by decide +kernel
theorem dX5_girthOf_8 : decode cX5_girthOf 8 = .ok (.iaload, 1) := by decide +kernel
theorem dX5_girthOf_9 : decode cX5_girthOf 9 = .ok (.isub, 1) := by decide +kernel
theorem dX5_girthOf_10 : decode cX5_girthOf 10 = .ok (.istore_n 3, 1) := by decide +kernel
theorem dX5_girthOf_11 : decode cX5_girthOf 11 = .ok (.aload_n 0, 1) := by decide +kernel
theorem dX5_girthOf_12 : decode cX5_girthOf 12 = .ok (.getfield 13, 3) := by decide +kernel
theorem dX5_girthOf_15 : decode cX5_girthOf 15 = .ok (.iload_n 1, 1) := by decide +kernel
theorem dX5_girthOf_16 : decode cX5_girthOf 16 = .ok (.iaload, 1) := by decide +kernel
theorem dX5_girthOf_17 : decode cX5_girthOf 17 = .ok (.aload_n 0, 1) := by decide +kernel
theorem dX5_girthOf_18 : decode cX5_girthOf 18 = .ok (.getfield 13, 3) := by decide +kernel
theorem dX5_girthOf_21 : decode cX5_girthOf 21 = .ok (.iload_n 1, 1) := by decide +kernel
theorem dX5_girthOf_22 : decode cX5_girthOf 22 = .ok (.iaload, 1) := by decide +kernel
theorem dX5_girthOf_23 : decode cX5_girthOf 23 = .ok (.aload_n 0, 1) := by decide +kernel
theorem dX5_girthOf_24 : decode cX5_girthOf 24 = .ok (.getfield 16, 3) := by decide +kernel
theorem dX5_girthOf_27 : decode cX5_girthOf 27 = .ok (.iload_n 1, 1) := by decide +kernel
theorem dX5_girthOf_28 : decode cX5_girthOf 28 = .ok (.iaload, 1) := by decide +kernel
theorem dX5_girthOf_29 : decode cX5_girthOf 29 = .ok (.isub, 1) := by decide +kernel
theorem dX5_girthOf_30 : decode cX5_girthOf 30 = .ok (.iload_n 3, 1) := by decide +kernel
theorem dX5_girthOf_31 : decode cX5_girthOf 31 = .ok (.iload_n 3, 1) := by decide +kernel
theorem dX5_girthOf_32 : decode cX5_girthOf 32 = .ok (.imul, 1) := by decide +kernel
theorem dX5_girthOf_33 : decode cX5_girthOf 33 = .ok (.imul, 1) := by decide +kernel
theorem dX5_girthOf_34 : decode cX5_girthOf 34 = .ok (.aload_n 0, 1) := by decide +kernel
theorem dX5_girthOf_35 : decode cX5_girthOf 35 = .ok (.getfield 9, 3) := by decide +kernel
theorem dX5_girthOf_38 : decode cX5_girthOf 38 = .ok (.iload_n 1, 1) := by decide +kernel
theorem dX5_girthOf_39 : decode cX5_girthOf 39 = .ok (.iaload, 1) := by decide +kernel
theorem dX5_girthOf_40 : decode cX5_girthOf 40 = .ok (.aload_n 0, 1) := by decide +kernel
theorem dX5_girthOf_41 : decode cX5_girthOf 41 = .ok (.getfield 9, 3) := by decide +kernel
theorem dX5_girthOf_44 : decode cX5_girthOf 44 = .ok (.iload_n 1, 1) := by decide +kernel
theorem dX5_girthOf_45 : decode cX5_girthOf 45 = .ok (.iaload, 1) := by decide +kernel
theorem dX5_girthOf_46 : decode cX5_girthOf 46 = .ok (.imul, 1) := by decide +kernel
theorem dX5_girthOf_47 : decode cX5_girthOf 47 = .ok (.idiv, 1) := by decide +kernel
theorem dX5_girthOf_48 : decode cX5_girthOf 48 = .ok (.isub, 1) := by decide +kernel
theorem dX5_girthOf_49 : decode cX5_girthOf 49 = .ok (.ireturn, 1) := by decide +kernel
theorem dX5_isHeight_0 : decode cX5_isHeight 0 = .ok (.iload_n 2, 1) := by decide +kernel
theorem dX5_isHeight_1 : decode cX5_isHeight 1 = .ok (.ifCond .lt 17, 3) := by decide +kernel
theorem dX5_isHeight_4 : decode cX5_isHeight 4 = .ok (.iload_n 2, 1) := by decide +kernel
theorem dX5_isHeight_5 : decode cX5_isHeight 5 = .ok (.aload_n 0, 1) := by decide +kernel
theorem dX5_isHeight_6 : decode cX5_isHeight 6 = .ok (.getfield 9, 3) := by decide +kernel
theorem dX5_isHeight_9 : decode cX5_isHeight 9 = .ok (.iload_n 1, 1) := by decide +kernel
theorem dX5_isHeight_10 : decode cX5_isHeight 10 = .ok (.iaload, 1) := by decide +kernel
theorem dX5_isHeight_11 : decode cX5_isHeight 11 = .ok (.if_icmp .gt 7, 3) := by decide +kernel
theorem dX5_isHeight_14 : decode cX5_isHeight 14 = .ok (.iconst 1, 1) := by decide +kernel
theorem dX5_isHeight_15 : decode cX5_isHeight 15 = .ok (.goto 4, 3) := by decide +kernel
theorem dX5_isHeight_18 : decode cX5_isHeight 18 = .ok (.iconst 0, 1) := by decide +kernel
theorem dX5_isHeight_19 : decode cX5_isHeight 19 = .ok (.ireturn, 1) := by decide +kernel
set_option maxRecDepth 20000 in
theorem ggX5_girth_X5_isForm : GoodIn wsX5_girth wsX5_isForm := goodIn_r _ [6, 7, 23, 24, 25, 26, 27, 28, 29, 30, 31, 32, 33, 34, 35, 36, 37, 38, 39, 40, 41, 42, 43, 44, 45, 46, 47, 48, 49, 50, 51, 52, 53, 54, 55, 56] (by decide +kernel) (by decide +kernel)
set_option maxRecDepth 20000 in
theorem gX5_girth_X5_isForm : GoodIn wsX5_girth (wsV RX5 90 RX5 yX5_isForm wsX5_isForm) := goodIn_app (goodIn_of _ (by decide +kernel)) ggX5_girth_X5_isForm
set_option maxRecDepth 20000 in
theorem ggX5_girth_X5_fail : GoodIn wsX5_girth wsX5_fail := goodIn_r _ [11, 1, 23, 24, 25, 26, 27, 28, 29, 30, 31, 32, 33, 34, 35, 36, 37, 38, 39, 40, 41, 42, 43, 44, 45, 46, 47, 48, 49, 50, 51, 52, 53, 54, 55, 56] (by decide +kernel) (by decide +kernel)
set_option maxRecDepth 20000 in
theorem gX5_girth_X5_fail : GoodIn wsX5_girth (wsV RX5 94 RX5 yX5_fail wsX5_fail) := goodIn_app (goodIn_of _ (by decide +kernel)) ggX5_girth_X5_fail
set_option maxRecDepth 20000 in
theorem ggX5_girth_X5_isHeight : GoodIn wsX5_girth wsX5_isHeight := goodIn_r _ [15, 16, 23, 24, 25, 26, 27, 28, 29, 30, 31, 32, 33, 34, 35, 36, 37, 38, 39, 40, 41, 42, 43, 44, 45, 46, 47, 48, 49, 50, 51, 52, 53, 54, 55, 56] (by decide +kernel) (by decide +kernel)
set_option maxRecDepth 20000 in
theorem gX5_girth_X5_isHeight : GoodIn wsX5_girth (wsV RX5 98 RX5 yX5_isHeight wsX5_isHeight) := goodIn_app (goodIn_of _ (by decide +kernel)) ggX5_girth_X5_isHeight
set_option maxRecDepth 20000 in
theorem ggX5_girth_X5_girthOf : GoodIn wsX5_girth wsX5_girthOf := goodIn_r _ [20, 16, 21, 22, 23, 24, 25, 26, 27, 28, 29, 30, 31, 32, 33, 34, 35, 36, 37, 38, 39, 40, 41, 42, 43, 44, 45, 46, 47, 48, 49, 50, 51, 52, 53, 54, 55, 56] (by decide +kernel) (by decide +kernel)
set_option maxRecDepth 20000 in
theorem gX5_girth_X5_girthOf : GoodIn wsX5_girth (wsV RX5 102 RX5 yX5_girthOf wsX5_girthOf) := goodIn_app (goodIn_of _ (by decide +kernel)) ggX5_girth_X5_girthOf
theorem dX5_girth_0 : decode cX5_girth 0 = .ok (.aload_n 0, 1) := by decide +kernel
theorem dX5_girth_1 : decode cX5_girth 1 = .ok (.iconst 0, 1) := by decide +kernel
theorem dX5_girth_2 : decode cX5_girth 2 = .ok (.putfield 83, 3) := by decide +kernel
theorem dX5_girth_5 : decode cX5_girth 5 = .ok (.aload_n 0, 1) := by decide +kernel
theorem dX5_girth_6 : decode cX5_girth 6 = .ok (.iload_n 1, 1) := by decide +kernel
theorem dX5_girth_7 : decode cX5_girth 7 = .ok (.invokevirtual 90, 3) := by decide +kernel
theorem dX5_girth_10 : decode cX5_girth 10 = .ok (.ifCond .ne 11, 3) := by decide +kernel
theorem dX5_girth_13 : decode cX5_girth 13 = .ok (.aload_n 0, 1) := by decide +kernel
theorem dX5_girth_14 : decode cX5_girth 14 = .ok (.iconst 1, 1) := by decide +kernel
theorem dX5_girth_15 : decode cX5_girth 15 = .ok (.invokevirtual 94, 3) := by decide +kernel
theorem dX5_girth_18 : decode cX5_girth 18 = .ok (.goto 26, 3) := by decide +kernel
theorem dX5_girth_21 : decode cX5_girth 21 = .ok (.aload_n 0, 1) := by decide +kernel
theorem dX5_girth_22 : decode cX5_girth 22 = .ok (.iload_n 1, 1) := by decide +kernel
theorem dX5_girth_23 : decode cX5_girth 23 = .ok (.iload_n 2, 1) := by decide +kernel
theorem dX5_girth_24 : decode cX5_girth 24 = .ok (.invokevirtual 98, 3) := by decide +kernel
theorem dX5_girth_27 : decode cX5_girth 27 = .ok (.ifCond .ne 11, 3) := by decide +kernel
theorem dX5_girth_30 : decode cX5_girth 30 = .ok (.aload_n 0, 1) := by decide +kernel
theorem dX5_girth_31 : decode cX5_girth 31 = .ok (.iconst 2, 1) := by decide +kernel
theorem dX5_girth_32 : decode cX5_girth 32 = .ok (.invokevirtual 94, 3) := by decide +kernel
theorem dX5_girth_35 : decode cX5_girth 35 = .ok (.goto 9, 3) := by decide +kernel
theorem dX5_girth_38 : decode cX5_girth 38 = .ok (.aload_n 0, 1) := by decide +kernel
theorem dX5_girth_39 : decode cX5_girth 39 = .ok (.iload_n 1, 1) := by decide +kernel
theorem dX5_girth_40 : decode cX5_girth 40 = .ok (.iload_n 2, 1) := by decide +kernel
theorem dX5_girth_41 : decode cX5_girth 41 = .ok (.invokevirtual 102, 3) := by decide +kernel
theorem dX5_girth_44 : decode cX5_girth 44 = .ok (.ireturn, 1) := by decide +kernel
set_option maxRecDepth 20000 in
theorem ggX5_widthOf_X5_girthOf : GoodIn wsX5_widthOf wsX5_girthOf := goodIn_r _ [6, 7, 8, 9, 10, 11, 12, 13, 14, 15, 16, 17, 18, 19, 20, 21, 22, 23, 24, 25, 26, 27, 28, 29, 30, 31, 32, 33, 34, 35, 36, 37, 38, 39, 40, 41, 42, 43] (by decide +kernel) (by decide +kernel)
set_option maxRecDepth 20000 in
theorem gX5_widthOf_X5_girthOf : GoodIn wsX5_widthOf (wsV RX5 102 RX5 yX5_girthOf wsX5_girthOf) := goodIn_app (goodIn_of _ (by decide +kernel)) ggX5_widthOf_X5_girthOf
theorem dX5_widthOf_0 : decode cX5_widthOf 0 = .ok (.aload_n 0, 1) := by decide +kernel
theorem dX5_widthOf_1 : decode cX5_widthOf 1 = .ok (.iload_n 1, 1) := by decide +kernel
theorem dX5_widthOf_2 : decode cX5_widthOf 2 = .ok (.iload_n 3, 1) := by decide +kernel
theorem dX5_widthOf_3 : decode cX5_widthOf 3 = .ok (.invokevirtual 102, 3) := by decide +kernel
theorem dX5_widthOf_6 : decode cX5_widthOf 6 = .ok (.istore 4, 2) := by decide +kernel
theorem dX5_widthOf_8 : decode cX5_widthOf 8 = .ok (.iload 4, 2) := by decide +kernel
theorem dX5_widthOf_10 : decode cX5_widthOf 10 = .ok (.iload_n 2, 1) := by decide +kernel
theorem dX5_widthOf_11 : decode cX5_widthOf 11 = .ok (.iconst 1, 1) := by decide +kernel
theorem dX5_widthOf_12 : decode cX5_widthOf 12 = .ok (.iadd, 1) := by decide +kernel
theorem dX5_widthOf_13 : decode cX5_widthOf 13 = .ok (.imul, 1) := by decide +kernel
theorem dX5_widthOf_14 : decode cX5_widthOf 14 = .ok (.aload_n 0, 1) := by decide +kernel
theorem dX5_widthOf_15 : decode cX5_widthOf 15 = .ok (.getfield 19, 3) := by decide +kernel
theorem dX5_widthOf_18 : decode cX5_widthOf 18 = .ok (.iload_n 1, 1) := by decide +kernel
theorem dX5_widthOf_19 : decode cX5_widthOf 19 = .ok (.iaload, 1) := by decide +kernel
theorem dX5_widthOf_20 : decode cX5_widthOf 20 = .ok (.idiv, 1) := by decide +kernel
theorem dX5_widthOf_21 : decode cX5_widthOf 21 = .ok (.iload 4, 2) := by decide +kernel
theorem dX5_widthOf_23 : decode cX5_widthOf 23 = .ok (.iload_n 2, 1) := by decide +kernel
theorem dX5_widthOf_24 : decode cX5_widthOf 24 = .ok (.imul, 1) := by decide +kernel
theorem dX5_widthOf_25 : decode cX5_widthOf 25 = .ok (.aload_n 0, 1) := by decide +kernel
theorem dX5_widthOf_26 : decode cX5_widthOf 26 = .ok (.getfield 19, 3) := by decide +kernel
theorem dX5_widthOf_29 : decode cX5_widthOf 29 = .ok (.iload_n 1, 1) := by decide +kernel
theorem dX5_widthOf_30 : decode cX5_widthOf 30 = .ok (.iaload, 1) := by decide +kernel
theorem dX5_widthOf_31 : decode cX5_widthOf 31 = .ok (.idiv, 1) := by decide +kernel
theorem dX5_widthOf_32 : decode cX5_widthOf 32 = .ok (.isub, 1) := by decide +kernel
theorem dX5_widthOf_33 : decode cX5_widthOf 33 = .ok (.ireturn, 1) := by decide +kernel
set_option maxRecDepth 20000 in
theorem ggX5_width_X5_isForm : GoodIn wsX5_width wsX5_isForm := goodIn_r _ [7, 8, 28, 29, 30, 31, 32, 33, 34, 35, 36, 37, 38, 39, 40, 41, 42, 43, 44, 45, 46, 47, 48, 49, 50, 51, 52, 53, 54, 55, 56, 57, 58, 59, 60, 61] (by decide +kernel) (by decide +kernel)
set_option maxRecDepth 20000 in
theorem gX5_width_X5_isForm : GoodIn wsX5_width (wsV RX5 90 RX5 yX5_isForm wsX5_isForm) := goodIn_app (goodIn_of _ (by decide +kernel)) ggX5_width_X5_isForm
set_option maxRecDepth 20000 in
theorem ggX5_width_X5_fail : GoodIn wsX5_width wsX5_fail := goodIn_r _ [12, 1, 28, 29, 30, 31, 32, 33, 34, 35, 36, 37, 38, 39, 40, 41, 42, 43, 44, 45, 46, 47, 48, 49, 50, 51, 52, 53, 54, 55, 56, 57, 58, 59, 60, 61] (by decide +kernel) (by decide +kernel)
set_option maxRecDepth 20000 in
theorem gX5_width_X5_fail : GoodIn wsX5_width (wsV RX5 94 RX5 yX5_fail wsX5_fail) := goodIn_app (goodIn_of _ (by decide +kernel)) ggX5_width_X5_fail
set_option maxRecDepth 20000 in
theorem ggX5_width_X5_isHeight : GoodIn wsX5_width wsX5_isHeight := goodIn_r _ [16, 17, 28, 29, 30, 31, 32, 33, 34, 35, 36, 37, 38, 39, 40, 41, 42, 43, 44, 45, 46, 47, 48, 49, 50, 51, 52, 53, 54, 55, 56, 57, 58, 59, 60, 61] (by decide +kernel) (by decide +kernel)
set_option maxRecDepth 20000 in
theorem gX5_width_X5_isHeight : GoodIn wsX5_width (wsV RX5 98 RX5 yX5_isHeight wsX5_isHeight) := goodIn_app (goodIn_of _ (by decide +kernel)) ggX5_width_X5_isHeight
set_option maxRecDepth 20000 in
theorem ggX5_width_X5_widthOf : GoodIn wsX5_width wsX5_widthOf := goodIn_r _ [21, 2, 22, 23, 24, 6, 25, 17, 26, 27, 28, 29, 30, 31, 32, 33, 34, 35, 36, 37, 38, 39, 40, 41, 42, 43, 44, 45, 46, 47, 48, 49, 50, 51, 52, 53, 54, 55, 56, 57, 58, 59, 60, 61] (by decide +kernel) (by decide +kernel)
set_option maxRecDepth 20000 in
theorem gX5_width_X5_widthOf : GoodIn wsX5_width (wsV RX5 106 RX5 yX5_widthOf wsX5_widthOf) := goodIn_app (goodIn_of _ (by decide +kernel)) ggX5_width_X5_widthOf
theorem dX5_width_0 : decode cX5_width 0 = .ok (.aload_n 0, 1) := by decide +kernel
theorem dX5_width_1 : decode cX5_width 1 = .ok (.iconst 0, 1) := by decide +kernel
theorem dX5_width_2 : decode cX5_width 2 = .ok (.putfield 83, 3) := by decide +kernel
theorem dX5_width_5 : decode cX5_width 5 = .ok (.aload_n 0, 1) := by decide +kernel
theorem dX5_width_6 : decode cX5_width 6 = .ok (.iload_n 1, 1) := by decide +kernel
theorem dX5_width_7 : decode cX5_width 7 = .ok (.invokevirtual 90, 3) := by decide +kernel
theorem dX5_width_10 : decode cX5_width 10 = .ok (.ifCond .eq 17, 3) := by decide +kernel
theorem dX5_width_13 : decode cX5_width 13 = .ok (.iload_n 2, 1) := by decide +kernel
theorem dX5_width_14 : decode cX5_width 14 = .ok (.ifCond .lt 13, 3) := by decide +kernel
theorem dX5_width_17 : decode cX5_width 17 = .ok (.iload_n 2, 1) := by decide +kernel
theorem dX5_width_18 : decode cX5_width 18 = .ok (.aload_n 0, 1) := by decide +kernel
theorem dX5_width_19 : decode cX5_width 19 = .ok (.getfield 19, 3) := by decide +kernel
theorem dX5_width_22 : decode cX5_width 22 = .ok (.iload_n 1, 1) := by decide +kernel
theorem dX5_width_23 : decode cX5_width 23 = .ok (.iaload, 1) := by decide +kernel
theorem dX5_width_24 : decode cX5_width 24 = .ok (.if_icmp .lt 9, 3) := by decide +kernel
theorem dX5_width_27 : decode cX5_width 27 = .ok (.aload_n 0, 1) := by decide +kernel
theorem dX5_width_28 : decode cX5_width 28 = .ok (.iconst 1, 1) := by decide +kernel
theorem dX5_width_29 : decode cX5_width 29 = .ok (.invokevirtual 94, 3) := by decide +kernel
theorem dX5_width_32 : decode cX5_width 32 = .ok (.ireturn, 1) := by decide +kernel
theorem dX5_width_33 : decode cX5_width 33 = .ok (.aload_n 0, 1) := by decide +kernel
theorem dX5_width_34 : decode cX5_width 34 = .ok (.iload_n 1, 1) := by decide +kernel
theorem dX5_width_35 : decode cX5_width 35 = .ok (.iload_n 3, 1) := by decide +kernel
theorem dX5_width_36 : decode cX5_width 36 = .ok (.invokevirtual 98, 3) := by decide +kernel
theorem dX5_width_39 : decode cX5_width 39 = .ok (.ifCond .eq 13, 3) := by decide +kernel
theorem dX5_width_42 : decode cX5_width 42 = .ok (.aload_n 0, 1) := by decide +kernel
theorem dX5_width_43 : decode cX5_width 43 = .ok (.iload_n 1, 1) := by decide +kernel
theorem dX5_width_44 : decode cX5_width 44 = .ok (.iload_n 2, 1) := by decide +kernel
theorem dX5_width_45 : decode cX5_width 45 = .ok (.iload_n 3, 1) := by decide +kernel
theorem dX5_width_46 : decode cX5_width 46 = .ok (.invokevirtual 106, 3) := by decide +kernel
theorem dX5_width_49 : decode cX5_width 49 = .ok (.goto 8, 3) := by decide +kernel
theorem dX5_width_52 : decode cX5_width 52 = .ok (.aload_n 0, 1) := by decide +kernel
theorem dX5_width_53 : decode cX5_width 53 = .ok (.iconst 2, 1) := by decide +kernel
theorem dX5_width_54 : decode cX5_width 54 = .ok (.invokevirtual 94, 3) := by decide +kernel
theorem dX5_width_57 : decode cX5_width 57 = .ok (.ireturn, 1) := by decide +kernel
set_option maxRecDepth 20000 in
theorem ggX5_holdsAt_X5_girthOf : GoodIn wsX5_holdsAt wsX5_girthOf := goodIn_r _ [7, 8, 9, 10, 11, 12, 13, 14, 15, 16, 17, 18, 19, 20, 21, 22, 23, 24, 25, 26, 27, 28, 29, 30, 31, 32, 33, 34, 35, 36, 37, 38, 39, 40, 41, 42, 43, 44] (by decide +kernel) (by decide +kernel)
set_option maxRecDepth 20000 in
theorem gX5_holdsAt_X5_girthOf : GoodIn wsX5_holdsAt (wsV RX5 102 RX5 yX5_girthOf wsX5_girthOf) := goodIn_app (goodIn_of _ (by decide +kernel)) ggX5_holdsAt_X5_girthOf
theorem dX5_holdsAt_0 : decode cX5_holdsAt 0 = .ok (.lconst 0, 1) := by decide +kernel
theorem dX5_holdsAt_1 : decode cX5_holdsAt 1 = .ok (.lstore_n 3, 1) := by decide +kernel
theorem dX5_holdsAt_2 : decode cX5_holdsAt 2 = .ok (.iconst 0, 1) := by decide +kernel
theorem dX5_holdsAt_3 : decode cX5_holdsAt 3 = .ok (.istore 5, 2) := by decide +kernel
theorem dX5_holdsAt_5 : decode cX5_holdsAt 5 = .ok (.iload 5, 2) := by decide +kernel
theorem dX5_holdsAt_7 : decode cX5_holdsAt 7 = .ok (.iload_n 2, 1) := by decide +kernel
theorem dX5_holdsAt_8 : decode cX5_holdsAt 8 = .ok (.if_icmp .ge 29, 3) := by decide +kernel
theorem dX5_holdsAt_11 : decode cX5_holdsAt 11 = .ok (.lload_n 3, 1) := by decide +kernel
theorem dX5_holdsAt_12 : decode cX5_holdsAt 12 = .ok (.aload_n 0, 1) := by decide +kernel
theorem dX5_holdsAt_13 : decode cX5_holdsAt 13 = .ok (.iload_n 1, 1) := by decide +kernel
theorem dX5_holdsAt_14 : decode cX5_holdsAt 14 = .ok (.iload 5, 2) := by decide +kernel
theorem dX5_holdsAt_16 : decode cX5_holdsAt 16 = .ok (.invokevirtual 102, 3) := by decide +kernel
theorem dX5_holdsAt_19 : decode cX5_holdsAt 19 = .ok (.i2l, 1) := by decide +kernel
theorem dX5_holdsAt_20 : decode cX5_holdsAt 20 = .ok (.aload_n 0, 1) := by decide +kernel
theorem dX5_holdsAt_21 : decode cX5_holdsAt 21 = .ok (.iload_n 1, 1) := by decide +kernel
theorem dX5_holdsAt_22 : decode cX5_holdsAt 22 = .ok (.iload 5, 2) := by decide +kernel
theorem dX5_holdsAt_24 : decode cX5_holdsAt 24 = .ok (.invokevirtual 102, 3) := by decide +kernel
theorem dX5_holdsAt_27 : decode cX5_holdsAt 27 = .ok (.i2l, 1) := by decide +kernel
theorem dX5_holdsAt_28 : decode cX5_holdsAt 28 = .ok (.lmul, 1) := by decide +kernel
theorem dX5_holdsAt_29 : decode cX5_holdsAt 29 = .ok (.ladd, 1) := by decide +kernel
theorem dX5_holdsAt_30 : decode cX5_holdsAt 30 = .ok (.lstore_n 3, 1) := by decide +kernel
theorem dX5_holdsAt_31 : decode cX5_holdsAt 31 = .ok (.iinc 5 1, 3) := by decide +kernel
theorem dX5_holdsAt_34 : decode cX5_holdsAt 34 = .ok (.goto (-29), 3) := by decide +kernel
theorem dX5_holdsAt_37 : decode cX5_holdsAt 37 = .ok (.lload_n 3, 1) := by decide +kernel
theorem dX5_holdsAt_38 : decode cX5_holdsAt 38 = .ok (.ldc2_w 110, 3) := by decide +kernel
theorem dX5_holdsAt_41 : decode cX5_holdsAt 41 = .ok (.lmul, 1) := by decide +kernel
theorem dX5_holdsAt_42 : decode cX5_holdsAt 42 = .ok (.ldc2_w 112, 3) := by decide +kernel
theorem dX5_holdsAt_45 : decode cX5_holdsAt 45 = .ok (.ldiv, 1) := by decide +kernel
theorem dX5_holdsAt_46 : decode cX5_holdsAt 46 = .ok (.l2i, 1) := by decide +kernel
theorem dX5_holdsAt_47 : decode cX5_holdsAt 47 = .ok (.ireturn, 1) := by decide +kernel
set_option maxRecDepth 20000 in
theorem ggX5_holds_X5_isForm : GoodIn wsX5_holds wsX5_isForm := goodIn_r _ [6, 7, 29, 30, 31, 32, 33, 34, 35, 36, 37, 38, 39, 40, 41, 42, 43, 44, 45, 46, 47, 48, 49, 50, 51, 52, 53, 54, 55, 56, 57, 58, 59, 60, 61, 62] (by decide +kernel) (by decide +kernel)
set_option maxRecDepth 20000 in
theorem gX5_holds_X5_isForm : GoodIn wsX5_holds (wsV RX5 90 RX5 yX5_isForm wsX5_isForm) := goodIn_app (goodIn_of _ (by decide +kernel)) ggX5_holds_X5_isForm
set_option maxRecDepth 20000 in
theorem ggX5_holds_X5_fail : GoodIn wsX5_holds wsX5_fail := goodIn_r _ [11, 1, 29, 30, 31, 32, 33, 34, 35, 36, 37, 38, 39, 40, 41, 42, 43, 44, 45, 46, 47, 48, 49, 50, 51, 52, 53, 54, 55, 56, 57, 58, 59, 60, 61, 62] (by decide +kernel) (by decide +kernel)
set_option maxRecDepth 20000 in
theorem gX5_holds_X5_fail : GoodIn wsX5_holds (wsV RX5 94 RX5 yX5_fail wsX5_fail) := goodIn_app (goodIn_of _ (by decide +kernel)) ggX5_holds_X5_fail
set_option maxRecDepth 20000 in
theorem ggX5_holds_X5_isHeight : GoodIn wsX5_holds wsX5_isHeight := goodIn_r _ [15, 16, 29, 30, 31, 32, 33, 34, 35, 36, 37, 38, 39, 40, 41, 42, 43, 44, 45, 46, 47, 48, 49, 50, 51, 52, 53, 54, 55, 56, 57, 58, 59, 60, 61, 62] (by decide +kernel) (by decide +kernel)
set_option maxRecDepth 20000 in
theorem gX5_holds_X5_isHeight : GoodIn wsX5_holds (wsV RX5 98 RX5 yX5_isHeight wsX5_isHeight) := goodIn_app (goodIn_of _ (by decide +kernel)) ggX5_holds_X5_isHeight
set_option maxRecDepth 20000 in
theorem ggX5_holds_X5_holdsAt : GoodIn wsX5_holds wsX5_holdsAt := goodIn_r _ [20, 21, 22, 23, 24, 25, 5, 26, 16, 27, 28, 29, 30, 31, 32, 33, 34, 35, 36, 37, 38, 39, 40, 41, 42, 43, 44, 45, 46, 47, 48, 49, 50, 51, 52, 53, 54, 55, 56, 57, 58, 59, 60, 61, 62] (by decide +kernel) (by decide +kernel)
set_option maxRecDepth 20000 in
theorem gX5_holds_X5_holdsAt : GoodIn wsX5_holds (wsV RX5 114 RX5 yX5_holdsAt wsX5_holdsAt) := goodIn_app (goodIn_of _ (by decide +kernel)) ggX5_holds_X5_holdsAt
theorem dX5_holds_0 : decode cX5_holds 0 = .ok (.aload_n 0, 1) := by decide +kernel
theorem dX5_holds_1 : decode cX5_holds 1 = .ok (.iconst 0, 1) := by decide +kernel
theorem dX5_holds_2 : decode cX5_holds 2 = .ok (.putfield 83, 3) := by decide +kernel
theorem dX5_holds_5 : decode cX5_holds 5 = .ok (.aload_n 0, 1) := by decide +kernel
theorem dX5_holds_6 : decode cX5_holds 6 = .ok (.iload_n 1, 1) := by decide +kernel
theorem dX5_holds_7 : decode cX5_holds 7 = .ok (.invokevirtual 90, 3) := by decide +kernel
theorem dX5_holds_10 : decode cX5_holds 10 = .ok (.ifCond .ne 11, 3) := by decide +kernel
theorem dX5_holds_13 : decode cX5_holds 13 = .ok (.aload_n 0, 1) := by decide +kernel
theorem dX5_holds_14 : decode cX5_holds 14 = .ok (.iconst 1, 1) := by decide +kernel
theorem dX5_holds_15 : decode cX5_holds 15 = .ok (.invokevirtual 94, 3) := by decide +kernel
theorem dX5_holds_18 : decode cX5_holds 18 = .ok (.goto 26, 3) := by decide +kernel
theorem dX5_holds_21 : decode cX5_holds 21 = .ok (.aload_n 0, 1) := by decide +kernel
theorem dX5_holds_22 : decode cX5_holds 22 = .ok (.iload_n 1, 1) := by decide +kernel
theorem dX5_holds_23 : decode cX5_holds 23 = .ok (.iload_n 2, 1) := by decide +kernel
theorem dX5_holds_24 : decode cX5_holds 24 = .ok (.invokevirtual 98, 3) := by decide +kernel
theorem dX5_holds_27 : decode cX5_holds 27 = .ok (.ifCond .ne 11, 3) := by decide +kernel
theorem dX5_holds_30 : decode cX5_holds 30 = .ok (.aload_n 0, 1) := by decide +kernel
theorem dX5_holds_31 : decode cX5_holds 31 = .ok (.iconst 2, 1) := by decide +kernel
theorem dX5_holds_32 : decode cX5_holds 32 = .ok (.invokevirtual 94, 3) := by decide +kernel
theorem dX5_holds_35 : decode cX5_holds 35 = .ok (.goto 9, 3) := by decide +kernel
theorem dX5_holds_38 : decode cX5_holds 38 = .ok (.aload_n 0, 1) := by decide +kernel
theorem dX5_holds_39 : decode cX5_holds 39 = .ok (.iload_n 1, 1) := by decide +kernel
theorem dX5_holds_40 : decode cX5_holds 40 = .ok (.iload_n 2, 1) := by decide +kernel
theorem dX5_holds_41 : decode cX5_holds 41 = .ok (.invokevirtual 114, 3) := by decide +kernel
theorem dX5_holds_44 : decode cX5_holds 44 = .ok (.ireturn, 1) := by decide +kernel
set_option maxRecDepth 20000 in
theorem ggX5_level_X5_isForm : GoodIn wsX5_level wsX5_isForm := goodIn_r _ [7, 8, 25, 26, 27, 28, 29, 30, 31, 32, 33, 34, 35, 36, 37, 38, 39, 40, 41, 42, 43, 44, 45, 46, 47, 48, 49, 50, 51, 52, 53, 54, 55, 56, 57, 58] (by decide +kernel) (by decide +kernel)
set_option maxRecDepth 20000 in
theorem gX5_level_X5_isForm : GoodIn wsX5_level (wsV RX5 90 RX5 yX5_isForm wsX5_isForm) := goodIn_app (goodIn_of _ (by decide +kernel)) ggX5_level_X5_isForm
set_option maxRecDepth 20000 in
theorem ggX5_level_X5_fail : GoodIn wsX5_level wsX5_fail := goodIn_r _ [12, 1, 25, 26, 27, 28, 29, 30, 31, 32, 33, 34, 35, 36, 37, 38, 39, 40, 41, 42, 43, 44, 45, 46, 47, 48, 49, 50, 51, 52, 53, 54, 55, 56, 57, 58] (by decide +kernel) (by decide +kernel)
set_option maxRecDepth 20000 in
theorem gX5_level_X5_fail : GoodIn wsX5_level (wsV RX5 94 RX5 yX5_fail wsX5_fail) := goodIn_app (goodIn_of _ (by decide +kernel)) ggX5_level_X5_fail
set_option maxRecDepth 20000 in
theorem ggX5_level_X5_holdsAt : GoodIn wsX5_level wsX5_holdsAt := goodIn_r _ [16, 17, 18, 19, 20, 21, 6, 22, 2, 23, 24, 25, 26, 27, 28, 29, 30, 31, 32, 33, 34, 35, 36, 37, 38, 39, 40, 41, 42, 43, 44, 45, 46, 47, 48, 49, 50, 51, 52, 53, 54, 55, 56, 57, 58] (by decide +kernel) (by decide +kernel)
set_option maxRecDepth 20000 in
theorem gX5_level_X5_holdsAt : GoodIn wsX5_level (wsV RX5 114 RX5 yX5_holdsAt wsX5_holdsAt) := goodIn_app (goodIn_of _ (by decide +kernel)) ggX5_level_X5_holdsAt
theorem dX5_level_0 : decode cX5_level 0 = .ok (.aload_n 0, 1) := by decide +kernel
theorem dX5_level_1 : decode cX5_level 1 = .ok (.iconst 0, 1) := by decide +kernel
theorem dX5_level_2 : decode cX5_level 2 = .ok (.putfield 83, 3) := by decide +kernel
theorem dX5_level_5 : decode cX5_level 5 = .ok (.aload_n 0, 1) := by decide +kernel
theorem dX5_level_6 : decode cX5_level 6 = .ok (.iload_n 1, 1) := by decide +kernel
theorem dX5_level_7 : decode cX5_level 7 = .ok (.invokevirtual 90, 3) := by decide +kernel
theorem dX5_level_10 : decode cX5_level 10 = .ok (.ifCond .ne 9, 3) := by decide +kernel
theorem dX5_level_13 : decode cX5_level 13 = .ok (.aload_n 0, 1) := by decide +kernel
theorem dX5_level_14 : decode cX5_level 14 = .ok (.iconst 1, 1) := by decide +kernel
theorem dX5_level_15 : decode cX5_level 15 = .ok (.invokevirtual 94, 3) := by decide +kernel
theorem dX5_level_18 : decode cX5_level 18 = .ok (.ireturn, 1) := by decide +kernel
theorem dX5_level_19 : decode cX5_level 19 = .ok (.iload_n 2, 1) := by decide +kernel
theorem dX5_level_20 : decode cX5_level 20 = .ok (.ifCond .ge 9, 3) := by decide +kernel
theorem dX5_level_23 : decode cX5_level 23 = .ok (.aload_n 0, 1) := by decide +kernel
theorem dX5_level_24 : decode cX5_level 24 = .ok (.iconst 2, 1) := by decide +kernel
theorem dX5_level_25 : decode cX5_level 25 = .ok (.invokevirtual 94, 3) := by decide +kernel
theorem dX5_level_28 : decode cX5_level 28 = .ok (.ireturn, 1) := by decide +kernel
theorem dX5_level_29 : decode cX5_level 29 = .ok (.iconst 0, 1) := by decide +kernel
theorem dX5_level_30 : decode cX5_level 30 = .ok (.istore_n 3, 1) := by decide +kernel
theorem dX5_level_31 : decode cX5_level 31 = .ok (.iload_n 3, 1) := by decide +kernel
theorem dX5_level_32 : decode cX5_level 32 = .ok (.aload_n 0, 1) := by decide +kernel
theorem dX5_level_33 : decode cX5_level 33 = .ok (.getfield 9, 3) := by decide +kernel
theorem dX5_level_36 : decode cX5_level 36 = .ok (.iload_n 1, 1) := by decide +kernel
theorem dX5_level_37 : decode cX5_level 37 = .ok (.iaload, 1) := by decide +kernel
theorem dX5_level_38 : decode cX5_level 38 = .ok (.if_icmp .gt 19, 3) := by decide +kernel
theorem dX5_level_41 : decode cX5_level 41 = .ok (.aload_n 0, 1) := by decide +kernel
theorem dX5_level_42 : decode cX5_level 42 = .ok (.iload_n 1, 1) := by decide +kernel
theorem dX5_level_43 : decode cX5_level 43 = .ok (.iload_n 3, 1) := by decide +kernel
theorem dX5_level_44 : decode cX5_level 44 = .ok (.invokevirtual 114, 3) := by decide +kernel
theorem dX5_level_47 : decode cX5_level 47 = .ok (.iload_n 2, 1) := by decide +kernel
theorem dX5_level_48 : decode cX5_level 48 = .ok (.if_icmp .ge 9, 3) := by decide +kernel
theorem dX5_level_51 : decode cX5_level 51 = .ok (.iinc 3 1, 3) := by decide +kernel
theorem dX5_level_54 : decode cX5_level 54 = .ok (.goto (-23), 3) := by decide +kernel
theorem dX5_level_57 : decode cX5_level 57 = .ok (.iload_n 3, 1) := by decide +kernel
theorem dX5_level_58 : decode cX5_level 58 = .ok (.aload_n 0, 1) := by decide +kernel
theorem dX5_level_59 : decode cX5_level 59 = .ok (.getfield 9, 3) := by decide +kernel
theorem dX5_level_62 : decode cX5_level 62 = .ok (.iload_n 1, 1) := by decide +kernel
theorem dX5_level_63 : decode cX5_level 63 = .ok (.iaload, 1) := by decide +kernel
theorem dX5_level_64 : decode cX5_level 64 = .ok (.if_icmp .le 7, 3) := by decide +kernel
theorem dX5_level_67 : decode cX5_level 67 = .ok (.iconst (-1), 1) := by decide +kernel
theorem dX5_level_68 : decode cX5_level 68 = .ok (.goto 4, 3) := by decide +kernel
theorem dX5_level_71 : decode cX5_level 71 = .ok (.iload_n 3, 1) := by decide +kernel
theorem dX5_level_72 : decode cX5_level 72 = .ok (.ireturn, 1) := by decide +kernel
set_option maxRecDepth 20000 in
theorem ggX5_head_X5_isForm : GoodIn wsX5_head wsX5_isForm := goodIn_r _ [6, 7, 19, 20, 21, 22, 23, 24, 25, 26, 27, 28, 29, 30, 31, 32, 33, 34, 35, 36, 37, 38, 39, 40, 41, 42, 43, 44, 45, 46, 47, 48, 49, 50, 51, 52] (by decide +kernel) (by decide +kernel)
set_option maxRecDepth 20000 in
theorem gX5_head_X5_isForm : GoodIn wsX5_head (wsV RX5 90 RX5 yX5_isForm wsX5_isForm) := goodIn_app (goodIn_of _ (by decide +kernel)) ggX5_head_X5_isForm
set_option maxRecDepth 20000 in
theorem ggX5_head_X5_girthOf : GoodIn wsX5_head wsX5_girthOf := goodIn_r _ [11, 12, 13, 14, 19, 20, 21, 22, 23, 24, 25, 26, 27, 28, 29, 30, 31, 32, 33, 34, 35, 36, 37, 38, 39, 40, 41, 42, 43, 44, 45, 46, 47, 48, 49, 50, 51, 52] (by decide +kernel) (by decide +kernel)
set_option maxRecDepth 20000 in
theorem gX5_head_X5_girthOf : GoodIn wsX5_head (wsV RX5 102 RX5 yX5_girthOf wsX5_girthOf) := goodIn_app (goodIn_of _ (by decide +kernel)) ggX5_head_X5_girthOf
set_option maxRecDepth 20000 in
theorem ggX5_head_X5_fail : GoodIn wsX5_head wsX5_fail := goodIn_r _ [18, 1, 19, 20, 21, 22, 23, 24, 25, 26, 27, 28, 29, 30, 31, 32, 33, 34, 35, 36, 37, 38, 39, 40, 41, 42, 43, 44, 45, 46, 47, 48, 49, 50, 51, 52] (by decide +kernel) (by decide +kernel)
set_option maxRecDepth 20000 in
theorem gX5_head_X5_fail : GoodIn wsX5_head (wsV RX5 94 RX5 yX5_fail wsX5_fail) := goodIn_app (goodIn_of _ (by decide +kernel)) ggX5_head_X5_fail
theorem dX5_head_0 : decode cX5_head 0 = .ok (.aload_n 0, 1) := by decide +kernel
theorem dX5_head_1 : decode cX5_head 1 = .ok (.iconst 0, 1) := by decide +kernel
theorem dX5_head_2 : decode cX5_head 2 = .ok (.putfield 83, 3) := by decide +kernel
theorem dX5_head_5 : decode cX5_head 5 = .ok (.aload_n 0, 1) := by decide +kernel
theorem dX5_head_6 : decode cX5_head 6 = .ok (.iload_n 1, 1) := by decide +kernel
theorem dX5_head_7 : decode cX5_head 7 = .ok (.invokevirtual 90, 3) := by decide +kernel
theorem dX5_head_10 : decode cX5_head 10 = .ok (.ifCond .eq 19, 3) := by decide +kernel
theorem dX5_head_13 : decode cX5_head 13 = .ok (.aload_n 0, 1) := by decide +kernel
theorem dX5_head_14 : decode cX5_head 14 = .ok (.iload_n 1, 1) := by decide +kernel
theorem dX5_head_15 : decode cX5_head 15 = .ok (.iconst 0, 1) := by decide +kernel
theorem dX5_head_16 : decode cX5_head 16 = .ok (.invokevirtual 102, 3) := by decide +kernel
theorem dX5_head_19 : decode cX5_head 19 = .ok (.bipush 113, 2) := by decide +kernel
theorem dX5_head_21 : decode cX5_head 21 = .ok (.imul, 1) := by decide +kernel
theorem dX5_head_22 : decode cX5_head 22 = .ok (.sipush 355, 3) := by decide +kernel
theorem dX5_head_25 : decode cX5_head 25 = .ok (.idiv, 1) := by decide +kernel
theorem dX5_head_26 : decode cX5_head 26 = .ok (.goto 8, 3) := by decide +kernel
theorem dX5_head_29 : decode cX5_head 29 = .ok (.aload_n 0, 1) := by decide +kernel
theorem dX5_head_30 : decode cX5_head 30 = .ok (.iconst 1, 1) := by decide +kernel
theorem dX5_head_31 : decode cX5_head 31 = .ok (.invokevirtual 94, 3) := by decide +kernel
theorem dX5_head_34 : decode cX5_head 34 = .ok (.ireturn, 1) := by decide +kernel
set_option maxRecDepth 20000 in
theorem ggX5_days_X5_fail : GoodIn wsX5_days wsX5_fail := goodIn_r _ [8, 1, 9, 10, 11, 12, 13, 14, 15, 16, 17, 18, 19, 20, 21, 22, 23, 24, 25, 26, 27, 28, 29, 30, 31, 32, 33, 34, 35, 36, 37, 38, 39, 40, 41, 42] (by decide +kernel) (by decide +kernel)
set_option maxRecDepth 20000 in
theorem gX5_days_X5_fail : GoodIn wsX5_days (wsV RX5 94 RX5 yX5_fail wsX5_fail) := goodIn_app (goodIn_of _ (by decide +kernel)) ggX5_days_X5_fail
theorem dX5_days_0 : decode cX5_days 0 = .ok (.aload_n 0, 1) := by decide +kernel
theorem dX5_days_1 : decode cX5_days 1 = .ok (.iconst 0, 1) := by decide +kernel
theorem dX5_days_2 : decode cX5_days 2 = .ok (.putfield 83, 3) := by decide +kernel
theorem dX5_days_5 : decode cX5_days 5 = .ok (.iload_n 1, 1) := by decide +kernel
theorem dX5_days_6 : decode cX5_days 6 = .ok (.ifCond .lt 18, 3) := by decide +kernel
theorem dX5_days_9 : decode cX5_days 9 = .ok (.aload_n 0, 1) := by decide +kernel
theorem dX5_days_10 : decode cX5_days 10 = .ok (.getfield 117, 3) := by decide +kernel
theorem dX5_days_13 : decode cX5_days 13 = .ok (.i2l, 1) := by decide +kernel
theorem dX5_days_14 : decode cX5_days 14 = .ok (.iload_n 1, 1) := by decide +kernel
theorem dX5_days_15 : decode cX5_days 15 = .ok (.i2l, 1) := by decide +kernel
theorem dX5_days_16 : decode cX5_days 16 = .ok (.ladd, 1) := by decide +kernel
theorem dX5_days_17 : decode cX5_days 17 = .ok (.ldc2_w 120, 3) := by decide +kernel
theorem dX5_days_20 : decode cX5_days 20 = .ok (.lcmp, 1) := by decide +kernel
theorem dX5_days_21 : decode cX5_days 21 = .ok (.ifCond .le 9, 3) := by decide +kernel
theorem dX5_days_24 : decode cX5_days 24 = .ok (.aload_n 0, 1) := by decide +kernel
theorem dX5_days_25 : decode cX5_days 25 = .ok (.iconst 1, 1) := by decide +kernel
theorem dX5_days_26 : decode cX5_days 26 = .ok (.invokevirtual 94, 3) := by decide +kernel
theorem dX5_days_29 : decode cX5_days 29 = .ok (.ireturn, 1) := by decide +kernel
theorem dX5_days_30 : decode cX5_days 30 = .ok (.aload_n 0, 1) := by decide +kernel
theorem dX5_days_31 : decode cX5_days 31 = .ok (.dup, 1) := by decide +kernel
theorem dX5_days_32 : decode cX5_days 32 = .ok (.getfield 117, 3) := by decide +kernel
theorem dX5_days_35 : decode cX5_days 35 = .ok (.iload_n 1, 1) := by decide +kernel
theorem dX5_days_36 : decode cX5_days 36 = .ok (.iadd, 1) := by decide +kernel
theorem dX5_days_37 : decode cX5_days 37 = .ok (.putfield 117, 3) := by decide +kernel
theorem dX5_days_40 : decode cX5_days 40 = .ok (.aload_n 0, 1) := by decide +kernel
theorem dX5_days_41 : decode cX5_days 41 = .ok (.getfield 117, 3) := by decide +kernel
theorem dX5_days_44 : decode cX5_days 44 = .ok (.ireturn, 1) := by decide +kernel
theorem dX5_isBolt_0 : decode cX5_isBolt 0 = .ok (.iload_n 1, 1) := by decide +kernel
theorem dX5_isBolt_1 : decode cX5_isBolt 1 = .ok (.ifCond .lt 15, 3) := by decide +kernel
theorem dX5_isBolt_4 : decode cX5_isBolt 4 = .ok (.iload_n 1, 1) := by decide +kernel
theorem dX5_isBolt_5 : decode cX5_isBolt 5 = .ok (.aload_n 0, 1) := by decide +kernel
theorem dX5_isBolt_6 : decode cX5_isBolt 6 = .ok (.getfield 122, 3) := by decide +kernel
theorem dX5_isBolt_9 : decode cX5_isBolt 9 = .ok (.if_icmp .ge 7, 3) := by decide +kernel
theorem dX5_isBolt_12 : decode cX5_isBolt 12 = .ok (.iconst 1, 1) := by decide +kernel
theorem dX5_isBolt_13 : decode cX5_isBolt 13 = .ok (.goto 4, 3) := by decide +kernel
theorem dX5_isBolt_16 : decode cX5_isBolt 16 = .ok (.iconst 0, 1) := by decide +kernel
theorem dX5_isBolt_17 : decode cX5_isBolt 17 = .ok (.ireturn, 1) := by decide +kernel
theorem dX5_part_0 : decode cX5_part 0 = .ok (.iconst 5, 1) := by decide +kernel
theorem dX5_part_1 : decode cX5_part 1 = .ok (.iload_n 0, 1) := by decide +kernel
theorem dX5_part_2 : decode cX5_part 2 = .ok (.imul, 1) := by decide +kernel
theorem dX5_part_3 : decode cX5_part 3 = .ok (.iload_n 1, 1) := by decide +kernel
theorem dX5_part_4 : decode cX5_part 4 = .ok (.iadd, 1) := by decide +kernel
theorem dX5_part_5 : decode cX5_part 5 = .ok (.ireturn, 1) := by decide +kernel
set_option maxRecDepth 20000 in
theorem ggX5_bolt_X5_part : GoodIn wsX5_bolt wsX5_part := goodIn_r _ [11] (by decide +kernel) (by decide +kernel)
set_option maxRecDepth 20000 in
theorem gX5_bolt_X5_part : GoodIn wsX5_bolt (va_wsS RX5 125 yX5_part wsX5_part) := goodIn_app (goodIn_of _ (by decide +kernel)) ggX5_bolt_X5_part
theorem dX5_bolt_0 : decode cX5_bolt 0 = .ok (.aload_n 0, 1) := by decide +kernel
theorem dX5_bolt_1 : decode cX5_bolt 1 = .ok (.iconst 0, 1) := by decide +kernel
theorem dX5_bolt_2 : decode cX5_bolt 2 = .ok (.putfield 83, 3) := by decide +kernel
theorem dX5_bolt_5 : decode cX5_bolt 5 = .ok (.aload_n 0, 1) := by decide +kernel
theorem dX5_bolt_6 : decode cX5_bolt 6 = .ok (.getfield 122, 3) := by decide +kernel
theorem dX5_bolt_9 : decode cX5_bolt 9 = .ok (.bipush 40, 2) := by decide +kernel
theorem dX5_bolt_11 : decode cX5_bolt 11 = .ok (.if_icmp .eq 15, 3) := by decide +kernel
theorem dX5_bolt_14 : decode cX5_bolt 14 = .ok (.iload_n 1, 1) := by decide +kernel
theorem dX5_bolt_15 : decode cX5_bolt 15 = .ok (.iconst 1, 1) := by decide +kernel
theorem dX5_bolt_16 : decode cX5_bolt 16 = .ok (.if_icmp .lt 10, 3) := by decide +kernel
theorem dX5_bolt_19 : decode cX5_bolt 19 = .ok (.iload_n 1, 1) := by decide +kernel
theorem dX5_bolt_20 : decode cX5_bolt 20 = .ok (.sipush 600, 3) := by decide +kernel
theorem dX5_bolt_23 : decode cX5_bolt 23 = .ok (.if_icmp .le 5, 3) := by decide +kernel
theorem dX5_bolt_26 : decode cX5_bolt 26 = .ok (.iconst (-1), 1) := by decide +kernel
theorem dX5_bolt_27 : decode cX5_bolt 27 = .ok (.ireturn, 1) := by decide +kernel
theorem dX5_bolt_28 : decode cX5_bolt 28 = .ok (.aload_n 0, 1) := by decide +kernel
theorem dX5_bolt_29 : decode cX5_bolt 29 = .ok (.getfield 22, 3) := by decide +kernel
theorem dX5_bolt_32 : decode cX5_bolt 32 = .ok (.aload_n 0, 1) := by decide +kernel
theorem dX5_bolt_33 : decode cX5_bolt 33 = .ok (.getfield 122, 3) := by decide +kernel
theorem dX5_bolt_36 : decode cX5_bolt 36 = .ok (.aload_n 0, 1) := by decide +kernel
theorem dX5_bolt_37 : decode cX5_bolt 37 = .ok (.getfield 117, 3) := by decide +kernel
theorem dX5_bolt_40 : decode cX5_bolt 40 = .ok (.iastore, 1) := by decide +kernel
theorem dX5_bolt_41 : decode cX5_bolt 41 = .ok (.aload_n 0, 1) := by decide +kernel
theorem dX5_bolt_42 : decode cX5_bolt 42 = .ok (.getfield 25, 3) := by decide +kernel
theorem dX5_bolt_45 : decode cX5_bolt 45 = .ok (.aload_n 0, 1) := by decide +kernel
theorem dX5_bolt_46 : decode cX5_bolt 46 = .ok (.getfield 122, 3) := by decide +kernel
theorem dX5_bolt_49 : decode cX5_bolt 49 = .ok (.iconst 1, 1) := by decide +kernel
theorem dX5_bolt_50 : decode cX5_bolt 50 = .ok (.iastore, 1) := by decide +kernel
theorem dX5_bolt_51 : decode cX5_bolt 51 = .ok (.aload_n 0, 1) := by decide +kernel
theorem dX5_bolt_52 : decode cX5_bolt 52 = .ok (.getfield 28, 3) := by decide +kernel
theorem dX5_bolt_55 : decode cX5_bolt 55 = .ok (.aload_n 0, 1) := by decide +kernel
theorem dX5_bolt_56 : decode cX5_bolt 56 = .ok (.getfield 122, 3) := by decide +kernel
theorem dX5_bolt_59 : decode cX5_bolt 59 = .ok (.iconst 0, 1) := by decide +kernel
theorem dX5_bolt_60 : decode cX5_bolt 60 = .ok (.invokestatic 125, 3) := by decide +kernel
theorem dX5_bolt_63 : decode cX5_bolt 63 = .ok (.iconst 0, 1) := by decide +kernel
theorem dX5_bolt_64 : decode cX5_bolt 64 = .ok (.iastore, 1) := by decide +kernel
theorem dX5_bolt_65 : decode cX5_bolt 65 = .ok (.aload_n 0, 1) := by decide +kernel
theorem dX5_bolt_66 : decode cX5_bolt 66 = .ok (.getfield 31, 3) := by decide +kernel
theorem dX5_bolt_69 : decode cX5_bolt 69 = .ok (.aload_n 0, 1) := by decide +kernel
theorem dX5_bolt_70 : decode cX5_bolt 70 = .ok (.getfield 122, 3) := by decide +kernel
theorem dX5_bolt_73 : decode cX5_bolt 73 = .ok (.iconst 0, 1) := by decide +kernel
theorem dX5_bolt_74 : decode cX5_bolt 74 = .ok (.invokestatic 125, 3) := by decide +kernel
theorem dX5_bolt_77 : decode cX5_bolt 77 = .ok (.iload_n 1, 1) := by decide +kernel
theorem dX5_bolt_78 : decode cX5_bolt 78 = .ok (.iastore, 1) := by decide +kernel
theorem dX5_bolt_79 : decode cX5_bolt 79 = .ok (.aload_n 0, 1) := by decide +kernel
theorem dX5_bolt_80 : decode cX5_bolt 80 = .ok (.dup, 1) := by decide +kernel
theorem dX5_bolt_81 : decode cX5_bolt 81 = .ok (.getfield 122, 3) := by decide +kernel
theorem dX5_bolt_84 : decode cX5_bolt 84 = .ok (.iconst 1, 1) := by decide +kernel
theorem dX5_bolt_85 : decode cX5_bolt 85 = .ok (.iadd, 1) := by decide +kernel
theorem dX5_bolt_86 : decode cX5_bolt 86 = .ok (.putfield 122, 3) := by decide +kernel
theorem dX5_bolt_89 : decode cX5_bolt 89 = .ok (.aload_n 0, 1) := by decide +kernel
theorem dX5_bolt_90 : decode cX5_bolt 90 = .ok (.getfield 122, 3) := by decide +kernel
theorem dX5_bolt_93 : decode cX5_bolt 93 = .ok (.iconst 1, 1) := by decide +kernel
theorem dX5_bolt_94 : decode cX5_bolt 94 = .ok (.isub, 1) := by decide +kernel
theorem dX5_bolt_95 : decode cX5_bolt 95 = .ok (.ireturn, 1) := by decide +kernel
set_option maxRecDepth 20000 in
theorem ggX5_flaw_X5_isBolt : GoodIn wsX5_flaw wsX5_isBolt := goodIn_r _ [18, 19, 27, 28, 29, 30, 31, 32, 33, 34, 35, 36, 37, 38, 39, 40, 41, 42, 43, 44, 45, 46, 47, 48, 49, 50, 51, 52, 53, 54, 55, 56, 57, 58, 59, 60] (by decide +kernel) (by decide +kernel)
set_option maxRecDepth 20000 in
theorem gX5_flaw_X5_isBolt : GoodIn wsX5_flaw (wsV RX5 128 RX5 yX5_isBolt wsX5_isBolt) := goodIn_app (goodIn_of _ (by decide +kernel)) ggX5_flaw_X5_isBolt
set_option maxRecDepth 20000 in
theorem ggX5_flaw_X5_fail : GoodIn wsX5_flaw wsX5_fail := goodIn_r _ [23, 1, 27, 28, 29, 30, 31, 32, 33, 34, 35, 36, 37, 38, 39, 40, 41, 42, 43, 44, 45, 46, 47, 48, 49, 50, 51, 52, 53, 54, 55, 56, 57, 58, 59, 60] (by decide +kernel) (by decide +kernel)
set_option maxRecDepth 20000 in
theorem gX5_flaw_X5_fail : GoodIn wsX5_flaw (wsV RX5 94 RX5 yX5_fail wsX5_fail) := goodIn_app (goodIn_of _ (by decide +kernel)) ggX5_flaw_X5_fail
set_option maxRecDepth 20000 in
theorem ggX5_flaw_X5_part : GoodIn wsX5_flaw wsX5_part := goodIn_r _ [26] (by decide +kernel) (by decide +kernel)
set_option maxRecDepth 20000 in
theorem gX5_flaw_X5_part : GoodIn wsX5_flaw (va_wsS RX5 125 yX5_part wsX5_part) := goodIn_app (goodIn_of _ (by decide +kernel)) ggX5_flaw_X5_part
theorem dX5_flaw_0 : decode cX5_flaw 0 = .ok (.aload_n 0, 1) := by decide +kernel
theorem dX5_flaw_1 : decode cX5_flaw 1 = .ok (.iconst 0, 1) := by decide +kernel
theorem dX5_flaw_2 : decode cX5_flaw 2 = .ok (.putfield 83, 3) := by decide +kernel
theorem dX5_flaw_5 : decode cX5_flaw 5 = .ok (.aload_n 0, 1) := by decide +kernel
theorem dX5_flaw_6 : decode cX5_flaw 6 = .ok (.iload_n 1, 1) := by decide +kernel
theorem dX5_flaw_7 : decode cX5_flaw 7 = .ok (.invokevirtual 128, 3) := by decide +kernel
theorem dX5_flaw_10 : decode cX5_flaw 10 = .ok (.ifCond .ne 9, 3) := by decide +kernel
theorem dX5_flaw_13 : decode cX5_flaw 13 = .ok (.aload_n 0, 1) := by decide +kernel
theorem dX5_flaw_14 : decode cX5_flaw 14 = .ok (.iconst 1, 1) := by decide +kernel
theorem dX5_flaw_15 : decode cX5_flaw 15 = .ok (.invokevirtual 94, 3) := by decide +kernel
theorem dX5_flaw_18 : decode cX5_flaw 18 = .ok (.ireturn, 1) := by decide +kernel
theorem dX5_flaw_19 : decode cX5_flaw 19 = .ok (.iload_n 2, 1) := by decide +kernel
theorem dX5_flaw_20 : decode cX5_flaw 20 = .ok (.ifCond .lt 15, 3) := by decide +kernel
theorem dX5_flaw_23 : decode cX5_flaw 23 = .ok (.iload_n 3, 1) := by decide +kernel
theorem dX5_flaw_24 : decode cX5_flaw 24 = .ok (.iload_n 2, 1) := by decide +kernel
theorem dX5_flaw_25 : decode cX5_flaw 25 = .ok (.if_icmp .le 10, 3) := by decide +kernel
theorem dX5_flaw_28 : decode cX5_flaw 28 = .ok (.iload_n 3, 1) := by decide +kernel
theorem dX5_flaw_29 : decode cX5_flaw 29 = .ok (.sipush 600, 3) := by decide +kernel
theorem dX5_flaw_32 : decode cX5_flaw 32 = .ok (.if_icmp .le 5, 3) := by decide +kernel
theorem dX5_flaw_35 : decode cX5_flaw 35 = .ok (.iconst (-1), 1) := by decide +kernel
theorem dX5_flaw_36 : decode cX5_flaw 36 = .ok (.ireturn, 1) := by decide +kernel
theorem dX5_flaw_37 : decode cX5_flaw 37 = .ok (.iconst 0, 1) := by decide +kernel
theorem dX5_flaw_38 : decode cX5_flaw 38 = .ok (.istore 4, 2) := by decide +kernel
theorem dX5_flaw_40 : decode cX5_flaw 40 = .ok (.iconst 0, 1) := by decide +kernel
theorem dX5_flaw_41 : decode cX5_flaw 41 = .ok (.istore 5, 2) := by decide +kernel
theorem dX5_flaw_43 : decode cX5_flaw 43 = .ok (.iload 5, 2) := by decide +kernel
theorem dX5_flaw_45 : decode cX5_flaw 45 = .ok (.aload_n 0, 1) := by decide +kernel
theorem dX5_flaw_46 : decode cX5_flaw 46 = .ok (.getfield 25, 3) := by decide +kernel
theorem dX5_flaw_49 : decode cX5_flaw 49 = .ok (.iload_n 1, 1) := by decide +kernel
theorem dX5_flaw_50 : decode cX5_flaw 50 = .ok (.iaload, 1) := by decide +kernel
theorem dX5_flaw_51 : decode cX5_flaw 51 = .ok (.if_icmp .ge 107, 3) := by decide +kernel
theorem dX5_flaw_54 : decode cX5_flaw 54 = .ok (.aload_n 0, 1) := by decide +kernel
theorem dX5_flaw_55 : decode cX5_flaw 55 = .ok (.getfield 28, 3) := by decide +kernel
theorem dX5_flaw_58 : decode cX5_flaw 58 = .ok (.iload_n 1, 1) := by decide +kernel
theorem dX5_flaw_59 : decode cX5_flaw 59 = .ok (.iload 5, 2) := by decide +kernel
theorem dX5_flaw_61 : decode cX5_flaw 61 = .ok (.invokestatic 125, 3) := by decide +kernel
theorem dX5_flaw_64 : decode cX5_flaw 64 = .ok (.iaload, 1) := by decide +kernel
theorem dX5_flaw_65 : decode cX5_flaw 65 = .ok (.istore 6, 2) := by decide +kernel
theorem dX5_flaw_67 : decode cX5_flaw 67 = .ok (.aload_n 0, 1) := by decide +kernel
theorem dX5_flaw_68 : decode cX5_flaw 68 = .ok (.getfield 31, 3) := by decide +kernel
theorem dX5_flaw_71 : decode cX5_flaw 71 = .ok (.iload_n 1, 1) := by decide +kernel
theorem dX5_flaw_72 : decode cX5_flaw 72 = .ok (.iload 5, 2) := by decide +kernel
theorem dX5_flaw_74 : decode cX5_flaw 74 = .ok (.invokestatic 125, 3) := by decide +kernel
theorem dX5_flaw_77 : decode cX5_flaw 77 = .ok (.iaload, 1) := by decide +kernel
theorem dX5_flaw_78 : decode cX5_flaw 78 = .ok (.istore 7, 2) := by decide +kernel
theorem dX5_flaw_80 : decode cX5_flaw 80 = .ok (.iload 6, 2) := by decide +kernel
theorem dX5_flaw_82 : decode cX5_flaw 82 = .ok (.iload 7, 2) := by decide +kernel
theorem dX5_flaw_84 : decode cX5_flaw 84 = .ok (.iload_n 2, 1) := by decide +kernel
theorem dX5_flaw_85 : decode cX5_flaw 85 = .ok (.invokestatic 131, 3) := by decide +kernel
theorem dX5_flaw_88 : decode cX5_flaw 88 = .ok (.if_icmp .ge 28, 3) := by decide +kernel
theorem dX5_flaw_91 : decode cX5_flaw 91 = .ok (.aload_n 0, 1) := by decide +kernel
theorem dX5_flaw_92 : decode cX5_flaw 92 = .ok (.getfield 71, 3) := by decide +kernel
theorem dX5_flaw_95 : decode cX5_flaw 95 = .ok (.iload 4, 2) := by decide +kernel
theorem dX5_flaw_97 : decode cX5_flaw 97 = .ok (.iload 6, 2) := by decide +kernel
theorem dX5_flaw_99 : decode cX5_flaw 99 = .ok (.iastore, 1) := by decide +kernel
theorem dX5_flaw_100 : decode cX5_flaw 100 = .ok (.aload_n 0, 1) := by decide +kernel
theorem dX5_flaw_101 : decode cX5_flaw 101 = .ok (.getfield 74, 3) := by decide +kernel
theorem dX5_flaw_104 : decode cX5_flaw 104 = .ok (.iload 4, 2) := by decide +kernel
theorem dX5_flaw_106 : decode cX5_flaw 106 = .ok (.iload 7, 2) := by decide +kernel
theorem dX5_flaw_108 : decode cX5_flaw 108 = .ok (.iload_n 2, 1) := by decide +kernel
theorem dX5_flaw_109 : decode cX5_flaw 109 = .ok (.invokestatic 131, 3) := by decide +kernel
theorem dX5_flaw_112 : decode cX5_flaw 112 = .ok (.iastore, 1) := by decide +kernel
theorem dX5_flaw_113 : decode cX5_flaw 113 = .ok (.iinc 4 1, 3) := by decide +kernel
theorem dX5_flaw_116 : decode cX5_flaw 116 = .ok (.iload 6, 2) := by decide +kernel
theorem dX5_flaw_118 : decode cX5_flaw 118 = .ok (.iload_n 3, 1) := by decide +kernel
theorem dX5_flaw_119 : decode cX5_flaw 119 = .ok (.invokestatic 136, 3) := by decide +kernel
theorem dX5_flaw_122 : decode cX5_flaw 122 = .ok (.iload 7, 2) := by decide +kernel
theorem dX5_flaw_124 : decode cX5_flaw 124 = .ok (.if_icmp .ge 28, 3) := by decide +kernel
theorem dX5_flaw_127 : decode cX5_flaw 127 = .ok (.aload_n 0, 1) := by decide +kernel
theorem dX5_flaw_128 : decode cX5_flaw 128 = .ok (.getfield 71, 3) := by decide +kernel
theorem dX5_flaw_131 : decode cX5_flaw 131 = .ok (.iload 4, 2) := by decide +kernel
theorem dX5_flaw_133 : decode cX5_flaw 133 = .ok (.iload 6, 2) := by decide +kernel
theorem dX5_flaw_135 : decode cX5_flaw 135 = .ok (.iload_n 3, 1) := by decide +kernel
theorem dX5_flaw_136 : decode cX5_flaw 136 = .ok (.invokestatic 136, 3) := by decide +kernel
theorem dX5_flaw_139 : decode cX5_flaw 139 = .ok (.iastore, 1) := by decide +kernel
theorem dX5_flaw_140 : decode cX5_flaw 140 = .ok (.aload_n 0, 1) := by decide +kernel
theorem dX5_flaw_141 : decode cX5_flaw 141 = .ok (.getfield 74, 3) := by decide +kernel
theorem dX5_flaw_144 : decode cX5_flaw 144 = .ok (.iload 4, 2) := by decide +kernel
theorem dX5_flaw_146 : decode cX5_flaw 146 = .ok (.iload 7, 2) := by decide +kernel
theorem dX5_flaw_148 : decode cX5_flaw 148 = .ok (.iastore, 1) := by decide +kernel
theorem dX5_flaw_149 : decode cX5_flaw 149 = .ok (.iinc 4 1, 3) := by decide +kernel
theorem dX5_flaw_152 : decode cX5_flaw 152 = .ok (.iinc 5 1, 3) := by decide +kernel
theorem dX5_flaw_155 : decode cX5_flaw 155 = .ok (.goto (-112), 3) := by decide +kernel
theorem dX5_flaw_158 : decode cX5_flaw 158 = .ok (.iload 4, 2) := by decide +kernel
theorem dX5_flaw_160 : decode cX5_flaw 160 = .ok (.iconst 4, 1) := by decide +kernel
theorem dX5_flaw_161 : decode cX5_flaw 161 = .ok (.if_icmp .le 5, 3) := by decide +kernel
theorem dX5_flaw_164 : decode cX5_flaw 164 = .ok (.iconst (-1), 1) := by decide +kernel
theorem dX5_flaw_165 : decode cX5_flaw 165 = .ok (.ireturn, 1) := by decide +kernel
theorem dX5_flaw_166 : decode cX5_flaw 166 = .ok (.iconst 0, 1) := by decide +kernel
theorem dX5_flaw_167 : decode cX5_flaw 167 = .ok (.istore 5, 2) := by decide +kernel
theorem dX5_flaw_169 : decode cX5_flaw 169 = .ok (.iload 5, 2) := by decide +kernel
theorem dX5_flaw_171 : decode cX5_flaw 171 = .ok (.iload 4, 2) := by decide +kernel
theorem dX5_flaw_173 : decode cX5_flaw 173 = .ok (.if_icmp .ge 45, 3) := by decide +kernel
theorem dX5_flaw_176 : decode cX5_flaw 176 = .ok (.aload_n 0, 1) := by decide +kernel
theorem dX5_flaw_177 : decode cX5_flaw 177 = .ok (.getfield 28, 3) := by decide +kernel
theorem dX5_flaw_180 : decode cX5_flaw 180 = .ok (.iload_n 1, 1) := by decide +kernel
theorem dX5_flaw_181 : decode cX5_flaw 181 = .ok (.iload 5, 2) := by decide +kernel
theorem dX5_flaw_183 : decode cX5_flaw 183 = .ok (.invokestatic 125, 3) := by decide +kernel
theorem dX5_flaw_186 : decode cX5_flaw 186 = .ok (.aload_n 0, 1) := by decide +kernel
theorem dX5_flaw_187 : decode cX5_flaw 187 = .ok (.getfield 71, 3) := by decide +kernel
theorem dX5_flaw_190 : decode cX5_flaw 190 = .ok (.iload 5, 2) := by decide +kernel
theorem dX5_flaw_192 : decode cX5_flaw 192 = .ok (.iaload, 1) := by decide +kernel
theorem dX5_flaw_193 : decode cX5_flaw 193 = .ok (.iastore, 1) := by decide +kernel
theorem dX5_flaw_194 : decode cX5_flaw 194 = .ok (.aload_n 0, 1) := by decide +kernel
theorem dX5_flaw_195 : decode cX5_flaw 195 = .ok (.getfield 31, 3) := by decide +kernel
theorem dX5_flaw_198 : decode cX5_flaw 198 = .ok (.iload_n 1, 1) := by decide +kernel
theorem dX5_flaw_199 : decode cX5_flaw 199 = .ok (.iload 5, 2) := by decide +kernel
theorem dX5_flaw_201 : decode cX5_flaw 201 = .ok (.invokestatic 125, 3) := by decide +kernel
theorem dX5_flaw_204 : decode cX5_flaw 204 = .ok (.aload_n 0, 1) := by decide +kernel
theorem dX5_flaw_205 : decode cX5_flaw 205 = .ok (.getfield 74, 3) := by decide +kernel
theorem dX5_flaw_208 : decode cX5_flaw 208 = .ok (.iload 5, 2) := by decide +kernel
theorem dX5_flaw_210 : decode cX5_flaw 210 = .ok (.iaload, 1) := by decide +kernel
theorem dX5_flaw_211 : decode cX5_flaw 211 = .ok (.iastore, 1) := by decide +kernel
theorem dX5_flaw_212 : decode cX5_flaw 212 = .ok (.iinc 5 1, 3) := by decide +kernel
theorem dX5_flaw_215 : decode cX5_flaw 215 = .ok (.goto (-46), 3) := by decide +kernel
theorem dX5_flaw_218 : decode cX5_flaw 218 = .ok (.aload_n 0, 1) := by decide +kernel
theorem dX5_flaw_219 : decode cX5_flaw 219 = .ok (.getfield 25, 3) := by decide +kernel
theorem dX5_flaw_222 : decode cX5_flaw 222 = .ok (.iload_n 1, 1) := by decide +kernel
theorem dX5_flaw_223 : decode cX5_flaw 223 = .ok (.iload 4, 2) := by decide +kernel
theorem dX5_flaw_225 : decode cX5_flaw 225 = .ok (.iastore, 1) := by decide +kernel
theorem dX5_flaw_226 : decode cX5_flaw 226 = .ok (.iload 4, 2) := by decide +kernel
theorem dX5_flaw_228 : decode cX5_flaw 228 = .ok (.ireturn, 1) := by decide +kernel
set_option maxRecDepth 20000 in
theorem ggX5_clear_X5_isBolt : GoodIn wsX5_clear wsX5_isBolt := goodIn_r _ [9, 10, 18, 19, 20, 21, 22, 23, 24, 25, 26, 27, 28, 29, 30, 31, 32, 33, 34, 35, 36, 37, 38, 39, 40, 41, 42, 43, 44, 45, 46, 47, 48, 49, 50, 51] (by decide +kernel) (by decide +kernel)
set_option maxRecDepth 20000 in
theorem gX5_clear_X5_isBolt : GoodIn wsX5_clear (wsV RX5 128 RX5 yX5_isBolt wsX5_isBolt) := goodIn_app (goodIn_of _ (by decide +kernel)) ggX5_clear_X5_isBolt
set_option maxRecDepth 20000 in
theorem ggX5_clear_X5_fail : GoodIn wsX5_clear wsX5_fail := goodIn_r _ [14, 1, 18, 19, 20, 21, 22, 23, 24, 25, 26, 27, 28, 29, 30, 31, 32, 33, 34, 35, 36, 37, 38, 39, 40, 41, 42, 43, 44, 45, 46, 47, 48, 49, 50, 51] (by decide +kernel) (by decide +kernel)
set_option maxRecDepth 20000 in
theorem gX5_clear_X5_fail : GoodIn wsX5_clear (wsV RX5 94 RX5 yX5_fail wsX5_fail) := goodIn_app (goodIn_of _ (by decide +kernel)) ggX5_clear_X5_fail
set_option maxRecDepth 20000 in
theorem ggX5_clear_X5_part : GoodIn wsX5_clear wsX5_part := goodIn_r _ [17] (by decide +kernel) (by decide +kernel)
set_option maxRecDepth 20000 in
theorem gX5_clear_X5_part : GoodIn wsX5_clear (va_wsS RX5 125 yX5_part wsX5_part) := goodIn_app (goodIn_of _ (by decide +kernel)) ggX5_clear_X5_part
theorem dX5_clear_0 : decode cX5_clear 0 = .ok (.aload_n 0, 1) := by decide +kernel
theorem dX5_clear_1 : decode cX5_clear 1 = .ok (.iconst 0, 1) := by decide +kernel
theorem dX5_clear_2 : decode cX5_clear 2 = .ok (.putfield 83, 3) := by decide +kernel
theorem dX5_clear_5 : decode cX5_clear 5 = .ok (.aload_n 0, 1) := by decide +kernel
theorem dX5_clear_6 : decode cX5_clear 6 = .ok (.iload_n 1, 1) := by decide +kernel
theorem dX5_clear_7 : decode cX5_clear 7 = .ok (.invokevirtual 128, 3) := by decide +kernel
theorem dX5_clear_10 : decode cX5_clear 10 = .ok (.ifCond .eq 26, 3) := by decide +kernel
theorem dX5_clear_13 : decode cX5_clear 13 = .ok (.iload_n 2, 1) := by decide +kernel
theorem dX5_clear_14 : decode cX5_clear 14 = .ok (.ifCond .lt 22, 3) := by decide +kernel
theorem dX5_clear_17 : decode cX5_clear 17 = .ok (.iload_n 2, 1) := by decide +kernel
theorem dX5_clear_18 : decode cX5_clear 18 = .ok (.aload_n 0, 1) := by decide +kernel
theorem dX5_clear_19 : decode cX5_clear 19 = .ok (.getfield 25, 3) := by decide +kernel
theorem dX5_clear_22 : decode cX5_clear 22 = .ok (.iload_n 1, 1) := by decide +kernel
theorem dX5_clear_23 : decode cX5_clear 23 = .ok (.iaload, 1) := by decide +kernel
theorem dX5_clear_24 : decode cX5_clear 24 = .ok (.if_icmp .ge 12, 3) := by decide +kernel
theorem dX5_clear_27 : decode cX5_clear 27 = .ok (.iload_n 3, 1) := by decide +kernel
theorem dX5_clear_28 : decode cX5_clear 28 = .ok (.ifCond .lt 8, 3) := by decide +kernel
theorem dX5_clear_31 : decode cX5_clear 31 = .ok (.iload_n 3, 1) := by decide +kernel
theorem dX5_clear_32 : decode cX5_clear 32 = .ok (.iconst 1, 1) := by decide +kernel
theorem dX5_clear_33 : decode cX5_clear 33 = .ok (.if_icmp .le 9, 3) := by decide +kernel
theorem dX5_clear_36 : decode cX5_clear 36 = .ok (.aload_n 0, 1) := by decide +kernel
theorem dX5_clear_37 : decode cX5_clear 37 = .ok (.iconst 1, 1) := by decide +kernel
theorem dX5_clear_38 : decode cX5_clear 38 = .ok (.invokevirtual 94, 3) := by decide +kernel
theorem dX5_clear_41 : decode cX5_clear 41 = .ok (.ireturn, 1) := by decide +kernel
theorem dX5_clear_42 : decode cX5_clear 42 = .ok (.iload_n 3, 1) := by decide +kernel
theorem dX5_clear_43 : decode cX5_clear 43 = .ok (.ifCond .ne 16, 3) := by decide +kernel
theorem dX5_clear_46 : decode cX5_clear 46 = .ok (.aload_n 0, 1) := by decide +kernel
theorem dX5_clear_47 : decode cX5_clear 47 = .ok (.getfield 28, 3) := by decide +kernel
theorem dX5_clear_50 : decode cX5_clear 50 = .ok (.iload_n 1, 1) := by decide +kernel
theorem dX5_clear_51 : decode cX5_clear 51 = .ok (.iload_n 2, 1) := by decide +kernel
theorem dX5_clear_52 : decode cX5_clear 52 = .ok (.invokestatic 125, 3) := by decide +kernel
theorem dX5_clear_55 : decode cX5_clear 55 = .ok (.iaload, 1) := by decide +kernel
theorem dX5_clear_56 : decode cX5_clear 56 = .ok (.goto 13, 3) := by decide +kernel
theorem dX5_clear_59 : decode cX5_clear 59 = .ok (.aload_n 0, 1) := by decide +kernel
theorem dX5_clear_60 : decode cX5_clear 60 = .ok (.getfield 31, 3) := by decide +kernel
theorem dX5_clear_63 : decode cX5_clear 63 = .ok (.iload_n 1, 1) := by decide +kernel
theorem dX5_clear_64 : decode cX5_clear 64 = .ok (.iload_n 2, 1) := by decide +kernel
theorem dX5_clear_65 : decode cX5_clear 65 = .ok (.invokestatic 125, 3) := by decide +kernel
theorem dX5_clear_68 : decode cX5_clear 68 = .ok (.iaload, 1) := by decide +kernel
theorem dX5_clear_69 : decode cX5_clear 69 = .ok (.ireturn, 1) := by decide +kernel
theorem dX5_isRipe_0 : decode cX5_isRipe 0 = .ok (.aload_n 0, 1) := by decide +kernel
theorem dX5_isRipe_1 : decode cX5_isRipe 1 = .ok (.getfield 117, 3) := by decide +kernel
theorem dX5_isRipe_4 : decode cX5_isRipe 4 = .ok (.aload_n 0, 1) := by decide +kernel
theorem dX5_isRipe_5 : decode cX5_isRipe 5 = .ok (.getfield 22, 3) := by decide +kernel
theorem dX5_isRipe_8 : decode cX5_isRipe 8 = .ok (.iload_n 1, 1) := by decide +kernel
theorem dX5_isRipe_9 : decode cX5_isRipe 9 = .ok (.iaload, 1) := by decide +kernel
theorem dX5_isRipe_10 : decode cX5_isRipe 10 = .ok (.isub, 1) := by decide +kernel
theorem dX5_isRipe_11 : decode cX5_isRipe 11 = .ok (.sipush 1095, 3) := by decide +kernel
theorem dX5_isRipe_14 : decode cX5_isRipe 14 = .ok (.if_icmp .lt 7, 3) := by decide +kernel
theorem dX5_isRipe_17 : decode cX5_isRipe 17 = .ok (.iconst 1, 1) := by decide +kernel
theorem dX5_isRipe_18 : decode cX5_isRipe 18 = .ok (.goto 4, 3) := by decide +kernel
theorem dX5_isRipe_21 : decode cX5_isRipe 21 = .ok (.iconst 0, 1) := by decide +kernel
theorem dX5_isRipe_22 : decode cX5_isRipe 22 = .ok (.ireturn, 1) := by decide +kernel
set_option maxRecDepth 20000 in
theorem ggX5_ripe_X5_isBolt : GoodIn wsX5_ripe wsX5_isBolt := goodIn_r _ [6, 7, 18, 19, 20, 21, 22, 23, 24, 25, 26, 27, 28, 29, 30, 31, 32, 33, 34, 35, 36, 37, 38, 39, 40, 41, 42, 43, 44, 45, 46, 47, 48, 49, 50, 51] (by decide +kernel) (by decide +kernel)
set_option maxRecDepth 20000 in
theorem gX5_ripe_X5_isBolt : GoodIn wsX5_ripe (wsV RX5 128 RX5 yX5_isBolt wsX5_isBolt) := goodIn_app (goodIn_of _ (by decide +kernel)) ggX5_ripe_X5_isBolt
set_option maxRecDepth 20000 in
theorem ggX5_ripe_X5_fail : GoodIn wsX5_ripe wsX5_fail := goodIn_r _ [11, 1, 18, 19, 20, 21, 22, 23, 24, 25, 26, 27, 28, 29, 30, 31, 32, 33, 34, 35, 36, 37, 38, 39, 40, 41, 42, 43, 44, 45, 46, 47, 48, 49, 50, 51] (by decide +kernel) (by decide +kernel)
set_option maxRecDepth 20000 in
theorem gX5_ripe_X5_fail : GoodIn wsX5_ripe (wsV RX5 94 RX5 yX5_fail wsX5_fail) := goodIn_app (goodIn_of _ (by decide +kernel)) ggX5_ripe_X5_fail
set_option maxRecDepth 20000 in
theorem ggX5_ripe_X5_isRipe : GoodIn wsX5_ripe wsX5_isRipe := goodIn_r _ [15, 16, 17, 18, 19, 20, 21, 22, 23, 24, 25, 26, 27, 28, 29, 30, 31, 32, 33, 34, 35, 36, 37, 38, 39, 40, 41, 42, 43, 44, 45, 46, 47, 48, 49, 50, 51] (by decide +kernel) (by decide +kernel)
set_option maxRecDepth 20000 in
theorem gX5_ripe_X5_isRipe : GoodIn wsX5_ripe (wsV RX5 139 RX5 yX5_isRipe wsX5_isRipe) := goodIn_app (goodIn_of _ (by decide +kernel)) ggX5_ripe_X5_isRipe
theorem dX5_ripe_0 : decode cX5_ripe 0 = .ok (.aload_n 0, 1) := by decide +kernel
theorem dX5_ripe_1 : decode cX5_ripe 1 = .ok (.iconst 0, 1) := by decide +kernel
theorem dX5_ripe_2 : decode cX5_ripe 2 = .ok (.putfield 83, 3) := by decide +kernel
theorem dX5_ripe_5 : decode cX5_ripe 5 = .ok (.aload_n 0, 1) := by decide +kernel
theorem dX5_ripe_6 : decode cX5_ripe 6 = .ok (.iload_n 1, 1) := by decide +kernel
theorem dX5_ripe_7 : decode cX5_ripe 7 = .ok (.invokevirtual 128, 3) := by decide +kernel
theorem dX5_ripe_10 : decode cX5_ripe 10 = .ok (.ifCond .ne 11, 3) := by decide +kernel
theorem dX5_ripe_13 : decode cX5_ripe 13 = .ok (.aload_n 0, 1) := by decide +kernel
theorem dX5_ripe_14 : decode cX5_ripe 14 = .ok (.iconst 1, 1) := by decide +kernel
theorem dX5_ripe_15 : decode cX5_ripe 15 = .ok (.invokevirtual 94, 3) := by decide +kernel
theorem dX5_ripe_18 : decode cX5_ripe 18 = .ok (.pop, 1) := by decide +kernel
theorem dX5_ripe_19 : decode cX5_ripe 19 = .ok (.iconst 0, 1) := by decide +kernel
theorem dX5_ripe_20 : decode cX5_ripe 20 = .ok (.ireturn, 1) := by decide +kernel
theorem dX5_ripe_21 : decode cX5_ripe 21 = .ok (.aload_n 0, 1) := by decide +kernel
theorem dX5_ripe_22 : decode cX5_ripe 22 = .ok (.iload_n 1, 1) := by decide +kernel
theorem dX5_ripe_23 : decode cX5_ripe 23 = .ok (.invokevirtual 139, 3) := by decide +kernel
theorem dX5_ripe_26 : decode cX5_ripe 26 = .ok (.ireturn, 1) := by decide +kernel
set_option maxRecDepth 20000 in
theorem ggX5_cut_X5_part : GoodIn wsX5_cut wsX5_part := goodIn_r _ [5] (by decide +kernel) (by decide +kernel)
set_option maxRecDepth 20000 in
theorem gX5_cut_X5_part : GoodIn wsX5_cut (va_wsS RX5 125 yX5_part wsX5_part) := goodIn_app (goodIn_of _ (by decide +kernel)) ggX5_cut_X5_part
theorem dX5_cut_0 : decode cX5_cut 0 = .ok (.aload_n 0, 1) := by decide +kernel
theorem dX5_cut_1 : decode cX5_cut 1 = .ok (.getfield 28, 3) := by decide +kernel
theorem dX5_cut_4 : decode cX5_cut 4 = .ok (.iload_n 1, 1) := by decide +kernel
theorem dX5_cut_5 : decode cX5_cut 5 = .ok (.iload_n 2, 1) := by decide +kernel
theorem dX5_cut_6 : decode cX5_cut 6 = .ok (.invokestatic 125, 3) := by decide +kernel
theorem dX5_cut_9 : decode cX5_cut 9 = .ok (.dup2, 1) := by decide +kernel
theorem dX5_cut_10 : decode cX5_cut 10 = .ok (.iaload, 1) := by decide +kernel
theorem dX5_cut_11 : decode cX5_cut 11 = .ok (.iload_n 3, 1) := by decide +kernel
theorem dX5_cut_12 : decode cX5_cut 12 = .ok (.iadd, 1) := by decide +kernel
theorem dX5_cut_13 : decode cX5_cut 13 = .ok (.iastore, 1) := by decide +kernel
theorem dX5_cut_14 : decode cX5_cut 14 = .ok (.return_, 1) := by decide +kernel
set_option maxRecDepth 20000 in
theorem ggX5_tidy_X5_part : GoodIn wsX5_tidy wsX5_part := goodIn_r _ [7] (by decide +kernel) (by decide +kernel)
set_option maxRecDepth 20000 in
theorem gX5_tidy_X5_part : GoodIn wsX5_tidy (va_wsS RX5 125 yX5_part wsX5_part) := goodIn_app (goodIn_of _ (by decide +kernel)) ggX5_tidy_X5_part
theorem dX5_tidy_0 : decode cX5_tidy 0 = .ok (.iconst 0, 1) := by decide +kernel
theorem dX5_tidy_1 : decode cX5_tidy 1 = .ok (.istore_n 2, 1) := by decide +kernel
theorem dX5_tidy_2 : decode cX5_tidy 2 = .ok (.iconst 0, 1) := by decide +kernel
theorem dX5_tidy_3 : decode cX5_tidy 3 = .ok (.istore_n 3, 1) := by decide +kernel
theorem dX5_tidy_4 : decode cX5_tidy 4 = .ok (.iload_n 3, 1) := by decide +kernel
theorem dX5_tidy_5 : decode cX5_tidy 5 = .ok (.aload_n 0, 1) := by decide +kernel
theorem dX5_tidy_6 : decode cX5_tidy 6 = .ok (.getfield 25, 3) := by decide +kernel
theorem dX5_tidy_9 : decode cX5_tidy 9 = .ok (.iload_n 1, 1) := by decide +kernel
theorem dX5_tidy_10 : decode cX5_tidy 10 = .ok (.iaload, 1) := by decide +kernel
theorem dX5_tidy_11 : decode cX5_tidy 11 = .ok (.if_icmp .ge 78, 3) := by decide +kernel
theorem dX5_tidy_14 : decode cX5_tidy 14 = .ok (.aload_n 0, 1) := by decide +kernel
theorem dX5_tidy_15 : decode cX5_tidy 15 = .ok (.getfield 28, 3) := by decide +kernel
theorem dX5_tidy_18 : decode cX5_tidy 18 = .ok (.iload_n 1, 1) := by decide +kernel
theorem dX5_tidy_19 : decode cX5_tidy 19 = .ok (.iload_n 3, 1) := by decide +kernel
theorem dX5_tidy_20 : decode cX5_tidy 20 = .ok (.invokestatic 125, 3) := by decide +kernel
theorem dX5_tidy_23 : decode cX5_tidy 23 = .ok (.iaload, 1) := by decide +kernel
theorem dX5_tidy_24 : decode cX5_tidy 24 = .ok (.aload_n 0, 1) := by decide +kernel
theorem dX5_tidy_25 : decode cX5_tidy 25 = .ok (.getfield 31, 3) := by decide +kernel
theorem dX5_tidy_28 : decode cX5_tidy 28 = .ok (.iload_n 1, 1) := by decide +kernel
theorem dX5_tidy_29 : decode cX5_tidy 29 = .ok (.iload_n 3, 1) := by decide +kernel
theorem dX5_tidy_30 : decode cX5_tidy 30 = .ok (.invokestatic 125, 3) := by decide +kernel
theorem dX5_tidy_33 : decode cX5_tidy 33 = .ok (.iaload, 1) := by decide +kernel
theorem dX5_tidy_34 : decode cX5_tidy 34 = .ok (.if_icmp .ne 6, 3) := by decide +kernel
theorem dX5_tidy_37 : decode cX5_tidy 37 = .ok (.goto 46, 3) := by decide +kernel
theorem dX5_tidy_40 : decode cX5_tidy 40 = .ok (.aload_n 0, 1) := by decide +kernel
theorem dX5_tidy_41 : decode cX5_tidy 41 = .ok (.getfield 28, 3) := by decide +kernel
theorem dX5_tidy_44 : decode cX5_tidy 44 = .ok (.iload_n 1, 1) := by decide +kernel
theorem dX5_tidy_45 : decode cX5_tidy 45 = .ok (.iload_n 2, 1) := by decide +kernel
theorem dX5_tidy_46 : decode cX5_tidy 46 = .ok (.invokestatic 125, 3) := by decide +kernel
theorem dX5_tidy_49 : decode cX5_tidy 49 = .ok (.aload_n 0, 1) := by decide +kernel
theorem dX5_tidy_50 : decode cX5_tidy 50 = .ok (.getfield 28, 3) := by decide +kernel
theorem dX5_tidy_53 : decode cX5_tidy 53 = .ok (.iload_n 1, 1) := by decide +kernel
theorem dX5_tidy_54 : decode cX5_tidy 54 = .ok (.iload_n 3, 1) := by decide +kernel
theorem dX5_tidy_55 : decode cX5_tidy 55 = .ok (.invokestatic 125, 3) := by decide +kernel
theorem dX5_tidy_58 : decode cX5_tidy 58 = .ok (.iaload, 1) := by decide +kernel
theorem dX5_tidy_59 : decode cX5_tidy 59 = .ok (.iastore, 1) := by decide +kernel
theorem dX5_tidy_60 : decode cX5_tidy 60 = .ok (.aload_n 0, 1) := by decide +kernel
theorem dX5_tidy_61 : decode cX5_tidy 61 = .ok (.getfield 31, 3) := by decide +kernel
theorem dX5_tidy_64 : decode cX5_tidy 64 = .ok (.iload_n 1, 1) := by decide +kernel
theorem dX5_tidy_65 : decode cX5_tidy 65 = .ok (.iload_n 2, 1) := by decide +kernel
theorem dX5_tidy_66 : decode cX5_tidy 66 = .ok (.invokestatic 125, 3) := by decide +kernel
theorem dX5_tidy_69 : decode cX5_tidy 69 = .ok (.aload_n 0, 1) := by decide +kernel
theorem dX5_tidy_70 : decode cX5_tidy 70 = .ok (.getfield 31, 3) := by decide +kernel
theorem dX5_tidy_73 : decode cX5_tidy 73 = .ok (.iload_n 1, 1) := by decide +kernel
theorem dX5_tidy_74 : decode cX5_tidy 74 = .ok (.iload_n 3, 1) := by decide +kernel
theorem dX5_tidy_75 : decode cX5_tidy 75 = .ok (.invokestatic 125, 3) := by decide +kernel
theorem dX5_tidy_78 : decode cX5_tidy 78 = .ok (.iaload, 1) := by decide +kernel
theorem dX5_tidy_79 : decode cX5_tidy 79 = .ok (.iastore, 1) := by decide +kernel
theorem dX5_tidy_80 : decode cX5_tidy 80 = .ok (.iinc 2 1, 3) := by decide +kernel
theorem dX5_tidy_83 : decode cX5_tidy 83 = .ok (.iinc 3 1, 3) := by decide +kernel
theorem dX5_tidy_86 : decode cX5_tidy 86 = .ok (.goto (-82), 3) := by decide +kernel
theorem dX5_tidy_89 : decode cX5_tidy 89 = .ok (.aload_n 0, 1) := by decide +kernel
theorem dX5_tidy_90 : decode cX5_tidy 90 = .ok (.getfield 25, 3) := by decide +kernel
theorem dX5_tidy_93 : decode cX5_tidy 93 = .ok (.iload_n 1, 1) := by decide +kernel
theorem dX5_tidy_94 : decode cX5_tidy 94 = .ok (.iload_n 2, 1) := by decide +kernel
theorem dX5_tidy_95 : decode cX5_tidy 95 = .ok (.iastore, 1) := by decide +kernel
theorem dX5_tidy_96 : decode cX5_tidy 96 = .ok (.return_, 1) := by decide +kernel
set_option maxRecDepth 20000 in
theorem ggX5_pieces_X5_widthOf : GoodIn wsX5_pieces wsX5_widthOf := goodIn_r _ [16, 3, 17, 18, 19, 15, 20, 1, 21, 22, 23, 24, 25, 26, 27, 28, 29, 30, 31, 32, 33, 34, 35, 36, 37, 38, 39, 40, 41, 42, 43, 44, 45, 46, 47, 48, 49, 50, 51, 52, 53, 54, 55, 56] (by decide +kernel) (by decide +kernel)
set_option maxRecDepth 20000 in
theorem gX5_pieces_X5_widthOf : GoodIn wsX5_pieces (wsV RX5 106 RX5 yX5_widthOf wsX5_widthOf) := goodIn_app (goodIn_of _ (by decide +kernel)) ggX5_pieces_X5_widthOf
theorem dX5_pieces_0 : decode cX5_pieces 0 = .ok (.aload_n 0, 1) := by decide +kernel
theorem dX5_pieces_1 : decode cX5_pieces 1 = .ok (.getfield 9, 3) := by decide +kernel
theorem dX5_pieces_4 : decode cX5_pieces 4 = .ok (.iload_n 1, 1) := by decide +kernel
theorem dX5_pieces_5 : decode cX5_pieces 5 = .ok (.iaload, 1) := by decide +kernel
theorem dX5_pieces_6 : decode cX5_pieces 6 = .ok (.iconst 2, 1) := by decide +kernel
theorem dX5_pieces_7 : decode cX5_pieces 7 = .ok (.idiv, 1) := by decide +kernel
theorem dX5_pieces_8 : decode cX5_pieces 8 = .ok (.istore_n 2, 1) := by decide +kernel
theorem dX5_pieces_9 : decode cX5_pieces 9 = .ok (.ldc 142, 2) := by decide +kernel
theorem dX5_pieces_11 : decode cX5_pieces 11 = .ok (.istore_n 3, 1) := by decide +kernel
theorem dX5_pieces_12 : decode cX5_pieces 12 = .ok (.iconst 0, 1) := by decide +kernel
theorem dX5_pieces_13 : decode cX5_pieces 13 = .ok (.istore 4, 2) := by decide +kernel
theorem dX5_pieces_15 : decode cX5_pieces 15 = .ok (.iload 4, 2) := by decide +kernel
theorem dX5_pieces_17 : decode cX5_pieces 17 = .ok (.aload_n 0, 1) := by decide +kernel
theorem dX5_pieces_18 : decode cX5_pieces 18 = .ok (.getfield 19, 3) := by decide +kernel
theorem dX5_pieces_21 : decode cX5_pieces 21 = .ok (.iload_n 1, 1) := by decide +kernel
theorem dX5_pieces_22 : decode cX5_pieces 22 = .ok (.iaload, 1) := by decide +kernel
theorem dX5_pieces_23 : decode cX5_pieces 23 = .ok (.if_icmp .ge 22, 3) := by decide +kernel
theorem dX5_pieces_26 : decode cX5_pieces 26 = .ok (.iload_n 3, 1) := by decide +kernel
theorem dX5_pieces_27 : decode cX5_pieces 27 = .ok (.aload_n 0, 1) := by decide +kernel
theorem dX5_pieces_28 : decode cX5_pieces 28 = .ok (.iload_n 1, 1) := by decide +kernel
theorem dX5_pieces_29 : decode cX5_pieces 29 = .ok (.iload 4, 2) := by decide +kernel
theorem dX5_pieces_31 : decode cX5_pieces 31 = .ok (.iload_n 2, 1) := by decide +kernel
theorem dX5_pieces_32 : decode cX5_pieces 32 = .ok (.invokevirtual 106, 3) := by decide +kernel
theorem dX5_pieces_35 : decode cX5_pieces 35 = .ok (.invokestatic 131, 3) := by decide +kernel
theorem dX5_pieces_38 : decode cX5_pieces 38 = .ok (.istore_n 3, 1) := by decide +kernel
theorem dX5_pieces_39 : decode cX5_pieces 39 = .ok (.iinc 4 1, 3) := by decide +kernel
theorem dX5_pieces_42 : decode cX5_pieces 42 = .ok (.goto (-27), 3) := by decide +kernel
theorem dX5_pieces_45 : decode cX5_pieces 45 = .ok (.aload_n 0, 1) := by decide +kernel
theorem dX5_pieces_46 : decode cX5_pieces 46 = .ok (.iload_n 3, 1) := by decide +kernel
theorem dX5_pieces_47 : decode cX5_pieces 47 = .ok (.iconst 2, 1) := by decide +kernel
theorem dX5_pieces_48 : decode cX5_pieces 48 = .ok (.iadd, 1) := by decide +kernel
theorem dX5_pieces_49 : decode cX5_pieces 49 = .ok (.putfield 143, 3) := by decide +kernel
theorem dX5_pieces_52 : decode cX5_pieces 52 = .ok (.aload_n 0, 1) := by decide +kernel
theorem dX5_pieces_53 : decode cX5_pieces 53 = .ok (.iload_n 3, 1) := by decide +kernel
theorem dX5_pieces_54 : decode cX5_pieces 54 = .ok (.iconst 3, 1) := by decide +kernel
theorem dX5_pieces_55 : decode cX5_pieces 55 = .ok (.iadd, 1) := by decide +kernel
theorem dX5_pieces_56 : decode cX5_pieces 56 = .ok (.putfield 146, 3) := by decide +kernel
theorem dX5_pieces_59 : decode cX5_pieces 59 = .ok (.aload_n 0, 1) := by decide +kernel
theorem dX5_pieces_60 : decode cX5_pieces 60 = .ok (.iconst 0, 1) := by decide +kernel
theorem dX5_pieces_61 : decode cX5_pieces 61 = .ok (.putfield 149, 3) := by decide +kernel
theorem dX5_pieces_64 : decode cX5_pieces 64 = .ok (.iconst 0, 1) := by decide +kernel
theorem dX5_pieces_65 : decode cX5_pieces 65 = .ok (.istore 4, 2) := by decide +kernel
theorem dX5_pieces_67 : decode cX5_pieces 67 = .ok (.iload 4, 2) := by decide +kernel
theorem dX5_pieces_69 : decode cX5_pieces 69 = .ok (.aload_n 0, 1) := by decide +kernel
theorem dX5_pieces_70 : decode cX5_pieces 70 = .ok (.getfield 19, 3) := by decide +kernel
theorem dX5_pieces_73 : decode cX5_pieces 73 = .ok (.iload_n 1, 1) := by decide +kernel
theorem dX5_pieces_74 : decode cX5_pieces 74 = .ok (.iaload, 1) := by decide +kernel
theorem dX5_pieces_75 : decode cX5_pieces 75 = .ok (.if_icmp .ge 35, 3) := by decide +kernel
theorem dX5_pieces_78 : decode cX5_pieces 78 = .ok (.aload_n 0, 1) := by decide +kernel
theorem dX5_pieces_79 : decode cX5_pieces 79 = .ok (.dup, 1) := by decide +kernel
theorem dX5_pieces_80 : decode cX5_pieces 80 = .ok (.getfield 149, 3) := by decide +kernel
theorem dX5_pieces_83 : decode cX5_pieces 83 = .ok (.aload_n 0, 1) := by decide +kernel
theorem dX5_pieces_84 : decode cX5_pieces 84 = .ok (.iload_n 1, 1) := by decide +kernel
theorem dX5_pieces_85 : decode cX5_pieces 85 = .ok (.iload 4, 2) := by decide +kernel
theorem dX5_pieces_87 : decode cX5_pieces 87 = .ok (.iload_n 2, 1) := by decide +kernel
theorem dX5_pieces_88 : decode cX5_pieces 88 = .ok (.invokevirtual 106, 3) := by decide +kernel
theorem dX5_pieces_91 : decode cX5_pieces 91 = .ok (.iload_n 3, 1) := by decide +kernel
theorem dX5_pieces_92 : decode cX5_pieces 92 = .ok (.if_icmp .ne 7, 3) := by decide +kernel
theorem dX5_pieces_95 : decode cX5_pieces 95 = .ok (.iconst 1, 1) := by decide +kernel
theorem dX5_pieces_96 : decode cX5_pieces 96 = .ok (.goto 4, 3) := by decide +kernel
theorem dX5_pieces_99 : decode cX5_pieces 99 = .ok (.iconst 0, 1) := by decide +kernel
theorem dX5_pieces_100 : decode cX5_pieces 100 = .ok (.iadd, 1) := by decide +kernel
theorem dX5_pieces_101 : decode cX5_pieces 101 = .ok (.putfield 149, 3) := by decide +kernel
theorem dX5_pieces_104 : decode cX5_pieces 104 = .ok (.iinc 4 1, 3) := by decide +kernel
theorem dX5_pieces_107 : decode cX5_pieces 107 = .ok (.goto (-40), 3) := by decide +kernel
theorem dX5_pieces_110 : decode cX5_pieces 110 = .ok (.aload_n 0, 1) := by decide +kernel
theorem dX5_pieces_111 : decode cX5_pieces 111 = .ok (.aload_n 0, 1) := by decide +kernel
theorem dX5_pieces_112 : decode cX5_pieces 112 = .ok (.getfield 19, 3) := by decide +kernel
theorem dX5_pieces_115 : decode cX5_pieces 115 = .ok (.iload_n 1, 1) := by decide +kernel
theorem dX5_pieces_116 : decode cX5_pieces 116 = .ok (.iaload, 1) := by decide +kernel
theorem dX5_pieces_117 : decode cX5_pieces 117 = .ok (.aload_n 0, 1) := by decide +kernel
theorem dX5_pieces_118 : decode cX5_pieces 118 = .ok (.getfield 149, 3) := by decide +kernel
theorem dX5_pieces_121 : decode cX5_pieces 121 = .ok (.isub, 1) := by decide +kernel
theorem dX5_pieces_122 : decode cX5_pieces 122 = .ok (.putfield 152, 3) := by decide +kernel
theorem dX5_pieces_125 : decode cX5_pieces 125 = .ok (.return_, 1) := by decide +kernel
set_option maxRecDepth 20000 in
theorem ggX5_length_X5_part : GoodIn wsX5_length wsX5_part := goodIn_r _ [8] (by decide +kernel) (by decide +kernel)
set_option maxRecDepth 20000 in
theorem gX5_length_X5_part : GoodIn wsX5_length (va_wsS RX5 125 yX5_part wsX5_part) := goodIn_app (goodIn_of _ (by decide +kernel)) ggX5_length_X5_part
theorem dX5_length_0 : decode cX5_length 0 = .ok (.aload_n 0, 1) := by decide +kernel
theorem dX5_length_1 : decode cX5_length 1 = .ok (.getfield 62, 3) := by decide +kernel
theorem dX5_length_4 : decode cX5_length 4 = .ok (.iload_n 1, 1) := by decide +kernel
theorem dX5_length_5 : decode cX5_length 5 = .ok (.iaload, 1) := by decide +kernel
theorem dX5_length_6 : decode cX5_length 6 = .ok (.aload_n 0, 1) := by decide +kernel
theorem dX5_length_7 : decode cX5_length 7 = .ok (.getfield 65, 3) := by decide +kernel
theorem dX5_length_10 : decode cX5_length 10 = .ok (.iload_n 1, 1) := by decide +kernel
theorem dX5_length_11 : decode cX5_length 11 = .ok (.iaload, 1) := by decide +kernel
theorem dX5_length_12 : decode cX5_length 12 = .ok (.invokestatic 125, 3) := by decide +kernel
theorem dX5_length_15 : decode cX5_length 15 = .ok (.istore_n 2, 1) := by decide +kernel
theorem dX5_length_16 : decode cX5_length 16 = .ok (.aload_n 0, 1) := by decide +kernel
theorem dX5_length_17 : decode cX5_length 17 = .ok (.getfield 31, 3) := by decide +kernel
theorem dX5_length_20 : decode cX5_length 20 = .ok (.iload_n 2, 1) := by decide +kernel
theorem dX5_length_21 : decode cX5_length 21 = .ok (.iaload, 1) := by decide +kernel
theorem dX5_length_22 : decode cX5_length 22 = .ok (.aload_n 0, 1) := by decide +kernel
theorem dX5_length_23 : decode cX5_length 23 = .ok (.getfield 28, 3) := by decide +kernel
theorem dX5_length_26 : decode cX5_length 26 = .ok (.iload_n 2, 1) := by decide +kernel
theorem dX5_length_27 : decode cX5_length 27 = .ok (.iaload, 1) := by decide +kernel
theorem dX5_length_28 : decode cX5_length 28 = .ok (.isub, 1) := by decide +kernel
theorem dX5_length_29 : decode cX5_length 29 = .ok (.ireturn, 1) := by decide +kernel
set_option maxRecDepth 20000 in
theorem ggX5_reckon_X5_length : GoodIn wsX5_reckon wsX5_length := goodIn_r _ [14, 15, 16, 17, 18, 19, 20, 13, 21, 22, 23, 24, 25, 26, 27, 28, 29, 30, 31, 32, 33, 34, 35, 36, 37, 38, 39, 40, 41, 42, 43, 44, 45, 46, 47, 48, 49, 50, 51, 52, 53, 54, 55] (by decide +kernel) (by decide +kernel)
set_option maxRecDepth 20000 in
theorem gX5_reckon_X5_length : GoodIn wsX5_reckon (wsV RX5 158 RX5 yX5_length wsX5_length) := goodIn_app (goodIn_of _ (by decide +kernel)) ggX5_reckon_X5_length
theorem dX5_reckon_0 : decode cX5_reckon 0 = .ok (.bipush 41, 2) := by decide +kernel
theorem dX5_reckon_2 : decode cX5_reckon 2 = .ok (.istore_n 1, 1) := by decide +kernel
theorem dX5_reckon_3 : decode cX5_reckon 3 = .ok (.iconst 0, 1) := by decide +kernel
theorem dX5_reckon_4 : decode cX5_reckon 4 = .ok (.istore_n 2, 1) := by decide +kernel
theorem dX5_reckon_5 : decode cX5_reckon 5 = .ok (.iload_n 2, 1) := by decide +kernel
theorem dX5_reckon_6 : decode cX5_reckon 6 = .ok (.aload_n 0, 1) := by decide +kernel
theorem dX5_reckon_7 : decode cX5_reckon 7 = .ok (.getfield 152, 3) := by decide +kernel
theorem dX5_reckon_10 : decode cX5_reckon 10 = .ok (.if_icmp .gt 31, 3) := by decide +kernel
theorem dX5_reckon_13 : decode cX5_reckon 13 = .ok (.aload_n 0, 1) := by decide +kernel
theorem dX5_reckon_14 : decode cX5_reckon 14 = .ok (.getfield 68, 3) := by decide +kernel
theorem dX5_reckon_17 : decode cX5_reckon 17 = .ok (.iload_n 1, 1) := by decide +kernel
theorem dX5_reckon_18 : decode cX5_reckon 18 = .ok (.aload_n 0, 1) := by decide +kernel
theorem dX5_reckon_19 : decode cX5_reckon 19 = .ok (.getfield 155, 3) := by decide +kernel
theorem dX5_reckon_22 : decode cX5_reckon 22 = .ok (.imul, 1) := by decide +kernel
theorem dX5_reckon_23 : decode cX5_reckon 23 = .ok (.iload_n 2, 1) := by decide +kernel
theorem dX5_reckon_24 : decode cX5_reckon 24 = .ok (.iadd, 1) := by decide +kernel
theorem dX5_reckon_25 : decode cX5_reckon 25 = .ok (.iload_n 2, 1) := by decide +kernel
theorem dX5_reckon_26 : decode cX5_reckon 26 = .ok (.ifCond .ne 7, 3) := by decide +kernel
theorem dX5_reckon_29 : decode cX5_reckon 29 = .ok (.iconst 0, 1) := by decide +kernel
theorem dX5_reckon_30 : decode cX5_reckon 30 = .ok (.goto 4, 3) := by decide +kernel
theorem dX5_reckon_33 : decode cX5_reckon 33 = .ok (.iconst (-1), 1) := by decide +kernel
theorem dX5_reckon_34 : decode cX5_reckon 34 = .ok (.iastore, 1) := by decide +kernel
theorem dX5_reckon_35 : decode cX5_reckon 35 = .ok (.iinc 2 1, 3) := by decide +kernel
theorem dX5_reckon_38 : decode cX5_reckon 38 = .ok (.goto (-33), 3) := by decide +kernel
theorem dX5_reckon_41 : decode cX5_reckon 41 = .ok (.aload_n 0, 1) := by decide +kernel
theorem dX5_reckon_42 : decode cX5_reckon 42 = .ok (.getfield 155, 3) := by decide +kernel
theorem dX5_reckon_45 : decode cX5_reckon 45 = .ok (.iconst 1, 1) := by decide +kernel
theorem dX5_reckon_46 : decode cX5_reckon 46 = .ok (.isub, 1) := by decide +kernel
theorem dX5_reckon_47 : decode cX5_reckon 47 = .ok (.istore_n 2, 1) := by decide +kernel
theorem dX5_reckon_48 : decode cX5_reckon 48 = .ok (.iload_n 2, 1) := by decide +kernel
theorem dX5_reckon_49 : decode cX5_reckon 49 = .ok (.ifCond .lt 120, 3) := by decide +kernel
theorem dX5_reckon_52 : decode cX5_reckon 52 = .ok (.iconst 0, 1) := by decide +kernel
theorem dX5_reckon_53 : decode cX5_reckon 53 = .ok (.istore_n 3, 1) := by decide +kernel
theorem dX5_reckon_54 : decode cX5_reckon 54 = .ok (.iload_n 3, 1) := by decide +kernel
theorem dX5_reckon_55 : decode cX5_reckon 55 = .ok (.aload_n 0, 1) := by decide +kernel
theorem dX5_reckon_56 : decode cX5_reckon 56 = .ok (.getfield 152, 3) := by decide +kernel
theorem dX5_reckon_59 : decode cX5_reckon 59 = .ok (.if_icmp .gt 104, 3) := by decide +kernel
theorem dX5_reckon_62 : decode cX5_reckon 62 = .ok (.iconst (-1), 1) := by decide +kernel
theorem dX5_reckon_63 : decode cX5_reckon 63 = .ok (.istore 4, 2) := by decide +kernel
theorem dX5_reckon_65 : decode cX5_reckon 65 = .ok (.iconst 0, 1) := by decide +kernel
theorem dX5_reckon_66 : decode cX5_reckon 66 = .ok (.istore 5, 2) := by decide +kernel
theorem dX5_reckon_68 : decode cX5_reckon 68 = .ok (.iload 5, 2) := by decide +kernel
theorem dX5_reckon_70 : decode cX5_reckon 70 = .ok (.iload_n 3, 1) := by decide +kernel
theorem dX5_reckon_71 : decode cX5_reckon 71 = .ok (.if_icmp .gt 74, 3) := by decide +kernel
theorem dX5_reckon_74 : decode cX5_reckon 74 = .ok (.iload 5, 2) := by decide +kernel
theorem dX5_reckon_76 : decode cX5_reckon 76 = .ok (.aload_n 0, 1) := by decide +kernel
theorem dX5_reckon_77 : decode cX5_reckon 77 = .ok (.getfield 146, 3) := by decide +kernel
theorem dX5_reckon_80 : decode cX5_reckon 80 = .ok (.imul, 1) := by decide +kernel
theorem dX5_reckon_81 : decode cX5_reckon 81 = .ok (.aload_n 0, 1) := by decide +kernel
theorem dX5_reckon_82 : decode cX5_reckon 82 = .ok (.iload_n 2, 1) := by decide +kernel
theorem dX5_reckon_83 : decode cX5_reckon 83 = .ok (.invokevirtual 158, 3) := by decide +kernel
theorem dX5_reckon_86 : decode cX5_reckon 86 = .ok (.if_icmp .gt 59, 3) := by decide +kernel
theorem dX5_reckon_89 : decode cX5_reckon 89 = .ok (.aload_n 0, 1) := by decide +kernel
theorem dX5_reckon_90 : decode cX5_reckon 90 = .ok (.getfield 68, 3) := by decide +kernel
theorem dX5_reckon_93 : decode cX5_reckon 93 = .ok (.iload_n 1, 1) := by decide +kernel
theorem dX5_reckon_94 : decode cX5_reckon 94 = .ok (.iload_n 2, 1) := by decide +kernel
theorem dX5_reckon_95 : decode cX5_reckon 95 = .ok (.iconst 1, 1) := by decide +kernel
theorem dX5_reckon_96 : decode cX5_reckon 96 = .ok (.iadd, 1) := by decide +kernel
theorem dX5_reckon_97 : decode cX5_reckon 97 = .ok (.imul, 1) := by decide +kernel
theorem dX5_reckon_98 : decode cX5_reckon 98 = .ok (.iload_n 3, 1) := by decide +kernel
theorem dX5_reckon_99 : decode cX5_reckon 99 = .ok (.iadd, 1) := by decide +kernel
theorem dX5_reckon_100 : decode cX5_reckon 100 = .ok (.iload 5, 2) := by decide +kernel
theorem dX5_reckon_102 : decode cX5_reckon 102 = .ok (.isub, 1) := by decide +kernel
theorem dX5_reckon_103 : decode cX5_reckon 103 = .ok (.iaload, 1) := by decide +kernel
theorem dX5_reckon_104 : decode cX5_reckon 104 = .ok (.istore 6, 2) := by decide +kernel
theorem dX5_reckon_106 : decode cX5_reckon 106 = .ok (.iload 6, 2) := by decide +kernel
theorem dX5_reckon_108 : decode cX5_reckon 108 = .ok (.ifCond .lt 31, 3) := by decide +kernel
theorem dX5_reckon_111 : decode cX5_reckon 111 = .ok (.iload 4, 2) := by decide +kernel
theorem dX5_reckon_113 : decode cX5_reckon 113 = .ok (.iload 6, 2) := by decide +kernel
theorem dX5_reckon_115 : decode cX5_reckon 115 = .ok (.aload_n 0, 1) := by decide +kernel
theorem dX5_reckon_116 : decode cX5_reckon 116 = .ok (.iload_n 2, 1) := by decide +kernel
theorem dX5_reckon_117 : decode cX5_reckon 117 = .ok (.invokevirtual 158, 3) := by decide +kernel
theorem dX5_reckon_120 : decode cX5_reckon 120 = .ok (.iload 5, 2) := by decide +kernel
theorem dX5_reckon_122 : decode cX5_reckon 122 = .ok (.aload_n 0, 1) := by decide +kernel
theorem dX5_reckon_123 : decode cX5_reckon 123 = .ok (.getfield 146, 3) := by decide +kernel
theorem dX5_reckon_126 : decode cX5_reckon 126 = .ok (.imul, 1) := by decide +kernel
theorem dX5_reckon_127 : decode cX5_reckon 127 = .ok (.isub, 1) := by decide +kernel
theorem dX5_reckon_128 : decode cX5_reckon 128 = .ok (.aload_n 0, 1) := by decide +kernel
theorem dX5_reckon_129 : decode cX5_reckon 129 = .ok (.getfield 143, 3) := by decide +kernel
theorem dX5_reckon_132 : decode cX5_reckon 132 = .ok (.idiv, 1) := by decide +kernel
theorem dX5_reckon_133 : decode cX5_reckon 133 = .ok (.iadd, 1) := by decide +kernel
theorem dX5_reckon_134 : decode cX5_reckon 134 = .ok (.invokestatic 136, 3) := by decide +kernel
theorem dX5_reckon_137 : decode cX5_reckon 137 = .ok (.istore 4, 2) := by decide +kernel
theorem dX5_reckon_139 : decode cX5_reckon 139 = .ok (.iinc 5 1, 3) := by decide +kernel
theorem dX5_reckon_142 : decode cX5_reckon 142 = .ok (.goto (-74), 3) := by decide +kernel
theorem dX5_reckon_145 : decode cX5_reckon 145 = .ok (.aload_n 0, 1) := by decide +kernel
theorem dX5_reckon_146 : decode cX5_reckon 146 = .ok (.getfield 68, 3) := by decide +kernel
theorem dX5_reckon_149 : decode cX5_reckon 149 = .ok (.iload_n 1, 1) := by decide +kernel
theorem dX5_reckon_150 : decode cX5_reckon 150 = .ok (.iload_n 2, 1) := by decide +kernel
theorem dX5_reckon_151 : decode cX5_reckon 151 = .ok (.imul, 1) := by decide +kernel
theorem dX5_reckon_152 : decode cX5_reckon 152 = .ok (.iload_n 3, 1) := by decide +kernel
theorem dX5_reckon_153 : decode cX5_reckon 153 = .ok (.iadd, 1) := by decide +kernel
theorem dX5_reckon_154 : decode cX5_reckon 154 = .ok (.iload 4, 2) := by decide +kernel
theorem dX5_reckon_156 : decode cX5_reckon 156 = .ok (.iastore, 1) := by decide +kernel
theorem dX5_reckon_157 : decode cX5_reckon 157 = .ok (.iinc 3 1, 3) := by decide +kernel
theorem dX5_reckon_160 : decode cX5_reckon 160 = .ok (.goto (-106), 3) := by decide +kernel
theorem dX5_reckon_163 : decode cX5_reckon 163 = .ok (.iinc 2 (-1), 3) := by decide +kernel
theorem dX5_reckon_166 : decode cX5_reckon 166 = .ok (.goto (-118), 3) := by decide +kernel
theorem dX5_reckon_169 : decode cX5_reckon 169 = .ok (.return_, 1) := by decide +kernel
theorem dX5_gives_0 : decode cX5_gives 0 = .ok (.aload_n 0, 1) := by decide +kernel
theorem dX5_gives_1 : decode cX5_gives 1 = .ok (.getfield 68, 3) := by decide +kernel
theorem dX5_gives_4 : decode cX5_gives 4 = .ok (.bipush 41, 2) := by decide +kernel
theorem dX5_gives_6 : decode cX5_gives 6 = .ok (.iload_n 1, 1) := by decide +kernel
theorem dX5_gives_7 : decode cX5_gives 7 = .ok (.imul, 1) := by decide +kernel
theorem dX5_gives_8 : decode cX5_gives 8 = .ok (.iload_n 2, 1) := by decide +kernel
theorem dX5_gives_9 : decode cX5_gives 9 = .ok (.iadd, 1) := by decide +kernel
theorem dX5_gives_10 : decode cX5_gives 10 = .ok (.iaload, 1) := by decide +kernel
theorem dX5_gives_11 : decode cX5_gives 11 = .ok (.iload_n 3, 1) := by decide +kernel
theorem dX5_gives_12 : decode cX5_gives 12 = .ok (.if_icmp .lt 7, 3) := by decide +kernel
theorem dX5_gives_15 : decode cX5_gives 15 = .ok (.iconst 1, 1) := by decide +kernel
theorem dX5_gives_16 : decode cX5_gives 16 = .ok (.goto 4, 3) := by decide +kernel
theorem dX5_gives_19 : decode cX5_gives 19 = .ok (.iconst 0, 1) := by decide +kernel
theorem dX5_gives_20 : decode cX5_gives 20 = .ok (.ireturn, 1) := by decide +kernel
theorem dX5_take_0 : decode cX5_take 0 = .ok (.aload_n 0, 1) := by decide +kernel
theorem dX5_take_1 : decode cX5_take 1 = .ok (.iconst 0, 1) := by decide +kernel
theorem dX5_take_2 : decode cX5_take 2 = .ok (.putfield 155, 3) := by decide +kernel
theorem dX5_take_5 : decode cX5_take 5 = .ok (.iconst 0, 1) := by decide +kernel
theorem dX5_take_6 : decode cX5_take 6 = .ok (.istore_n 2, 1) := by decide +kernel
theorem dX5_take_7 : decode cX5_take 7 = .ok (.iload_n 2, 1) := by decide +kernel
theorem dX5_take_8 : decode cX5_take 8 = .ok (.bipush 8, 2) := by decide +kernel
theorem dX5_take_10 : decode cX5_take 10 = .ok (.if_icmp .ge 78, 3) := by decide +kernel
theorem dX5_take_13 : decode cX5_take 13 = .ok (.iload_n 1, 1) := by decide +kernel
theorem dX5_take_14 : decode cX5_take 14 = .ok (.iload_n 2, 1) := by decide +kernel
theorem dX5_take_15 : decode cX5_take 15 = .ok (.ishr, 1) := by decide +kernel
theorem dX5_take_16 : decode cX5_take 16 = .ok (.iconst 1, 1) := by decide +kernel
theorem dX5_take_17 : decode cX5_take 17 = .ok (.iand, 1) := by decide +kernel
theorem dX5_take_18 : decode cX5_take 18 = .ok (.ifCond .ne 6, 3) := by decide +kernel
theorem dX5_take_21 : decode cX5_take 21 = .ok (.goto 61, 3) := by decide +kernel
theorem dX5_take_24 : decode cX5_take 24 = .ok (.iconst 0, 1) := by decide +kernel
theorem dX5_take_25 : decode cX5_take 25 = .ok (.istore_n 3, 1) := by decide +kernel
theorem dX5_take_26 : decode cX5_take 26 = .ok (.iload_n 3, 1) := by decide +kernel
theorem dX5_take_27 : decode cX5_take 27 = .ok (.aload_n 0, 1) := by decide +kernel
theorem dX5_take_28 : decode cX5_take 28 = .ok (.getfield 25, 3) := by decide +kernel
theorem dX5_take_31 : decode cX5_take 31 = .ok (.aload_n 0, 1) := by decide +kernel
theorem dX5_take_32 : decode cX5_take 32 = .ok (.getfield 77, 3) := by decide +kernel
theorem dX5_take_35 : decode cX5_take 35 = .ok (.iload_n 2, 1) := by decide +kernel
theorem dX5_take_36 : decode cX5_take 36 = .ok (.iaload, 1) := by decide +kernel
theorem dX5_take_37 : decode cX5_take 37 = .ok (.iaload, 1) := by decide +kernel
theorem dX5_take_38 : decode cX5_take 38 = .ok (.if_icmp .ge 44, 3) := by decide +kernel
theorem dX5_take_41 : decode cX5_take 41 = .ok (.aload_n 0, 1) := by decide +kernel
theorem dX5_take_42 : decode cX5_take 42 = .ok (.getfield 62, 3) := by decide +kernel
theorem dX5_take_45 : decode cX5_take 45 = .ok (.aload_n 0, 1) := by decide +kernel
theorem dX5_take_46 : decode cX5_take 46 = .ok (.getfield 155, 3) := by decide +kernel
theorem dX5_take_49 : decode cX5_take 49 = .ok (.aload_n 0, 1) := by decide +kernel
theorem dX5_take_50 : decode cX5_take 50 = .ok (.getfield 77, 3) := by decide +kernel
theorem dX5_take_53 : decode cX5_take 53 = .ok (.iload_n 2, 1) := by decide +kernel
theorem dX5_take_54 : decode cX5_take 54 = .ok (.iaload, 1) := by decide +kernel
theorem dX5_take_55 : decode cX5_take 55 = .ok (.iastore, 1) := by decide +kernel
theorem dX5_take_56 : decode cX5_take 56 = .ok (.aload_n 0, 1) := by decide +kernel
theorem dX5_take_57 : decode cX5_take 57 = .ok (.getfield 65, 3) := by decide +kernel
theorem dX5_take_60 : decode cX5_take 60 = .ok (.aload_n 0, 1) := by decide +kernel
theorem dX5_take_61 : decode cX5_take 61 = .ok (.getfield 155, 3) := by decide +kernel
theorem dX5_take_64 : decode cX5_take 64 = .ok (.iload_n 3, 1) := by decide +kernel
theorem dX5_take_65 : decode cX5_take 65 = .ok (.iastore, 1) := by decide +kernel
theorem dX5_take_66 : decode cX5_take 66 = .ok (.aload_n 0, 1) := by decide +kernel
theorem dX5_take_67 : decode cX5_take 67 = .ok (.dup, 1) := by decide +kernel
theorem dX5_take_68 : decode cX5_take 68 = .ok (.getfield 155, 3) := by decide +kernel
theorem dX5_take_71 : decode cX5_take 71 = .ok (.iconst 1, 1) := by decide +kernel
theorem dX5_take_72 : decode cX5_take 72 = .ok (.iadd, 1) := by decide +kernel
theorem dX5_take_73 : decode cX5_take 73 = .ok (.putfield 155, 3) := by decide +kernel
theorem dX5_take_76 : decode cX5_take 76 = .ok (.iinc 3 1, 3) := by decide +kernel
theorem dX5_take_79 : decode cX5_take 79 = .ok (.goto (-53), 3) := by decide +kernel
theorem dX5_take_82 : decode cX5_take 82 = .ok (.iinc 2 1, 3) := by decide +kernel
theorem dX5_take_85 : decode cX5_take 85 = .ok (.goto (-78), 3) := by decide +kernel
theorem dX5_take_88 : decode cX5_take 88 = .ok (.return_, 1) := by decide +kernel
theorem dX5_ones_0 : decode cX5_ones 0 = .ok (.iconst 0, 1) := by decide +kernel
theorem dX5_ones_1 : decode cX5_ones 1 = .ok (.istore_n 1, 1) := by decide +kernel
theorem dX5_ones_2 : decode cX5_ones 2 = .ok (.iload_n 0, 1) := by decide +kernel
theorem dX5_ones_3 : decode cX5_ones 3 = .ok (.istore_n 2, 1) := by decide +kernel
theorem dX5_ones_4 : decode cX5_ones 4 = .ok (.iload_n 2, 1) := by decide +kernel
theorem dX5_ones_5 : decode cX5_ones 5 = .ok (.ifCond .eq 15, 3) := by decide +kernel
theorem dX5_ones_8 : decode cX5_ones 8 = .ok (.iinc 1 1, 3) := by decide +kernel
theorem dX5_ones_11 : decode cX5_ones 11 = .ok (.iload_n 2, 1) := by decide +kernel
theorem dX5_ones_12 : decode cX5_ones 12 = .ok (.iload_n 2, 1) := by decide +kernel
theorem dX5_ones_13 : decode cX5_ones 13 = .ok (.iconst 1, 1) := by decide +kernel
theorem dX5_ones_14 : decode cX5_ones 14 = .ok (.isub, 1) := by decide +kernel
theorem dX5_ones_15 : decode cX5_ones 15 = .ok (.iand, 1) := by decide +kernel
theorem dX5_ones_16 : decode cX5_ones 16 = .ok (.istore_n 2, 1) := by decide +kernel
theorem dX5_ones_17 : decode cX5_ones 17 = .ok (.goto (-13), 3) := by decide +kernel
theorem dX5_ones_20 : decode cX5_ones 20 = .ok (.iload_n 1, 1) := by decide +kernel
theorem dX5_ones_21 : decode cX5_ones 21 = .ok (.ireturn, 1) := by decide +kernel
theorem dX5_isAhead_0 : decode cX5_isAhead 0 = .ok (.iload_n 0, 1) := by decide +kernel
theorem dX5_isAhead_1 : decode cX5_isAhead 1 = .ok (.iload_n 1, 1) := by decide +kernel
theorem dX5_isAhead_2 : decode cX5_isAhead 2 = .ok (.ixor, 1) := by decide +kernel
theorem dX5_isAhead_3 : decode cX5_isAhead 3 = .ok (.istore_n 2, 1) := by decide +kernel
theorem dX5_isAhead_4 : decode cX5_isAhead 4 = .ok (.iload_n 0, 1) := by decide +kernel
theorem dX5_isAhead_5 : decode cX5_isAhead 5 = .ok (.iload_n 2, 1) := by decide +kernel
theorem dX5_isAhead_6 : decode cX5_isAhead 6 = .ok (.iload_n 2, 1) := by decide +kernel
theorem dX5_isAhead_7 : decode cX5_isAhead 7 = .ok (.ineg, 1) := by decide +kernel
theorem dX5_isAhead_8 : decode cX5_isAhead 8 = .ok (.iand, 1) := by decide +kernel
theorem dX5_isAhead_9 : decode cX5_isAhead 9 = .ok (.iand, 1) := by decide +kernel
theorem dX5_isAhead_10 : decode cX5_isAhead 10 = .ok (.ifCond .eq 7, 3) := by decide +kernel
theorem dX5_isAhead_13 : decode cX5_isAhead 13 = .ok (.iconst 1, 1) := by decide +kernel
theorem dX5_isAhead_14 : decode cX5_isAhead 14 = .ok (.goto 4, 3) := by decide +kernel
theorem dX5_isAhead_17 : decode cX5_isAhead 17 = .ok (.iconst 0, 1) := by decide +kernel
theorem dX5_isAhead_18 : decode cX5_isAhead 18 = .ok (.ireturn, 1) := by decide +kernel
set_option maxRecDepth 20000 in
theorem ggX5_bestSet_X5_pieces : GoodIn wsX5_bestSet wsX5_pieces := goodIn_r _ [9, 10, 11, 12, 13, 14, 15, 16, 17, 18, 4, 3, 19, 20, 21, 8, 22, 23, 24, 25, 26, 27, 28, 70, 71, 72, 73, 74, 75, 76, 77, 78, 79, 80, 81, 82, 83, 84, 85, 86, 87, 88, 89, 90, 91, 92, 93, 94, 95, 96, 97, 98, 99, 100, 101, 102, 103] (by decide +kernel) (by decide +kernel)
set_option maxRecDepth 20000 in
theorem gX5_bestSet_X5_pieces : GoodIn wsX5_bestSet (wsV RX5 161 RX5 yX5_pieces wsX5_pieces) := goodIn_app (goodIn_of _ (by decide +kernel)) ggX5_bestSet_X5_pieces
set_option maxRecDepth 20000 in
theorem ggX5_bestSet_X5_isRipe : GoodIn wsX5_bestSet wsX5_isRipe := goodIn_r _ [32, 33, 34, 70, 71, 72, 73, 74, 75, 76, 77, 78, 79, 80, 81, 82, 83, 84, 85, 86, 87, 88, 89, 90, 91, 92, 93, 94, 95, 96, 97, 98, 99, 100, 101, 102, 103] (by decide +kernel) (by decide +kernel)
set_option maxRecDepth 20000 in
theorem gX5_bestSet_X5_isRipe : GoodIn wsX5_bestSet (wsV RX5 139 RX5 yX5_isRipe wsX5_isRipe) := goodIn_app (goodIn_of _ (by decide +kernel)) ggX5_bestSet_X5_isRipe
set_option maxRecDepth 20000 in
theorem ggX5_bestSet_X5_ones : GoodIn wsX5_bestSet wsX5_ones := goodIn_r _ [37] (by decide +kernel) (by decide +kernel)
set_option maxRecDepth 20000 in
theorem gX5_bestSet_X5_ones : GoodIn wsX5_bestSet (va_wsS RX5 165 yX5_ones wsX5_ones) := goodIn_app (goodIn_of _ (by decide +kernel)) ggX5_bestSet_X5_ones
set_option maxRecDepth 20000 in
theorem ggX5_bestSet_X5_isAhead : GoodIn wsX5_bestSet wsX5_isAhead := goodIn_r _ [40] (by decide +kernel) (by decide +kernel)
set_option maxRecDepth 20000 in
theorem gX5_bestSet_X5_isAhead : GoodIn wsX5_bestSet (va_wsS RX5 168 yX5_isAhead wsX5_isAhead) := goodIn_app (goodIn_of _ (by decide +kernel)) ggX5_bestSet_X5_isAhead
set_option maxRecDepth 20000 in
theorem ggX5_bestSet_X5_take : GoodIn wsX5_bestSet wsX5_take := goodIn_r _ [44, 45, 46, 2, 47, 48, 70, 71, 72, 73, 74, 75, 76, 77, 78, 79, 80, 81, 82, 83, 84, 85, 86, 87, 88, 89, 90, 91, 92, 93, 94, 95, 96, 97, 98, 99, 100, 101, 102, 103] (by decide +kernel) (by decide +kernel)
set_option maxRecDepth 20000 in
theorem gX5_bestSet_X5_take : GoodIn wsX5_bestSet (wsV RX5 171 RX5 yX5_take wsX5_take) := goodIn_app (goodIn_of _ (by decide +kernel)) ggX5_bestSet_X5_take
set_option maxRecDepth 20000 in
theorem ggX5_bestSet_X5_reckon : GoodIn wsX5_bestSet wsX5_reckon := goodIn_r _ [52, 3, 53, 45, 18, 17, 54, 55, 15, 56, 57, 58, 59, 8, 60, 47, 48, 61, 62, 63, 64, 65, 70, 71, 72, 73, 74, 75, 76, 77, 78, 79, 80, 81, 82, 83, 84, 85, 86, 87, 88, 89, 90, 91, 92, 93, 94, 95, 96, 97, 98, 99, 100, 101, 102, 103] (by decide +kernel) (by decide +kernel)
set_option maxRecDepth 20000 in
theorem gX5_bestSet_X5_reckon : GoodIn wsX5_bestSet (wsV RX5 174 RX5 yX5_reckon wsX5_reckon) := goodIn_app (goodIn_of _ (by decide +kernel)) ggX5_bestSet_X5_reckon
set_option maxRecDepth 20000 in
theorem ggX5_bestSet_X5_gives : GoodIn wsX5_bestSet wsX5_gives := goodIn_r _ [69, 53, 70, 71, 72, 73, 74, 75, 76, 77, 78, 79, 80, 81, 82, 83, 84, 85, 86, 87, 88, 89, 90, 91, 92, 93, 94, 95, 96, 97, 98, 99, 100, 101, 102, 103] (by decide +kernel) (by decide +kernel)
set_option maxRecDepth 20000 in
theorem gX5_bestSet_X5_gives : GoodIn wsX5_bestSet (wsV RX5 177 RX5 yX5_gives wsX5_gives) := goodIn_app (goodIn_of _ (by decide +kernel)) ggX5_bestSet_X5_gives
theorem dX5_bestSet_0 : decode cX5_bestSet 0 = .ok (.aload_n 0, 1) := by decide +kernel
theorem dX5_bestSet_1 : decode cX5_bestSet 1 = .ok (.iload_n 1, 1) := by decide +kernel
theorem dX5_bestSet_2 : decode cX5_bestSet 2 = .ok (.invokevirtual 161, 3) := by decide +kernel
theorem dX5_bestSet_5 : decode cX5_bestSet 5 = .ok (.iconst 0, 1) := by decide +kernel
theorem dX5_bestSet_6 : decode cX5_bestSet 6 = .ok (.istore_n 2, 1) := by decide +kernel
theorem dX5_bestSet_7 : decode cX5_bestSet 7 = .ok (.iconst 0, 1) := by decide +kernel
theorem dX5_bestSet_8 : decode cX5_bestSet 8 = .ok (.istore_n 3, 1) := by decide +kernel
theorem dX5_bestSet_9 : decode cX5_bestSet 9 = .ok (.iload_n 3, 1) := by decide +kernel
theorem dX5_bestSet_10 : decode cX5_bestSet 10 = .ok (.aload_n 0, 1) := by decide +kernel
theorem dX5_bestSet_11 : decode cX5_bestSet 11 = .ok (.getfield 122, 3) := by decide +kernel
theorem dX5_bestSet_14 : decode cX5_bestSet 14 = .ok (.if_icmp .ge 36, 3) := by decide +kernel
theorem dX5_bestSet_17 : decode cX5_bestSet 17 = .ok (.iload_n 2, 1) := by decide +kernel
theorem dX5_bestSet_18 : decode cX5_bestSet 18 = .ok (.bipush 8, 2) := by decide +kernel
theorem dX5_bestSet_20 : decode cX5_bestSet 20 = .ok (.if_icmp .ge 30, 3) := by decide +kernel
theorem dX5_bestSet_23 : decode cX5_bestSet 23 = .ok (.aload_n 0, 1) := by decide +kernel
theorem dX5_bestSet_24 : decode cX5_bestSet 24 = .ok (.iload_n 3, 1) := by decide +kernel
theorem dX5_bestSet_25 : decode cX5_bestSet 25 = .ok (.invokevirtual 139, 3) := by decide +kernel
theorem dX5_bestSet_28 : decode cX5_bestSet 28 = .ok (.ifCond .ne 6, 3) := by decide +kernel
theorem dX5_bestSet_31 : decode cX5_bestSet 31 = .ok (.goto 13, 3) := by decide +kernel
theorem dX5_bestSet_34 : decode cX5_bestSet 34 = .ok (.aload_n 0, 1) := by decide +kernel
theorem dX5_bestSet_35 : decode cX5_bestSet 35 = .ok (.getfield 77, 3) := by decide +kernel
theorem dX5_bestSet_38 : decode cX5_bestSet 38 = .ok (.iload_n 2, 1) := by decide +kernel
theorem dX5_bestSet_39 : decode cX5_bestSet 39 = .ok (.iload_n 3, 1) := by decide +kernel
theorem dX5_bestSet_40 : decode cX5_bestSet 40 = .ok (.iastore, 1) := by decide +kernel
theorem dX5_bestSet_41 : decode cX5_bestSet 41 = .ok (.iinc 2 1, 3) := by decide +kernel
theorem dX5_bestSet_44 : decode cX5_bestSet 44 = .ok (.iinc 3 1, 3) := by decide +kernel
theorem dX5_bestSet_47 : decode cX5_bestSet 47 = .ok (.goto (-38), 3) := by decide +kernel
theorem dX5_bestSet_50 : decode cX5_bestSet 50 = .ok (.iconst 0, 1) := by decide +kernel
theorem dX5_bestSet_51 : decode cX5_bestSet 51 = .ok (.istore_n 3, 1) := by decide +kernel
theorem dX5_bestSet_52 : decode cX5_bestSet 52 = .ok (.iconst 1, 1) := by decide +kernel
theorem dX5_bestSet_53 : decode cX5_bestSet 53 = .ok (.istore 4, 2) := by decide +kernel
theorem dX5_bestSet_55 : decode cX5_bestSet 55 = .ok (.iload 4, 2) := by decide +kernel
theorem dX5_bestSet_57 : decode cX5_bestSet 57 = .ok (.iconst 1, 1) := by decide +kernel
theorem dX5_bestSet_58 : decode cX5_bestSet 58 = .ok (.iload_n 2, 1) := by decide +kernel
theorem dX5_bestSet_59 : decode cX5_bestSet 59 = .ok (.ishl, 1) := by decide +kernel
theorem dX5_bestSet_60 : decode cX5_bestSet 60 = .ok (.if_icmp .ge 90, 3) := by decide +kernel
theorem dX5_bestSet_63 : decode cX5_bestSet 63 = .ok (.iload_n 3, 1) := by decide +kernel
theorem dX5_bestSet_64 : decode cX5_bestSet 64 = .ok (.ifCond .eq 36, 3) := by decide +kernel
theorem dX5_bestSet_67 : decode cX5_bestSet 67 = .ok (.iload 4, 2) := by decide +kernel
theorem dX5_bestSet_69 : decode cX5_bestSet 69 = .ok (.invokestatic 165, 3) := by decide +kernel
theorem dX5_bestSet_72 : decode cX5_bestSet 72 = .ok (.iload_n 3, 1) := by decide +kernel
theorem dX5_bestSet_73 : decode cX5_bestSet 73 = .ok (.invokestatic 165, 3) := by decide +kernel
theorem dX5_bestSet_76 : decode cX5_bestSet 76 = .ok (.if_icmp .lt 24, 3) := by decide +kernel
theorem dX5_bestSet_79 : decode cX5_bestSet 79 = .ok (.iload 4, 2) := by decide +kernel
theorem dX5_bestSet_81 : decode cX5_bestSet 81 = .ok (.invokestatic 165, 3) := by decide +kernel
theorem dX5_bestSet_84 : decode cX5_bestSet 84 = .ok (.iload_n 3, 1) := by decide +kernel
theorem dX5_bestSet_85 : decode cX5_bestSet 85 = .ok (.invokestatic 165, 3) := by decide +kernel
theorem dX5_bestSet_88 : decode cX5_bestSet 88 = .ok (.if_icmp .ne 16, 3) := by decide +kernel
theorem dX5_bestSet_91 : decode cX5_bestSet 91 = .ok (.iload 4, 2) := by decide +kernel
theorem dX5_bestSet_93 : decode cX5_bestSet 93 = .ok (.iload_n 3, 1) := by decide +kernel
theorem dX5_bestSet_94 : decode cX5_bestSet 94 = .ok (.invokestatic 168, 3) := by decide +kernel
theorem dX5_bestSet_97 : decode cX5_bestSet 97 = .ok (.ifCond .eq 7, 3) := by decide +kernel
theorem dX5_bestSet_100 : decode cX5_bestSet 100 = .ok (.iconst 1, 1) := by decide +kernel
theorem dX5_bestSet_101 : decode cX5_bestSet 101 = .ok (.goto 4, 3) := by decide +kernel
theorem dX5_bestSet_104 : decode cX5_bestSet 104 = .ok (.iconst 0, 1) := by decide +kernel
theorem dX5_bestSet_105 : decode cX5_bestSet 105 = .ok (.istore 5, 2) := by decide +kernel
theorem dX5_bestSet_107 : decode cX5_bestSet 107 = .ok (.iload 5, 2) := by decide +kernel
theorem dX5_bestSet_109 : decode cX5_bestSet 109 = .ok (.ifCond .ne 6, 3) := by decide +kernel
theorem dX5_bestSet_112 : decode cX5_bestSet 112 = .ok (.goto 32, 3) := by decide +kernel
theorem dX5_bestSet_115 : decode cX5_bestSet 115 = .ok (.aload_n 0, 1) := by decide +kernel
theorem dX5_bestSet_116 : decode cX5_bestSet 116 = .ok (.iload 4, 2) := by decide +kernel
theorem dX5_bestSet_118 : decode cX5_bestSet 118 = .ok (.invokevirtual 171, 3) := by decide +kernel
theorem dX5_bestSet_121 : decode cX5_bestSet 121 = .ok (.aload_n 0, 1) := by decide +kernel
theorem dX5_bestSet_122 : decode cX5_bestSet 122 = .ok (.invokevirtual 174, 3) := by decide +kernel
theorem dX5_bestSet_125 : decode cX5_bestSet 125 = .ok (.aload_n 0, 1) := by decide +kernel
theorem dX5_bestSet_126 : decode cX5_bestSet 126 = .ok (.iconst 0, 1) := by decide +kernel
theorem dX5_bestSet_127 : decode cX5_bestSet 127 = .ok (.aload_n 0, 1) := by decide +kernel
theorem dX5_bestSet_128 : decode cX5_bestSet 128 = .ok (.getfield 152, 3) := by decide +kernel
theorem dX5_bestSet_131 : decode cX5_bestSet 131 = .ok (.aload_n 0, 1) := by decide +kernel
theorem dX5_bestSet_132 : decode cX5_bestSet 132 = .ok (.getfield 149, 3) := by decide +kernel
theorem dX5_bestSet_135 : decode cX5_bestSet 135 = .ok (.invokevirtual 177, 3) := by decide +kernel
theorem dX5_bestSet_138 : decode cX5_bestSet 138 = .ok (.ifCond .eq 6, 3) := by decide +kernel
theorem dX5_bestSet_141 : decode cX5_bestSet 141 = .ok (.iload 4, 2) := by decide +kernel
theorem dX5_bestSet_143 : decode cX5_bestSet 143 = .ok (.istore_n 3, 1) := by decide +kernel
theorem dX5_bestSet_144 : decode cX5_bestSet 144 = .ok (.iinc 4 1, 3) := by decide +kernel
theorem dX5_bestSet_147 : decode cX5_bestSet 147 = .ok (.goto (-92), 3) := by decide +kernel
theorem dX5_bestSet_150 : decode cX5_bestSet 150 = .ok (.iload_n 3, 1) := by decide +kernel
theorem dX5_bestSet_151 : decode cX5_bestSet 151 = .ok (.ireturn, 1) := by decide +kernel
set_option maxRecDepth 20000 in
theorem ggX5_fewest_X5_isForm : GoodIn wsX5_fewest wsX5_isForm := goodIn_r _ [6, 7, 84, 85, 86, 87, 88, 89, 90, 91, 92, 93, 94, 95, 96, 97, 98, 99, 100, 101, 102, 103, 104, 105, 106, 107, 108, 109, 110, 111, 112, 113, 114, 115, 116, 117] (by decide +kernel) (by decide +kernel)
set_option maxRecDepth 20000 in
theorem gX5_fewest_X5_isForm : GoodIn wsX5_fewest (wsV RX5 90 RX5 yX5_isForm wsX5_isForm) := goodIn_app (goodIn_of _ (by decide +kernel)) ggX5_fewest_X5_isForm
set_option maxRecDepth 20000 in
theorem ggX5_fewest_X5_fail : GoodIn wsX5_fewest wsX5_fail := goodIn_r _ [11, 1, 84, 85, 86, 87, 88, 89, 90, 91, 92, 93, 94, 95, 96, 97, 98, 99, 100, 101, 102, 103, 104, 105, 106, 107, 108, 109, 110, 111, 112, 113, 114, 115, 116, 117] (by decide +kernel) (by decide +kernel)
set_option maxRecDepth 20000 in
theorem gX5_fewest_X5_fail : GoodIn wsX5_fewest (wsV RX5 94 RX5 yX5_fail wsX5_fail) := goodIn_app (goodIn_of _ (by decide +kernel)) ggX5_fewest_X5_fail
set_option maxRecDepth 20000 in
theorem ggX5_fewest_X5_bestSet : GoodIn wsX5_fewest wsX5_bestSet := goodIn_r _ [15, 16, 17, 18, 19, 20, 21, 22, 5, 23, 24, 25, 26, 27, 28, 29, 30, 31, 32, 33, 34, 35, 36, 37, 38, 39, 40, 41, 42, 43, 44, 45, 46, 47, 48, 49, 50, 51, 52, 53, 54, 55, 56, 57, 58, 59, 60, 61, 62, 63, 64, 65, 66, 67, 68, 69, 70, 71, 72, 73, 74, 75, 76, 77, 78, 79, 80, 81, 82, 83, 84, 85, 86, 87, 88, 89, 90, 91, 92, 93, 94, 95, 96, 97, 98, 99, 100, 101, 102, 103, 104, 105, 106, 107, 108, 109, 110, 111, 112, 113, 114, 115, 116, 117] (by decide +kernel) (by decide +kernel)
set_option maxRecDepth 20000 in
theorem gX5_fewest_X5_bestSet : GoodIn wsX5_fewest (wsV RX5 181 RX5 yX5_bestSet wsX5_bestSet) := goodIn_app (goodIn_of _ (by decide +kernel)) ggX5_fewest_X5_bestSet
set_option maxRecDepth 20000 in
theorem ggX5_fewest_X5_ones : GoodIn wsX5_fewest wsX5_ones := goodIn_r _ [51] (by decide +kernel) (by decide +kernel)
set_option maxRecDepth 20000 in
theorem gX5_fewest_X5_ones : GoodIn wsX5_fewest (va_wsS RX5 165 yX5_ones wsX5_ones) := goodIn_app (goodIn_of _ (by decide +kernel)) ggX5_fewest_X5_ones
theorem dX5_fewest_0 : decode cX5_fewest 0 = .ok (.aload_n 0, 1) := by decide +kernel
theorem dX5_fewest_1 : decode cX5_fewest 1 = .ok (.iconst 0, 1) := by decide +kernel
theorem dX5_fewest_2 : decode cX5_fewest 2 = .ok (.putfield 83, 3) := by decide +kernel
theorem dX5_fewest_5 : decode cX5_fewest 5 = .ok (.aload_n 0, 1) := by decide +kernel
theorem dX5_fewest_6 : decode cX5_fewest 6 = .ok (.iload_n 1, 1) := by decide +kernel
theorem dX5_fewest_7 : decode cX5_fewest 7 = .ok (.invokevirtual 90, 3) := by decide +kernel
theorem dX5_fewest_10 : decode cX5_fewest 10 = .ok (.ifCond .ne 9, 3) := by decide +kernel
theorem dX5_fewest_13 : decode cX5_fewest 13 = .ok (.aload_n 0, 1) := by decide +kernel
theorem dX5_fewest_14 : decode cX5_fewest 14 = .ok (.iconst 1, 1) := by decide +kernel
theorem dX5_fewest_15 : decode cX5_fewest 15 = .ok (.invokevirtual 94, 3) := by decide +kernel
theorem dX5_fewest_18 : decode cX5_fewest 18 = .ok (.ireturn, 1) := by decide +kernel
theorem dX5_fewest_19 : decode cX5_fewest 19 = .ok (.aload_n 0, 1) := by decide +kernel
theorem dX5_fewest_20 : decode cX5_fewest 20 = .ok (.iload_n 1, 1) := by decide +kernel
theorem dX5_fewest_21 : decode cX5_fewest 21 = .ok (.invokevirtual 181, 3) := by decide +kernel
theorem dX5_fewest_24 : decode cX5_fewest 24 = .ok (.istore_n 2, 1) := by decide +kernel
theorem dX5_fewest_25 : decode cX5_fewest 25 = .ok (.iload_n 2, 1) := by decide +kernel
theorem dX5_fewest_26 : decode cX5_fewest 26 = .ok (.ifCond .ne 7, 3) := by decide +kernel
theorem dX5_fewest_29 : decode cX5_fewest 29 = .ok (.iconst (-1), 1) := by decide +kernel
theorem dX5_fewest_30 : decode cX5_fewest 30 = .ok (.goto 7, 3) := by decide +kernel
theorem dX5_fewest_33 : decode cX5_fewest 33 = .ok (.iload_n 2, 1) := by decide +kernel
theorem dX5_fewest_34 : decode cX5_fewest 34 = .ok (.invokestatic 165, 3) := by decide +kernel
theorem dX5_fewest_37 : decode cX5_fewest 37 = .ok (.ireturn, 1) := by decide +kernel
set_option maxRecDepth 20000 in
theorem ggX5_make_X5_isForm : GoodIn wsX5_make wsX5_isForm := goodIn_r _ [26, 27, 98, 99, 100, 101, 102, 103, 104, 105, 106, 107, 108, 109, 110, 111, 112, 113, 114, 115, 116, 117, 118, 119, 120, 121, 122, 123, 124, 125, 126, 127, 128, 129, 130, 131] (by decide +kernel) (by decide +kernel)
set_option maxRecDepth 20000 in
theorem gX5_make_X5_isForm : GoodIn wsX5_make (wsV RX5 90 RX5 yX5_isForm wsX5_isForm) := goodIn_app (goodIn_of _ (by decide +kernel)) ggX5_make_X5_isForm
set_option maxRecDepth 20000 in
theorem ggX5_make_X5_fail : GoodIn wsX5_make wsX5_fail := goodIn_r _ [31, 1, 98, 99, 100, 101, 102, 103, 104, 105, 106, 107, 108, 109, 110, 111, 112, 113, 114, 115, 116, 117, 118, 119, 120, 121, 122, 123, 124, 125, 126, 127, 128, 129, 130, 131] (by decide +kernel) (by decide +kernel)
set_option maxRecDepth 20000 in
theorem gX5_make_X5_fail : GoodIn wsX5_make (wsV RX5 94 RX5 yX5_fail wsX5_fail) := goodIn_app (goodIn_of _ (by decide +kernel)) ggX5_make_X5_fail
set_option maxRecDepth 20000 in
theorem ggX5_make_X5_bestSet : GoodIn wsX5_make wsX5_bestSet := goodIn_r _ [35, 15, 36, 3, 4, 37, 38, 39, 25, 40, 17, 41, 16, 7, 8, 9, 10, 11, 6, 42, 43, 44, 45, 46, 47, 48, 49, 50, 51, 52, 53, 54, 55, 56, 57, 58, 59, 60, 61, 62, 63, 64, 65, 66, 67, 5, 68, 13, 14, 69, 70, 71, 72, 73, 74, 75, 76, 77, 78, 79, 80, 81, 82, 83, 84, 85, 86, 87, 88, 89, 98, 99, 100, 101, 102, 103, 104, 105, 106, 107, 108, 109, 110, 111, 112, 113, 114, 115, 116, 117, 118, 119, 120, 121, 122, 123, 124, 125, 126, 127, 128, 129, 130, 131] (by decide +kernel) (by decide +kernel)
set_option maxRecDepth 20000 in
theorem gX5_make_X5_bestSet : GoodIn wsX5_make (wsV RX5 181 RX5 yX5_bestSet wsX5_bestSet) := goodIn_app (goodIn_of _ (by decide +kernel)) ggX5_make_X5_bestSet
set_option maxRecDepth 20000 in
theorem ggX5_make_X5_take : GoodIn wsX5_make wsX5_take := goodIn_r _ [67, 5, 68, 36, 13, 14, 98, 99, 100, 101, 102, 103, 104, 105, 106, 107, 108, 109, 110, 111, 112, 113, 114, 115, 116, 117, 118, 119, 120, 121, 122, 123, 124, 125, 126, 127, 128, 129, 130, 131] (by decide +kernel) (by decide +kernel)
set_option maxRecDepth 20000 in
theorem gX5_make_X5_take : GoodIn wsX5_make (wsV RX5 171 RX5 yX5_take wsX5_take) := goodIn_app (goodIn_of _ (by decide +kernel)) ggX5_make_X5_take
set_option maxRecDepth 20000 in
theorem ggX5_make_X5_reckon : GoodIn wsX5_make wsX5_reckon := goodIn_r _ [72, 3, 73, 5, 6, 11, 74, 75, 9, 76, 77, 78, 79, 25, 80, 13, 14, 81, 82, 83, 84, 85, 98, 99, 100, 101, 102, 103, 104, 105, 106, 107, 108, 109, 110, 111, 112, 113, 114, 115, 116, 117, 118, 119, 120, 121, 122, 123, 124, 125, 126, 127, 128, 129, 130, 131] (by decide +kernel) (by decide +kernel)
set_option maxRecDepth 20000 in
theorem gX5_make_X5_reckon : GoodIn wsX5_make (wsV RX5 174 RX5 yX5_reckon wsX5_reckon) := goodIn_app (goodIn_of _ (by decide +kernel)) ggX5_make_X5_reckon
set_option maxRecDepth 20000 in
theorem ggX5_make_X5_length : GoodIn wsX5_make wsX5_length := goodIn_r _ [80, 13, 14, 81, 82, 83, 84, 25, 85, 98, 99, 100, 101, 102, 103, 104, 105, 106, 107, 108, 109, 110, 111, 112, 113, 114, 115, 116, 117, 118, 119, 120, 121, 122, 123, 124, 125, 126, 127, 128, 129, 130, 131] (by decide +kernel) (by decide +kernel)
set_option maxRecDepth 20000 in
theorem gX5_make_X5_length : GoodIn wsX5_make (wsV RX5 158 RX5 yX5_length wsX5_length) := goodIn_app (goodIn_of _ (by decide +kernel)) ggX5_make_X5_length
set_option maxRecDepth 20000 in
theorem ggX5_make_X5_gives : GoodIn wsX5_make wsX5_gives := goodIn_r _ [89, 73, 98, 99, 100, 101, 102, 103, 104, 105, 106, 107, 108, 109, 110, 111, 112, 113, 114, 115, 116, 117, 118, 119, 120, 121, 122, 123, 124, 125, 126, 127, 128, 129, 130, 131] (by decide +kernel) (by decide +kernel)
set_option maxRecDepth 20000 in
theorem gX5_make_X5_gives : GoodIn wsX5_make (wsV RX5 177 RX5 yX5_gives wsX5_gives) := goodIn_app (goodIn_of _ (by decide +kernel)) ggX5_make_X5_gives
set_option maxRecDepth 20000 in
theorem ggX5_make_X5_cut : GoodIn wsX5_make wsX5_cut := goodIn_r _ [93, 82, 83, 84, 25, 85, 98, 99, 100, 101, 102, 103, 104, 105, 106, 107, 108, 109, 110, 111, 112, 113, 114, 115, 116, 117, 118, 119, 120, 121, 122, 123, 124, 125, 126, 127, 128, 129, 130, 131] (by decide +kernel) (by decide +kernel)
set_option maxRecDepth 20000 in
theorem gX5_make_X5_cut : GoodIn wsX5_make (wsV RX5 187 RX5 yX5_cut wsX5_cut) := goodIn_app (goodIn_of _ (by decide +kernel)) ggX5_make_X5_cut
set_option maxRecDepth 20000 in
theorem ggX5_make_X5_tidy : GoodIn wsX5_make wsX5_tidy := goodIn_r _ [97, 68, 82, 81, 83, 84, 25, 85, 98, 99, 100, 101, 102, 103, 104, 105, 106, 107, 108, 109, 110, 111, 112, 113, 114, 115, 116, 117, 118, 119, 120, 121, 122, 123, 124, 125, 126, 127, 128, 129, 130, 131] (by decide +kernel) (by decide +kernel)
set_option maxRecDepth 20000 in
theorem gX5_make_X5_tidy : GoodIn wsX5_make (wsV RX5 191 RX5 yX5_tidy wsX5_tidy) := goodIn_app (goodIn_of _ (by decide +kernel)) ggX5_make_X5_tidy
set_option maxRecDepth 20000 in
theorem ggX5_make_X5_widthOf : GoodIn wsX5_make wsX5_widthOf := goodIn_r _ [45, 16, 46, 47, 48, 25, 49, 17, 50, 51, 98, 99, 100, 101, 102, 103, 104, 105, 106, 107, 108, 109, 110, 111, 112, 113, 114, 115, 116, 117, 118, 119, 120, 121, 122, 123, 124, 125, 126, 127, 128, 129, 130, 131] (by decide +kernel) (by decide +kernel)
set_option maxRecDepth 20000 in
theorem gX5_make_X5_widthOf : GoodIn wsX5_make (wsV RX5 106 RX5 yX5_widthOf wsX5_widthOf) := goodIn_app (goodIn_of _ (by decide +kernel)) ggX5_make_X5_widthOf
theorem dX5_make_0 : decode cX5_make 0 = .ok (.aload_n 0, 1) := by decide +kernel
theorem dX5_make_1 : decode cX5_make 1 = .ok (.iconst 0, 1) := by decide +kernel
theorem dX5_make_2 : decode cX5_make 2 = .ok (.putfield 83, 3) := by decide +kernel
theorem dX5_make_5 : decode cX5_make 5 = .ok (.aload_n 0, 1) := by decide +kernel
theorem dX5_make_6 : decode cX5_make 6 = .ok (.iload_n 1, 1) := by decide +kernel
theorem dX5_make_7 : decode cX5_make 7 = .ok (.invokevirtual 90, 3) := by decide +kernel
theorem dX5_make_10 : decode cX5_make 10 = .ok (.ifCond .ne 9, 3) := by decide +kernel
theorem dX5_make_13 : decode cX5_make 13 = .ok (.aload_n 0, 1) := by decide +kernel
theorem dX5_make_14 : decode cX5_make 14 = .ok (.iconst 1, 1) := by decide +kernel
theorem dX5_make_15 : decode cX5_make 15 = .ok (.invokevirtual 94, 3) := by decide +kernel
theorem dX5_make_18 : decode cX5_make 18 = .ok (.ireturn, 1) := by decide +kernel
theorem dX5_make_19 : decode cX5_make 19 = .ok (.aload_n 0, 1) := by decide +kernel
theorem dX5_make_20 : decode cX5_make 20 = .ok (.getfield 184, 3) := by decide +kernel
theorem dX5_make_23 : decode cX5_make 23 = .ok (.bipush 30, 2) := by decide +kernel
theorem dX5_make_25 : decode cX5_make 25 = .ok (.if_icmp .ne 5, 3) := by decide +kernel
theorem dX5_make_28 : decode cX5_make 28 = .ok (.iconst (-1), 1) := by decide +kernel
theorem dX5_make_29 : decode cX5_make 29 = .ok (.ireturn, 1) := by decide +kernel
theorem dX5_make_30 : decode cX5_make 30 = .ok (.aload_n 0, 1) := by decide +kernel
theorem dX5_make_31 : decode cX5_make 31 = .ok (.iload_n 1, 1) := by decide +kernel
theorem dX5_make_32 : decode cX5_make 32 = .ok (.invokevirtual 181, 3) := by decide +kernel
theorem dX5_make_35 : decode cX5_make 35 = .ok (.istore_n 2, 1) := by decide +kernel
theorem dX5_make_36 : decode cX5_make 36 = .ok (.iload_n 2, 1) := by decide +kernel
theorem dX5_make_37 : decode cX5_make 37 = .ok (.ifCond .ne 5, 3) := by decide +kernel
theorem dX5_make_40 : decode cX5_make 40 = .ok (.iconst (-1), 1) := by decide +kernel
theorem dX5_make_41 : decode cX5_make 41 = .ok (.ireturn, 1) := by decide +kernel
theorem dX5_make_42 : decode cX5_make 42 = .ok (.aload_n 0, 1) := by decide +kernel
theorem dX5_make_43 : decode cX5_make 43 = .ok (.iload_n 2, 1) := by decide +kernel
theorem dX5_make_44 : decode cX5_make 44 = .ok (.invokevirtual 171, 3) := by decide +kernel
theorem dX5_make_47 : decode cX5_make 47 = .ok (.aload_n 0, 1) := by decide +kernel
theorem dX5_make_48 : decode cX5_make 48 = .ok (.invokevirtual 174, 3) := by decide +kernel
theorem dX5_make_51 : decode cX5_make 51 = .ok (.aload_n 0, 1) := by decide +kernel
theorem dX5_make_52 : decode cX5_make 52 = .ok (.getfield 152, 3) := by decide +kernel
theorem dX5_make_55 : decode cX5_make 55 = .ok (.istore_n 3, 1) := by decide +kernel
theorem dX5_make_56 : decode cX5_make 56 = .ok (.aload_n 0, 1) := by decide +kernel
theorem dX5_make_57 : decode cX5_make 57 = .ok (.getfield 149, 3) := by decide +kernel
theorem dX5_make_60 : decode cX5_make 60 = .ok (.istore 4, 2) := by decide +kernel
theorem dX5_make_62 : decode cX5_make 62 = .ok (.iconst 0, 1) := by decide +kernel
theorem dX5_make_63 : decode cX5_make 63 = .ok (.istore 5, 2) := by decide +kernel
theorem dX5_make_65 : decode cX5_make 65 = .ok (.iconst 0, 1) := by decide +kernel
theorem dX5_make_66 : decode cX5_make 66 = .ok (.istore 6, 2) := by decide +kernel
theorem dX5_make_68 : decode cX5_make 68 = .ok (.iconst 0, 1) := by decide +kernel
theorem dX5_make_69 : decode cX5_make 69 = .ok (.istore 7, 2) := by decide +kernel
theorem dX5_make_71 : decode cX5_make 71 = .ok (.iload 7, 2) := by decide +kernel
theorem dX5_make_73 : decode cX5_make 73 = .ok (.aload_n 0, 1) := by decide +kernel
theorem dX5_make_74 : decode cX5_make 74 = .ok (.getfield 155, 3) := by decide +kernel
theorem dX5_make_77 : decode cX5_make 77 = .ok (.if_icmp .ge 232, 3) := by decide +kernel
theorem dX5_make_80 : decode cX5_make 80 = .ok (.iload_n 3, 1) := by decide +kernel
theorem dX5_make_81 : decode cX5_make 81 = .ok (.aload_n 0, 1) := by decide +kernel
theorem dX5_make_82 : decode cX5_make 82 = .ok (.iload 7, 2) := by decide +kernel
theorem dX5_make_84 : decode cX5_make 84 = .ok (.invokevirtual 158, 3) := by decide +kernel
theorem dX5_make_87 : decode cX5_make 87 = .ok (.aload_n 0, 1) := by decide +kernel
theorem dX5_make_88 : decode cX5_make 88 = .ok (.getfield 146, 3) := by decide +kernel
theorem dX5_make_91 : decode cX5_make 91 = .ok (.idiv, 1) := by decide +kernel
theorem dX5_make_92 : decode cX5_make 92 = .ok (.invokestatic 131, 3) := by decide +kernel
theorem dX5_make_95 : decode cX5_make 95 = .ok (.istore 8, 2) := by decide +kernel
theorem dX5_make_97 : decode cX5_make 97 = .ok (.iload 4, 2) := by decide +kernel
theorem dX5_make_99 : decode cX5_make 99 = .ok (.aload_n 0, 1) := by decide +kernel
theorem dX5_make_100 : decode cX5_make 100 = .ok (.iload 7, 2) := by decide +kernel
theorem dX5_make_102 : decode cX5_make 102 = .ok (.invokevirtual 158, 3) := by decide +kernel
theorem dX5_make_105 : decode cX5_make 105 = .ok (.iload 8, 2) := by decide +kernel
theorem dX5_make_107 : decode cX5_make 107 = .ok (.aload_n 0, 1) := by decide +kernel
theorem dX5_make_108 : decode cX5_make 108 = .ok (.getfield 146, 3) := by decide +kernel
theorem dX5_make_111 : decode cX5_make 111 = .ok (.imul, 1) := by decide +kernel
theorem dX5_make_112 : decode cX5_make 112 = .ok (.isub, 1) := by decide +kernel
theorem dX5_make_113 : decode cX5_make 113 = .ok (.aload_n 0, 1) := by decide +kernel
theorem dX5_make_114 : decode cX5_make 114 = .ok (.getfield 143, 3) := by decide +kernel
theorem dX5_make_117 : decode cX5_make 117 = .ok (.idiv, 1) := by decide +kernel
theorem dX5_make_118 : decode cX5_make 118 = .ok (.invokestatic 131, 3) := by decide +kernel
theorem dX5_make_121 : decode cX5_make 121 = .ok (.istore 9, 2) := by decide +kernel
theorem dX5_make_123 : decode cX5_make 123 = .ok (.aload_n 0, 1) := by decide +kernel
theorem dX5_make_124 : decode cX5_make 124 = .ok (.iload 7, 2) := by decide +kernel
theorem dX5_make_126 : decode cX5_make 126 = .ok (.iconst 1, 1) := by decide +kernel
theorem dX5_make_127 : decode cX5_make 127 = .ok (.iadd, 1) := by decide +kernel
theorem dX5_make_128 : decode cX5_make 128 = .ok (.iload_n 3, 1) := by decide +kernel
theorem dX5_make_129 : decode cX5_make 129 = .ok (.iload 8, 2) := by decide +kernel
theorem dX5_make_131 : decode cX5_make 131 = .ok (.isub, 1) := by decide +kernel
theorem dX5_make_132 : decode cX5_make 132 = .ok (.iload 4, 2) := by decide +kernel
theorem dX5_make_134 : decode cX5_make 134 = .ok (.iload 9, 2) := by decide +kernel
theorem dX5_make_136 : decode cX5_make 136 = .ok (.isub, 1) := by decide +kernel
theorem dX5_make_137 : decode cX5_make 137 = .ok (.invokevirtual 177, 3) := by decide +kernel
theorem dX5_make_140 : decode cX5_make 140 = .ok (.ifCond .ne 35, 3) := by decide +kernel
theorem dX5_make_143 : decode cX5_make 143 = .ok (.iinc 8 (-1), 3) := by decide +kernel
theorem dX5_make_146 : decode cX5_make 146 = .ok (.iload 4, 2) := by decide +kernel
theorem dX5_make_148 : decode cX5_make 148 = .ok (.aload_n 0, 1) := by decide +kernel
theorem dX5_make_149 : decode cX5_make 149 = .ok (.iload 7, 2) := by decide +kernel
theorem dX5_make_151 : decode cX5_make 151 = .ok (.invokevirtual 158, 3) := by decide +kernel
theorem dX5_make_154 : decode cX5_make 154 = .ok (.iload 8, 2) := by decide +kernel
theorem dX5_make_156 : decode cX5_make 156 = .ok (.aload_n 0, 1) := by decide +kernel
theorem dX5_make_157 : decode cX5_make 157 = .ok (.getfield 146, 3) := by decide +kernel
theorem dX5_make_160 : decode cX5_make 160 = .ok (.imul, 1) := by decide +kernel
theorem dX5_make_161 : decode cX5_make 161 = .ok (.isub, 1) := by decide +kernel
theorem dX5_make_162 : decode cX5_make 162 = .ok (.aload_n 0, 1) := by decide +kernel
theorem dX5_make_163 : decode cX5_make 163 = .ok (.getfield 143, 3) := by decide +kernel
theorem dX5_make_166 : decode cX5_make 166 = .ok (.idiv, 1) := by decide +kernel
theorem dX5_make_167 : decode cX5_make 167 = .ok (.invokestatic 131, 3) := by decide +kernel
theorem dX5_make_170 : decode cX5_make 170 = .ok (.istore 9, 2) := by decide +kernel
theorem dX5_make_172 : decode cX5_make 172 = .ok (.goto (-49), 3) := by decide +kernel
theorem dX5_make_175 : decode cX5_make 175 = .ok (.iconst 0, 1) := by decide +kernel
theorem dX5_make_176 : decode cX5_make 176 = .ok (.istore 10, 2) := by decide +kernel
theorem dX5_make_178 : decode cX5_make 178 = .ok (.iload 10, 2) := by decide +kernel
theorem dX5_make_180 : decode cX5_make 180 = .ok (.iload 8, 2) := by decide +kernel
theorem dX5_make_182 : decode cX5_make 182 = .ok (.if_icmp .ge 26, 3) := by decide +kernel
theorem dX5_make_185 : decode cX5_make 185 = .ok (.aload_n 0, 1) := by decide +kernel
theorem dX5_make_186 : decode cX5_make 186 = .ok (.getfield 80, 3) := by decide +kernel
theorem dX5_make_189 : decode cX5_make 189 = .ok (.iload 5, 2) := by decide +kernel
theorem dX5_make_191 : decode cX5_make 191 = .ok (.iload 10, 2) := by decide +kernel
theorem dX5_make_193 : decode cX5_make 193 = .ok (.iadd, 1) := by decide +kernel
theorem dX5_make_194 : decode cX5_make 194 = .ok (.aload_n 0, 1) := by decide +kernel
theorem dX5_make_195 : decode cX5_make 195 = .ok (.getfield 62, 3) := by decide +kernel
theorem dX5_make_198 : decode cX5_make 198 = .ok (.iload 7, 2) := by decide +kernel
theorem dX5_make_200 : decode cX5_make 200 = .ok (.iaload, 1) := by decide +kernel
theorem dX5_make_201 : decode cX5_make 201 = .ok (.iastore, 1) := by decide +kernel
theorem dX5_make_202 : decode cX5_make 202 = .ok (.iinc 10 1, 3) := by decide +kernel
theorem dX5_make_205 : decode cX5_make 205 = .ok (.goto (-27), 3) := by decide +kernel
theorem dX5_make_208 : decode cX5_make 208 = .ok (.iconst 0, 1) := by decide +kernel
theorem dX5_make_209 : decode cX5_make 209 = .ok (.istore 10, 2) := by decide +kernel
theorem dX5_make_211 : decode cX5_make 211 = .ok (.iload 10, 2) := by decide +kernel
theorem dX5_make_213 : decode cX5_make 213 = .ok (.iload 9, 2) := by decide +kernel
theorem dX5_make_215 : decode cX5_make 215 = .ok (.if_icmp .ge 29, 3) := by decide +kernel
theorem dX5_make_218 : decode cX5_make 218 = .ok (.aload_n 0, 1) := by decide +kernel
theorem dX5_make_219 : decode cX5_make 219 = .ok (.getfield 80, 3) := by decide +kernel
theorem dX5_make_222 : decode cX5_make 222 = .ok (.bipush 40, 2) := by decide +kernel
theorem dX5_make_224 : decode cX5_make 224 = .ok (.iload 6, 2) := by decide +kernel
theorem dX5_make_226 : decode cX5_make 226 = .ok (.iadd, 1) := by decide +kernel
theorem dX5_make_227 : decode cX5_make 227 = .ok (.iload 10, 2) := by decide +kernel
theorem dX5_make_229 : decode cX5_make 229 = .ok (.iadd, 1) := by decide +kernel
theorem dX5_make_230 : decode cX5_make 230 = .ok (.aload_n 0, 1) := by decide +kernel
theorem dX5_make_231 : decode cX5_make 231 = .ok (.getfield 62, 3) := by decide +kernel
theorem dX5_make_234 : decode cX5_make 234 = .ok (.iload 7, 2) := by decide +kernel
theorem dX5_make_236 : decode cX5_make 236 = .ok (.iaload, 1) := by decide +kernel
theorem dX5_make_237 : decode cX5_make 237 = .ok (.iastore, 1) := by decide +kernel
theorem dX5_make_238 : decode cX5_make 238 = .ok (.iinc 10 1, 3) := by decide +kernel
theorem dX5_make_241 : decode cX5_make 241 = .ok (.goto (-30), 3) := by decide +kernel
theorem dX5_make_244 : decode cX5_make 244 = .ok (.iload 5, 2) := by decide +kernel
theorem dX5_make_246 : decode cX5_make 246 = .ok (.iload 8, 2) := by decide +kernel
theorem dX5_make_248 : decode cX5_make 248 = .ok (.iadd, 1) := by decide +kernel
theorem dX5_make_249 : decode cX5_make 249 = .ok (.istore 5, 2) := by decide +kernel
theorem dX5_make_251 : decode cX5_make 251 = .ok (.iload 6, 2) := by decide +kernel
theorem dX5_make_253 : decode cX5_make 253 = .ok (.iload 9, 2) := by decide +kernel
theorem dX5_make_255 : decode cX5_make 255 = .ok (.iadd, 1) := by decide +kernel
theorem dX5_make_256 : decode cX5_make 256 = .ok (.istore 6, 2) := by decide +kernel
theorem dX5_make_258 : decode cX5_make 258 = .ok (.iload_n 3, 1) := by decide +kernel
theorem dX5_make_259 : decode cX5_make 259 = .ok (.iload 8, 2) := by decide +kernel
theorem dX5_make_261 : decode cX5_make 261 = .ok (.isub, 1) := by decide +kernel
theorem dX5_make_262 : decode cX5_make 262 = .ok (.istore_n 3, 1) := by decide +kernel
theorem dX5_make_263 : decode cX5_make 263 = .ok (.iload 4, 2) := by decide +kernel
theorem dX5_make_265 : decode cX5_make 265 = .ok (.iload 9, 2) := by decide +kernel
theorem dX5_make_267 : decode cX5_make 267 = .ok (.isub, 1) := by decide +kernel
theorem dX5_make_268 : decode cX5_make 268 = .ok (.istore 4, 2) := by decide +kernel
theorem dX5_make_270 : decode cX5_make 270 = .ok (.aload_n 0, 1) := by decide +kernel
theorem dX5_make_271 : decode cX5_make 271 = .ok (.aload_n 0, 1) := by decide +kernel
theorem dX5_make_272 : decode cX5_make 272 = .ok (.getfield 62, 3) := by decide +kernel
theorem dX5_make_275 : decode cX5_make 275 = .ok (.iload 7, 2) := by decide +kernel
theorem dX5_make_277 : decode cX5_make 277 = .ok (.iaload, 1) := by decide +kernel
theorem dX5_make_278 : decode cX5_make 278 = .ok (.aload_n 0, 1) := by decide +kernel
theorem dX5_make_279 : decode cX5_make 279 = .ok (.getfield 65, 3) := by decide +kernel
theorem dX5_make_282 : decode cX5_make 282 = .ok (.iload 7, 2) := by decide +kernel
theorem dX5_make_284 : decode cX5_make 284 = .ok (.iaload, 1) := by decide +kernel
theorem dX5_make_285 : decode cX5_make 285 = .ok (.iload 8, 2) := by decide +kernel
theorem dX5_make_287 : decode cX5_make 287 = .ok (.aload_n 0, 1) := by decide +kernel
theorem dX5_make_288 : decode cX5_make 288 = .ok (.getfield 146, 3) := by decide +kernel
theorem dX5_make_291 : decode cX5_make 291 = .ok (.imul, 1) := by decide +kernel
theorem dX5_make_292 : decode cX5_make 292 = .ok (.iload 9, 2) := by decide +kernel
theorem dX5_make_294 : decode cX5_make 294 = .ok (.aload_n 0, 1) := by decide +kernel
theorem dX5_make_295 : decode cX5_make 295 = .ok (.getfield 143, 3) := by decide +kernel
theorem dX5_make_298 : decode cX5_make 298 = .ok (.imul, 1) := by decide +kernel
theorem dX5_make_299 : decode cX5_make 299 = .ok (.iadd, 1) := by decide +kernel
theorem dX5_make_300 : decode cX5_make 300 = .ok (.invokevirtual 187, 3) := by decide +kernel
theorem dX5_make_303 : decode cX5_make 303 = .ok (.iinc 7 1, 3) := by decide +kernel
theorem dX5_make_306 : decode cX5_make 306 = .ok (.goto (-235), 3) := by decide +kernel
theorem dX5_make_309 : decode cX5_make 309 = .ok (.iconst 0, 1) := by decide +kernel
theorem dX5_make_310 : decode cX5_make 310 = .ok (.istore 7, 2) := by decide +kernel
theorem dX5_make_312 : decode cX5_make 312 = .ok (.iload 7, 2) := by decide +kernel
theorem dX5_make_314 : decode cX5_make 314 = .ok (.aload_n 0, 1) := by decide +kernel
theorem dX5_make_315 : decode cX5_make 315 = .ok (.getfield 122, 3) := by decide +kernel
theorem dX5_make_318 : decode cX5_make 318 = .ok (.if_icmp .ge 15, 3) := by decide +kernel
theorem dX5_make_321 : decode cX5_make 321 = .ok (.aload_n 0, 1) := by decide +kernel
theorem dX5_make_322 : decode cX5_make 322 = .ok (.iload 7, 2) := by decide +kernel
theorem dX5_make_324 : decode cX5_make 324 = .ok (.invokevirtual 191, 3) := by decide +kernel
theorem dX5_make_327 : decode cX5_make 327 = .ok (.iinc 7 1, 3) := by decide +kernel
theorem dX5_make_330 : decode cX5_make 330 = .ok (.goto (-18), 3) := by decide +kernel
theorem dX5_make_333 : decode cX5_make 333 = .ok (.iconst 0, 1) := by decide +kernel
theorem dX5_make_334 : decode cX5_make 334 = .ok (.istore 5, 2) := by decide +kernel
theorem dX5_make_336 : decode cX5_make 336 = .ok (.iconst 0, 1) := by decide +kernel
theorem dX5_make_337 : decode cX5_make 337 = .ok (.istore 6, 2) := by decide +kernel
theorem dX5_make_339 : decode cX5_make 339 = .ok (.iconst 0, 1) := by decide +kernel
theorem dX5_make_340 : decode cX5_make 340 = .ok (.istore 7, 2) := by decide +kernel
theorem dX5_make_342 : decode cX5_make 342 = .ok (.iload 7, 2) := by decide +kernel
theorem dX5_make_344 : decode cX5_make 344 = .ok (.aload_n 0, 1) := by decide +kernel
theorem dX5_make_345 : decode cX5_make 345 = .ok (.getfield 19, 3) := by decide +kernel
theorem dX5_make_348 : decode cX5_make 348 = .ok (.iload_n 1, 1) := by decide +kernel
theorem dX5_make_349 : decode cX5_make 349 = .ok (.iaload, 1) := by decide +kernel
theorem dX5_make_350 : decode cX5_make 350 = .ok (.if_icmp .ge 110, 3) := by decide +kernel
theorem dX5_make_353 : decode cX5_make 353 = .ok (.aload_n 0, 1) := by decide +kernel
theorem dX5_make_354 : decode cX5_make 354 = .ok (.iload_n 1, 1) := by decide +kernel
theorem dX5_make_355 : decode cX5_make 355 = .ok (.iload 7, 2) := by decide +kernel
theorem dX5_make_357 : decode cX5_make 357 = .ok (.aload_n 0, 1) := by decide +kernel
theorem dX5_make_358 : decode cX5_make 358 = .ok (.getfield 9, 3) := by decide +kernel
theorem dX5_make_361 : decode cX5_make 361 = .ok (.iload_n 1, 1) := by decide +kernel
theorem dX5_make_362 : decode cX5_make 362 = .ok (.iaload, 1) := by decide +kernel
theorem dX5_make_363 : decode cX5_make 363 = .ok (.iconst 2, 1) := by decide +kernel
theorem dX5_make_364 : decode cX5_make 364 = .ok (.idiv, 1) := by decide +kernel
theorem dX5_make_365 : decode cX5_make 365 = .ok (.invokevirtual 106, 3) := by decide +kernel
theorem dX5_make_368 : decode cX5_make 368 = .ok (.iconst 2, 1) := by decide +kernel
theorem dX5_make_369 : decode cX5_make 369 = .ok (.iadd, 1) := by decide +kernel
theorem dX5_make_370 : decode cX5_make 370 = .ok (.aload_n 0, 1) := by decide +kernel
theorem dX5_make_371 : decode cX5_make 371 = .ok (.getfield 146, 3) := by decide +kernel
theorem dX5_make_374 : decode cX5_make 374 = .ok (.if_icmp .ne 7, 3) := by decide +kernel
theorem dX5_make_377 : decode cX5_make 377 = .ok (.iconst 1, 1) := by decide +kernel
theorem dX5_make_378 : decode cX5_make 378 = .ok (.goto 4, 3) := by decide +kernel
theorem dX5_make_381 : decode cX5_make 381 = .ok (.iconst 0, 1) := by decide +kernel
theorem dX5_make_382 : decode cX5_make 382 = .ok (.istore 8, 2) := by decide +kernel
theorem dX5_make_384 : decode cX5_make 384 = .ok (.aload_n 0, 1) := by decide +kernel
theorem dX5_make_385 : decode cX5_make 385 = .ok (.getfield 37, 3) := by decide +kernel
theorem dX5_make_388 : decode cX5_make 388 = .ok (.bipush 40, 2) := by decide +kernel
theorem dX5_make_390 : decode cX5_make 390 = .ok (.aload_n 0, 1) := by decide +kernel
theorem dX5_make_391 : decode cX5_make 391 = .ok (.getfield 184, 3) := by decide +kernel
theorem dX5_make_394 : decode cX5_make 394 = .ok (.imul, 1) := by decide +kernel
theorem dX5_make_395 : decode cX5_make 395 = .ok (.iload 7, 2) := by decide +kernel
theorem dX5_make_397 : decode cX5_make 397 = .ok (.iadd, 1) := by decide +kernel
theorem dX5_make_398 : decode cX5_make 398 = .ok (.iload 8, 2) := by decide +kernel
theorem dX5_make_400 : decode cX5_make 400 = .ok (.ifCond .eq 13, 3) := by decide +kernel
theorem dX5_make_403 : decode cX5_make 403 = .ok (.aload_n 0, 1) := by decide +kernel
theorem dX5_make_404 : decode cX5_make 404 = .ok (.getfield 80, 3) := by decide +kernel
theorem dX5_make_407 : decode cX5_make 407 = .ok (.iload 5, 2) := by decide +kernel
theorem dX5_make_409 : decode cX5_make 409 = .ok (.iaload, 1) := by decide +kernel
theorem dX5_make_410 : decode cX5_make 410 = .ok (.goto 13, 3) := by decide +kernel
theorem dX5_make_413 : decode cX5_make 413 = .ok (.aload_n 0, 1) := by decide +kernel
theorem dX5_make_414 : decode cX5_make 414 = .ok (.getfield 80, 3) := by decide +kernel
theorem dX5_make_417 : decode cX5_make 417 = .ok (.bipush 40, 2) := by decide +kernel
theorem dX5_make_419 : decode cX5_make 419 = .ok (.iload 6, 2) := by decide +kernel
theorem dX5_make_421 : decode cX5_make 421 = .ok (.iadd, 1) := by decide +kernel
theorem dX5_make_422 : decode cX5_make 422 = .ok (.iaload, 1) := by decide +kernel
theorem dX5_make_423 : decode cX5_make 423 = .ok (.iastore, 1) := by decide +kernel
theorem dX5_make_424 : decode cX5_make 424 = .ok (.iload 8, 2) := by decide +kernel
theorem dX5_make_426 : decode cX5_make 426 = .ok (.ifCond .eq 9, 3) := by decide +kernel
theorem dX5_make_429 : decode cX5_make 429 = .ok (.iinc 5 1, 3) := by decide +kernel
theorem dX5_make_432 : decode cX5_make 432 = .ok (.goto 6, 3) := by decide +kernel
theorem dX5_make_435 : decode cX5_make 435 = .ok (.iinc 6 1, 3) := by decide +kernel
theorem dX5_make_438 : decode cX5_make 438 = .ok (.aload_n 0, 1) := by decide +kernel
theorem dX5_make_439 : decode cX5_make 439 = .ok (.getfield 40, 3) := by decide +kernel
theorem dX5_make_442 : decode cX5_make 442 = .ok (.bipush 40, 2) := by decide +kernel
theorem dX5_make_444 : decode cX5_make 444 = .ok (.aload_n 0, 1) := by decide +kernel
theorem dX5_make_445 : decode cX5_make 445 = .ok (.getfield 184, 3) := by decide +kernel
theorem dX5_make_448 : decode cX5_make 448 = .ok (.imul, 1) := by decide +kernel
theorem dX5_make_449 : decode cX5_make 449 = .ok (.iload 7, 2) := by decide +kernel
theorem dX5_make_451 : decode cX5_make 451 = .ok (.iadd, 1) := by decide +kernel
theorem dX5_make_452 : decode cX5_make 452 = .ok (.iconst 0, 1) := by decide +kernel
theorem dX5_make_453 : decode cX5_make 453 = .ok (.iastore, 1) := by decide +kernel
theorem dX5_make_454 : decode cX5_make 454 = .ok (.iinc 7 1, 3) := by decide +kernel
theorem dX5_make_457 : decode cX5_make 457 = .ok (.goto (-115), 3) := by decide +kernel
theorem dX5_make_460 : decode cX5_make 460 = .ok (.aload_n 0, 1) := by decide +kernel
theorem dX5_make_461 : decode cX5_make 461 = .ok (.getfield 34, 3) := by decide +kernel
theorem dX5_make_464 : decode cX5_make 464 = .ok (.aload_n 0, 1) := by decide +kernel
theorem dX5_make_465 : decode cX5_make 465 = .ok (.getfield 184, 3) := by decide +kernel
theorem dX5_make_468 : decode cX5_make 468 = .ok (.iload_n 1, 1) := by decide +kernel
theorem dX5_make_469 : decode cX5_make 469 = .ok (.iastore, 1) := by decide +kernel
theorem dX5_make_470 : decode cX5_make 470 = .ok (.aload_n 0, 1) := by decide +kernel
theorem dX5_make_471 : decode cX5_make 471 = .ok (.getfield 43, 3) := by decide +kernel
theorem dX5_make_474 : decode cX5_make 474 = .ok (.aload_n 0, 1) := by decide +kernel
theorem dX5_make_475 : decode cX5_make 475 = .ok (.getfield 184, 3) := by decide +kernel
theorem dX5_make_478 : decode cX5_make 478 = .ok (.iconst 0, 1) := by decide +kernel
theorem dX5_make_479 : decode cX5_make 479 = .ok (.iastore, 1) := by decide +kernel
theorem dX5_make_480 : decode cX5_make 480 = .ok (.aload_n 0, 1) := by decide +kernel
theorem dX5_make_481 : decode cX5_make 481 = .ok (.dup, 1) := by decide +kernel
theorem dX5_make_482 : decode cX5_make 482 = .ok (.getfield 184, 3) := by decide +kernel
theorem dX5_make_485 : decode cX5_make 485 = .ok (.iconst 1, 1) := by decide +kernel
theorem dX5_make_486 : decode cX5_make 486 = .ok (.iadd, 1) := by decide +kernel
theorem dX5_make_487 : decode cX5_make 487 = .ok (.putfield 184, 3) := by decide +kernel
theorem dX5_make_490 : decode cX5_make 490 = .ok (.aload_n 0, 1) := by decide +kernel
theorem dX5_make_491 : decode cX5_make 491 = .ok (.getfield 184, 3) := by decide +kernel
theorem dX5_make_494 : decode cX5_make 494 = .ok (.iconst 1, 1) := by decide +kernel
theorem dX5_make_495 : decode cX5_make 495 = .ok (.isub, 1) := by decide +kernel
theorem dX5_make_496 : decode cX5_make 496 = .ok (.ireturn, 1) := by decide +kernel
theorem dX5_isCask_0 : decode cX5_isCask 0 = .ok (.iload_n 1, 1) := by decide +kernel
theorem dX5_isCask_1 : decode cX5_isCask 1 = .ok (.ifCond .lt 15, 3) := by decide +kernel
theorem dX5_isCask_4 : decode cX5_isCask 4 = .ok (.iload_n 1, 1) := by decide +kernel
theorem dX5_isCask_5 : decode cX5_isCask 5 = .ok (.aload_n 0, 1) := by decide +kernel
theorem dX5_isCask_6 : decode cX5_isCask 6 = .ok (.getfield 184, 3) := by decide +kernel
theorem dX5_isCask_9 : decode cX5_isCask 9 = .ok (.if_icmp .ge 7, 3) := by decide +kernel
theorem dX5_isCask_12 : decode cX5_isCask 12 = .ok (.iconst 1, 1) := by decide +kernel
theorem dX5_isCask_13 : decode cX5_isCask 13 = .ok (.goto 4, 3) := by decide +kernel
theorem dX5_isCask_16 : decode cX5_isCask 16 = .ok (.iconst 0, 1) := by decide +kernel
theorem dX5_isCask_17 : decode cX5_isCask 17 = .ok (.ireturn, 1) := by decide +kernel
set_option maxRecDepth 20000 in
theorem ggX5_isStave_X5_isCask : GoodIn wsX5_isStave wsX5_isCask := goodIn_r _ [7, 8, 9, 10, 11, 12, 13, 14, 15, 16, 17, 18, 19, 20, 21, 22, 23, 24, 25, 26, 27, 28, 29, 30, 31, 32, 33, 34, 35, 36, 37, 38, 39, 40, 41, 42] (by decide +kernel) (by decide +kernel)
set_option maxRecDepth 20000 in
theorem gX5_isStave_X5_isCask : GoodIn wsX5_isStave (wsV RX5 194 RX5 yX5_isCask wsX5_isCask) := goodIn_app (goodIn_of _ (by decide +kernel)) ggX5_isStave_X5_isCask
theorem dX5_isStave_0 : decode cX5_isStave 0 = .ok (.aload_n 0, 1) := by decide +kernel
theorem dX5_isStave_1 : decode cX5_isStave 1 = .ok (.iload_n 1, 1) := by decide +kernel
theorem dX5_isStave_2 : decode cX5_isStave 2 = .ok (.invokevirtual 194, 3) := by decide +kernel
theorem dX5_isStave_5 : decode cX5_isStave 5 = .ok (.ifCond .eq 26, 3) := by decide +kernel
theorem dX5_isStave_8 : decode cX5_isStave 8 = .ok (.iload_n 2, 1) := by decide +kernel
theorem dX5_isStave_9 : decode cX5_isStave 9 = .ok (.ifCond .lt 22, 3) := by decide +kernel
theorem dX5_isStave_12 : decode cX5_isStave 12 = .ok (.iload_n 2, 1) := by decide +kernel
theorem dX5_isStave_13 : decode cX5_isStave 13 = .ok (.aload_n 0, 1) := by decide +kernel
theorem dX5_isStave_14 : decode cX5_isStave 14 = .ok (.getfield 19, 3) := by decide +kernel
theorem dX5_isStave_17 : decode cX5_isStave 17 = .ok (.aload_n 0, 1) := by decide +kernel
theorem dX5_isStave_18 : decode cX5_isStave 18 = .ok (.getfield 34, 3) := by decide +kernel
theorem dX5_isStave_21 : decode cX5_isStave 21 = .ok (.iload_n 1, 1) := by decide +kernel
theorem dX5_isStave_22 : decode cX5_isStave 22 = .ok (.iaload, 1) := by decide +kernel
theorem dX5_isStave_23 : decode cX5_isStave 23 = .ok (.iaload, 1) := by decide +kernel
theorem dX5_isStave_24 : decode cX5_isStave 24 = .ok (.if_icmp .ge 7, 3) := by decide +kernel
theorem dX5_isStave_27 : decode cX5_isStave 27 = .ok (.iconst 1, 1) := by decide +kernel
theorem dX5_isStave_28 : decode cX5_isStave 28 = .ok (.goto 4, 3) := by decide +kernel
theorem dX5_isStave_31 : decode cX5_isStave 31 = .ok (.iconst 0, 1) := by decide +kernel
theorem dX5_isStave_32 : decode cX5_isStave 32 = .ok (.ireturn, 1) := by decide +kernel
set_option maxRecDepth 20000 in
theorem ggX5_middle_X5_widthOf : GoodIn wsX5_middle wsX5_widthOf := goodIn_r _ [7, 8, 9, 10, 11, 6, 12, 2, 13, 14, 15, 16, 17, 18, 19, 20, 21, 22, 23, 24, 25, 26, 27, 28, 29, 30, 31, 32, 33, 34, 35, 36, 37, 38, 39, 40, 41, 42, 43, 44, 45, 46, 47, 48] (by decide +kernel) (by decide +kernel)
set_option maxRecDepth 20000 in
theorem gX5_middle_X5_widthOf : GoodIn wsX5_middle (wsV RX5 106 RX5 yX5_widthOf wsX5_widthOf) := goodIn_app (goodIn_of _ (by decide +kernel)) ggX5_middle_X5_widthOf
theorem dX5_middle_0 : decode cX5_middle 0 = .ok (.aload_n 0, 1) := by decide +kernel
theorem dX5_middle_1 : decode cX5_middle 1 = .ok (.aload_n 0, 1) := by decide +kernel
theorem dX5_middle_2 : decode cX5_middle 2 = .ok (.getfield 34, 3) := by decide +kernel
theorem dX5_middle_5 : decode cX5_middle 5 = .ok (.iload_n 1, 1) := by decide +kernel
theorem dX5_middle_6 : decode cX5_middle 6 = .ok (.iaload, 1) := by decide +kernel
theorem dX5_middle_7 : decode cX5_middle 7 = .ok (.iload_n 2, 1) := by decide +kernel
theorem dX5_middle_8 : decode cX5_middle 8 = .ok (.aload_n 0, 1) := by decide +kernel
theorem dX5_middle_9 : decode cX5_middle 9 = .ok (.getfield 9, 3) := by decide +kernel
theorem dX5_middle_12 : decode cX5_middle 12 = .ok (.aload_n 0, 1) := by decide +kernel
theorem dX5_middle_13 : decode cX5_middle 13 = .ok (.getfield 34, 3) := by decide +kernel
theorem dX5_middle_16 : decode cX5_middle 16 = .ok (.iload_n 1, 1) := by decide +kernel
theorem dX5_middle_17 : decode cX5_middle 17 = .ok (.iaload, 1) := by decide +kernel
theorem dX5_middle_18 : decode cX5_middle 18 = .ok (.iaload, 1) := by decide +kernel
theorem dX5_middle_19 : decode cX5_middle 19 = .ok (.iconst 2, 1) := by decide +kernel
theorem dX5_middle_20 : decode cX5_middle 20 = .ok (.idiv, 1) := by decide +kernel
theorem dX5_middle_21 : decode cX5_middle 21 = .ok (.invokevirtual 106, 3) := by decide +kernel
theorem dX5_middle_24 : decode cX5_middle 24 = .ok (.ireturn, 1) := by decide +kernel
set_option maxRecDepth 20000 in
theorem ggX5_stave_X5_isStave : GoodIn wsX5_stave wsX5_isStave := goodIn_r _ [8, 9, 10, 11, 12, 13, 7, 14, 15, 35, 36, 37, 38, 39, 40, 41, 42, 43, 44, 45, 46, 47, 48, 49, 50, 51, 52, 53, 54, 55, 56, 57, 58, 59, 60, 61, 62, 63, 64, 65, 66, 67, 68] (by decide +kernel) (by decide +kernel)
set_option maxRecDepth 20000 in
theorem gX5_stave_X5_isStave : GoodIn wsX5_stave (wsV RX5 197 RX5 yX5_isStave wsX5_isStave) := goodIn_app (goodIn_of _ (by decide +kernel)) ggX5_stave_X5_isStave
set_option maxRecDepth 20000 in
theorem ggX5_stave_X5_fail : GoodIn wsX5_stave wsX5_fail := goodIn_r _ [19, 1, 35, 36, 37, 38, 39, 40, 41, 42, 43, 44, 45, 46, 47, 48, 49, 50, 51, 52, 53, 54, 55, 56, 57, 58, 59, 60, 61, 62, 63, 64, 65, 66, 67, 68] (by decide +kernel) (by decide +kernel)
set_option maxRecDepth 20000 in
theorem gX5_stave_X5_fail : GoodIn wsX5_stave (wsV RX5 94 RX5 yX5_fail wsX5_fail) := goodIn_app (goodIn_of _ (by decide +kernel)) ggX5_stave_X5_fail
set_option maxRecDepth 20000 in
theorem ggX5_stave_X5_middle : GoodIn wsX5_stave wsX5_middle := goodIn_r _ [23, 10, 24, 25, 26, 27, 7, 28, 9, 29, 30, 31, 32, 33, 34, 35, 36, 37, 38, 39, 40, 41, 42, 43, 44, 45, 46, 47, 48, 49, 50, 51, 52, 53, 54, 55, 56, 57, 58, 59, 60, 61, 62, 63, 64, 65, 66, 67, 68] (by decide +kernel) (by decide +kernel)
set_option maxRecDepth 20000 in
theorem gX5_stave_X5_middle : GoodIn wsX5_stave (wsV RX5 200 RX5 yX5_middle wsX5_middle) := goodIn_app (goodIn_of _ (by decide +kernel)) ggX5_stave_X5_middle
theorem dX5_stave_0 : decode cX5_stave 0 = .ok (.aload_n 0, 1) := by decide +kernel
theorem dX5_stave_1 : decode cX5_stave 1 = .ok (.iconst 0, 1) := by decide +kernel
theorem dX5_stave_2 : decode cX5_stave 2 = .ok (.putfield 83, 3) := by decide +kernel
theorem dX5_stave_5 : decode cX5_stave 5 = .ok (.aload_n 0, 1) := by decide +kernel
theorem dX5_stave_6 : decode cX5_stave 6 = .ok (.iload_n 1, 1) := by decide +kernel
theorem dX5_stave_7 : decode cX5_stave 7 = .ok (.iload_n 2, 1) := by decide +kernel
theorem dX5_stave_8 : decode cX5_stave 8 = .ok (.invokevirtual 197, 3) := by decide +kernel
theorem dX5_stave_11 : decode cX5_stave 11 = .ok (.ifCond .eq 12, 3) := by decide +kernel
theorem dX5_stave_14 : decode cX5_stave 14 = .ok (.iload_n 3, 1) := by decide +kernel
theorem dX5_stave_15 : decode cX5_stave 15 = .ok (.ifCond .lt 8, 3) := by decide +kernel
theorem dX5_stave_18 : decode cX5_stave 18 = .ok (.iload_n 3, 1) := by decide +kernel
theorem dX5_stave_19 : decode cX5_stave 19 = .ok (.iconst 2, 1) := by decide +kernel
theorem dX5_stave_20 : decode cX5_stave 20 = .ok (.if_icmp .le 9, 3) := by decide +kernel
theorem dX5_stave_23 : decode cX5_stave 23 = .ok (.aload_n 0, 1) := by decide +kernel
theorem dX5_stave_24 : decode cX5_stave 24 = .ok (.iconst 1, 1) := by decide +kernel
theorem dX5_stave_25 : decode cX5_stave 25 = .ok (.invokevirtual 94, 3) := by decide +kernel
theorem dX5_stave_28 : decode cX5_stave 28 = .ok (.ireturn, 1) := by decide +kernel
theorem dX5_stave_29 : decode cX5_stave 29 = .ok (.iload_n 3, 1) := by decide +kernel
theorem dX5_stave_30 : decode cX5_stave 30 = .ok (.ifCond .ne 17, 3) := by decide +kernel
theorem dX5_stave_33 : decode cX5_stave 33 = .ok (.aload_n 0, 1) := by decide +kernel
theorem dX5_stave_34 : decode cX5_stave 34 = .ok (.getfield 37, 3) := by decide +kernel
theorem dX5_stave_37 : decode cX5_stave 37 = .ok (.bipush 40, 2) := by decide +kernel
theorem dX5_stave_39 : decode cX5_stave 39 = .ok (.iload_n 1, 1) := by decide +kernel
theorem dX5_stave_40 : decode cX5_stave 40 = .ok (.imul, 1) := by decide +kernel
theorem dX5_stave_41 : decode cX5_stave 41 = .ok (.iload_n 2, 1) := by decide +kernel
theorem dX5_stave_42 : decode cX5_stave 42 = .ok (.iadd, 1) := by decide +kernel
theorem dX5_stave_43 : decode cX5_stave 43 = .ok (.iaload, 1) := by decide +kernel
theorem dX5_stave_44 : decode cX5_stave 44 = .ok (.goto 28, 3) := by decide +kernel
theorem dX5_stave_47 : decode cX5_stave 47 = .ok (.iload_n 3, 1) := by decide +kernel
theorem dX5_stave_48 : decode cX5_stave 48 = .ok (.iconst 1, 1) := by decide +kernel
theorem dX5_stave_49 : decode cX5_stave 49 = .ok (.if_icmp .ne 17, 3) := by decide +kernel
theorem dX5_stave_52 : decode cX5_stave 52 = .ok (.aload_n 0, 1) := by decide +kernel
theorem dX5_stave_53 : decode cX5_stave 53 = .ok (.getfield 40, 3) := by decide +kernel
theorem dX5_stave_56 : decode cX5_stave 56 = .ok (.bipush 40, 2) := by decide +kernel
theorem dX5_stave_58 : decode cX5_stave 58 = .ok (.iload_n 1, 1) := by decide +kernel
theorem dX5_stave_59 : decode cX5_stave 59 = .ok (.imul, 1) := by decide +kernel
theorem dX5_stave_60 : decode cX5_stave 60 = .ok (.iload_n 2, 1) := by decide +kernel
theorem dX5_stave_61 : decode cX5_stave 61 = .ok (.iadd, 1) := by decide +kernel
theorem dX5_stave_62 : decode cX5_stave 62 = .ok (.iaload, 1) := by decide +kernel
theorem dX5_stave_63 : decode cX5_stave 63 = .ok (.goto 9, 3) := by decide +kernel
theorem dX5_stave_66 : decode cX5_stave 66 = .ok (.aload_n 0, 1) := by decide +kernel
theorem dX5_stave_67 : decode cX5_stave 67 = .ok (.iload_n 1, 1) := by decide +kernel
theorem dX5_stave_68 : decode cX5_stave 68 = .ok (.iload_n 2, 1) := by decide +kernel
theorem dX5_stave_69 : decode cX5_stave 69 = .ok (.invokevirtual 200, 3) := by decide +kernel
theorem dX5_stave_72 : decode cX5_stave 72 = .ok (.ireturn, 1) := by decide +kernel
set_option maxRecDepth 20000 in
theorem ggX5_formOf_X5_isCask : GoodIn wsX5_formOf wsX5_isCask := goodIn_r _ [7, 8, 13, 14, 15, 16, 17, 18, 19, 20, 21, 22, 23, 24, 25, 26, 27, 28, 29, 30, 31, 32, 33, 34, 35, 36, 37, 38, 39, 40, 41, 42, 43, 44, 45, 46] (by decide +kernel) (by decide +kernel)
set_option maxRecDepth 20000 in
theorem gX5_formOf_X5_isCask : GoodIn wsX5_formOf (wsV RX5 194 RX5 yX5_isCask wsX5_isCask) := goodIn_app (goodIn_of _ (by decide +kernel)) ggX5_formOf_X5_isCask
set_option maxRecDepth 20000 in
theorem ggX5_formOf_X5_fail : GoodIn wsX5_formOf wsX5_fail := goodIn_r _ [12, 1, 13, 14, 15, 16, 17, 18, 19, 20, 21, 22, 23, 24, 25, 26, 27, 28, 29, 30, 31, 32, 33, 34, 35, 36, 37, 38, 39, 40, 41, 42, 43, 44, 45, 46] (by decide +kernel) (by decide +kernel)
set_option maxRecDepth 20000 in
theorem gX5_formOf_X5_fail : GoodIn wsX5_formOf (wsV RX5 94 RX5 yX5_fail wsX5_fail) := goodIn_app (goodIn_of _ (by decide +kernel)) ggX5_formOf_X5_fail
theorem dX5_formOf_0 : decode cX5_formOf 0 = .ok (.aload_n 0, 1) := by decide +kernel
theorem dX5_formOf_1 : decode cX5_formOf 1 = .ok (.iconst 0, 1) := by decide +kernel
theorem dX5_formOf_2 : decode cX5_formOf 2 = .ok (.putfield 83, 3) := by decide +kernel
theorem dX5_formOf_5 : decode cX5_formOf 5 = .ok (.aload_n 0, 1) := by decide +kernel
theorem dX5_formOf_6 : decode cX5_formOf 6 = .ok (.iload_n 1, 1) := by decide +kernel
theorem dX5_formOf_7 : decode cX5_formOf 7 = .ok (.invokevirtual 194, 3) := by decide +kernel
theorem dX5_formOf_10 : decode cX5_formOf 10 = .ok (.ifCond .eq 12, 3) := by decide +kernel
theorem dX5_formOf_13 : decode cX5_formOf 13 = .ok (.aload_n 0, 1) := by decide +kernel
theorem dX5_formOf_14 : decode cX5_formOf 14 = .ok (.getfield 34, 3) := by decide +kernel
theorem dX5_formOf_17 : decode cX5_formOf 17 = .ok (.iload_n 1, 1) := by decide +kernel
theorem dX5_formOf_18 : decode cX5_formOf 18 = .ok (.iaload, 1) := by decide +kernel
theorem dX5_formOf_19 : decode cX5_formOf 19 = .ok (.goto 8, 3) := by decide +kernel
theorem dX5_formOf_22 : decode cX5_formOf 22 = .ok (.aload_n 0, 1) := by decide +kernel
theorem dX5_formOf_23 : decode cX5_formOf 23 = .ok (.iconst 1, 1) := by decide +kernel
theorem dX5_formOf_24 : decode cX5_formOf 24 = .ok (.invokevirtual 94, 3) := by decide +kernel
theorem dX5_formOf_27 : decode cX5_formOf 27 = .ok (.ireturn, 1) := by decide +kernel
theorem dX5_isKind_0 : decode cX5_isKind 0 = .ok (.iload_n 0, 1) := by decide +kernel
theorem dX5_isKind_1 : decode cX5_isKind 1 = .ok (.ifCond .lt 13, 3) := by decide +kernel
theorem dX5_isKind_4 : decode cX5_isKind 4 = .ok (.iload_n 0, 1) := by decide +kernel
theorem dX5_isKind_5 : decode cX5_isKind 5 = .ok (.bipush 16, 2) := by decide +kernel
theorem dX5_isKind_7 : decode cX5_isKind 7 = .ok (.if_icmp .ge 7, 3) := by decide +kernel
theorem dX5_isKind_10 : decode cX5_isKind 10 = .ok (.iconst 1, 1) := by decide +kernel
theorem dX5_isKind_11 : decode cX5_isKind 11 = .ok (.goto 4, 3) := by decide +kernel
theorem dX5_isKind_14 : decode cX5_isKind 14 = .ok (.iconst 0, 1) := by decide +kernel
theorem dX5_isKind_15 : decode cX5_isKind 15 = .ok (.ireturn, 1) := by decide +kernel
set_option maxRecDepth 20000 in
theorem ggX5_bars_X5_isKind : GoodIn wsX5_bars wsX5_isKind := goodIn_r _ [6] (by decide +kernel) (by decide +kernel)
set_option maxRecDepth 20000 in
theorem gX5_bars_X5_isKind : GoodIn wsX5_bars (va_wsS RX5 203 yX5_isKind wsX5_isKind) := goodIn_app (goodIn_of _ (by decide +kernel)) ggX5_bars_X5_isKind
set_option maxRecDepth 20000 in
theorem ggX5_bars_X5_fail : GoodIn wsX5_bars wsX5_fail := goodIn_r _ [10, 1, 11, 12, 13, 14, 15, 16, 17, 18, 19, 20, 21, 22, 23, 24, 25, 26, 27, 28, 29, 30, 31, 32, 33, 34, 35, 36, 37, 38, 39, 40, 41, 42, 43, 44] (by decide +kernel) (by decide +kernel)
set_option maxRecDepth 20000 in
theorem gX5_bars_X5_fail : GoodIn wsX5_bars (wsV RX5 94 RX5 yX5_fail wsX5_fail) := goodIn_app (goodIn_of _ (by decide +kernel)) ggX5_bars_X5_fail
theorem dX5_bars_0 : decode cX5_bars 0 = .ok (.aload_n 0, 1) := by decide +kernel
theorem dX5_bars_1 : decode cX5_bars 1 = .ok (.iconst 0, 1) := by decide +kernel
theorem dX5_bars_2 : decode cX5_bars 2 = .ok (.putfield 83, 3) := by decide +kernel
theorem dX5_bars_5 : decode cX5_bars 5 = .ok (.iload_n 1, 1) := by decide +kernel
theorem dX5_bars_6 : decode cX5_bars 6 = .ok (.invokestatic 203, 3) := by decide +kernel
theorem dX5_bars_9 : decode cX5_bars 9 = .ok (.ifCond .eq 10, 3) := by decide +kernel
theorem dX5_bars_12 : decode cX5_bars 12 = .ok (.iload_n 2, 1) := by decide +kernel
theorem dX5_bars_13 : decode cX5_bars 13 = .ok (.invokestatic 203, 3) := by decide +kernel
theorem dX5_bars_16 : decode cX5_bars 16 = .ok (.ifCond .ne 11, 3) := by decide +kernel
theorem dX5_bars_19 : decode cX5_bars 19 = .ok (.aload_n 0, 1) := by decide +kernel
theorem dX5_bars_20 : decode cX5_bars 20 = .ok (.iconst 1, 1) := by decide +kernel
theorem dX5_bars_21 : decode cX5_bars 21 = .ok (.invokevirtual 94, 3) := by decide +kernel
theorem dX5_bars_24 : decode cX5_bars 24 = .ok (.pop, 1) := by decide +kernel
theorem dX5_bars_25 : decode cX5_bars 25 = .ok (.iconst 0, 1) := by decide +kernel
theorem dX5_bars_26 : decode cX5_bars 26 = .ok (.ireturn, 1) := by decide +kernel
theorem dX5_bars_27 : decode cX5_bars 27 = .ok (.aload_n 0, 1) := by decide +kernel
theorem dX5_bars_28 : decode cX5_bars 28 = .ok (.getfield 55, 3) := by decide +kernel
theorem dX5_bars_31 : decode cX5_bars 31 = .ok (.bipush 16, 2) := by decide +kernel
theorem dX5_bars_33 : decode cX5_bars 33 = .ok (.iload_n 1, 1) := by decide +kernel
theorem dX5_bars_34 : decode cX5_bars 34 = .ok (.imul, 1) := by decide +kernel
theorem dX5_bars_35 : decode cX5_bars 35 = .ok (.iload_n 2, 1) := by decide +kernel
theorem dX5_bars_36 : decode cX5_bars 36 = .ok (.iadd, 1) := by decide +kernel
theorem dX5_bars_37 : decode cX5_bars 37 = .ok (.baload, 1) := by decide +kernel
theorem dX5_bars_38 : decode cX5_bars 38 = .ok (.istore 4, 2) := by decide +kernel
theorem dX5_bars_40 : decode cX5_bars 40 = .ok (.aload_n 0, 1) := by decide +kernel
theorem dX5_bars_41 : decode cX5_bars 41 = .ok (.getfield 55, 3) := by decide +kernel
theorem dX5_bars_44 : decode cX5_bars 44 = .ok (.bipush 16, 2) := by decide +kernel
theorem dX5_bars_46 : decode cX5_bars 46 = .ok (.iload_n 1, 1) := by decide +kernel
theorem dX5_bars_47 : decode cX5_bars 47 = .ok (.imul, 1) := by decide +kernel
theorem dX5_bars_48 : decode cX5_bars 48 = .ok (.iload_n 2, 1) := by decide +kernel
theorem dX5_bars_49 : decode cX5_bars 49 = .ok (.iadd, 1) := by decide +kernel
theorem dX5_bars_50 : decode cX5_bars 50 = .ok (.iload_n 3, 1) := by decide +kernel
theorem dX5_bars_51 : decode cX5_bars 51 = .ok (.bastore, 1) := by decide +kernel
theorem dX5_bars_52 : decode cX5_bars 52 = .ok (.iload 4, 2) := by decide +kernel
theorem dX5_bars_54 : decode cX5_bars 54 = .ok (.ireturn, 1) := by decide +kernel
theorem dX5_mayIn_0 : decode cX5_mayIn 0 = .ok (.iconst 0, 1) := by decide +kernel
theorem dX5_mayIn_1 : decode cX5_mayIn 1 = .ok (.istore_n 3, 1) := by decide +kernel
theorem dX5_mayIn_2 : decode cX5_mayIn 2 = .ok (.iconst 0, 1) := by decide +kernel
theorem dX5_mayIn_3 : decode cX5_mayIn 3 = .ok (.istore 4, 2) := by decide +kernel
theorem dX5_mayIn_5 : decode cX5_mayIn 5 = .ok (.iload 4, 2) := by decide +kernel
theorem dX5_mayIn_7 : decode cX5_mayIn 7 = .ok (.aload_n 0, 1) := by decide +kernel
theorem dX5_mayIn_8 : decode cX5_mayIn 8 = .ok (.getfield 19, 3) := by decide +kernel
theorem dX5_mayIn_11 : decode cX5_mayIn 11 = .ok (.aload_n 0, 1) := by decide +kernel
theorem dX5_mayIn_12 : decode cX5_mayIn 12 = .ok (.getfield 34, 3) := by decide +kernel
theorem dX5_mayIn_15 : decode cX5_mayIn 15 = .ok (.iload_n 1, 1) := by decide +kernel
theorem dX5_mayIn_16 : decode cX5_mayIn 16 = .ok (.iaload, 1) := by decide +kernel
theorem dX5_mayIn_17 : decode cX5_mayIn 17 = .ok (.iaload, 1) := by decide +kernel
theorem dX5_mayIn_18 : decode cX5_mayIn 18 = .ok (.if_icmp .ge 24, 3) := by decide +kernel
theorem dX5_mayIn_21 : decode cX5_mayIn 21 = .ok (.iload_n 3, 1) := by decide +kernel
theorem dX5_mayIn_22 : decode cX5_mayIn 22 = .ok (.aload_n 0, 1) := by decide +kernel
theorem dX5_mayIn_23 : decode cX5_mayIn 23 = .ok (.getfield 40, 3) := by decide +kernel
theorem dX5_mayIn_26 : decode cX5_mayIn 26 = .ok (.bipush 40, 2) := by decide +kernel
theorem dX5_mayIn_28 : decode cX5_mayIn 28 = .ok (.iload_n 1, 1) := by decide +kernel
theorem dX5_mayIn_29 : decode cX5_mayIn 29 = .ok (.imul, 1) := by decide +kernel
theorem dX5_mayIn_30 : decode cX5_mayIn 30 = .ok (.iload 4, 2) := by decide +kernel
theorem dX5_mayIn_32 : decode cX5_mayIn 32 = .ok (.iadd, 1) := by decide +kernel
theorem dX5_mayIn_33 : decode cX5_mayIn 33 = .ok (.iaload, 1) := by decide +kernel
theorem dX5_mayIn_34 : decode cX5_mayIn 34 = .ok (.ior, 1) := by decide +kernel
theorem dX5_mayIn_35 : decode cX5_mayIn 35 = .ok (.istore_n 3, 1) := by decide +kernel
theorem dX5_mayIn_36 : decode cX5_mayIn 36 = .ok (.iinc 4 1, 3) := by decide +kernel
theorem dX5_mayIn_39 : decode cX5_mayIn 39 = .ok (.goto (-34), 3) := by decide +kernel
theorem dX5_mayIn_42 : decode cX5_mayIn 42 = .ok (.iconst 1, 1) := by decide +kernel
theorem dX5_mayIn_43 : decode cX5_mayIn 43 = .ok (.istore 4, 2) := by decide +kernel
theorem dX5_mayIn_45 : decode cX5_mayIn 45 = .ok (.iconst 0, 1) := by decide +kernel
theorem dX5_mayIn_46 : decode cX5_mayIn 46 = .ok (.istore 5, 2) := by decide +kernel
theorem dX5_mayIn_48 : decode cX5_mayIn 48 = .ok (.iload 5, 2) := by decide +kernel
theorem dX5_mayIn_50 : decode cX5_mayIn 50 = .ok (.bipush 16, 2) := by decide +kernel
theorem dX5_mayIn_52 : decode cX5_mayIn 52 = .ok (.if_icmp .ge 37, 3) := by decide +kernel
theorem dX5_mayIn_55 : decode cX5_mayIn 55 = .ok (.iload_n 3, 1) := by decide +kernel
theorem dX5_mayIn_56 : decode cX5_mayIn 56 = .ok (.iload 5, 2) := by decide +kernel
theorem dX5_mayIn_58 : decode cX5_mayIn 58 = .ok (.ishr, 1) := by decide +kernel
theorem dX5_mayIn_59 : decode cX5_mayIn 59 = .ok (.iconst 1, 1) := by decide +kernel
theorem dX5_mayIn_60 : decode cX5_mayIn 60 = .ok (.iand, 1) := by decide +kernel
theorem dX5_mayIn_61 : decode cX5_mayIn 61 = .ok (.iconst 1, 1) := by decide +kernel
theorem dX5_mayIn_62 : decode cX5_mayIn 62 = .ok (.if_icmp .ne 21, 3) := by decide +kernel
theorem dX5_mayIn_65 : decode cX5_mayIn 65 = .ok (.aload_n 0, 1) := by decide +kernel
theorem dX5_mayIn_66 : decode cX5_mayIn 66 = .ok (.getfield 55, 3) := by decide +kernel
theorem dX5_mayIn_69 : decode cX5_mayIn 69 = .ok (.bipush 16, 2) := by decide +kernel
theorem dX5_mayIn_71 : decode cX5_mayIn 71 = .ok (.iload 5, 2) := by decide +kernel
theorem dX5_mayIn_73 : decode cX5_mayIn 73 = .ok (.imul, 1) := by decide +kernel
theorem dX5_mayIn_74 : decode cX5_mayIn 74 = .ok (.iload_n 2, 1) := by decide +kernel
theorem dX5_mayIn_75 : decode cX5_mayIn 75 = .ok (.iadd, 1) := by decide +kernel
theorem dX5_mayIn_76 : decode cX5_mayIn 76 = .ok (.baload, 1) := by decide +kernel
theorem dX5_mayIn_77 : decode cX5_mayIn 77 = .ok (.ifCond .eq 6, 3) := by decide +kernel
theorem dX5_mayIn_80 : decode cX5_mayIn 80 = .ok (.iconst 0, 1) := by decide +kernel
theorem dX5_mayIn_81 : decode cX5_mayIn 81 = .ok (.istore 4, 2) := by decide +kernel
theorem dX5_mayIn_83 : decode cX5_mayIn 83 = .ok (.iinc 5 1, 3) := by decide +kernel
theorem dX5_mayIn_86 : decode cX5_mayIn 86 = .ok (.goto (-38), 3) := by decide +kernel
theorem dX5_mayIn_89 : decode cX5_mayIn 89 = .ok (.iload 4, 2) := by decide +kernel
theorem dX5_mayIn_91 : decode cX5_mayIn 91 = .ok (.ireturn, 1) := by decide +kernel
set_option maxRecDepth 20000 in
theorem ggX5_may_X5_isCask : GoodIn wsX5_may wsX5_isCask := goodIn_r _ [6, 7, 23, 24, 25, 26, 27, 28, 29, 30, 31, 32, 33, 34, 35, 36, 37, 38, 39, 40, 41, 42, 43, 44, 45, 46, 47, 48, 49, 50, 51, 52, 53, 54, 55, 56] (by decide +kernel) (by decide +kernel)
set_option maxRecDepth 20000 in
theorem gX5_may_X5_isCask : GoodIn wsX5_may (wsV RX5 194 RX5 yX5_isCask wsX5_isCask) := goodIn_app (goodIn_of _ (by decide +kernel)) ggX5_may_X5_isCask
set_option maxRecDepth 20000 in
theorem ggX5_may_X5_fail : GoodIn wsX5_may wsX5_fail := goodIn_r _ [11, 1, 23, 24, 25, 26, 27, 28, 29, 30, 31, 32, 33, 34, 35, 36, 37, 38, 39, 40, 41, 42, 43, 44, 45, 46, 47, 48, 49, 50, 51, 52, 53, 54, 55, 56] (by decide +kernel) (by decide +kernel)
set_option maxRecDepth 20000 in
theorem gX5_may_X5_fail : GoodIn wsX5_may (wsV RX5 94 RX5 yX5_fail wsX5_fail) := goodIn_app (goodIn_of _ (by decide +kernel)) ggX5_may_X5_fail
set_option maxRecDepth 20000 in
theorem ggX5_may_X5_isKind : GoodIn wsX5_may wsX5_isKind := goodIn_r _ [14] (by decide +kernel) (by decide +kernel)
set_option maxRecDepth 20000 in
theorem gX5_may_X5_isKind : GoodIn wsX5_may (va_wsS RX5 203 yX5_isKind wsX5_isKind) := goodIn_app (goodIn_of _ (by decide +kernel)) ggX5_may_X5_isKind
set_option maxRecDepth 20000 in
theorem ggX5_may_X5_mayIn : GoodIn wsX5_may wsX5_mayIn := goodIn_r _ [18, 19, 20, 21, 22, 23, 24, 25, 26, 27, 28, 29, 30, 31, 32, 33, 34, 35, 36, 37, 38, 39, 40, 41, 42, 43, 44, 45, 46, 47, 48, 49, 50, 51, 52, 53, 54, 55, 56] (by decide +kernel) (by decide +kernel)
set_option maxRecDepth 20000 in
theorem gX5_may_X5_mayIn : GoodIn wsX5_may (wsV RX5 206 RX5 yX5_mayIn wsX5_mayIn) := goodIn_app (goodIn_of _ (by decide +kernel)) ggX5_may_X5_mayIn
theorem dX5_may_0 : decode cX5_may 0 = .ok (.aload_n 0, 1) := by decide +kernel
theorem dX5_may_1 : decode cX5_may 1 = .ok (.iconst 0, 1) := by decide +kernel
theorem dX5_may_2 : decode cX5_may 2 = .ok (.putfield 83, 3) := by decide +kernel
theorem dX5_may_5 : decode cX5_may 5 = .ok (.aload_n 0, 1) := by decide +kernel
theorem dX5_may_6 : decode cX5_may 6 = .ok (.iload_n 1, 1) := by decide +kernel
theorem dX5_may_7 : decode cX5_may 7 = .ok (.invokevirtual 194, 3) := by decide +kernel
theorem dX5_may_10 : decode cX5_may 10 = .ok (.ifCond .ne 11, 3) := by decide +kernel
theorem dX5_may_13 : decode cX5_may 13 = .ok (.aload_n 0, 1) := by decide +kernel
theorem dX5_may_14 : decode cX5_may 14 = .ok (.iconst 1, 1) := by decide +kernel
theorem dX5_may_15 : decode cX5_may 15 = .ok (.invokevirtual 94, 3) := by decide +kernel
theorem dX5_may_18 : decode cX5_may 18 = .ok (.pop, 1) := by decide +kernel
theorem dX5_may_19 : decode cX5_may 19 = .ok (.iconst 0, 1) := by decide +kernel
theorem dX5_may_20 : decode cX5_may 20 = .ok (.ireturn, 1) := by decide +kernel
theorem dX5_may_21 : decode cX5_may 21 = .ok (.iload_n 2, 1) := by decide +kernel
theorem dX5_may_22 : decode cX5_may 22 = .ok (.invokestatic 203, 3) := by decide +kernel
theorem dX5_may_25 : decode cX5_may 25 = .ok (.ifCond .ne 11, 3) := by decide +kernel
theorem dX5_may_28 : decode cX5_may 28 = .ok (.aload_n 0, 1) := by decide +kernel
theorem dX5_may_29 : decode cX5_may 29 = .ok (.iconst 2, 1) := by decide +kernel
theorem dX5_may_30 : decode cX5_may 30 = .ok (.invokevirtual 94, 3) := by decide +kernel
theorem dX5_may_33 : decode cX5_may 33 = .ok (.pop, 1) := by decide +kernel
theorem dX5_may_34 : decode cX5_may 34 = .ok (.iconst 0, 1) := by decide +kernel
theorem dX5_may_35 : decode cX5_may 35 = .ok (.ireturn, 1) := by decide +kernel
theorem dX5_may_36 : decode cX5_may 36 = .ok (.aload_n 0, 1) := by decide +kernel
theorem dX5_may_37 : decode cX5_may 37 = .ok (.iload_n 1, 1) := by decide +kernel
theorem dX5_may_38 : decode cX5_may 38 = .ok (.iload_n 2, 1) := by decide +kernel
theorem dX5_may_39 : decode cX5_may 39 = .ok (.invokevirtual 206, 3) := by decide +kernel
theorem dX5_may_42 : decode cX5_may 42 = .ok (.ireturn, 1) := by decide +kernel
set_option maxRecDepth 20000 in
theorem ggX5_tell_X5_isCask : GoodIn wsX5_tell wsX5_isCask := goodIn_r _ [14, 15, 25, 26, 27, 28, 29, 30, 31, 32, 33, 34, 35, 36, 37, 38, 39, 40, 41, 42, 43, 44, 45, 46, 47, 48, 49, 50, 51, 52, 53, 54, 55, 56, 57, 58] (by decide +kernel) (by decide +kernel)
set_option maxRecDepth 20000 in
theorem gX5_tell_X5_isCask : GoodIn wsX5_tell (wsV RX5 194 RX5 yX5_isCask wsX5_isCask) := goodIn_app (goodIn_of _ (by decide +kernel)) ggX5_tell_X5_isCask
set_option maxRecDepth 20000 in
theorem ggX5_tell_X5_fail : GoodIn wsX5_tell wsX5_fail := goodIn_r _ [19, 1, 25, 26, 27, 28, 29, 30, 31, 32, 33, 34, 35, 36, 37, 38, 39, 40, 41, 42, 43, 44, 45, 46, 47, 48, 49, 50, 51, 52, 53, 54, 55, 56, 57, 58] (by decide +kernel) (by decide +kernel)
set_option maxRecDepth 20000 in
theorem gX5_tell_X5_fail : GoodIn wsX5_tell (wsV RX5 94 RX5 yX5_fail wsX5_fail) := goodIn_app (goodIn_of _ (by decide +kernel)) ggX5_tell_X5_fail
set_option maxRecDepth 20000 in
theorem ggX5_tell_X5_mayIn : GoodIn wsX5_tell wsX5_mayIn := goodIn_r _ [23, 7, 8, 9, 24, 25, 26, 27, 28, 29, 30, 31, 32, 33, 34, 35, 36, 37, 38, 39, 40, 41, 42, 43, 44, 45, 46, 47, 48, 49, 50, 51, 52, 53, 54, 55, 56, 57, 58] (by decide +kernel) (by decide +kernel)
set_option maxRecDepth 20000 in
theorem gX5_tell_X5_mayIn : GoodIn wsX5_tell (wsV RX5 206 RX5 yX5_mayIn wsX5_mayIn) := goodIn_app (goodIn_of _ (by decide +kernel)) ggX5_tell_X5_mayIn
theorem dX5_tell_0 : decode cX5_tell 0 = .ok (.aload_n 0, 1) := by decide +kernel
theorem dX5_tell_1 : decode cX5_tell 1 = .ok (.iconst 0, 1) := by decide +kernel
theorem dX5_tell_2 : decode cX5_tell 2 = .ok (.putfield 83, 3) := by decide +kernel
theorem dX5_tell_5 : decode cX5_tell 5 = .ok (.aload_n 0, 1) := by decide +kernel
theorem dX5_tell_6 : decode cX5_tell 6 = .ok (.iload_n 1, 1) := by decide +kernel
theorem dX5_tell_7 : decode cX5_tell 7 = .ok (.invokevirtual 194, 3) := by decide +kernel
theorem dX5_tell_10 : decode cX5_tell 10 = .ok (.ifCond .ne 9, 3) := by decide +kernel
theorem dX5_tell_13 : decode cX5_tell 13 = .ok (.aload_n 0, 1) := by decide +kernel
theorem dX5_tell_14 : decode cX5_tell 14 = .ok (.iconst 1, 1) := by decide +kernel
theorem dX5_tell_15 : decode cX5_tell 15 = .ok (.invokevirtual 94, 3) := by decide +kernel
theorem dX5_tell_18 : decode cX5_tell 18 = .ok (.ireturn, 1) := by decide +kernel
theorem dX5_tell_19 : decode cX5_tell 19 = .ok (.iload_n 3, 1) := by decide +kernel
theorem dX5_tell_20 : decode cX5_tell 20 = .ok (.ifCond .lt 9, 3) := by decide +kernel
theorem dX5_tell_23 : decode cX5_tell 23 = .ok (.iload_n 3, 1) := by decide +kernel
theorem dX5_tell_24 : decode cX5_tell 24 = .ok (.bipush 16, 2) := by decide +kernel
theorem dX5_tell_26 : decode cX5_tell 26 = .ok (.if_icmp .le 9, 3) := by decide +kernel
theorem dX5_tell_29 : decode cX5_tell 29 = .ok (.aload_n 0, 1) := by decide +kernel
theorem dX5_tell_30 : decode cX5_tell 30 = .ok (.iconst 2, 1) := by decide +kernel
theorem dX5_tell_31 : decode cX5_tell 31 = .ok (.invokevirtual 94, 3) := by decide +kernel
theorem dX5_tell_34 : decode cX5_tell 34 = .ok (.ireturn, 1) := by decide +kernel
theorem dX5_tell_35 : decode cX5_tell 35 = .ok (.iload_n 2, 1) := by decide +kernel
theorem dX5_tell_36 : decode cX5_tell 36 = .ok (.ifCond .lt 37, 3) := by decide +kernel
theorem dX5_tell_39 : decode cX5_tell 39 = .ok (.iload_n 2, 1) := by decide +kernel
theorem dX5_tell_40 : decode cX5_tell 40 = .ok (.aload_n 0, 1) := by decide +kernel
theorem dX5_tell_41 : decode cX5_tell 41 = .ok (.getfield 117, 3) := by decide +kernel
theorem dX5_tell_44 : decode cX5_tell 44 = .ok (.if_icmp .gt 29, 3) := by decide +kernel
theorem dX5_tell_47 : decode cX5_tell 47 = .ok (.aload_n 0, 1) := by decide +kernel
theorem dX5_tell_48 : decode cX5_tell 48 = .ok (.getfield 43, 3) := by decide +kernel
theorem dX5_tell_51 : decode cX5_tell 51 = .ok (.iload_n 1, 1) := by decide +kernel
theorem dX5_tell_52 : decode cX5_tell 52 = .ok (.iaload, 1) := by decide +kernel
theorem dX5_tell_53 : decode cX5_tell 53 = .ok (.bipush 40, 2) := by decide +kernel
theorem dX5_tell_55 : decode cX5_tell 55 = .ok (.if_icmp .eq 18, 3) := by decide +kernel
theorem dX5_tell_58 : decode cX5_tell 58 = .ok (.iload_n 3, 1) := by decide +kernel
theorem dX5_tell_59 : decode cX5_tell 59 = .ok (.bipush 16, 2) := by decide +kernel
theorem dX5_tell_61 : decode cX5_tell 61 = .ok (.if_icmp .ge 14, 3) := by decide +kernel
theorem dX5_tell_64 : decode cX5_tell 64 = .ok (.aload_n 0, 1) := by decide +kernel
theorem dX5_tell_65 : decode cX5_tell 65 = .ok (.iload_n 1, 1) := by decide +kernel
theorem dX5_tell_66 : decode cX5_tell 66 = .ok (.iload_n 3, 1) := by decide +kernel
theorem dX5_tell_67 : decode cX5_tell 67 = .ok (.invokevirtual 206, 3) := by decide +kernel
theorem dX5_tell_70 : decode cX5_tell 70 = .ok (.ifCond .ne 5, 3) := by decide +kernel
theorem dX5_tell_73 : decode cX5_tell 73 = .ok (.iconst (-1), 1) := by decide +kernel
theorem dX5_tell_74 : decode cX5_tell 74 = .ok (.ireturn, 1) := by decide +kernel
theorem dX5_tell_75 : decode cX5_tell 75 = .ok (.bipush 40, 2) := by decide +kernel
theorem dX5_tell_77 : decode cX5_tell 77 = .ok (.iload_n 1, 1) := by decide +kernel
theorem dX5_tell_78 : decode cX5_tell 78 = .ok (.imul, 1) := by decide +kernel
theorem dX5_tell_79 : decode cX5_tell 79 = .ok (.aload_n 0, 1) := by decide +kernel
theorem dX5_tell_80 : decode cX5_tell 80 = .ok (.getfield 43, 3) := by decide +kernel
theorem dX5_tell_83 : decode cX5_tell 83 = .ok (.iload_n 1, 1) := by decide +kernel
theorem dX5_tell_84 : decode cX5_tell 84 = .ok (.iaload, 1) := by decide +kernel
theorem dX5_tell_85 : decode cX5_tell 85 = .ok (.iadd, 1) := by decide +kernel
theorem dX5_tell_86 : decode cX5_tell 86 = .ok (.istore 4, 2) := by decide +kernel
theorem dX5_tell_88 : decode cX5_tell 88 = .ok (.aload_n 0, 1) := by decide +kernel
theorem dX5_tell_89 : decode cX5_tell 89 = .ok (.getfield 46, 3) := by decide +kernel
theorem dX5_tell_92 : decode cX5_tell 92 = .ok (.iload 4, 2) := by decide +kernel
theorem dX5_tell_94 : decode cX5_tell 94 = .ok (.iload_n 2, 1) := by decide +kernel
theorem dX5_tell_95 : decode cX5_tell 95 = .ok (.iastore, 1) := by decide +kernel
theorem dX5_tell_96 : decode cX5_tell 96 = .ok (.aload_n 0, 1) := by decide +kernel
theorem dX5_tell_97 : decode cX5_tell 97 = .ok (.getfield 49, 3) := by decide +kernel
theorem dX5_tell_100 : decode cX5_tell 100 = .ok (.iload 4, 2) := by decide +kernel
theorem dX5_tell_102 : decode cX5_tell 102 = .ok (.iload_n 3, 1) := by decide +kernel
theorem dX5_tell_103 : decode cX5_tell 103 = .ok (.iastore, 1) := by decide +kernel
theorem dX5_tell_104 : decode cX5_tell 104 = .ok (.aload_n 0, 1) := by decide +kernel
theorem dX5_tell_105 : decode cX5_tell 105 = .ok (.getfield 52, 3) := by decide +kernel
theorem dX5_tell_108 : decode cX5_tell 108 = .ok (.iload 4, 2) := by decide +kernel
theorem dX5_tell_110 : decode cX5_tell 110 = .ok (.aload_n 0, 1) := by decide +kernel
theorem dX5_tell_111 : decode cX5_tell 111 = .ok (.getfield 117, 3) := by decide +kernel
theorem dX5_tell_114 : decode cX5_tell 114 = .ok (.iastore, 1) := by decide +kernel
theorem dX5_tell_115 : decode cX5_tell 115 = .ok (.aload_n 0, 1) := by decide +kernel
theorem dX5_tell_116 : decode cX5_tell 116 = .ok (.getfield 43, 3) := by decide +kernel
theorem dX5_tell_119 : decode cX5_tell 119 = .ok (.iload_n 1, 1) := by decide +kernel
theorem dX5_tell_120 : decode cX5_tell 120 = .ok (.dup2, 1) := by decide +kernel
theorem dX5_tell_121 : decode cX5_tell 121 = .ok (.iaload, 1) := by decide +kernel
theorem dX5_tell_122 : decode cX5_tell 122 = .ok (.iconst 1, 1) := by decide +kernel
theorem dX5_tell_123 : decode cX5_tell 123 = .ok (.iadd, 1) := by decide +kernel
theorem dX5_tell_124 : decode cX5_tell 124 = .ok (.iastore, 1) := by decide +kernel
theorem dX5_tell_125 : decode cX5_tell 125 = .ok (.iconst 0, 1) := by decide +kernel
theorem dX5_tell_126 : decode cX5_tell 126 = .ok (.istore 5, 2) := by decide +kernel
theorem dX5_tell_128 : decode cX5_tell 128 = .ok (.iload 5, 2) := by decide +kernel
theorem dX5_tell_130 : decode cX5_tell 130 = .ok (.aload_n 0, 1) := by decide +kernel
theorem dX5_tell_131 : decode cX5_tell 131 = .ok (.getfield 19, 3) := by decide +kernel
theorem dX5_tell_134 : decode cX5_tell 134 = .ok (.aload_n 0, 1) := by decide +kernel
theorem dX5_tell_135 : decode cX5_tell 135 = .ok (.getfield 34, 3) := by decide +kernel
theorem dX5_tell_138 : decode cX5_tell 138 = .ok (.iload_n 1, 1) := by decide +kernel
theorem dX5_tell_139 : decode cX5_tell 139 = .ok (.iaload, 1) := by decide +kernel
theorem dX5_tell_140 : decode cX5_tell 140 = .ok (.iaload, 1) := by decide +kernel
theorem dX5_tell_141 : decode cX5_tell 141 = .ok (.if_icmp .ge 33, 3) := by decide +kernel
theorem dX5_tell_144 : decode cX5_tell 144 = .ok (.iload_n 3, 1) := by decide +kernel
theorem dX5_tell_145 : decode cX5_tell 145 = .ok (.bipush 16, 2) := by decide +kernel
theorem dX5_tell_147 : decode cX5_tell 147 = .ok (.if_icmp .ge 27, 3) := by decide +kernel
theorem dX5_tell_150 : decode cX5_tell 150 = .ok (.aload_n 0, 1) := by decide +kernel
theorem dX5_tell_151 : decode cX5_tell 151 = .ok (.getfield 40, 3) := by decide +kernel
theorem dX5_tell_154 : decode cX5_tell 154 = .ok (.bipush 40, 2) := by decide +kernel
theorem dX5_tell_156 : decode cX5_tell 156 = .ok (.iload_n 1, 1) := by decide +kernel
theorem dX5_tell_157 : decode cX5_tell 157 = .ok (.imul, 1) := by decide +kernel
theorem dX5_tell_158 : decode cX5_tell 158 = .ok (.iload 5, 2) := by decide +kernel
theorem dX5_tell_160 : decode cX5_tell 160 = .ok (.iadd, 1) := by decide +kernel
theorem dX5_tell_161 : decode cX5_tell 161 = .ok (.dup2, 1) := by decide +kernel
theorem dX5_tell_162 : decode cX5_tell 162 = .ok (.iaload, 1) := by decide +kernel
theorem dX5_tell_163 : decode cX5_tell 163 = .ok (.iconst 1, 1) := by decide +kernel
theorem dX5_tell_164 : decode cX5_tell 164 = .ok (.iload_n 3, 1) := by decide +kernel
theorem dX5_tell_165 : decode cX5_tell 165 = .ok (.ishl, 1) := by decide +kernel
theorem dX5_tell_166 : decode cX5_tell 166 = .ok (.ior, 1) := by decide +kernel
theorem dX5_tell_167 : decode cX5_tell 167 = .ok (.iastore, 1) := by decide +kernel
theorem dX5_tell_168 : decode cX5_tell 168 = .ok (.iinc 5 1, 3) := by decide +kernel
theorem dX5_tell_171 : decode cX5_tell 171 = .ok (.goto (-43), 3) := by decide +kernel
theorem dX5_tell_174 : decode cX5_tell 174 = .ok (.aload_n 0, 1) := by decide +kernel
theorem dX5_tell_175 : decode cX5_tell 175 = .ok (.getfield 43, 3) := by decide +kernel
theorem dX5_tell_178 : decode cX5_tell 178 = .ok (.iload_n 1, 1) := by decide +kernel
theorem dX5_tell_179 : decode cX5_tell 179 = .ok (.iaload, 1) := by decide +kernel
theorem dX5_tell_180 : decode cX5_tell 180 = .ok (.ireturn, 1) := by decide +kernel
theorem dX5_heldOn_0 : decode cX5_heldOn 0 = .ok (.iconst (-1), 1) := by decide +kernel
theorem dX5_heldOn_1 : decode cX5_heldOn 1 = .ok (.istore 4, 2) := by decide +kernel
theorem dX5_heldOn_3 : decode cX5_heldOn 3 = .ok (.iconst 0, 1) := by decide +kernel
theorem dX5_heldOn_4 : decode cX5_heldOn 4 = .ok (.istore 5, 2) := by decide +kernel
theorem dX5_heldOn_6 : decode cX5_heldOn 6 = .ok (.iload 5, 2) := by decide +kernel
theorem dX5_heldOn_8 : decode cX5_heldOn 8 = .ok (.aload_n 0, 1) := by decide +kernel
theorem dX5_heldOn_9 : decode cX5_heldOn 9 = .ok (.getfield 43, 3) := by decide +kernel
theorem dX5_heldOn_12 : decode cX5_heldOn 12 = .ok (.iload_n 1, 1) := by decide +kernel
theorem dX5_heldOn_13 : decode cX5_heldOn 13 = .ok (.iaload, 1) := by decide +kernel
theorem dX5_heldOn_14 : decode cX5_heldOn 14 = .ok (.if_icmp .ge 70, 3) := by decide +kernel
theorem dX5_heldOn_17 : decode cX5_heldOn 17 = .ok (.bipush 40, 2) := by decide +kernel
theorem dX5_heldOn_19 : decode cX5_heldOn 19 = .ok (.iload_n 1, 1) := by decide +kernel
theorem dX5_heldOn_20 : decode cX5_heldOn 20 = .ok (.imul, 1) := by decide +kernel
theorem dX5_heldOn_21 : decode cX5_heldOn 21 = .ok (.iload 5, 2) := by decide +kernel
theorem dX5_heldOn_23 : decode cX5_heldOn 23 = .ok (.iadd, 1) := by decide +kernel
theorem dX5_heldOn_24 : decode cX5_heldOn 24 = .ok (.istore 6, 2) := by decide +kernel
theorem dX5_heldOn_26 : decode cX5_heldOn 26 = .ok (.aload_n 0, 1) := by decide +kernel
theorem dX5_heldOn_27 : decode cX5_heldOn 27 = .ok (.getfield 52, 3) := by decide +kernel
theorem dX5_heldOn_30 : decode cX5_heldOn 30 = .ok (.iload 6, 2) := by decide +kernel
theorem dX5_heldOn_32 : decode cX5_heldOn 32 = .ok (.iaload, 1) := by decide +kernel
theorem dX5_heldOn_33 : decode cX5_heldOn 33 = .ok (.iload_n 3, 1) := by decide +kernel
theorem dX5_heldOn_34 : decode cX5_heldOn 34 = .ok (.if_icmp .gt 44, 3) := by decide +kernel
theorem dX5_heldOn_37 : decode cX5_heldOn 37 = .ok (.aload_n 0, 1) := by decide +kernel
theorem dX5_heldOn_38 : decode cX5_heldOn 38 = .ok (.getfield 46, 3) := by decide +kernel
theorem dX5_heldOn_41 : decode cX5_heldOn 41 = .ok (.iload 6, 2) := by decide +kernel
theorem dX5_heldOn_43 : decode cX5_heldOn 43 = .ok (.iaload, 1) := by decide +kernel
theorem dX5_heldOn_44 : decode cX5_heldOn 44 = .ok (.iload_n 2, 1) := by decide +kernel
theorem dX5_heldOn_45 : decode cX5_heldOn 45 = .ok (.if_icmp .le 6, 3) := by decide +kernel
theorem dX5_heldOn_48 : decode cX5_heldOn 48 = .ok (.goto 30, 3) := by decide +kernel
theorem dX5_heldOn_51 : decode cX5_heldOn 51 = .ok (.iload 4, 2) := by decide +kernel
theorem dX5_heldOn_53 : decode cX5_heldOn 53 = .ok (.iconst (-1), 1) := by decide +kernel
theorem dX5_heldOn_54 : decode cX5_heldOn 54 = .ok (.if_icmp .eq 20, 3) := by decide +kernel
theorem dX5_heldOn_57 : decode cX5_heldOn 57 = .ok (.aload_n 0, 1) := by decide +kernel
theorem dX5_heldOn_58 : decode cX5_heldOn 58 = .ok (.getfield 46, 3) := by decide +kernel
theorem dX5_heldOn_61 : decode cX5_heldOn 61 = .ok (.iload 6, 2) := by decide +kernel
theorem dX5_heldOn_63 : decode cX5_heldOn 63 = .ok (.iaload, 1) := by decide +kernel
theorem dX5_heldOn_64 : decode cX5_heldOn 64 = .ok (.aload_n 0, 1) := by decide +kernel
theorem dX5_heldOn_65 : decode cX5_heldOn 65 = .ok (.getfield 46, 3) := by decide +kernel
theorem dX5_heldOn_68 : decode cX5_heldOn 68 = .ok (.iload 4, 2) := by decide +kernel
theorem dX5_heldOn_70 : decode cX5_heldOn 70 = .ok (.iaload, 1) := by decide +kernel
theorem dX5_heldOn_71 : decode cX5_heldOn 71 = .ok (.if_icmp .lt 7, 3) := by decide +kernel
theorem dX5_heldOn_74 : decode cX5_heldOn 74 = .ok (.iload 6, 2) := by decide +kernel
theorem dX5_heldOn_76 : decode cX5_heldOn 76 = .ok (.istore 4, 2) := by decide +kernel
theorem dX5_heldOn_78 : decode cX5_heldOn 78 = .ok (.iinc 5 1, 3) := by decide +kernel
theorem dX5_heldOn_81 : decode cX5_heldOn 81 = .ok (.goto (-75), 3) := by decide +kernel
theorem dX5_heldOn_84 : decode cX5_heldOn 84 = .ok (.iload 4, 2) := by decide +kernel
theorem dX5_heldOn_86 : decode cX5_heldOn 86 = .ok (.iconst (-1), 1) := by decide +kernel
theorem dX5_heldOn_87 : decode cX5_heldOn 87 = .ok (.if_icmp .ne 7, 3) := by decide +kernel
theorem dX5_heldOn_90 : decode cX5_heldOn 90 = .ok (.iconst (-1), 1) := by decide +kernel
theorem dX5_heldOn_91 : decode cX5_heldOn 91 = .ok (.goto 10, 3) := by decide +kernel
theorem dX5_heldOn_94 : decode cX5_heldOn 94 = .ok (.aload_n 0, 1) := by decide +kernel
theorem dX5_heldOn_95 : decode cX5_heldOn 95 = .ok (.getfield 49, 3) := by decide +kernel
theorem dX5_heldOn_98 : decode cX5_heldOn 98 = .ok (.iload 4, 2) := by decide +kernel
theorem dX5_heldOn_100 : decode cX5_heldOn 100 = .ok (.iaload, 1) := by decide +kernel
theorem dX5_heldOn_101 : decode cX5_heldOn 101 = .ok (.ireturn, 1) := by decide +kernel
set_option maxRecDepth 20000 in
theorem ggX5_held_X5_isCask : GoodIn wsX5_held wsX5_isCask := goodIn_r _ [6, 7, 20, 21, 22, 23, 24, 25, 26, 27, 28, 29, 30, 31, 32, 33, 34, 35, 36, 37, 38, 39, 40, 41, 42, 43, 44, 45, 46, 47, 48, 49, 50, 51, 52, 53] (by decide +kernel) (by decide +kernel)
set_option maxRecDepth 20000 in
theorem gX5_held_X5_isCask : GoodIn wsX5_held (wsV RX5 194 RX5 yX5_isCask wsX5_isCask) := goodIn_app (goodIn_of _ (by decide +kernel)) ggX5_held_X5_isCask
set_option maxRecDepth 20000 in
theorem ggX5_held_X5_heldOn : GoodIn wsX5_held wsX5_heldOn := goodIn_r _ [11, 12, 13, 14, 15, 20, 21, 22, 23, 24, 25, 26, 27, 28, 29, 30, 31, 32, 33, 34, 35, 36, 37, 38, 39, 40, 41, 42, 43, 44, 45, 46, 47, 48, 49, 50, 51, 52, 53] (by decide +kernel) (by decide +kernel)
set_option maxRecDepth 20000 in
theorem gX5_held_X5_heldOn : GoodIn wsX5_held (wsV RX5 209 RX5 yX5_heldOn wsX5_heldOn) := goodIn_app (goodIn_of _ (by decide +kernel)) ggX5_held_X5_heldOn
set_option maxRecDepth 20000 in
theorem ggX5_held_X5_fail : GoodIn wsX5_held wsX5_fail := goodIn_r _ [19, 1, 20, 21, 22, 23, 24, 25, 26, 27, 28, 29, 30, 31, 32, 33, 34, 35, 36, 37, 38, 39, 40, 41, 42, 43, 44, 45, 46, 47, 48, 49, 50, 51, 52, 53] (by decide +kernel) (by decide +kernel)
set_option maxRecDepth 20000 in
theorem gX5_held_X5_fail : GoodIn wsX5_held (wsV RX5 94 RX5 yX5_fail wsX5_fail) := goodIn_app (goodIn_of _ (by decide +kernel)) ggX5_held_X5_fail
theorem dX5_held_0 : decode cX5_held 0 = .ok (.aload_n 0, 1) := by decide +kernel
theorem dX5_held_1 : decode cX5_held 1 = .ok (.iconst 0, 1) := by decide +kernel
theorem dX5_held_2 : decode cX5_held 2 = .ok (.putfield 83, 3) := by decide +kernel
theorem dX5_held_5 : decode cX5_held 5 = .ok (.aload_n 0, 1) := by decide +kernel
theorem dX5_held_6 : decode cX5_held 6 = .ok (.iload_n 1, 1) := by decide +kernel
theorem dX5_held_7 : decode cX5_held 7 = .ok (.invokevirtual 194, 3) := by decide +kernel
theorem dX5_held_10 : decode cX5_held 10 = .ok (.ifCond .eq 13, 3) := by decide +kernel
theorem dX5_held_13 : decode cX5_held 13 = .ok (.aload_n 0, 1) := by decide +kernel
theorem dX5_held_14 : decode cX5_held 14 = .ok (.iload_n 1, 1) := by decide +kernel
theorem dX5_held_15 : decode cX5_held 15 = .ok (.iload_n 2, 1) := by decide +kernel
theorem dX5_held_16 : decode cX5_held 16 = .ok (.iload_n 3, 1) := by decide +kernel
theorem dX5_held_17 : decode cX5_held 17 = .ok (.invokevirtual 209, 3) := by decide +kernel
theorem dX5_held_20 : decode cX5_held 20 = .ok (.goto 8, 3) := by decide +kernel
theorem dX5_held_23 : decode cX5_held 23 = .ok (.aload_n 0, 1) := by decide +kernel
theorem dX5_held_24 : decode cX5_held 24 = .ok (.iconst 1, 1) := by decide +kernel
theorem dX5_held_25 : decode cX5_held 25 = .ok (.invokevirtual 94, 3) := by decide +kernel
theorem dX5_held_28 : decode cX5_held 28 = .ok (.ireturn, 1) := by decide +kernel
set_option maxRecDepth 20000 in
theorem ggX5_lacks_X5_isCask : GoodIn wsX5_lacks wsX5_isCask := goodIn_r _ [8, 9, 22, 23, 24, 25, 26, 27, 28, 29, 30, 31, 32, 33, 34, 35, 36, 37, 38, 39, 40, 41, 42, 43, 44, 45, 46, 47, 48, 49, 50, 51, 52, 53, 54, 55] (by decide +kernel) (by decide +kernel)
set_option maxRecDepth 20000 in
theorem gX5_lacks_X5_isCask : GoodIn wsX5_lacks (wsV RX5 194 RX5 yX5_isCask wsX5_isCask) := goodIn_app (goodIn_of _ (by decide +kernel)) ggX5_lacks_X5_isCask
set_option maxRecDepth 20000 in
theorem ggX5_lacks_X5_fail : GoodIn wsX5_lacks wsX5_fail := goodIn_r _ [13, 1, 22, 23, 24, 25, 26, 27, 28, 29, 30, 31, 32, 33, 34, 35, 36, 37, 38, 39, 40, 41, 42, 43, 44, 45, 46, 47, 48, 49, 50, 51, 52, 53, 54, 55] (by decide +kernel) (by decide +kernel)
set_option maxRecDepth 20000 in
theorem gX5_lacks_X5_fail : GoodIn wsX5_lacks (wsV RX5 94 RX5 yX5_fail wsX5_fail) := goodIn_app (goodIn_of _ (by decide +kernel)) ggX5_lacks_X5_fail
set_option maxRecDepth 20000 in
theorem ggX5_lacks_X5_heldOn : GoodIn wsX5_lacks wsX5_heldOn := goodIn_r _ [17, 18, 19, 20, 21, 22, 23, 24, 25, 26, 27, 28, 29, 30, 31, 32, 33, 34, 35, 36, 37, 38, 39, 40, 41, 42, 43, 44, 45, 46, 47, 48, 49, 50, 51, 52, 53, 54, 55] (by decide +kernel) (by decide +kernel)
set_option maxRecDepth 20000 in
theorem gX5_lacks_X5_heldOn : GoodIn wsX5_lacks (wsV RX5 209 RX5 yX5_heldOn wsX5_heldOn) := goodIn_app (goodIn_of _ (by decide +kernel)) ggX5_lacks_X5_heldOn
theorem dX5_lacks_0 : decode cX5_lacks 0 = .ok (.aload_n 0, 1) := by decide +kernel
theorem dX5_lacks_1 : decode cX5_lacks 1 = .ok (.iconst 0, 1) := by decide +kernel
theorem dX5_lacks_2 : decode cX5_lacks 2 = .ok (.putfield 83, 3) := by decide +kernel
theorem dX5_lacks_5 : decode cX5_lacks 5 = .ok (.aload_n 0, 1) := by decide +kernel
theorem dX5_lacks_6 : decode cX5_lacks 6 = .ok (.iload_n 1, 1) := by decide +kernel
theorem dX5_lacks_7 : decode cX5_lacks 7 = .ok (.invokevirtual 194, 3) := by decide +kernel
theorem dX5_lacks_10 : decode cX5_lacks 10 = .ok (.ifCond .ne 9, 3) := by decide +kernel
theorem dX5_lacks_13 : decode cX5_lacks 13 = .ok (.aload_n 0, 1) := by decide +kernel
theorem dX5_lacks_14 : decode cX5_lacks 14 = .ok (.iconst 1, 1) := by decide +kernel
theorem dX5_lacks_15 : decode cX5_lacks 15 = .ok (.invokevirtual 94, 3) := by decide +kernel
theorem dX5_lacks_18 : decode cX5_lacks 18 = .ok (.ireturn, 1) := by decide +kernel
theorem dX5_lacks_19 : decode cX5_lacks 19 = .ok (.iload_n 2, 1) := by decide +kernel
theorem dX5_lacks_20 : decode cX5_lacks 20 = .ok (.ifCond .lt 25, 3) := by decide +kernel
theorem dX5_lacks_23 : decode cX5_lacks 23 = .ok (.iload_n 3, 1) := by decide +kernel
theorem dX5_lacks_24 : decode cX5_lacks 24 = .ok (.iload_n 2, 1) := by decide +kernel
theorem dX5_lacks_25 : decode cX5_lacks 25 = .ok (.if_icmp .lt 20, 3) := by decide +kernel
theorem dX5_lacks_28 : decode cX5_lacks 28 = .ok (.iload_n 3, 1) := by decide +kernel
theorem dX5_lacks_29 : decode cX5_lacks 29 = .ok (.ldc 212, 2) := by decide +kernel
theorem dX5_lacks_31 : decode cX5_lacks 31 = .ok (.if_icmp .gt 14, 3) := by decide +kernel
theorem dX5_lacks_34 : decode cX5_lacks 34 = .ok (.iload 4, 2) := by decide +kernel
theorem dX5_lacks_36 : decode cX5_lacks 36 = .ok (.ifCond .lt 9, 3) := by decide +kernel
theorem dX5_lacks_39 : decode cX5_lacks 39 = .ok (.iload 4, 2) := by decide +kernel
theorem dX5_lacks_41 : decode cX5_lacks 41 = .ok (.iconst 1, 1) := by decide +kernel
theorem dX5_lacks_42 : decode cX5_lacks 42 = .ok (.if_icmp .le 9, 3) := by decide +kernel
theorem dX5_lacks_45 : decode cX5_lacks 45 = .ok (.aload_n 0, 1) := by decide +kernel
theorem dX5_lacks_46 : decode cX5_lacks 46 = .ok (.iconst 2, 1) := by decide +kernel
theorem dX5_lacks_47 : decode cX5_lacks 47 = .ok (.invokevirtual 94, 3) := by decide +kernel
theorem dX5_lacks_50 : decode cX5_lacks 50 = .ok (.ireturn, 1) := by decide +kernel
theorem dX5_lacks_51 : decode cX5_lacks 51 = .ok (.iconst 0, 1) := by decide +kernel
theorem dX5_lacks_52 : decode cX5_lacks 52 = .ok (.istore 5, 2) := by decide +kernel
theorem dX5_lacks_54 : decode cX5_lacks 54 = .ok (.iload_n 2, 1) := by decide +kernel
theorem dX5_lacks_55 : decode cX5_lacks 55 = .ok (.istore 6, 2) := by decide +kernel
theorem dX5_lacks_57 : decode cX5_lacks 57 = .ok (.iload 6, 2) := by decide +kernel
theorem dX5_lacks_59 : decode cX5_lacks 59 = .ok (.iload_n 3, 1) := by decide +kernel
theorem dX5_lacks_60 : decode cX5_lacks 60 = .ok (.if_icmp .gt 44, 3) := by decide +kernel
theorem dX5_lacks_63 : decode cX5_lacks 63 = .ok (.iload 5, 2) := by decide +kernel
theorem dX5_lacks_65 : decode cX5_lacks 65 = .ok (.aload_n 0, 1) := by decide +kernel
theorem dX5_lacks_66 : decode cX5_lacks 66 = .ok (.iload_n 1, 1) := by decide +kernel
theorem dX5_lacks_67 : decode cX5_lacks 67 = .ok (.iload 6, 2) := by decide +kernel
theorem dX5_lacks_69 : decode cX5_lacks 69 = .ok (.aload_n 0, 1) := by decide +kernel
theorem dX5_lacks_70 : decode cX5_lacks 70 = .ok (.getfield 117, 3) := by decide +kernel
theorem dX5_lacks_73 : decode cX5_lacks 73 = .ok (.invokevirtual 209, 3) := by decide +kernel
theorem dX5_lacks_76 : decode cX5_lacks 76 = .ok (.iload 4, 2) := by decide +kernel
theorem dX5_lacks_78 : decode cX5_lacks 78 = .ok (.ifCond .ne 7, 3) := by decide +kernel
theorem dX5_lacks_81 : decode cX5_lacks 81 = .ok (.iconst (-1), 1) := by decide +kernel
theorem dX5_lacks_82 : decode cX5_lacks 82 = .ok (.goto 5, 3) := by decide +kernel
theorem dX5_lacks_85 : decode cX5_lacks 85 = .ok (.bipush 16, 2) := by decide +kernel
theorem dX5_lacks_87 : decode cX5_lacks 87 = .ok (.if_icmp .ne 7, 3) := by decide +kernel
theorem dX5_lacks_90 : decode cX5_lacks 90 = .ok (.iconst 1, 1) := by decide +kernel
theorem dX5_lacks_91 : decode cX5_lacks 91 = .ok (.goto 4, 3) := by decide +kernel
theorem dX5_lacks_94 : decode cX5_lacks 94 = .ok (.iconst 0, 1) := by decide +kernel
theorem dX5_lacks_95 : decode cX5_lacks 95 = .ok (.iadd, 1) := by decide +kernel
theorem dX5_lacks_96 : decode cX5_lacks 96 = .ok (.istore 5, 2) := by decide +kernel
theorem dX5_lacks_98 : decode cX5_lacks 98 = .ok (.iinc 6 1, 3) := by decide +kernel
theorem dX5_lacks_101 : decode cX5_lacks 101 = .ok (.goto (-44), 3) := by decide +kernel
theorem dX5_lacks_104 : decode cX5_lacks 104 = .ok (.iload 5, 2) := by decide +kernel
theorem dX5_lacks_106 : decode cX5_lacks 106 = .ok (.ireturn, 1) := by decide +kernel
set_option maxRecDepth 20000 in
theorem ggX5_swap_X5_isStave : GoodIn wsX5_swap wsX5_isStave := goodIn_r _ [8, 9, 10, 11, 12, 13, 7, 14, 15, 35, 36, 37, 38, 39, 40, 41, 42, 43, 44, 45, 46, 47, 48, 49, 50, 51, 52, 53, 54, 55, 56, 57, 58, 59, 60, 61, 62, 63, 64, 65, 66, 67, 68] (by decide +kernel) (by decide +kernel)
set_option maxRecDepth 20000 in
theorem gX5_swap_X5_isStave : GoodIn wsX5_swap (wsV RX5 197 RX5 yX5_isStave wsX5_isStave) := goodIn_app (goodIn_of _ (by decide +kernel)) ggX5_swap_X5_isStave
set_option maxRecDepth 20000 in
theorem ggX5_swap_X5_fail : GoodIn wsX5_swap wsX5_fail := goodIn_r _ [19, 1, 35, 36, 37, 38, 39, 40, 41, 42, 43, 44, 45, 46, 47, 48, 49, 50, 51, 52, 53, 54, 55, 56, 57, 58, 59, 60, 61, 62, 63, 64, 65, 66, 67, 68] (by decide +kernel) (by decide +kernel)
set_option maxRecDepth 20000 in
theorem gX5_swap_X5_fail : GoodIn wsX5_swap (wsV RX5 94 RX5 yX5_fail wsX5_fail) := goodIn_app (goodIn_of _ (by decide +kernel)) ggX5_swap_X5_fail
set_option maxRecDepth 20000 in
theorem ggX5_swap_X5_middle : GoodIn wsX5_swap wsX5_middle := goodIn_r _ [23, 10, 24, 25, 26, 27, 7, 28, 9, 29, 30, 31, 32, 33, 34, 35, 36, 37, 38, 39, 40, 41, 42, 43, 44, 45, 46, 47, 48, 49, 50, 51, 52, 53, 54, 55, 56, 57, 58, 59, 60, 61, 62, 63, 64, 65, 66, 67, 68] (by decide +kernel) (by decide +kernel)
set_option maxRecDepth 20000 in
theorem gX5_swap_X5_middle : GoodIn wsX5_swap (wsV RX5 200 RX5 yX5_middle wsX5_middle) := goodIn_app (goodIn_of _ (by decide +kernel)) ggX5_swap_X5_middle
theorem dX5_swap_0 : decode cX5_swap 0 = .ok (.aload_n 0, 1) := by decide +kernel
theorem dX5_swap_1 : decode cX5_swap 1 = .ok (.iconst 0, 1) := by decide +kernel
theorem dX5_swap_2 : decode cX5_swap 2 = .ok (.putfield 83, 3) := by decide +kernel
theorem dX5_swap_5 : decode cX5_swap 5 = .ok (.aload_n 0, 1) := by decide +kernel
theorem dX5_swap_6 : decode cX5_swap 6 = .ok (.iload_n 1, 1) := by decide +kernel
theorem dX5_swap_7 : decode cX5_swap 7 = .ok (.iload_n 2, 1) := by decide +kernel
theorem dX5_swap_8 : decode cX5_swap 8 = .ok (.invokevirtual 197, 3) := by decide +kernel
theorem dX5_swap_11 : decode cX5_swap 11 = .ok (.ifCond .eq 13, 3) := by decide +kernel
theorem dX5_swap_14 : decode cX5_swap 14 = .ok (.aload_n 0, 1) := by decide +kernel
theorem dX5_swap_15 : decode cX5_swap 15 = .ok (.iload_n 3, 1) := by decide +kernel
theorem dX5_swap_16 : decode cX5_swap 16 = .ok (.iload 4, 2) := by decide +kernel
theorem dX5_swap_18 : decode cX5_swap 18 = .ok (.invokevirtual 197, 3) := by decide +kernel
theorem dX5_swap_21 : decode cX5_swap 21 = .ok (.ifCond .ne 11, 3) := by decide +kernel
theorem dX5_swap_24 : decode cX5_swap 24 = .ok (.aload_n 0, 1) := by decide +kernel
theorem dX5_swap_25 : decode cX5_swap 25 = .ok (.iconst 1, 1) := by decide +kernel
theorem dX5_swap_26 : decode cX5_swap 26 = .ok (.invokevirtual 94, 3) := by decide +kernel
theorem dX5_swap_29 : decode cX5_swap 29 = .ok (.pop, 1) := by decide +kernel
theorem dX5_swap_30 : decode cX5_swap 30 = .ok (.iconst 0, 1) := by decide +kernel
theorem dX5_swap_31 : decode cX5_swap 31 = .ok (.ireturn, 1) := by decide +kernel
theorem dX5_swap_32 : decode cX5_swap 32 = .ok (.iload_n 1, 1) := by decide +kernel
theorem dX5_swap_33 : decode cX5_swap 33 = .ok (.iload_n 3, 1) := by decide +kernel
theorem dX5_swap_34 : decode cX5_swap 34 = .ok (.if_icmp .eq 19, 3) := by decide +kernel
theorem dX5_swap_37 : decode cX5_swap 37 = .ok (.aload_n 0, 1) := by decide +kernel
theorem dX5_swap_38 : decode cX5_swap 38 = .ok (.iload_n 1, 1) := by decide +kernel
theorem dX5_swap_39 : decode cX5_swap 39 = .ok (.iload_n 2, 1) := by decide +kernel
theorem dX5_swap_40 : decode cX5_swap 40 = .ok (.invokevirtual 200, 3) := by decide +kernel
theorem dX5_swap_43 : decode cX5_swap 43 = .ok (.aload_n 0, 1) := by decide +kernel
theorem dX5_swap_44 : decode cX5_swap 44 = .ok (.iload_n 3, 1) := by decide +kernel
theorem dX5_swap_45 : decode cX5_swap 45 = .ok (.iload 4, 2) := by decide +kernel
theorem dX5_swap_47 : decode cX5_swap 47 = .ok (.invokevirtual 200, 3) := by decide +kernel
theorem dX5_swap_50 : decode cX5_swap 50 = .ok (.if_icmp .eq 5, 3) := by decide +kernel
theorem dX5_swap_53 : decode cX5_swap 53 = .ok (.iconst 0, 1) := by decide +kernel
theorem dX5_swap_54 : decode cX5_swap 54 = .ok (.ireturn, 1) := by decide +kernel
theorem dX5_swap_55 : decode cX5_swap 55 = .ok (.bipush 40, 2) := by decide +kernel
theorem dX5_swap_57 : decode cX5_swap 57 = .ok (.iload_n 1, 1) := by decide +kernel
theorem dX5_swap_58 : decode cX5_swap 58 = .ok (.imul, 1) := by decide +kernel
theorem dX5_swap_59 : decode cX5_swap 59 = .ok (.iload_n 2, 1) := by decide +kernel
theorem dX5_swap_60 : decode cX5_swap 60 = .ok (.iadd, 1) := by decide +kernel
theorem dX5_swap_61 : decode cX5_swap 61 = .ok (.istore 5, 2) := by decide +kernel
theorem dX5_swap_63 : decode cX5_swap 63 = .ok (.bipush 40, 2) := by decide +kernel
theorem dX5_swap_65 : decode cX5_swap 65 = .ok (.iload_n 3, 1) := by decide +kernel
theorem dX5_swap_66 : decode cX5_swap 66 = .ok (.imul, 1) := by decide +kernel
theorem dX5_swap_67 : decode cX5_swap 67 = .ok (.iload 4, 2) := by decide +kernel
theorem dX5_swap_69 : decode cX5_swap 69 = .ok (.iadd, 1) := by decide +kernel
theorem dX5_swap_70 : decode cX5_swap 70 = .ok (.istore 6, 2) := by decide +kernel
theorem dX5_swap_72 : decode cX5_swap 72 = .ok (.aload_n 0, 1) := by decide +kernel
theorem dX5_swap_73 : decode cX5_swap 73 = .ok (.getfield 37, 3) := by decide +kernel
theorem dX5_swap_76 : decode cX5_swap 76 = .ok (.iload 5, 2) := by decide +kernel
theorem dX5_swap_78 : decode cX5_swap 78 = .ok (.iaload, 1) := by decide +kernel
theorem dX5_swap_79 : decode cX5_swap 79 = .ok (.istore 7, 2) := by decide +kernel
theorem dX5_swap_81 : decode cX5_swap 81 = .ok (.aload_n 0, 1) := by decide +kernel
theorem dX5_swap_82 : decode cX5_swap 82 = .ok (.getfield 37, 3) := by decide +kernel
theorem dX5_swap_85 : decode cX5_swap 85 = .ok (.iload 5, 2) := by decide +kernel
theorem dX5_swap_87 : decode cX5_swap 87 = .ok (.aload_n 0, 1) := by decide +kernel
theorem dX5_swap_88 : decode cX5_swap 88 = .ok (.getfield 37, 3) := by decide +kernel
theorem dX5_swap_91 : decode cX5_swap 91 = .ok (.iload 6, 2) := by decide +kernel
theorem dX5_swap_93 : decode cX5_swap 93 = .ok (.iaload, 1) := by decide +kernel
theorem dX5_swap_94 : decode cX5_swap 94 = .ok (.iastore, 1) := by decide +kernel
theorem dX5_swap_95 : decode cX5_swap 95 = .ok (.aload_n 0, 1) := by decide +kernel
theorem dX5_swap_96 : decode cX5_swap 96 = .ok (.getfield 37, 3) := by decide +kernel
theorem dX5_swap_99 : decode cX5_swap 99 = .ok (.iload 6, 2) := by decide +kernel
theorem dX5_swap_101 : decode cX5_swap 101 = .ok (.iload 7, 2) := by decide +kernel
theorem dX5_swap_103 : decode cX5_swap 103 = .ok (.iastore, 1) := by decide +kernel
theorem dX5_swap_104 : decode cX5_swap 104 = .ok (.aload_n 0, 1) := by decide +kernel
theorem dX5_swap_105 : decode cX5_swap 105 = .ok (.getfield 40, 3) := by decide +kernel
theorem dX5_swap_108 : decode cX5_swap 108 = .ok (.iload 5, 2) := by decide +kernel
theorem dX5_swap_110 : decode cX5_swap 110 = .ok (.iaload, 1) := by decide +kernel
theorem dX5_swap_111 : decode cX5_swap 111 = .ok (.istore 8, 2) := by decide +kernel
theorem dX5_swap_113 : decode cX5_swap 113 = .ok (.aload_n 0, 1) := by decide +kernel
theorem dX5_swap_114 : decode cX5_swap 114 = .ok (.getfield 40, 3) := by decide +kernel
theorem dX5_swap_117 : decode cX5_swap 117 = .ok (.iload 5, 2) := by decide +kernel
theorem dX5_swap_119 : decode cX5_swap 119 = .ok (.aload_n 0, 1) := by decide +kernel
theorem dX5_swap_120 : decode cX5_swap 120 = .ok (.getfield 40, 3) := by decide +kernel
theorem dX5_swap_123 : decode cX5_swap 123 = .ok (.iload 6, 2) := by decide +kernel
theorem dX5_swap_125 : decode cX5_swap 125 = .ok (.iaload, 1) := by decide +kernel
theorem dX5_swap_126 : decode cX5_swap 126 = .ok (.iastore, 1) := by decide +kernel
theorem dX5_swap_127 : decode cX5_swap 127 = .ok (.aload_n 0, 1) := by decide +kernel
theorem dX5_swap_128 : decode cX5_swap 128 = .ok (.getfield 40, 3) := by decide +kernel
theorem dX5_swap_131 : decode cX5_swap 131 = .ok (.iload 6, 2) := by decide +kernel
theorem dX5_swap_133 : decode cX5_swap 133 = .ok (.iload 8, 2) := by decide +kernel
theorem dX5_swap_135 : decode cX5_swap 135 = .ok (.iastore, 1) := by decide +kernel
theorem dX5_swap_136 : decode cX5_swap 136 = .ok (.iconst 1, 1) := by decide +kernel
theorem dX5_swap_137 : decode cX5_swap 137 = .ok (.ireturn, 1) := by decide +kernel
set_option maxRecDepth 20000 in
theorem ggX5_renew_X5_isStave : GoodIn wsX5_renew wsX5_isStave := goodIn_r _ [12, 13, 14, 15, 16, 17, 11, 18, 19, 56, 57, 58, 59, 60, 61, 62, 63, 64, 65, 66, 67, 68, 69, 70, 71, 72, 73, 74, 75, 76, 77, 78, 79, 80, 81, 82, 83, 84, 85, 86, 87, 88, 89] (by decide +kernel) (by decide +kernel)
set_option maxRecDepth 20000 in
theorem gX5_renew_X5_isStave : GoodIn wsX5_renew (wsV RX5 197 RX5 yX5_isStave wsX5_isStave) := goodIn_app (goodIn_of _ (by decide +kernel)) ggX5_renew_X5_isStave
set_option maxRecDepth 20000 in
theorem ggX5_renew_X5_fail : GoodIn wsX5_renew wsX5_fail := goodIn_r _ [23, 1, 56, 57, 58, 59, 60, 61, 62, 63, 64, 65, 66, 67, 68, 69, 70, 71, 72, 73, 74, 75, 76, 77, 78, 79, 80, 81, 82, 83, 84, 85, 86, 87, 88, 89] (by decide +kernel) (by decide +kernel)
set_option maxRecDepth 20000 in
theorem gX5_renew_X5_fail : GoodIn wsX5_renew (wsV RX5 94 RX5 yX5_fail wsX5_fail) := goodIn_app (goodIn_of _ (by decide +kernel)) ggX5_renew_X5_fail
set_option maxRecDepth 20000 in
theorem ggX5_renew_X5_middle : GoodIn wsX5_renew wsX5_middle := goodIn_r _ [27, 14, 28, 29, 30, 31, 11, 32, 13, 33, 34, 35, 36, 37, 38, 56, 57, 58, 59, 60, 61, 62, 63, 64, 65, 66, 67, 68, 69, 70, 71, 72, 73, 74, 75, 76, 77, 78, 79, 80, 81, 82, 83, 84, 85, 86, 87, 88, 89] (by decide +kernel) (by decide +kernel)
set_option maxRecDepth 20000 in
theorem gX5_renew_X5_middle : GoodIn wsX5_renew (wsV RX5 200 RX5 yX5_middle wsX5_middle) := goodIn_app (goodIn_of _ (by decide +kernel)) ggX5_renew_X5_middle
set_option maxRecDepth 20000 in
theorem ggX5_renew_X5_isRipe : GoodIn wsX5_renew wsX5_isRipe := goodIn_r _ [42, 43, 44, 56, 57, 58, 59, 60, 61, 62, 63, 64, 65, 66, 67, 68, 69, 70, 71, 72, 73, 74, 75, 76, 77, 78, 79, 80, 81, 82, 83, 84, 85, 86, 87, 88, 89] (by decide +kernel) (by decide +kernel)
set_option maxRecDepth 20000 in
theorem gX5_renew_X5_isRipe : GoodIn wsX5_renew (wsV RX5 139 RX5 yX5_isRipe wsX5_isRipe) := goodIn_app (goodIn_of _ (by decide +kernel)) ggX5_renew_X5_isRipe
set_option maxRecDepth 20000 in
theorem ggX5_renew_X5_part : GoodIn wsX5_renew wsX5_part := goodIn_r _ [47] (by decide +kernel) (by decide +kernel)
set_option maxRecDepth 20000 in
theorem gX5_renew_X5_part : GoodIn wsX5_renew (va_wsS RX5 125 yX5_part wsX5_part) := goodIn_app (goodIn_of _ (by decide +kernel)) ggX5_renew_X5_part
set_option maxRecDepth 20000 in
theorem ggX5_renew_X5_cut : GoodIn wsX5_renew wsX5_cut := goodIn_r _ [51, 5, 45, 46, 11, 47, 56, 57, 58, 59, 60, 61, 62, 63, 64, 65, 66, 67, 68, 69, 70, 71, 72, 73, 74, 75, 76, 77, 78, 79, 80, 81, 82, 83, 84, 85, 86, 87, 88, 89] (by decide +kernel) (by decide +kernel)
set_option maxRecDepth 20000 in
theorem gX5_renew_X5_cut : GoodIn wsX5_renew (wsV RX5 187 RX5 yX5_cut wsX5_cut) := goodIn_app (goodIn_of _ (by decide +kernel)) ggX5_renew_X5_cut
set_option maxRecDepth 20000 in
theorem ggX5_renew_X5_tidy : GoodIn wsX5_renew wsX5_tidy := goodIn_r _ [55, 3, 5, 4, 45, 46, 11, 47, 56, 57, 58, 59, 60, 61, 62, 63, 64, 65, 66, 67, 68, 69, 70, 71, 72, 73, 74, 75, 76, 77, 78, 79, 80, 81, 82, 83, 84, 85, 86, 87, 88, 89] (by decide +kernel) (by decide +kernel)
set_option maxRecDepth 20000 in
theorem gX5_renew_X5_tidy : GoodIn wsX5_renew (wsV RX5 191 RX5 yX5_tidy wsX5_tidy) := goodIn_app (goodIn_of _ (by decide +kernel)) ggX5_renew_X5_tidy
theorem dX5_renew_0 : decode cX5_renew 0 = .ok (.aload_n 0, 1) := by decide +kernel
theorem dX5_renew_1 : decode cX5_renew 1 = .ok (.iconst 0, 1) := by decide +kernel
theorem dX5_renew_2 : decode cX5_renew 2 = .ok (.putfield 83, 3) := by decide +kernel
theorem dX5_renew_5 : decode cX5_renew 5 = .ok (.aload_n 0, 1) := by decide +kernel
theorem dX5_renew_6 : decode cX5_renew 6 = .ok (.iload_n 1, 1) := by decide +kernel
theorem dX5_renew_7 : decode cX5_renew 7 = .ok (.iload_n 2, 1) := by decide +kernel
theorem dX5_renew_8 : decode cX5_renew 8 = .ok (.invokevirtual 197, 3) := by decide +kernel
theorem dX5_renew_11 : decode cX5_renew 11 = .ok (.ifCond .ne 9, 3) := by decide +kernel
theorem dX5_renew_14 : decode cX5_renew 14 = .ok (.aload_n 0, 1) := by decide +kernel
theorem dX5_renew_15 : decode cX5_renew 15 = .ok (.iconst 1, 1) := by decide +kernel
theorem dX5_renew_16 : decode cX5_renew 16 = .ok (.invokevirtual 94, 3) := by decide +kernel
theorem dX5_renew_19 : decode cX5_renew 19 = .ok (.ireturn, 1) := by decide +kernel
theorem dX5_renew_20 : decode cX5_renew 20 = .ok (.aload_n 0, 1) := by decide +kernel
theorem dX5_renew_21 : decode cX5_renew 21 = .ok (.iload_n 1, 1) := by decide +kernel
theorem dX5_renew_22 : decode cX5_renew 22 = .ok (.iload_n 2, 1) := by decide +kernel
theorem dX5_renew_23 : decode cX5_renew 23 = .ok (.invokevirtual 200, 3) := by decide +kernel
theorem dX5_renew_26 : decode cX5_renew 26 = .ok (.iconst 2, 1) := by decide +kernel
theorem dX5_renew_27 : decode cX5_renew 27 = .ok (.iadd, 1) := by decide +kernel
theorem dX5_renew_28 : decode cX5_renew 28 = .ok (.istore_n 3, 1) := by decide +kernel
theorem dX5_renew_29 : decode cX5_renew 29 = .ok (.iconst 0, 1) := by decide +kernel
theorem dX5_renew_30 : decode cX5_renew 30 = .ok (.istore 4, 2) := by decide +kernel
theorem dX5_renew_32 : decode cX5_renew 32 = .ok (.iload 4, 2) := by decide +kernel
theorem dX5_renew_34 : decode cX5_renew 34 = .ok (.aload_n 0, 1) := by decide +kernel
theorem dX5_renew_35 : decode cX5_renew 35 = .ok (.getfield 122, 3) := by decide +kernel
theorem dX5_renew_38 : decode cX5_renew 38 = .ok (.if_icmp .ge 114, 3) := by decide +kernel
theorem dX5_renew_41 : decode cX5_renew 41 = .ok (.iconst 0, 1) := by decide +kernel
theorem dX5_renew_42 : decode cX5_renew 42 = .ok (.istore 5, 2) := by decide +kernel
theorem dX5_renew_44 : decode cX5_renew 44 = .ok (.iload 5, 2) := by decide +kernel
theorem dX5_renew_46 : decode cX5_renew 46 = .ok (.aload_n 0, 1) := by decide +kernel
theorem dX5_renew_47 : decode cX5_renew 47 = .ok (.getfield 25, 3) := by decide +kernel
theorem dX5_renew_50 : decode cX5_renew 50 = .ok (.iload 4, 2) := by decide +kernel
theorem dX5_renew_52 : decode cX5_renew 52 = .ok (.iaload, 1) := by decide +kernel
theorem dX5_renew_53 : decode cX5_renew 53 = .ok (.if_icmp .ge 93, 3) := by decide +kernel
theorem dX5_renew_56 : decode cX5_renew 56 = .ok (.aload_n 0, 1) := by decide +kernel
theorem dX5_renew_57 : decode cX5_renew 57 = .ok (.iload 4, 2) := by decide +kernel
theorem dX5_renew_59 : decode cX5_renew 59 = .ok (.invokevirtual 139, 3) := by decide +kernel
theorem dX5_renew_62 : decode cX5_renew 62 = .ok (.ifCond .eq 84, 3) := by decide +kernel
theorem dX5_renew_65 : decode cX5_renew 65 = .ok (.aload_n 0, 1) := by decide +kernel
theorem dX5_renew_66 : decode cX5_renew 66 = .ok (.getfield 31, 3) := by decide +kernel
theorem dX5_renew_69 : decode cX5_renew 69 = .ok (.iload 4, 2) := by decide +kernel
theorem dX5_renew_71 : decode cX5_renew 71 = .ok (.iload 5, 2) := by decide +kernel
theorem dX5_renew_73 : decode cX5_renew 73 = .ok (.invokestatic 125, 3) := by decide +kernel
theorem dX5_renew_76 : decode cX5_renew 76 = .ok (.iaload, 1) := by decide +kernel
theorem dX5_renew_77 : decode cX5_renew 77 = .ok (.aload_n 0, 1) := by decide +kernel
theorem dX5_renew_78 : decode cX5_renew 78 = .ok (.getfield 28, 3) := by decide +kernel
theorem dX5_renew_81 : decode cX5_renew 81 = .ok (.iload 4, 2) := by decide +kernel
theorem dX5_renew_83 : decode cX5_renew 83 = .ok (.iload 5, 2) := by decide +kernel
theorem dX5_renew_85 : decode cX5_renew 85 = .ok (.invokestatic 125, 3) := by decide +kernel
theorem dX5_renew_88 : decode cX5_renew 88 = .ok (.iaload, 1) := by decide +kernel
theorem dX5_renew_89 : decode cX5_renew 89 = .ok (.isub, 1) := by decide +kernel
theorem dX5_renew_90 : decode cX5_renew 90 = .ok (.iload_n 3, 1) := by decide +kernel
theorem dX5_renew_91 : decode cX5_renew 91 = .ok (.if_icmp .ge 6, 3) := by decide +kernel
theorem dX5_renew_94 : decode cX5_renew 94 = .ok (.goto 46, 3) := by decide +kernel
theorem dX5_renew_97 : decode cX5_renew 97 = .ok (.aload_n 0, 1) := by decide +kernel
theorem dX5_renew_98 : decode cX5_renew 98 = .ok (.iload 4, 2) := by decide +kernel
theorem dX5_renew_100 : decode cX5_renew 100 = .ok (.iload 5, 2) := by decide +kernel
theorem dX5_renew_102 : decode cX5_renew 102 = .ok (.iload_n 3, 1) := by decide +kernel
theorem dX5_renew_103 : decode cX5_renew 103 = .ok (.invokevirtual 187, 3) := by decide +kernel
theorem dX5_renew_106 : decode cX5_renew 106 = .ok (.aload_n 0, 1) := by decide +kernel
theorem dX5_renew_107 : decode cX5_renew 107 = .ok (.iload 4, 2) := by decide +kernel
theorem dX5_renew_109 : decode cX5_renew 109 = .ok (.invokevirtual 191, 3) := by decide +kernel
theorem dX5_renew_112 : decode cX5_renew 112 = .ok (.aload_n 0, 1) := by decide +kernel
theorem dX5_renew_113 : decode cX5_renew 113 = .ok (.getfield 37, 3) := by decide +kernel
theorem dX5_renew_116 : decode cX5_renew 116 = .ok (.bipush 40, 2) := by decide +kernel
theorem dX5_renew_118 : decode cX5_renew 118 = .ok (.iload_n 1, 1) := by decide +kernel
theorem dX5_renew_119 : decode cX5_renew 119 = .ok (.imul, 1) := by decide +kernel
theorem dX5_renew_120 : decode cX5_renew 120 = .ok (.iload_n 2, 1) := by decide +kernel
theorem dX5_renew_121 : decode cX5_renew 121 = .ok (.iadd, 1) := by decide +kernel
theorem dX5_renew_122 : decode cX5_renew 122 = .ok (.iload 4, 2) := by decide +kernel
theorem dX5_renew_124 : decode cX5_renew 124 = .ok (.iastore, 1) := by decide +kernel
theorem dX5_renew_125 : decode cX5_renew 125 = .ok (.aload_n 0, 1) := by decide +kernel
theorem dX5_renew_126 : decode cX5_renew 126 = .ok (.getfield 40, 3) := by decide +kernel
theorem dX5_renew_129 : decode cX5_renew 129 = .ok (.bipush 40, 2) := by decide +kernel
theorem dX5_renew_131 : decode cX5_renew 131 = .ok (.iload_n 1, 1) := by decide +kernel
theorem dX5_renew_132 : decode cX5_renew 132 = .ok (.imul, 1) := by decide +kernel
theorem dX5_renew_133 : decode cX5_renew 133 = .ok (.iload_n 2, 1) := by decide +kernel
theorem dX5_renew_134 : decode cX5_renew 134 = .ok (.iadd, 1) := by decide +kernel
theorem dX5_renew_135 : decode cX5_renew 135 = .ok (.iconst 0, 1) := by decide +kernel
theorem dX5_renew_136 : decode cX5_renew 136 = .ok (.iastore, 1) := by decide +kernel
theorem dX5_renew_137 : decode cX5_renew 137 = .ok (.iload 4, 2) := by decide +kernel
theorem dX5_renew_139 : decode cX5_renew 139 = .ok (.ireturn, 1) := by decide +kernel
theorem dX5_renew_140 : decode cX5_renew 140 = .ok (.iinc 5 1, 3) := by decide +kernel
theorem dX5_renew_143 : decode cX5_renew 143 = .ok (.goto (-99), 3) := by decide +kernel
theorem dX5_renew_146 : decode cX5_renew 146 = .ok (.iinc 4 1, 3) := by decide +kernel
theorem dX5_renew_149 : decode cX5_renew 149 = .ok (.goto (-117), 3) := by decide +kernel
theorem dX5_renew_152 : decode cX5_renew 152 = .ok (.iconst (-1), 1) := by decide +kernel
theorem dX5_renew_153 : decode cX5_renew 153 = .ok (.ireturn, 1) := by decide +kernel
set_option maxRecDepth 20000 in
theorem ggX5_weight_X5_isKind : GoodIn wsX5_weight wsX5_isKind := goodIn_r _ [6] (by decide +kernel) (by decide +kernel)
set_option maxRecDepth 20000 in
theorem gX5_weight_X5_isKind : GoodIn wsX5_weight (va_wsS RX5 203 yX5_isKind wsX5_isKind) := goodIn_app (goodIn_of _ (by decide +kernel)) ggX5_weight_X5_isKind
set_option maxRecDepth 20000 in
theorem ggX5_weight_X5_fail : GoodIn wsX5_weight wsX5_fail := goodIn_r _ [10, 1, 11, 12, 13, 14, 15, 16, 17, 18, 19, 20, 21, 22, 23, 24, 25, 26, 27, 28, 29, 30, 31, 32, 33, 34, 35, 36, 37, 38, 39, 40, 41, 42, 43, 44] (by decide +kernel) (by decide +kernel)
set_option maxRecDepth 20000 in
theorem gX5_weight_X5_fail : GoodIn wsX5_weight (wsV RX5 94 RX5 yX5_fail wsX5_fail) := goodIn_app (goodIn_of _ (by decide +kernel)) ggX5_weight_X5_fail
theorem dX5_weight_0 : decode cX5_weight 0 = .ok (.aload_n 0, 1) := by decide +kernel
theorem dX5_weight_1 : decode cX5_weight 1 = .ok (.iconst 0, 1) := by decide +kernel
theorem dX5_weight_2 : decode cX5_weight 2 = .ok (.putfield 83, 3) := by decide +kernel
theorem dX5_weight_5 : decode cX5_weight 5 = .ok (.iload_n 1, 1) := by decide +kernel
theorem dX5_weight_6 : decode cX5_weight 6 = .ok (.invokestatic 203, 3) := by decide +kernel
theorem dX5_weight_9 : decode cX5_weight 9 = .ok (.ifCond .eq 15, 3) := by decide +kernel
theorem dX5_weight_12 : decode cX5_weight 12 = .ok (.iload_n 2, 1) := by decide +kernel
theorem dX5_weight_13 : decode cX5_weight 13 = .ok (.iconst 1, 1) := by decide +kernel
theorem dX5_weight_14 : decode cX5_weight 14 = .ok (.if_icmp .lt 10, 3) := by decide +kernel
theorem dX5_weight_17 : decode cX5_weight 17 = .ok (.iload_n 2, 1) := by decide +kernel
theorem dX5_weight_18 : decode cX5_weight 18 = .ok (.sipush 5000, 3) := by decide +kernel
theorem dX5_weight_21 : decode cX5_weight 21 = .ok (.if_icmp .le 9, 3) := by decide +kernel
theorem dX5_weight_24 : decode cX5_weight 24 = .ok (.aload_n 0, 1) := by decide +kernel
theorem dX5_weight_25 : decode cX5_weight 25 = .ok (.iconst 1, 1) := by decide +kernel
theorem dX5_weight_26 : decode cX5_weight 26 = .ok (.invokevirtual 94, 3) := by decide +kernel
theorem dX5_weight_29 : decode cX5_weight 29 = .ok (.ireturn, 1) := by decide +kernel
theorem dX5_weight_30 : decode cX5_weight 30 = .ok (.aload_n 0, 1) := by decide +kernel
theorem dX5_weight_31 : decode cX5_weight 31 = .ok (.getfield 59, 3) := by decide +kernel
theorem dX5_weight_34 : decode cX5_weight 34 = .ok (.iload_n 1, 1) := by decide +kernel
theorem dX5_weight_35 : decode cX5_weight 35 = .ok (.iaload, 1) := by decide +kernel
theorem dX5_weight_36 : decode cX5_weight 36 = .ok (.istore_n 3, 1) := by decide +kernel
theorem dX5_weight_37 : decode cX5_weight 37 = .ok (.aload_n 0, 1) := by decide +kernel
theorem dX5_weight_38 : decode cX5_weight 38 = .ok (.getfield 59, 3) := by decide +kernel
theorem dX5_weight_41 : decode cX5_weight 41 = .ok (.iload_n 1, 1) := by decide +kernel
theorem dX5_weight_42 : decode cX5_weight 42 = .ok (.iload_n 2, 1) := by decide +kernel
theorem dX5_weight_43 : decode cX5_weight 43 = .ok (.iastore, 1) := by decide +kernel
theorem dX5_weight_44 : decode cX5_weight 44 = .ok (.iload_n 3, 1) := by decide +kernel
theorem dX5_weight_45 : decode cX5_weight 45 = .ok (.ireturn, 1) := by decide +kernel
set_option maxRecDepth 20000 in
theorem ggX5_weighs_X5_isCask : GoodIn wsX5_weighs wsX5_isCask := goodIn_r _ [11, 12, 42, 43, 44, 45, 46, 47, 48, 49, 50, 51, 52, 53, 54, 55, 56, 57, 58, 59, 60, 61, 62, 63, 64, 65, 66, 67, 68, 69, 70, 71, 72, 73, 74, 75] (by decide +kernel) (by decide +kernel)
set_option maxRecDepth 20000 in
theorem gX5_weighs_X5_isCask : GoodIn wsX5_weighs (wsV RX5 194 RX5 yX5_isCask wsX5_isCask) := goodIn_app (goodIn_of _ (by decide +kernel)) ggX5_weighs_X5_isCask
set_option maxRecDepth 20000 in
theorem ggX5_weighs_X5_fail : GoodIn wsX5_weighs wsX5_fail := goodIn_r _ [16, 1, 42, 43, 44, 45, 46, 47, 48, 49, 50, 51, 52, 53, 54, 55, 56, 57, 58, 59, 60, 61, 62, 63, 64, 65, 66, 67, 68, 69, 70, 71, 72, 73, 74, 75] (by decide +kernel) (by decide +kernel)
set_option maxRecDepth 20000 in
theorem gX5_weighs_X5_fail : GoodIn wsX5_weighs (wsV RX5 94 RX5 yX5_fail wsX5_fail) := goodIn_app (goodIn_of _ (by decide +kernel)) ggX5_weighs_X5_fail
set_option maxRecDepth 20000 in
theorem ggX5_weighs_X5_isHeight : GoodIn wsX5_weighs wsX5_isHeight := goodIn_r _ [20, 21, 42, 43, 44, 45, 46, 47, 48, 49, 50, 51, 52, 53, 54, 55, 56, 57, 58, 59, 60, 61, 62, 63, 64, 65, 66, 67, 68, 69, 70, 71, 72, 73, 74, 75] (by decide +kernel) (by decide +kernel)
set_option maxRecDepth 20000 in
theorem gX5_weighs_X5_isHeight : GoodIn wsX5_weighs (wsV RX5 98 RX5 yX5_isHeight wsX5_isHeight) := goodIn_app (goodIn_of _ (by decide +kernel)) ggX5_weighs_X5_isHeight
set_option maxRecDepth 20000 in
theorem ggX5_weighs_X5_heldOn : GoodIn wsX5_weighs wsX5_heldOn := goodIn_r _ [25, 26, 27, 28, 29, 42, 43, 44, 45, 46, 47, 48, 49, 50, 51, 52, 53, 54, 55, 56, 57, 58, 59, 60, 61, 62, 63, 64, 65, 66, 67, 68, 69, 70, 71, 72, 73, 74, 75] (by decide +kernel) (by decide +kernel)
set_option maxRecDepth 20000 in
theorem gX5_weighs_X5_heldOn : GoodIn wsX5_weighs (wsV RX5 209 RX5 yX5_heldOn wsX5_heldOn) := goodIn_app (goodIn_of _ (by decide +kernel)) ggX5_weighs_X5_heldOn
set_option maxRecDepth 20000 in
theorem ggX5_weighs_X5_holdsAt : GoodIn wsX5_weighs wsX5_holdsAt := goodIn_r _ [33, 34, 35, 36, 37, 38, 10, 39, 21, 40, 41, 42, 43, 44, 45, 46, 47, 48, 49, 50, 51, 52, 53, 54, 55, 56, 57, 58, 59, 60, 61, 62, 63, 64, 65, 66, 67, 68, 69, 70, 71, 72, 73, 74, 75] (by decide +kernel) (by decide +kernel)
set_option maxRecDepth 20000 in
theorem gX5_weighs_X5_holdsAt : GoodIn wsX5_weighs (wsV RX5 114 RX5 yX5_holdsAt wsX5_holdsAt) := goodIn_app (goodIn_of _ (by decide +kernel)) ggX5_weighs_X5_holdsAt
theorem dX5_weighs_0 : decode cX5_weighs 0 = .ok (.aload_n 0, 1) := by decide +kernel
theorem dX5_weighs_1 : decode cX5_weighs 1 = .ok (.iconst 0, 1) := by decide +kernel
theorem dX5_weighs_2 : decode cX5_weighs 2 = .ok (.putfield 83, 3) := by decide +kernel
theorem dX5_weighs_5 : decode cX5_weighs 5 = .ok (.aload_n 0, 1) := by decide +kernel
theorem dX5_weighs_6 : decode cX5_weighs 6 = .ok (.iload_n 1, 1) := by decide +kernel
theorem dX5_weighs_7 : decode cX5_weighs 7 = .ok (.invokevirtual 194, 3) := by decide +kernel
theorem dX5_weighs_10 : decode cX5_weighs 10 = .ok (.ifCond .ne 10, 3) := by decide +kernel
theorem dX5_weighs_13 : decode cX5_weighs 13 = .ok (.aload_n 0, 1) := by decide +kernel
theorem dX5_weighs_14 : decode cX5_weighs 14 = .ok (.iconst 1, 1) := by decide +kernel
theorem dX5_weighs_15 : decode cX5_weighs 15 = .ok (.invokevirtual 94, 3) := by decide +kernel
theorem dX5_weighs_18 : decode cX5_weighs 18 = .ok (.i2l, 1) := by decide +kernel
theorem dX5_weighs_19 : decode cX5_weighs 19 = .ok (.lreturn, 1) := by decide +kernel
theorem dX5_weighs_20 : decode cX5_weighs 20 = .ok (.aload_n 0, 1) := by decide +kernel
theorem dX5_weighs_21 : decode cX5_weighs 21 = .ok (.aload_n 0, 1) := by decide +kernel
theorem dX5_weighs_22 : decode cX5_weighs 22 = .ok (.getfield 34, 3) := by decide +kernel
theorem dX5_weighs_25 : decode cX5_weighs 25 = .ok (.iload_n 1, 1) := by decide +kernel
theorem dX5_weighs_26 : decode cX5_weighs 26 = .ok (.iaload, 1) := by decide +kernel
theorem dX5_weighs_27 : decode cX5_weighs 27 = .ok (.iload_n 2, 1) := by decide +kernel
theorem dX5_weighs_28 : decode cX5_weighs 28 = .ok (.invokevirtual 98, 3) := by decide +kernel
theorem dX5_weighs_31 : decode cX5_weighs 31 = .ok (.ifCond .ne 10, 3) := by decide +kernel
theorem dX5_weighs_34 : decode cX5_weighs 34 = .ok (.aload_n 0, 1) := by decide +kernel
theorem dX5_weighs_35 : decode cX5_weighs 35 = .ok (.iconst 2, 1) := by decide +kernel
theorem dX5_weighs_36 : decode cX5_weighs 36 = .ok (.invokevirtual 94, 3) := by decide +kernel
theorem dX5_weighs_39 : decode cX5_weighs 39 = .ok (.i2l, 1) := by decide +kernel
theorem dX5_weighs_40 : decode cX5_weighs 40 = .ok (.lreturn, 1) := by decide +kernel
theorem dX5_weighs_41 : decode cX5_weighs 41 = .ok (.aload_n 0, 1) := by decide +kernel
theorem dX5_weighs_42 : decode cX5_weighs 42 = .ok (.iload_n 1, 1) := by decide +kernel
theorem dX5_weighs_43 : decode cX5_weighs 43 = .ok (.aload_n 0, 1) := by decide +kernel
theorem dX5_weighs_44 : decode cX5_weighs 44 = .ok (.getfield 117, 3) := by decide +kernel
theorem dX5_weighs_47 : decode cX5_weighs 47 = .ok (.aload_n 0, 1) := by decide +kernel
theorem dX5_weighs_48 : decode cX5_weighs 48 = .ok (.getfield 117, 3) := by decide +kernel
theorem dX5_weighs_51 : decode cX5_weighs 51 = .ok (.invokevirtual 209, 3) := by decide +kernel
theorem dX5_weighs_54 : decode cX5_weighs 54 = .ok (.istore_n 3, 1) := by decide +kernel
theorem dX5_weighs_55 : decode cX5_weighs 55 = .ok (.iload_n 3, 1) := by decide +kernel
theorem dX5_weighs_56 : decode cX5_weighs 56 = .ok (.iconst (-1), 1) := by decide +kernel
theorem dX5_weighs_57 : decode cX5_weighs 57 = .ok (.if_icmp .eq 9, 3) := by decide +kernel
theorem dX5_weighs_60 : decode cX5_weighs 60 = .ok (.iload_n 3, 1) := by decide +kernel
theorem dX5_weighs_61 : decode cX5_weighs 61 = .ok (.bipush 16, 2) := by decide +kernel
theorem dX5_weighs_63 : decode cX5_weighs 63 = .ok (.if_icmp .ne 9, 3) := by decide +kernel
theorem dX5_weighs_66 : decode cX5_weighs 66 = .ok (.ldc2_w 213, 3) := by decide +kernel
theorem dX5_weighs_69 : decode cX5_weighs 69 = .ok (.goto 27, 3) := by decide +kernel
theorem dX5_weighs_72 : decode cX5_weighs 72 = .ok (.aload_n 0, 1) := by decide +kernel
theorem dX5_weighs_73 : decode cX5_weighs 73 = .ok (.aload_n 0, 1) := by decide +kernel
theorem dX5_weighs_74 : decode cX5_weighs 74 = .ok (.getfield 34, 3) := by decide +kernel
theorem dX5_weighs_77 : decode cX5_weighs 77 = .ok (.iload_n 1, 1) := by decide +kernel
theorem dX5_weighs_78 : decode cX5_weighs 78 = .ok (.iaload, 1) := by decide +kernel
theorem dX5_weighs_79 : decode cX5_weighs 79 = .ok (.iload_n 2, 1) := by decide +kernel
theorem dX5_weighs_80 : decode cX5_weighs 80 = .ok (.invokevirtual 114, 3) := by decide +kernel
theorem dX5_weighs_83 : decode cX5_weighs 83 = .ok (.i2l, 1) := by decide +kernel
theorem dX5_weighs_84 : decode cX5_weighs 84 = .ok (.aload_n 0, 1) := by decide +kernel
theorem dX5_weighs_85 : decode cX5_weighs 85 = .ok (.getfield 59, 3) := by decide +kernel
theorem dX5_weighs_88 : decode cX5_weighs 88 = .ok (.iload_n 3, 1) := by decide +kernel
theorem dX5_weighs_89 : decode cX5_weighs 89 = .ok (.iaload, 1) := by decide +kernel
theorem dX5_weighs_90 : decode cX5_weighs 90 = .ok (.i2l, 1) := by decide +kernel
theorem dX5_weighs_91 : decode cX5_weighs 91 = .ok (.lmul, 1) := by decide +kernel
theorem dX5_weighs_92 : decode cX5_weighs 92 = .ok (.ldc2_w 215, 3) := by decide +kernel
theorem dX5_weighs_95 : decode cX5_weighs 95 = .ok (.ldiv, 1) := by decide +kernel
theorem dX5_weighs_96 : decode cX5_weighs 96 = .ok (.lreturn, 1) := by decide +kernel
set_option maxRecDepth 20000 in
theorem ggX5_count_X5_fail : GoodIn wsX5_count wsX5_fail := goodIn_r _ [10, 1, 11, 12, 13, 14, 15, 16, 17, 18, 19, 20, 21, 22, 23, 24, 25, 26, 27, 28, 29, 30, 31, 32, 33, 34, 35, 36, 37, 38, 39, 40, 41, 42, 43, 44] (by decide +kernel) (by decide +kernel)
set_option maxRecDepth 20000 in
theorem gX5_count_X5_fail : GoodIn wsX5_count (wsV RX5 94 RX5 yX5_fail wsX5_fail) := goodIn_app (goodIn_of _ (by decide +kernel)) ggX5_count_X5_fail
theorem dX5_count_0 : decode cX5_count 0 = .ok (.aload_n 0, 1) := by decide +kernel
theorem dX5_count_1 : decode cX5_count 1 = .ok (.iconst 0, 1) := by decide +kernel
theorem dX5_count_2 : decode cX5_count 2 = .ok (.putfield 83, 3) := by decide +kernel
theorem dX5_count_5 : decode cX5_count 5 = .ok (.iload_n 1, 1) := by decide +kernel
theorem dX5_count_6 : decode cX5_count 6 = .ok (.tableswitch 50 0 3 #[30, 35, 40, 45], 30) := by decide +kernel
theorem dX5_count_36 : decode cX5_count 36 = .ok (.aload_n 0, 1) := by decide +kernel
theorem dX5_count_37 : decode cX5_count 37 = .ok (.getfield 117, 3) := by decide +kernel
theorem dX5_count_40 : decode cX5_count 40 = .ok (.ireturn, 1) := by decide +kernel
theorem dX5_count_41 : decode cX5_count 41 = .ok (.aload_n 0, 1) := by decide +kernel
theorem dX5_count_42 : decode cX5_count 42 = .ok (.getfield 87, 3) := by decide +kernel
theorem dX5_count_45 : decode cX5_count 45 = .ok (.ireturn, 1) := by decide +kernel
theorem dX5_count_46 : decode cX5_count 46 = .ok (.aload_n 0, 1) := by decide +kernel
theorem dX5_count_47 : decode cX5_count 47 = .ok (.getfield 122, 3) := by decide +kernel
theorem dX5_count_50 : decode cX5_count 50 = .ok (.ireturn, 1) := by decide +kernel
theorem dX5_count_51 : decode cX5_count 51 = .ok (.aload_n 0, 1) := by decide +kernel
theorem dX5_count_52 : decode cX5_count 52 = .ok (.getfield 184, 3) := by decide +kernel
theorem dX5_count_55 : decode cX5_count 55 = .ok (.ireturn, 1) := by decide +kernel
theorem dX5_count_56 : decode cX5_count 56 = .ok (.aload_n 0, 1) := by decide +kernel
theorem dX5_count_57 : decode cX5_count 57 = .ok (.iconst 1, 1) := by decide +kernel
theorem dX5_count_58 : decode cX5_count 58 = .ok (.invokevirtual 94, 3) := by decide +kernel
theorem dX5_count_61 : decode cX5_count 61 = .ok (.ireturn, 1) := by decide +kernel
