theorem dJ9_abs_0f7a4_0 : decode cJ9_abs_0f7a4 0 = .ok (.iload_n 0, 1) := by decide +kernel
theorem dJ9_abs_0f7a4_1 : decode cJ9_abs_0f7a4 1 = .ok (.ifCond .ge 8, 3) := by decide +kernel
theorem dJ9_abs_0f7a4_4 : decode cJ9_abs_0f7a4 4 = .ok (.iload_n 0, 1) := by decide +kernel
theorem dJ9_abs_0f7a4_5 : decode cJ9_abs_0f7a4 5 = .ok (.ineg, 1) := by decide +kernel
theorem dJ9_abs_0f7a4_6 : decode cJ9_abs_0f7a4 6 = .ok (.goto 4, 3) := by decide +kernel
theorem dJ9_abs_0f7a4_9 : decode cJ9_abs_0f7a4 9 = .ok (.iload_n 0, 1) := by decide +kernel
theorem dJ9_abs_0f7a4_10 : decode cJ9_abs_0f7a4 10 = .ok (.ireturn, 1) := by decide +kernel
theorem dJ9_max_7cf53_0 : decode cJ9_max_7cf53 0 = .ok (.iload_n 0, 1) := by decide +kernel
theorem dJ9_max_7cf53_1 : decode cJ9_max_7cf53 1 = .ok (.iload_n 1, 1) := by decide +kernel
theorem dJ9_max_7cf53_2 : decode cJ9_max_7cf53 2 = .ok (.if_icmp .lt 7, 3) := by decide +kernel
theorem dJ9_max_7cf53_5 : decode cJ9_max_7cf53 5 = .ok (.iload_n 0, 1) := by decide +kernel
theorem dJ9_max_7cf53_6 : decode cJ9_max_7cf53 6 = .ok (.goto 4, 3) := by decide +kernel
theorem dJ9_max_7cf53_9 : decode cJ9_max_7cf53 9 = .ok (.iload_n 1, 1) := by decide +kernel
theorem dJ9_max_7cf53_10 : decode cJ9_max_7cf53 10 = .ok (.ireturn, 1) := by decide +kernel
theorem dL_cell_0 : decode cL_cell 0 = .ok (.iload_n 1, 1) := by decide +kernel
theorem dL_cell_1 : decode cL_cell 1 = .ok (.aload_n 0, 1) := by decide +kernel
theorem dL_cell_2 : decode cL_cell 2 = .ok (.arraylength, 1) := by decide +kernel
theorem dL_cell_3 : decode cL_cell 3 = .ok (.if_icmp .ge 9, 3) := by decide +kernel
theorem dL_cell_6 : decode cL_cell 6 = .ok (.aload_n 0, 1) := by decide +kernel
theorem dL_cell_7 : decode cL_cell 7 = .ok (.iload_n 1, 1) := by decide +kernel
theorem dL_cell_8 : decode cL_cell 8 = .ok (.iaload, 1) := by decide +kernel
theorem dL_cell_9 : decode cL_cell 9 = .ok (.goto 16, 3) := by decide +kernel
theorem dL_cell_12 : decode cL_cell 12 = .ok (.ldc2_w 7, 3) := by decide +kernel
theorem dL_cell_15 : decode cL_cell 15 = .ok (.iload_n 1, 1) := by decide +kernel
theorem dL_cell_16 : decode cL_cell 16 = .ok (.bipush 7, 2) := by decide +kernel
theorem dL_cell_18 : decode cL_cell 18 = .ok (.iadd, 1) := by decide +kernel
theorem dL_cell_19 : decode cL_cell 19 = .ok (.i2l, 1) := by decide +kernel
theorem dL_cell_20 : decode cL_cell 20 = .ok (.lmul, 1) := by decide +kernel
theorem dL_cell_21 : decode cL_cell 21 = .ok (.bipush 6, 2) := by decide +kernel
theorem dL_cell_23 : decode cL_cell 23 = .ok (.lushr, 1) := by decide +kernel
theorem dL_cell_24 : decode cL_cell 24 = .ok (.l2i, 1) := by decide +kernel
theorem dL_cell_25 : decode cL_cell 25 = .ok (.ireturn, 1) := by decide +kernel
theorem dL_some_0 : decode cL_some 0 = .ok (.iload_n 0, 1) := by decide +kernel
theorem dL_some_1 : decode cL_some 1 = .ok (.iconst 2, 1) := by decide +kernel
theorem dL_some_2 : decode cL_some 2 = .ok (.iushr, 1) := by decide +kernel
theorem dL_some_3 : decode cL_some 3 = .ok (.iload_n 1, 1) := by decide +kernel
theorem dL_some_4 : decode cL_some 4 = .ok (.irem, 1) := by decide +kernel
theorem dL_some_5 : decode cL_some 5 = .ok (.ireturn, 1) := by decide +kernel
theorem dL_signal_0 : decode cL_signal 0 = .ok (.aload_n 0, 1) := by decide +kernel
theorem dL_signal_1 : decode cL_signal 1 = .ok (.iload_n 2, 1) := by decide +kernel
theorem dL_signal_2 : decode cL_signal 2 = .ok (.iaload, 1) := by decide +kernel
theorem dL_signal_3 : decode cL_signal 3 = .ok (.aload_n 1, 1) := by decide +kernel
theorem dL_signal_4 : decode cL_signal 4 = .ok (.iload_n 3, 1) := by decide +kernel
theorem dL_signal_5 : decode cL_signal 5 = .ok (.iaload, 1) := by decide +kernel
theorem dL_signal_6 : decode cL_signal 6 = .ok (.isub, 1) := by decide +kernel
theorem dL_signal_7 : decode cL_signal 7 = .ok (.istore 4, 2) := by decide +kernel
theorem dL_signal_9 : decode cL_signal 9 = .ok (.aload_n 0, 1) := by decide +kernel
theorem dL_signal_10 : decode cL_signal 10 = .ok (.iconst 4, 1) := by decide +kernel
theorem dL_signal_11 : decode cL_signal 11 = .ok (.iload_n 2, 1) := by decide +kernel
theorem dL_signal_12 : decode cL_signal 12 = .ok (.iadd, 1) := by decide +kernel
theorem dL_signal_13 : decode cL_signal 13 = .ok (.iaload, 1) := by decide +kernel
theorem dL_signal_14 : decode cL_signal 14 = .ok (.aload_n 1, 1) := by decide +kernel
theorem dL_signal_15 : decode cL_signal 15 = .ok (.iconst 4, 1) := by decide +kernel
theorem dL_signal_16 : decode cL_signal 16 = .ok (.iload_n 3, 1) := by decide +kernel
theorem dL_signal_17 : decode cL_signal 17 = .ok (.iadd, 1) := by decide +kernel
theorem dL_signal_18 : decode cL_signal 18 = .ok (.iaload, 1) := by decide +kernel
theorem dL_signal_19 : decode cL_signal 19 = .ok (.isub, 1) := by decide +kernel
theorem dL_signal_20 : decode cL_signal 20 = .ok (.istore 5, 2) := by decide +kernel
theorem dL_signal_22 : decode cL_signal 22 = .ok (.iconst 2, 1) := by decide +kernel
theorem dL_signal_23 : decode cL_signal 23 = .ok (.iload 4, 2) := by decide +kernel
theorem dL_signal_25 : decode cL_signal 25 = .ok (.ifCond .le 8, 3) := by decide +kernel
theorem dL_signal_28 : decode cL_signal 28 = .ok (.iload 4, 2) := by decide +kernel
theorem dL_signal_30 : decode cL_signal 30 = .ok (.goto 6, 3) := by decide +kernel
theorem dL_signal_33 : decode cL_signal 33 = .ok (.iload 4, 2) := by decide +kernel
theorem dL_signal_35 : decode cL_signal 35 = .ok (.ineg, 1) := by decide +kernel
theorem dL_signal_36 : decode cL_signal 36 = .ok (.iadd, 1) := by decide +kernel
theorem dL_signal_37 : decode cL_signal 37 = .ok (.iload 5, 2) := by decide +kernel
theorem dL_signal_39 : decode cL_signal 39 = .ok (.ifCond .le 8, 3) := by decide +kernel
theorem dL_signal_42 : decode cL_signal 42 = .ok (.iload 5, 2) := by decide +kernel
theorem dL_signal_44 : decode cL_signal 44 = .ok (.goto 6, 3) := by decide +kernel
theorem dL_signal_47 : decode cL_signal 47 = .ok (.iload 5, 2) := by decide +kernel
theorem dL_signal_49 : decode cL_signal 49 = .ok (.ineg, 1) := by decide +kernel
theorem dL_signal_50 : decode cL_signal 50 = .ok (.iadd, 1) := by decide +kernel
theorem dL_signal_51 : decode cL_signal 51 = .ok (.istore 6, 2) := by decide +kernel
theorem dL_signal_53 : decode cL_signal 53 = .ok (.sipush 16000, 3) := by decide +kernel
theorem dL_signal_56 : decode cL_signal 56 = .ok (.iload 6, 2) := by decide +kernel
theorem dL_signal_58 : decode cL_signal 58 = .ok (.iload 6, 2) := by decide +kernel
theorem dL_signal_60 : decode cL_signal 60 = .ok (.imul, 1) := by decide +kernel
theorem dL_signal_61 : decode cL_signal 61 = .ok (.idiv, 1) := by decide +kernel
theorem dL_signal_62 : decode cL_signal 62 = .ok (.ireturn, 1) := by decide +kernel
theorem dL_load_0 : decode cL_load 0 = .ok (.iconst 0, 1) := by decide +kernel
theorem dL_load_1 : decode cL_load 1 = .ok (.istore_n 3, 1) := by decide +kernel
theorem dL_load_2 : decode cL_load 2 = .ok (.iconst 0, 1) := by decide +kernel
theorem dL_load_3 : decode cL_load 3 = .ok (.istore 4, 2) := by decide +kernel
theorem dL_load_5 : decode cL_load 5 = .ok (.iload 4, 2) := by decide +kernel
theorem dL_load_7 : decode cL_load 7 = .ok (.aload_n 0, 1) := by decide +kernel
theorem dL_load_8 : decode cL_load 8 = .ok (.iconst 1, 1) := by decide +kernel
theorem dL_load_9 : decode cL_load 9 = .ok (.iaload, 1) := by decide +kernel
theorem dL_load_10 : decode cL_load 10 = .ok (.if_icmp .ge 34, 3) := by decide +kernel
theorem dL_load_13 : decode cL_load 13 = .ok (.iload_n 3, 1) := by decide +kernel
theorem dL_load_14 : decode cL_load 14 = .ok (.aload_n 1, 1) := by decide +kernel
theorem dL_load_15 : decode cL_load 15 = .ok (.bipush 12, 2) := by decide +kernel
theorem dL_load_17 : decode cL_load 17 = .ok (.iload 4, 2) := by decide +kernel
theorem dL_load_19 : decode cL_load 19 = .ok (.iadd, 1) := by decide +kernel
theorem dL_load_20 : decode cL_load 20 = .ok (.iaload, 1) := by decide +kernel
theorem dL_load_21 : decode cL_load 21 = .ok (.iload_n 2, 1) := by decide +kernel
theorem dL_load_22 : decode cL_load 22 = .ok (.if_icmp .ne 13, 3) := by decide +kernel
theorem dL_load_25 : decode cL_load 25 = .ok (.aload_n 1, 1) := by decide +kernel
theorem dL_load_26 : decode cL_load 26 = .ok (.bipush 8, 2) := by decide +kernel
theorem dL_load_28 : decode cL_load 28 = .ok (.iload 4, 2) := by decide +kernel
theorem dL_load_30 : decode cL_load 30 = .ok (.iadd, 1) := by decide +kernel
theorem dL_load_31 : decode cL_load 31 = .ok (.iaload, 1) := by decide +kernel
theorem dL_load_32 : decode cL_load 32 = .ok (.goto 4, 3) := by decide +kernel
theorem dL_load_35 : decode cL_load 35 = .ok (.iconst 0, 1) := by decide +kernel
theorem dL_load_36 : decode cL_load 36 = .ok (.iadd, 1) := by decide +kernel
theorem dL_load_37 : decode cL_load 37 = .ok (.istore_n 3, 1) := by decide +kernel
theorem dL_load_38 : decode cL_load 38 = .ok (.iinc 4 1, 3) := by decide +kernel
theorem dL_load_41 : decode cL_load 41 = .ok (.goto (-36), 3) := by decide +kernel
theorem dL_load_44 : decode cL_load 44 = .ok (.iload_n 3, 1) := by decide +kernel
theorem dL_load_45 : decode cL_load 45 = .ok (.ireturn, 1) := by decide +kernel
set_option maxRecDepth 20000 in
theorem ggL_qualities_L_signal : GoodIn wsL_qualities wsL_signal := goodIn_r _ [4] (by decide +kernel) (by decide +kernel)
set_option maxRecDepth 20000 in
theorem gL_qualities_L_signal : GoodIn wsL_qualities (va_wsS RL 9 yL_signal wsL_signal) := goodIn_app (goodIn_of _ (by decide +kernel)) ggL_qualities_L_signal
set_option maxRecDepth 20000 in
theorem ggL_qualities_L_load : GoodIn wsL_qualities wsL_load := goodIn_r _ [7] (by decide +kernel) (by decide +kernel)
set_option maxRecDepth 20000 in
theorem gL_qualities_L_load : GoodIn wsL_qualities (va_wsS RL 15 yL_load wsL_load) := goodIn_app (goodIn_of _ (by decide +kernel)) ggL_qualities_L_load
theorem dL_qualities_0 : decode cL_qualities 0 = .ok (.iconst 0, 1) := by decide +kernel
theorem dL_qualities_1 : decode cL_qualities 1 = .ok (.istore 4, 2) := by decide +kernel
theorem dL_qualities_3 : decode cL_qualities 3 = .ok (.iload 4, 2) := by decide +kernel
theorem dL_qualities_5 : decode cL_qualities 5 = .ok (.aload_n 0, 1) := by decide +kernel
theorem dL_qualities_6 : decode cL_qualities 6 = .ok (.iconst 0, 1) := by decide +kernel
theorem dL_qualities_7 : decode cL_qualities 7 = .ok (.iaload, 1) := by decide +kernel
theorem dL_qualities_8 : decode cL_qualities 8 = .ok (.if_icmp .ge 146, 3) := by decide +kernel
theorem dL_qualities_11 : decode cL_qualities 11 = .ok (.iconst 0, 1) := by decide +kernel
theorem dL_qualities_12 : decode cL_qualities 12 = .ok (.istore 5, 2) := by decide +kernel
theorem dL_qualities_14 : decode cL_qualities 14 = .ok (.iload 5, 2) := by decide +kernel
theorem dL_qualities_16 : decode cL_qualities 16 = .ok (.aload_n 0, 1) := by decide +kernel
theorem dL_qualities_17 : decode cL_qualities 17 = .ok (.iconst 1, 1) := by decide +kernel
theorem dL_qualities_18 : decode cL_qualities 18 = .ok (.iaload, 1) := by decide +kernel
theorem dL_qualities_19 : decode cL_qualities 19 = .ok (.if_icmp .ge 129, 3) := by decide +kernel
theorem dL_qualities_22 : decode cL_qualities 22 = .ok (.bipush 10, 2) := by decide +kernel
theorem dL_qualities_24 : decode cL_qualities 24 = .ok (.istore 6, 2) := by decide +kernel
theorem dL_qualities_26 : decode cL_qualities 26 = .ok (.iconst 0, 1) := by decide +kernel
theorem dL_qualities_27 : decode cL_qualities 27 = .ok (.istore 7, 2) := by decide +kernel
theorem dL_qualities_29 : decode cL_qualities 29 = .ok (.iload 7, 2) := by decide +kernel
theorem dL_qualities_31 : decode cL_qualities 31 = .ok (.aload_n 0, 1) := by decide +kernel
theorem dL_qualities_32 : decode cL_qualities 32 = .ok (.iconst 0, 1) := by decide +kernel
theorem dL_qualities_33 : decode cL_qualities 33 = .ok (.iaload, 1) := by decide +kernel
theorem dL_qualities_34 : decode cL_qualities 34 = .ok (.if_icmp .ge 84, 3) := by decide +kernel
theorem dL_qualities_37 : decode cL_qualities 37 = .ok (.iload 6, 2) := by decide +kernel
theorem dL_qualities_39 : decode cL_qualities 39 = .ok (.iload 7, 2) := by decide +kernel
theorem dL_qualities_41 : decode cL_qualities 41 = .ok (.iload 4, 2) := by decide +kernel
theorem dL_qualities_43 : decode cL_qualities 43 = .ok (.if_icmp .eq 65, 3) := by decide +kernel
theorem dL_qualities_46 : decode cL_qualities 46 = .ok (.aload_n 1, 1) := by decide +kernel
theorem dL_qualities_47 : decode cL_qualities 47 = .ok (.bipush 16, 2) := by decide +kernel
theorem dL_qualities_49 : decode cL_qualities 49 = .ok (.iload 7, 2) := by decide +kernel
theorem dL_qualities_51 : decode cL_qualities 51 = .ok (.iadd, 1) := by decide +kernel
theorem dL_qualities_52 : decode cL_qualities 52 = .ok (.iaload, 1) := by decide +kernel
theorem dL_qualities_53 : decode cL_qualities 53 = .ok (.iconst 1, 1) := by decide +kernel
theorem dL_qualities_54 : decode cL_qualities 54 = .ok (.if_icmp .ne 54, 3) := by decide +kernel
theorem dL_qualities_57 : decode cL_qualities 57 = .ok (.aload_n 1, 1) := by decide +kernel
theorem dL_qualities_58 : decode cL_qualities 58 = .ok (.bipush 8, 2) := by decide +kernel
theorem dL_qualities_60 : decode cL_qualities 60 = .ok (.iload 7, 2) := by decide +kernel
theorem dL_qualities_62 : decode cL_qualities 62 = .ok (.iadd, 1) := by decide +kernel
theorem dL_qualities_63 : decode cL_qualities 63 = .ok (.iaload, 1) := by decide +kernel
theorem dL_qualities_64 : decode cL_qualities 64 = .ok (.aload_n 1, 1) := by decide +kernel
theorem dL_qualities_65 : decode cL_qualities 65 = .ok (.bipush 8, 2) := by decide +kernel
theorem dL_qualities_67 : decode cL_qualities 67 = .ok (.iload 4, 2) := by decide +kernel
theorem dL_qualities_69 : decode cL_qualities 69 = .ok (.iadd, 1) := by decide +kernel
theorem dL_qualities_70 : decode cL_qualities 70 = .ok (.iaload, 1) := by decide +kernel
theorem dL_qualities_71 : decode cL_qualities 71 = .ok (.if_icmp .ne 37, 3) := by decide +kernel
theorem dL_qualities_74 : decode cL_qualities 74 = .ok (.aload_n 1, 1) := by decide +kernel
theorem dL_qualities_75 : decode cL_qualities 75 = .ok (.aload_n 2, 1) := by decide +kernel
theorem dL_qualities_76 : decode cL_qualities 76 = .ok (.iload 7, 2) := by decide +kernel
theorem dL_qualities_78 : decode cL_qualities 78 = .ok (.iload 5, 2) := by decide +kernel
theorem dL_qualities_80 : decode cL_qualities 80 = .ok (.invokestatic 9, 3) := by decide +kernel
theorem dL_qualities_83 : decode cL_qualities 83 = .ok (.bipush 100, 2) := by decide +kernel
theorem dL_qualities_85 : decode cL_qualities 85 = .ok (.aload_n 0, 1) := by decide +kernel
theorem dL_qualities_86 : decode cL_qualities 86 = .ok (.aload_n 2, 1) := by decide +kernel
theorem dL_qualities_87 : decode cL_qualities 87 = .ok (.iload 7, 2) := by decide +kernel
theorem dL_qualities_89 : decode cL_qualities 89 = .ok (.invokestatic 15, 3) := by decide +kernel
theorem dL_qualities_92 : decode cL_qualities 92 = .ok (.imul, 1) := by decide +kernel
theorem dL_qualities_93 : decode cL_qualities 93 = .ok (.aload_n 1, 1) := by decide +kernel
theorem dL_qualities_94 : decode cL_qualities 94 = .ok (.bipush 12, 2) := by decide +kernel
theorem dL_qualities_96 : decode cL_qualities 96 = .ok (.iload 7, 2) := by decide +kernel
theorem dL_qualities_98 : decode cL_qualities 98 = .ok (.iadd, 1) := by decide +kernel
theorem dL_qualities_99 : decode cL_qualities 99 = .ok (.iaload, 1) := by decide +kernel
theorem dL_qualities_100 : decode cL_qualities 100 = .ok (.idiv, 1) := by decide +kernel
theorem dL_qualities_101 : decode cL_qualities 101 = .ok (.imul, 1) := by decide +kernel
theorem dL_qualities_102 : decode cL_qualities 102 = .ok (.bipush 100, 2) := by decide +kernel
theorem dL_qualities_104 : decode cL_qualities 104 = .ok (.idiv, 1) := by decide +kernel
theorem dL_qualities_105 : decode cL_qualities 105 = .ok (.goto 4, 3) := by decide +kernel
theorem dL_qualities_108 : decode cL_qualities 108 = .ok (.iconst 0, 1) := by decide +kernel
theorem dL_qualities_109 : decode cL_qualities 109 = .ok (.iadd, 1) := by decide +kernel
theorem dL_qualities_110 : decode cL_qualities 110 = .ok (.istore 6, 2) := by decide +kernel
theorem dL_qualities_112 : decode cL_qualities 112 = .ok (.iinc 7 1, 3) := by decide +kernel
theorem dL_qualities_115 : decode cL_qualities 115 = .ok (.goto (-86), 3) := by decide +kernel
theorem dL_qualities_118 : decode cL_qualities 118 = .ok (.aload_n 3, 1) := by decide +kernel
theorem dL_qualities_119 : decode cL_qualities 119 = .ok (.iconst 4, 1) := by decide +kernel
theorem dL_qualities_120 : decode cL_qualities 120 = .ok (.iload 4, 2) := by decide +kernel
theorem dL_qualities_122 : decode cL_qualities 122 = .ok (.imul, 1) := by decide +kernel
theorem dL_qualities_123 : decode cL_qualities 123 = .ok (.iload 5, 2) := by decide +kernel
theorem dL_qualities_125 : decode cL_qualities 125 = .ok (.iadd, 1) := by decide +kernel
theorem dL_qualities_126 : decode cL_qualities 126 = .ok (.bipush 100, 2) := by decide +kernel
theorem dL_qualities_128 : decode cL_qualities 128 = .ok (.aload_n 1, 1) := by decide +kernel
theorem dL_qualities_129 : decode cL_qualities 129 = .ok (.aload_n 2, 1) := by decide +kernel
theorem dL_qualities_130 : decode cL_qualities 130 = .ok (.iload 4, 2) := by decide +kernel
theorem dL_qualities_132 : decode cL_qualities 132 = .ok (.iload 5, 2) := by decide +kernel
theorem dL_qualities_134 : decode cL_qualities 134 = .ok (.invokestatic 9, 3) := by decide +kernel
theorem dL_qualities_137 : decode cL_qualities 137 = .ok (.imul, 1) := by decide +kernel
theorem dL_qualities_138 : decode cL_qualities 138 = .ok (.iload 6, 2) := by decide +kernel
theorem dL_qualities_140 : decode cL_qualities 140 = .ok (.idiv, 1) := by decide +kernel
theorem dL_qualities_141 : decode cL_qualities 141 = .ok (.iastore, 1) := by decide +kernel
theorem dL_qualities_142 : decode cL_qualities 142 = .ok (.iinc 5 1, 3) := by decide +kernel
theorem dL_qualities_145 : decode cL_qualities 145 = .ok (.goto (-131), 3) := by decide +kernel
theorem dL_qualities_148 : decode cL_qualities 148 = .ok (.iinc 4 1, 3) := by decide +kernel
theorem dL_qualities_151 : decode cL_qualities 151 = .ok (.goto (-148), 3) := by decide +kernel
theorem dL_qualities_154 : decode cL_qualities 154 = .ok (.return_, 1) := by decide +kernel
