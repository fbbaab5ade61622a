theorem dX3_init_0 : decode cX3_init 0 = .ok (.aload_n 0, 1) := by decide +kernel
theorem dX3_init_1 : decode cX3_init 1 = .ok (.invokespecial 1, 3) := by decide +kernel
theorem dX3_init_4 : decode cX3_init 4 = .ok (.aload_n 0, 1) := by decide +kernel
theorem dX3_init_5 : decode cX3_init 5 = .ok (.iconst 5, 1) := by decide +kernel
theorem dX3_init_6 : decode cX3_init 6 = .ok (.newarray .int, 2) := by decide +kernel
theorem dX3_init_8 : decode cX3_init 8 = .ok (.putfield 7, 3) := by decide +kernel
theorem dX3_init_11 : decode cX3_init 11 = .ok (.aload_n 0, 1) := by decide +kernel
theorem dX3_init_12 : decode cX3_init 12 = .ok (.iconst 5, 1) := by decide +kernel
theorem dX3_init_13 : decode cX3_init 13 = .ok (.newarray .int, 2) := by decide +kernel
theorem dX3_init_15 : decode cX3_init 15 = .ok (.putfield 13, 3) := by decide +kernel
theorem dX3_init_18 : decode cX3_init 18 = .ok (.aload_n 0, 1) := by decide +kernel
theorem dX3_init_19 : decode cX3_init 19 = .ok (.iconst 5, 1) := by decide +kernel
theorem dX3_init_20 : decode cX3_init 20 = .ok (.newarray .int, 2) := by decide +kernel
theorem dX3_init_22 : decode cX3_init 22 = .ok (.putfield 16, 3) := by decide +kernel
theorem dX3_init_25 : decode cX3_init 25 = .ok (.aload_n 0, 1) := by decide +kernel
theorem dX3_init_26 : decode cX3_init 26 = .ok (.iconst 5, 1) := by decide +kernel
theorem dX3_init_27 : decode cX3_init 27 = .ok (.newarray .int, 2) := by decide +kernel
theorem dX3_init_29 : decode cX3_init 29 = .ok (.putfield 19, 3) := by decide +kernel
theorem dX3_init_32 : decode cX3_init 32 = .ok (.aload_n 0, 1) := by decide +kernel
theorem dX3_init_33 : decode cX3_init 33 = .ok (.iconst 5, 1) := by decide +kernel
theorem dX3_init_34 : decode cX3_init 34 = .ok (.newarray .boolean, 2) := by decide +kernel
theorem dX3_init_36 : decode cX3_init 36 = .ok (.putfield 22, 3) := by decide +kernel
theorem dX3_init_39 : decode cX3_init 39 = .ok (.aload_n 0, 1) := by decide +kernel
theorem dX3_init_40 : decode cX3_init 40 = .ok (.bipush 6, 2) := by decide +kernel
theorem dX3_init_42 : decode cX3_init 42 = .ok (.newarray .int, 2) := by decide +kernel
theorem dX3_init_44 : decode cX3_init 44 = .ok (.putfield 26, 3) := by decide +kernel
theorem dX3_init_47 : decode cX3_init 47 = .ok (.aload_n 0, 1) := by decide +kernel
theorem dX3_init_48 : decode cX3_init 48 = .ok (.bipush 6, 2) := by decide +kernel
theorem dX3_init_50 : decode cX3_init 50 = .ok (.newarray .int, 2) := by decide +kernel
theorem dX3_init_52 : decode cX3_init 52 = .ok (.putfield 29, 3) := by decide +kernel
theorem dX3_init_55 : decode cX3_init 55 = .ok (.aload_n 0, 1) := by decide +kernel
theorem dX3_init_56 : decode cX3_init 56 = .ok (.bipush 6, 2) := by decide +kernel
theorem dX3_init_58 : decode cX3_init 58 = .ok (.newarray .int, 2) := by decide +kernel
theorem dX3_init_60 : decode cX3_init 60 = .ok (.putfield 32, 3) := by decide +kernel
theorem dX3_init_63 : decode cX3_init 63 = .ok (.aload_n 0, 1) := by decide +kernel
theorem dX3_init_64 : decode cX3_init 64 = .ok (.bipush 6, 2) := by decide +kernel
theorem dX3_init_66 : decode cX3_init 66 = .ok (.newarray .int, 2) := by decide +kernel
theorem dX3_init_68 : decode cX3_init 68 = .ok (.putfield 35, 3) := by decide +kernel
theorem dX3_init_71 : decode cX3_init 71 = .ok (.aload_n 0, 1) := by decide +kernel
theorem dX3_init_72 : decode cX3_init 72 = .ok (.bipush 6, 2) := by decide +kernel
theorem dX3_init_74 : decode cX3_init 74 = .ok (.newarray .int, 2) := by decide +kernel
theorem dX3_init_76 : decode cX3_init 76 = .ok (.putfield 38, 3) := by decide +kernel
theorem dX3_init_79 : decode cX3_init 79 = .ok (.aload_n 0, 1) := by decide +kernel
theorem dX3_init_80 : decode cX3_init 80 = .ok (.bipush 6, 2) := by decide +kernel
theorem dX3_init_82 : decode cX3_init 82 = .ok (.newarray .int, 2) := by decide +kernel
theorem dX3_init_84 : decode cX3_init 84 = .ok (.putfield 41, 3) := by decide +kernel
theorem dX3_init_87 : decode cX3_init 87 = .ok (.aload_n 0, 1) := by decide +kernel
theorem dX3_init_88 : decode cX3_init 88 = .ok (.bipush 6, 2) := by decide +kernel
theorem dX3_init_90 : decode cX3_init 90 = .ok (.newarray .int, 2) := by decide +kernel
theorem dX3_init_92 : decode cX3_init 92 = .ok (.putfield 44, 3) := by decide +kernel
theorem dX3_init_95 : decode cX3_init 95 = .ok (.aload_n 0, 1) := by decide +kernel
theorem dX3_init_96 : decode cX3_init 96 = .ok (.bipush 6, 2) := by decide +kernel
theorem dX3_init_98 : decode cX3_init 98 = .ok (.newarray .int, 2) := by decide +kernel
theorem dX3_init_100 : decode cX3_init 100 = .ok (.putfield 47, 3) := by decide +kernel
theorem dX3_init_103 : decode cX3_init 103 = .ok (.aload_n 0, 1) := by decide +kernel
theorem dX3_init_104 : decode cX3_init 104 = .ok (.bipush 20, 2) := by decide +kernel
theorem dX3_init_106 : decode cX3_init 106 = .ok (.putfield 50, 3) := by decide +kernel
theorem dX3_init_109 : decode cX3_init 109 = .ok (.aload_n 0, 1) := by decide +kernel
theorem dX3_init_110 : decode cX3_init 110 = .ok (.iconst 2, 1) := by decide +kernel
theorem dX3_init_111 : decode cX3_init 111 = .ok (.putfield 54, 3) := by decide +kernel
theorem dX3_init_114 : decode cX3_init 114 = .ok (.aload_n 0, 1) := by decide +kernel
theorem dX3_init_115 : decode cX3_init 115 = .ok (.bipush 100, 2) := by decide +kernel
theorem dX3_init_117 : decode cX3_init 117 = .ok (.putfield 57, 3) := by decide +kernel
theorem dX3_init_120 : decode cX3_init 120 = .ok (.aload_n 0, 1) := by decide +kernel
theorem dX3_init_121 : decode cX3_init 121 = .ok (.iconst 5, 1) := by decide +kernel
theorem dX3_init_122 : decode cX3_init 122 = .ok (.newarray .int, 2) := by decide +kernel
theorem dX3_init_124 : decode cX3_init 124 = .ok (.putfield 60, 3) := by decide +kernel
theorem dX3_init_127 : decode cX3_init 127 = .ok (.aload_n 0, 1) := by decide +kernel
theorem dX3_init_128 : decode cX3_init 128 = .ok (.bipush 6, 2) := by decide +kernel
theorem dX3_init_130 : decode cX3_init 130 = .ok (.newarray .int, 2) := by decide +kernel
theorem dX3_init_132 : decode cX3_init 132 = .ok (.putfield 63, 3) := by decide +kernel
theorem dX3_init_135 : decode cX3_init 135 = .ok (.aload_n 0, 1) := by decide +kernel
theorem dX3_init_136 : decode cX3_init 136 = .ok (.bipush 6, 2) := by decide +kernel
theorem dX3_init_138 : decode cX3_init 138 = .ok (.newarray .int, 2) := by decide +kernel
theorem dX3_init_140 : decode cX3_init 140 = .ok (.putfield 66, 3) := by decide +kernel
theorem dX3_init_143 : decode cX3_init 143 = .ok (.aload_n 0, 1) := by decide +kernel
theorem dX3_init_144 : decode cX3_init 144 = .ok (.iconst 5, 1) := by decide +kernel
theorem dX3_init_145 : decode cX3_init 145 = .ok (.newarray .int, 2) := by decide +kernel
theorem dX3_init_147 : decode cX3_init 147 = .ok (.putfield 69, 3) := by decide +kernel
theorem dX3_init_150 : decode cX3_init 150 = .ok (.aload_n 0, 1) := by decide +kernel
theorem dX3_init_151 : decode cX3_init 151 = .ok (.bipush 30, 2) := by decide +kernel
theorem dX3_init_153 : decode cX3_init 153 = .ok (.newarray .int, 2) := by decide +kernel
theorem dX3_init_155 : decode cX3_init 155 = .ok (.putfield 72, 3) := by decide +kernel
theorem dX3_init_158 : decode cX3_init 158 = .ok (.return_, 1) := by decide +kernel
theorem dX3_thrown_0 : decode cX3_thrown 0 = .ok (.aload_n 0, 1) := by decide +kernel
theorem dX3_thrown_1 : decode cX3_thrown 1 = .ok (.getfield 75, 3) := by decide +kernel
theorem dX3_thrown_4 : decode cX3_thrown 4 = .ok (.ireturn, 1) := by decide +kernel
theorem dX3_may_0 : decode cX3_may 0 = .ok (.aload_n 0, 1) := by decide +kernel
theorem dX3_may_1 : decode cX3_may 1 = .ok (.iload_n 1, 1) := by decide +kernel
theorem dX3_may_2 : decode cX3_may 2 = .ok (.ifCond .eq 7, 3) := by decide +kernel
theorem dX3_may_5 : decode cX3_may 5 = .ok (.iconst 0, 1) := by decide +kernel
theorem dX3_may_6 : decode cX3_may 6 = .ok (.goto 4, 3) := by decide +kernel
theorem dX3_may_9 : decode cX3_may 9 = .ok (.iconst 1, 1) := by decide +kernel
theorem dX3_may_10 : decode cX3_may 10 = .ok (.putfield 75, 3) := by decide +kernel
theorem dX3_may_13 : decode cX3_may 13 = .ok (.iload_n 1, 1) := by decide +kernel
theorem dX3_may_14 : decode cX3_may 14 = .ok (.ireturn, 1) := by decide +kernel
theorem dX3_mayBoth_0 : decode cX3_mayBoth 0 = .ok (.aload_n 0, 1) := by decide +kernel
theorem dX3_mayBoth_1 : decode cX3_mayBoth 1 = .ok (.iload_n 1, 1) := by decide +kernel
theorem dX3_mayBoth_2 : decode cX3_mayBoth 2 = .ok (.ifCond .ne 7, 3) := by decide +kernel
theorem dX3_mayBoth_5 : decode cX3_mayBoth 5 = .ok (.iconst 1, 1) := by decide +kernel
theorem dX3_mayBoth_6 : decode cX3_mayBoth 6 = .ok (.goto 12, 3) := by decide +kernel
theorem dX3_mayBoth_9 : decode cX3_mayBoth 9 = .ok (.iload_n 2, 1) := by decide +kernel
theorem dX3_mayBoth_10 : decode cX3_mayBoth 10 = .ok (.ifCond .ne 7, 3) := by decide +kernel
theorem dX3_mayBoth_13 : decode cX3_mayBoth 13 = .ok (.iconst 2, 1) := by decide +kernel
theorem dX3_mayBoth_14 : decode cX3_mayBoth 14 = .ok (.goto 4, 3) := by decide +kernel
theorem dX3_mayBoth_17 : decode cX3_mayBoth 17 = .ok (.iconst 0, 1) := by decide +kernel
theorem dX3_mayBoth_18 : decode cX3_mayBoth 18 = .ok (.putfield 75, 3) := by decide +kernel
theorem dX3_mayBoth_21 : decode cX3_mayBoth 21 = .ok (.aload_n 0, 1) := by decide +kernel
theorem dX3_mayBoth_22 : decode cX3_mayBoth 22 = .ok (.getfield 75, 3) := by decide +kernel
theorem dX3_mayBoth_25 : decode cX3_mayBoth 25 = .ok (.ifCond .ne 7, 3) := by decide +kernel
theorem dX3_mayBoth_28 : decode cX3_mayBoth 28 = .ok (.iconst 1, 1) := by decide +kernel
theorem dX3_mayBoth_29 : decode cX3_mayBoth 29 = .ok (.goto 4, 3) := by decide +kernel
theorem dX3_mayBoth_32 : decode cX3_mayBoth 32 = .ok (.iconst 0, 1) := by decide +kernel
theorem dX3_mayBoth_33 : decode cX3_mayBoth 33 = .ok (.ireturn, 1) := by decide +kernel
theorem dX3_isCell_0 : decode cX3_isCell 0 = .ok (.iload_n 1, 1) := by decide +kernel
theorem dX3_isCell_1 : decode cX3_isCell 1 = .ok (.ifCond .lt 15, 3) := by decide +kernel
theorem dX3_isCell_4 : decode cX3_isCell 4 = .ok (.iload_n 1, 1) := by decide +kernel
theorem dX3_isCell_5 : decode cX3_isCell 5 = .ok (.aload_n 0, 1) := by decide +kernel
theorem dX3_isCell_6 : decode cX3_isCell 6 = .ok (.getfield 78, 3) := by decide +kernel
theorem dX3_isCell_9 : decode cX3_isCell 9 = .ok (.if_icmp .ge 7, 3) := by decide +kernel
theorem dX3_isCell_12 : decode cX3_isCell 12 = .ok (.iconst 1, 1) := by decide +kernel
theorem dX3_isCell_13 : decode cX3_isCell 13 = .ok (.goto 4, 3) := by decide +kernel
theorem dX3_isCell_16 : decode cX3_isCell 16 = .ok (.iconst 0, 1) := by decide +kernel
theorem dX3_isCell_17 : decode cX3_isCell 17 = .ok (.ireturn, 1) := by decide +kernel
theorem dX3_isWalker_0 : decode cX3_isWalker 0 = .ok (.iload_n 1, 1) := by decide +kernel
theorem dX3_isWalker_1 : decode cX3_isWalker 1 = .ok (.ifCond .lt 15, 3) := by decide +kernel
theorem dX3_isWalker_4 : decode cX3_isWalker 4 = .ok (.iload_n 1, 1) := by decide +kernel
theorem dX3_isWalker_5 : decode cX3_isWalker 5 = .ok (.aload_n 0, 1) := by decide +kernel
theorem dX3_isWalker_6 : decode cX3_isWalker 6 = .ok (.getfield 81, 3) := by decide +kernel
theorem dX3_isWalker_9 : decode cX3_isWalker 9 = .ok (.if_icmp .ge 7, 3) := by decide +kernel
theorem dX3_isWalker_12 : decode cX3_isWalker 12 = .ok (.iconst 1, 1) := by decide +kernel
theorem dX3_isWalker_13 : decode cX3_isWalker 13 = .ok (.goto 4, 3) := by decide +kernel
theorem dX3_isWalker_16 : decode cX3_isWalker 16 = .ok (.iconst 0, 1) := by decide +kernel
theorem dX3_isWalker_17 : decode cX3_isWalker 17 = .ok (.ireturn, 1) := by decide +kernel
theorem dX3_isOnLand_0 : decode cX3_isOnLand 0 = .ok (.lload_n 0, 1) := by decide +kernel
theorem dX3_isOnLand_1 : decode cX3_isOnLand 1 = .ok (.lconst 0, 1) := by decide +kernel
theorem dX3_isOnLand_2 : decode cX3_isOnLand 2 = .ok (.lcmp, 1) := by decide +kernel
theorem dX3_isOnLand_3 : decode cX3_isOnLand 3 = .ok (.ifCond .lt 15, 3) := by decide +kernel
theorem dX3_isOnLand_6 : decode cX3_isOnLand 6 = .ok (.lload_n 0, 1) := by decide +kernel
theorem dX3_isOnLand_7 : decode cX3_isOnLand 7 = .ok (.ldc2_w 84, 3) := by decide +kernel
theorem dX3_isOnLand_10 : decode cX3_isOnLand 10 = .ok (.lcmp, 1) := by decide +kernel
theorem dX3_isOnLand_11 : decode cX3_isOnLand 11 = .ok (.ifCond .gt 7, 3) := by decide +kernel
theorem dX3_isOnLand_14 : decode cX3_isOnLand 14 = .ok (.iconst 1, 1) := by decide +kernel
theorem dX3_isOnLand_15 : decode cX3_isOnLand 15 = .ok (.goto 4, 3) := by decide +kernel
theorem dX3_isOnLand_18 : decode cX3_isOnLand 18 = .ok (.iconst 0, 1) := by decide +kernel
theorem dX3_isOnLand_19 : decode cX3_isOnLand 19 = .ok (.ireturn, 1) := by decide +kernel
set_option maxRecDepth 20000 in
theorem ggX3_cell_X3_isOnLand : GoodIn wsX3_cell wsX3_isOnLand := goodIn_r _ [10, 11] (by decide +kernel) (by decide +kernel)
set_option maxRecDepth 20000 in
theorem gX3_cell_X3_isOnLand : GoodIn wsX3_cell (va_wsS RX3 86 yX3_isOnLand wsX3_isOnLand) := goodIn_app (goodIn_of _ (by decide +kernel)) ggX3_cell_X3_isOnLand
set_option maxRecDepth 20000 in
theorem ggX3_cell_X3_mayBoth : GoodIn wsX3_cell wsX3_mayBoth := goodIn_r _ [15, 16, 17, 18, 19, 20, 21, 22, 23, 24, 25, 26, 27, 28, 29, 30, 31, 32, 33, 34, 35, 36, 37, 38, 39, 40, 41, 42, 43, 44, 45, 46] (by decide +kernel) (by decide +kernel)
set_option maxRecDepth 20000 in
theorem gX3_cell_X3_mayBoth : GoodIn wsX3_cell (wsV RX3 90 RX3 yX3_mayBoth wsX3_mayBoth) := goodIn_app (goodIn_of _ (by decide +kernel)) ggX3_cell_X3_mayBoth
theorem dX3_cell_0 : decode cX3_cell 0 = .ok (.iload_n 1, 1) := by decide +kernel
theorem dX3_cell_1 : decode cX3_cell 1 = .ok (.i2l, 1) := by decide +kernel
theorem dX3_cell_2 : decode cX3_cell 2 = .ok (.invokestatic 86, 3) := by decide +kernel
theorem dX3_cell_5 : decode cX3_cell 5 = .ok (.ifCond .eq 37, 3) := by decide +kernel
theorem dX3_cell_8 : decode cX3_cell 8 = .ok (.iload_n 2, 1) := by decide +kernel
theorem dX3_cell_9 : decode cX3_cell 9 = .ok (.i2l, 1) := by decide +kernel
theorem dX3_cell_10 : decode cX3_cell 10 = .ok (.invokestatic 86, 3) := by decide +kernel
theorem dX3_cell_13 : decode cX3_cell 13 = .ok (.ifCond .eq 29, 3) := by decide +kernel
theorem dX3_cell_16 : decode cX3_cell 16 = .ok (.iload_n 3, 1) := by decide +kernel
theorem dX3_cell_17 : decode cX3_cell 17 = .ok (.ifCond .lt 25, 3) := by decide +kernel
theorem dX3_cell_20 : decode cX3_cell 20 = .ok (.iload_n 3, 1) := by decide +kernel
theorem dX3_cell_21 : decode cX3_cell 21 = .ok (.iconst 2, 1) := by decide +kernel
theorem dX3_cell_22 : decode cX3_cell 22 = .ok (.if_icmp .gt 20, 3) := by decide +kernel
theorem dX3_cell_25 : decode cX3_cell 25 = .ok (.iload 4, 2) := by decide +kernel
theorem dX3_cell_27 : decode cX3_cell 27 = .ok (.iconst 1, 1) := by decide +kernel
theorem dX3_cell_28 : decode cX3_cell 28 = .ok (.if_icmp .lt 14, 3) := by decide +kernel
theorem dX3_cell_31 : decode cX3_cell 31 = .ok (.iload 4, 2) := by decide +kernel
theorem dX3_cell_33 : decode cX3_cell 33 = .ok (.bipush 40, 2) := by decide +kernel
theorem dX3_cell_35 : decode cX3_cell 35 = .ok (.if_icmp .gt 7, 3) := by decide +kernel
theorem dX3_cell_38 : decode cX3_cell 38 = .ok (.iconst 1, 1) := by decide +kernel
theorem dX3_cell_39 : decode cX3_cell 39 = .ok (.goto 4, 3) := by decide +kernel
theorem dX3_cell_42 : decode cX3_cell 42 = .ok (.iconst 0, 1) := by decide +kernel
theorem dX3_cell_43 : decode cX3_cell 43 = .ok (.istore 5, 2) := by decide +kernel
theorem dX3_cell_45 : decode cX3_cell 45 = .ok (.aload_n 0, 1) := by decide +kernel
theorem dX3_cell_46 : decode cX3_cell 46 = .ok (.iload 5, 2) := by decide +kernel
theorem dX3_cell_48 : decode cX3_cell 48 = .ok (.aload_n 0, 1) := by decide +kernel
theorem dX3_cell_49 : decode cX3_cell 49 = .ok (.getfield 78, 3) := by decide +kernel
theorem dX3_cell_52 : decode cX3_cell 52 = .ok (.iconst 5, 1) := by decide +kernel
theorem dX3_cell_53 : decode cX3_cell 53 = .ok (.if_icmp .ge 7, 3) := by decide +kernel
theorem dX3_cell_56 : decode cX3_cell 56 = .ok (.iconst 1, 1) := by decide +kernel
theorem dX3_cell_57 : decode cX3_cell 57 = .ok (.goto 4, 3) := by decide +kernel
theorem dX3_cell_60 : decode cX3_cell 60 = .ok (.iconst 0, 1) := by decide +kernel
theorem dX3_cell_61 : decode cX3_cell 61 = .ok (.invokevirtual 90, 3) := by decide +kernel
theorem dX3_cell_64 : decode cX3_cell 64 = .ok (.ifCond .ne 5, 3) := by decide +kernel
theorem dX3_cell_67 : decode cX3_cell 67 = .ok (.iconst 0, 1) := by decide +kernel
theorem dX3_cell_68 : decode cX3_cell 68 = .ok (.ireturn, 1) := by decide +kernel
theorem dX3_cell_69 : decode cX3_cell 69 = .ok (.aload_n 0, 1) := by decide +kernel
theorem dX3_cell_70 : decode cX3_cell 70 = .ok (.getfield 7, 3) := by decide +kernel
theorem dX3_cell_73 : decode cX3_cell 73 = .ok (.aload_n 0, 1) := by decide +kernel
theorem dX3_cell_74 : decode cX3_cell 74 = .ok (.getfield 78, 3) := by decide +kernel
theorem dX3_cell_77 : decode cX3_cell 77 = .ok (.iload_n 1, 1) := by decide +kernel
theorem dX3_cell_78 : decode cX3_cell 78 = .ok (.iastore, 1) := by decide +kernel
theorem dX3_cell_79 : decode cX3_cell 79 = .ok (.aload_n 0, 1) := by decide +kernel
theorem dX3_cell_80 : decode cX3_cell 80 = .ok (.getfield 13, 3) := by decide +kernel
theorem dX3_cell_83 : decode cX3_cell 83 = .ok (.aload_n 0, 1) := by decide +kernel
theorem dX3_cell_84 : decode cX3_cell 84 = .ok (.getfield 78, 3) := by decide +kernel
theorem dX3_cell_87 : decode cX3_cell 87 = .ok (.iload_n 2, 1) := by decide +kernel
theorem dX3_cell_88 : decode cX3_cell 88 = .ok (.iastore, 1) := by decide +kernel
theorem dX3_cell_89 : decode cX3_cell 89 = .ok (.aload_n 0, 1) := by decide +kernel
theorem dX3_cell_90 : decode cX3_cell 90 = .ok (.getfield 16, 3) := by decide +kernel
theorem dX3_cell_93 : decode cX3_cell 93 = .ok (.aload_n 0, 1) := by decide +kernel
theorem dX3_cell_94 : decode cX3_cell 94 = .ok (.getfield 78, 3) := by decide +kernel
theorem dX3_cell_97 : decode cX3_cell 97 = .ok (.iload_n 3, 1) := by decide +kernel
theorem dX3_cell_98 : decode cX3_cell 98 = .ok (.iastore, 1) := by decide +kernel
theorem dX3_cell_99 : decode cX3_cell 99 = .ok (.aload_n 0, 1) := by decide +kernel
theorem dX3_cell_100 : decode cX3_cell 100 = .ok (.getfield 19, 3) := by decide +kernel
theorem dX3_cell_103 : decode cX3_cell 103 = .ok (.aload_n 0, 1) := by decide +kernel
theorem dX3_cell_104 : decode cX3_cell 104 = .ok (.getfield 78, 3) := by decide +kernel
theorem dX3_cell_107 : decode cX3_cell 107 = .ok (.iload 4, 2) := by decide +kernel
theorem dX3_cell_109 : decode cX3_cell 109 = .ok (.iastore, 1) := by decide +kernel
theorem dX3_cell_110 : decode cX3_cell 110 = .ok (.aload_n 0, 1) := by decide +kernel
theorem dX3_cell_111 : decode cX3_cell 111 = .ok (.getfield 22, 3) := by decide +kernel
theorem dX3_cell_114 : decode cX3_cell 114 = .ok (.aload_n 0, 1) := by decide +kernel
theorem dX3_cell_115 : decode cX3_cell 115 = .ok (.getfield 78, 3) := by decide +kernel
theorem dX3_cell_118 : decode cX3_cell 118 = .ok (.iconst 1, 1) := by decide +kernel
theorem dX3_cell_119 : decode cX3_cell 119 = .ok (.bastore, 1) := by decide +kernel
theorem dX3_cell_120 : decode cX3_cell 120 = .ok (.aload_n 0, 1) := by decide +kernel
theorem dX3_cell_121 : decode cX3_cell 121 = .ok (.dup, 1) := by decide +kernel
theorem dX3_cell_122 : decode cX3_cell 122 = .ok (.getfield 78, 3) := by decide +kernel
theorem dX3_cell_125 : decode cX3_cell 125 = .ok (.iconst 1, 1) := by decide +kernel
theorem dX3_cell_126 : decode cX3_cell 126 = .ok (.iadd, 1) := by decide +kernel
theorem dX3_cell_127 : decode cX3_cell 127 = .ok (.putfield 78, 3) := by decide +kernel
theorem dX3_cell_130 : decode cX3_cell 130 = .ok (.aload_n 0, 1) := by decide +kernel
theorem dX3_cell_131 : decode cX3_cell 131 = .ok (.getfield 78, 3) := by decide +kernel
theorem dX3_cell_134 : decode cX3_cell 134 = .ok (.iconst 1, 1) := by decide +kernel
theorem dX3_cell_135 : decode cX3_cell 135 = .ok (.isub, 1) := by decide +kernel
theorem dX3_cell_136 : decode cX3_cell 136 = .ok (.ireturn, 1) := by decide +kernel
theorem dX3_lose_0 : decode cX3_lose 0 = .ok (.aload_n 0, 1) := by decide +kernel
theorem dX3_lose_1 : decode cX3_lose 1 = .ok (.getfield 35, 3) := by decide +kernel
theorem dX3_lose_4 : decode cX3_lose 4 = .ok (.iload_n 1, 1) := by decide +kernel
theorem dX3_lose_5 : decode cX3_lose 5 = .ok (.iconst (-1), 1) := by decide +kernel
theorem dX3_lose_6 : decode cX3_lose 6 = .ok (.iastore, 1) := by decide +kernel
theorem dX3_lose_7 : decode cX3_lose 7 = .ok (.aload_n 0, 1) := by decide +kernel
theorem dX3_lose_8 : decode cX3_lose 8 = .ok (.getfield 38, 3) := by decide +kernel
theorem dX3_lose_11 : decode cX3_lose 11 = .ok (.iload_n 1, 1) := by decide +kernel
theorem dX3_lose_12 : decode cX3_lose 12 = .ok (.iconst (-1), 1) := by decide +kernel
theorem dX3_lose_13 : decode cX3_lose 13 = .ok (.iastore, 1) := by decide +kernel
theorem dX3_lose_14 : decode cX3_lose 14 = .ok (.aload_n 0, 1) := by decide +kernel
theorem dX3_lose_15 : decode cX3_lose 15 = .ok (.getfield 41, 3) := by decide +kernel
theorem dX3_lose_18 : decode cX3_lose 18 = .ok (.iload_n 1, 1) := by decide +kernel
theorem dX3_lose_19 : decode cX3_lose 19 = .ok (.iconst 0, 1) := by decide +kernel
theorem dX3_lose_20 : decode cX3_lose 20 = .ok (.iastore, 1) := by decide +kernel
theorem dX3_lose_21 : decode cX3_lose 21 = .ok (.return_, 1) := by decide +kernel
set_option maxRecDepth 20000 in
theorem ggX3_turn_X3_isCell : GoodIn wsX3_turn wsX3_isCell := goodIn_r _ [8, 9, 21, 22, 23, 24, 25, 26, 27, 28, 29, 30, 31, 32, 33, 34, 35, 36, 37, 38, 39, 40, 41, 42, 43, 44, 45, 46, 47, 48, 49, 50] (by decide +kernel) (by decide +kernel)
set_option maxRecDepth 20000 in
theorem gX3_turn_X3_isCell : GoodIn wsX3_turn (wsV RX3 94 RX3 yX3_isCell wsX3_isCell) := goodIn_app (goodIn_of _ (by decide +kernel)) ggX3_turn_X3_isCell
set_option maxRecDepth 20000 in
theorem ggX3_turn_X3_may : GoodIn wsX3_turn wsX3_may := goodIn_r _ [13, 14, 21, 22, 23, 24, 25, 26, 27, 28, 29, 30, 31, 32, 33, 34, 35, 36, 37, 38, 39, 40, 41, 42, 43, 44, 45, 46, 47, 48, 49, 50] (by decide +kernel) (by decide +kernel)
set_option maxRecDepth 20000 in
theorem gX3_turn_X3_may : GoodIn wsX3_turn (wsV RX3 98 RX3 yX3_may wsX3_may) := goodIn_app (goodIn_of _ (by decide +kernel)) ggX3_turn_X3_may
set_option maxRecDepth 20000 in
theorem ggX3_turn_X3_lose : GoodIn wsX3_turn wsX3_lose := goodIn_r _ [18, 3, 19, 20, 21, 22, 23, 24, 25, 26, 27, 28, 29, 30, 31, 32, 33, 34, 35, 36, 37, 38, 39, 40, 41, 42, 43, 44, 45, 46, 47, 48, 49, 50] (by decide +kernel) (by decide +kernel)
set_option maxRecDepth 20000 in
theorem gX3_turn_X3_lose : GoodIn wsX3_turn (wsV RX3 102 RX3 yX3_lose wsX3_lose) := goodIn_app (goodIn_of _ (by decide +kernel)) ggX3_turn_X3_lose
theorem dX3_turn_0 : decode cX3_turn 0 = .ok (.aload_n 0, 1) := by decide +kernel
theorem dX3_turn_1 : decode cX3_turn 1 = .ok (.aload_n 0, 1) := by decide +kernel
theorem dX3_turn_2 : decode cX3_turn 2 = .ok (.iload_n 1, 1) := by decide +kernel
theorem dX3_turn_3 : decode cX3_turn 3 = .ok (.invokevirtual 94, 3) := by decide +kernel
theorem dX3_turn_6 : decode cX3_turn 6 = .ok (.invokevirtual 98, 3) := by decide +kernel
theorem dX3_turn_9 : decode cX3_turn 9 = .ok (.ifCond .ne 5, 3) := by decide +kernel
theorem dX3_turn_12 : decode cX3_turn 12 = .ok (.iconst 0, 1) := by decide +kernel
theorem dX3_turn_13 : decode cX3_turn 13 = .ok (.ireturn, 1) := by decide +kernel
theorem dX3_turn_14 : decode cX3_turn 14 = .ok (.aload_n 0, 1) := by decide +kernel
theorem dX3_turn_15 : decode cX3_turn 15 = .ok (.getfield 22, 3) := by decide +kernel
theorem dX3_turn_18 : decode cX3_turn 18 = .ok (.iload_n 1, 1) := by decide +kernel
theorem dX3_turn_19 : decode cX3_turn 19 = .ok (.aload_n 0, 1) := by decide +kernel
theorem dX3_turn_20 : decode cX3_turn 20 = .ok (.getfield 22, 3) := by decide +kernel
theorem dX3_turn_23 : decode cX3_turn 23 = .ok (.iload_n 1, 1) := by decide +kernel
theorem dX3_turn_24 : decode cX3_turn 24 = .ok (.baload, 1) := by decide +kernel
theorem dX3_turn_25 : decode cX3_turn 25 = .ok (.ifCond .ne 7, 3) := by decide +kernel
theorem dX3_turn_28 : decode cX3_turn 28 = .ok (.iconst 1, 1) := by decide +kernel
theorem dX3_turn_29 : decode cX3_turn 29 = .ok (.goto 4, 3) := by decide +kernel
theorem dX3_turn_32 : decode cX3_turn 32 = .ok (.iconst 0, 1) := by decide +kernel
theorem dX3_turn_33 : decode cX3_turn 33 = .ok (.bastore, 1) := by decide +kernel
theorem dX3_turn_34 : decode cX3_turn 34 = .ok (.iconst 0, 1) := by decide +kernel
theorem dX3_turn_35 : decode cX3_turn 35 = .ok (.istore_n 2, 1) := by decide +kernel
theorem dX3_turn_36 : decode cX3_turn 36 = .ok (.iload_n 2, 1) := by decide +kernel
theorem dX3_turn_37 : decode cX3_turn 37 = .ok (.aload_n 0, 1) := by decide +kernel
theorem dX3_turn_38 : decode cX3_turn 38 = .ok (.getfield 81, 3) := by decide +kernel
theorem dX3_turn_41 : decode cX3_turn 41 = .ok (.if_icmp .ge 33, 3) := by decide +kernel
theorem dX3_turn_44 : decode cX3_turn 44 = .ok (.aload_n 0, 1) := by decide +kernel
theorem dX3_turn_45 : decode cX3_turn 45 = .ok (.getfield 22, 3) := by decide +kernel
theorem dX3_turn_48 : decode cX3_turn 48 = .ok (.iload_n 1, 1) := by decide +kernel
theorem dX3_turn_49 : decode cX3_turn 49 = .ok (.baload, 1) := by decide +kernel
theorem dX3_turn_50 : decode cX3_turn 50 = .ok (.ifCond .ne 24, 3) := by decide +kernel
theorem dX3_turn_53 : decode cX3_turn 53 = .ok (.aload_n 0, 1) := by decide +kernel
theorem dX3_turn_54 : decode cX3_turn 54 = .ok (.getfield 35, 3) := by decide +kernel
theorem dX3_turn_57 : decode cX3_turn 57 = .ok (.iload_n 2, 1) := by decide +kernel
theorem dX3_turn_58 : decode cX3_turn 58 = .ok (.iaload, 1) := by decide +kernel
theorem dX3_turn_59 : decode cX3_turn 59 = .ok (.iload_n 1, 1) := by decide +kernel
theorem dX3_turn_60 : decode cX3_turn 60 = .ok (.if_icmp .ne 8, 3) := by decide +kernel
theorem dX3_turn_63 : decode cX3_turn 63 = .ok (.aload_n 0, 1) := by decide +kernel
theorem dX3_turn_64 : decode cX3_turn 64 = .ok (.iload_n 2, 1) := by decide +kernel
theorem dX3_turn_65 : decode cX3_turn 65 = .ok (.invokevirtual 102, 3) := by decide +kernel
theorem dX3_turn_68 : decode cX3_turn 68 = .ok (.iinc 2 1, 3) := by decide +kernel
theorem dX3_turn_71 : decode cX3_turn 71 = .ok (.goto (-35), 3) := by decide +kernel
theorem dX3_turn_74 : decode cX3_turn 74 = .ok (.aload_n 0, 1) := by decide +kernel
theorem dX3_turn_75 : decode cX3_turn 75 = .ok (.getfield 22, 3) := by decide +kernel
theorem dX3_turn_78 : decode cX3_turn 78 = .ok (.iload_n 1, 1) := by decide +kernel
theorem dX3_turn_79 : decode cX3_turn 79 = .ok (.baload, 1) := by decide +kernel
theorem dX3_turn_80 : decode cX3_turn 80 = .ok (.ireturn, 1) := by decide +kernel
set_option maxRecDepth 20000 in
theorem ggX3_tune_X3_isCell : GoodIn wsX3_tune wsX3_isCell := goodIn_r _ [6, 7, 13, 14, 15, 16, 17, 18, 19, 20, 21, 22, 23, 24, 25, 26, 27, 28, 29, 30, 31, 32, 33, 34, 35, 36, 37, 38, 39, 40, 41, 42] (by decide +kernel) (by decide +kernel)
set_option maxRecDepth 20000 in
theorem gX3_tune_X3_isCell : GoodIn wsX3_tune (wsV RX3 94 RX3 yX3_isCell wsX3_isCell) := goodIn_app (goodIn_of _ (by decide +kernel)) ggX3_tune_X3_isCell
set_option maxRecDepth 20000 in
theorem ggX3_tune_X3_mayBoth : GoodIn wsX3_tune wsX3_mayBoth := goodIn_r _ [11, 12, 13, 14, 15, 16, 17, 18, 19, 20, 21, 22, 23, 24, 25, 26, 27, 28, 29, 30, 31, 32, 33, 34, 35, 36, 37, 38, 39, 40, 41, 42] (by decide +kernel) (by decide +kernel)
set_option maxRecDepth 20000 in
theorem gX3_tune_X3_mayBoth : GoodIn wsX3_tune (wsV RX3 90 RX3 yX3_mayBoth wsX3_mayBoth) := goodIn_app (goodIn_of _ (by decide +kernel)) ggX3_tune_X3_mayBoth
theorem dX3_tune_0 : decode cX3_tune 0 = .ok (.aload_n 0, 1) := by decide +kernel
theorem dX3_tune_1 : decode cX3_tune 1 = .ok (.aload_n 0, 1) := by decide +kernel
theorem dX3_tune_2 : decode cX3_tune 2 = .ok (.iload_n 1, 1) := by decide +kernel
theorem dX3_tune_3 : decode cX3_tune 3 = .ok (.invokevirtual 94, 3) := by decide +kernel
theorem dX3_tune_6 : decode cX3_tune 6 = .ok (.iload_n 2, 1) := by decide +kernel
theorem dX3_tune_7 : decode cX3_tune 7 = .ok (.ifCond .lt 12, 3) := by decide +kernel
theorem dX3_tune_10 : decode cX3_tune 10 = .ok (.iload_n 2, 1) := by decide +kernel
theorem dX3_tune_11 : decode cX3_tune 11 = .ok (.iconst 2, 1) := by decide +kernel
theorem dX3_tune_12 : decode cX3_tune 12 = .ok (.if_icmp .gt 7, 3) := by decide +kernel
theorem dX3_tune_15 : decode cX3_tune 15 = .ok (.iconst 1, 1) := by decide +kernel
theorem dX3_tune_16 : decode cX3_tune 16 = .ok (.goto 4, 3) := by decide +kernel
theorem dX3_tune_19 : decode cX3_tune 19 = .ok (.iconst 0, 1) := by decide +kernel
theorem dX3_tune_20 : decode cX3_tune 20 = .ok (.invokevirtual 90, 3) := by decide +kernel
theorem dX3_tune_23 : decode cX3_tune 23 = .ok (.ifCond .ne 5, 3) := by decide +kernel
theorem dX3_tune_26 : decode cX3_tune 26 = .ok (.iconst 0, 1) := by decide +kernel
theorem dX3_tune_27 : decode cX3_tune 27 = .ok (.ireturn, 1) := by decide +kernel
theorem dX3_tune_28 : decode cX3_tune 28 = .ok (.aload_n 0, 1) := by decide +kernel
theorem dX3_tune_29 : decode cX3_tune 29 = .ok (.getfield 16, 3) := by decide +kernel
theorem dX3_tune_32 : decode cX3_tune 32 = .ok (.iload_n 1, 1) := by decide +kernel
theorem dX3_tune_33 : decode cX3_tune 33 = .ok (.iaload, 1) := by decide +kernel
theorem dX3_tune_34 : decode cX3_tune 34 = .ok (.istore_n 3, 1) := by decide +kernel
theorem dX3_tune_35 : decode cX3_tune 35 = .ok (.aload_n 0, 1) := by decide +kernel
theorem dX3_tune_36 : decode cX3_tune 36 = .ok (.getfield 16, 3) := by decide +kernel
theorem dX3_tune_39 : decode cX3_tune 39 = .ok (.iload_n 1, 1) := by decide +kernel
theorem dX3_tune_40 : decode cX3_tune 40 = .ok (.iload_n 2, 1) := by decide +kernel
theorem dX3_tune_41 : decode cX3_tune 41 = .ok (.iastore, 1) := by decide +kernel
theorem dX3_tune_42 : decode cX3_tune 42 = .ok (.iload_n 3, 1) := by decide +kernel
theorem dX3_tune_43 : decode cX3_tune 43 = .ok (.ireturn, 1) := by decide +kernel
set_option maxRecDepth 20000 in
theorem ggX3_walker_X3_isOnLand : GoodIn wsX3_walker wsX3_isOnLand := goodIn_r _ [9, 10] (by decide +kernel) (by decide +kernel)
set_option maxRecDepth 20000 in
theorem gX3_walker_X3_isOnLand : GoodIn wsX3_walker (va_wsS RX3 86 yX3_isOnLand wsX3_isOnLand) := goodIn_app (goodIn_of _ (by decide +kernel)) ggX3_walker_X3_isOnLand
set_option maxRecDepth 20000 in
theorem ggX3_walker_X3_mayBoth : GoodIn wsX3_walker wsX3_mayBoth := goodIn_r _ [14, 15, 23, 24, 25, 26, 27, 28, 29, 30, 31, 32, 33, 34, 35, 36, 37, 38, 39, 40, 41, 42, 43, 44, 45, 46, 47, 48, 49, 50, 51, 52] (by decide +kernel) (by decide +kernel)
set_option maxRecDepth 20000 in
theorem gX3_walker_X3_mayBoth : GoodIn wsX3_walker (wsV RX3 90 RX3 yX3_mayBoth wsX3_mayBoth) := goodIn_app (goodIn_of _ (by decide +kernel)) ggX3_walker_X3_mayBoth
set_option maxRecDepth 20000 in
theorem ggX3_walker_X3_lose : GoodIn wsX3_walker wsX3_lose := goodIn_r _ [19, 20, 21, 22, 23, 24, 25, 26, 27, 28, 29, 30, 31, 32, 33, 34, 35, 36, 37, 38, 39, 40, 41, 42, 43, 44, 45, 46, 47, 48, 49, 50, 51, 52] (by decide +kernel) (by decide +kernel)
set_option maxRecDepth 20000 in
theorem gX3_walker_X3_lose : GoodIn wsX3_walker (wsV RX3 102 RX3 yX3_lose wsX3_lose) := goodIn_app (goodIn_of _ (by decide +kernel)) ggX3_walker_X3_lose
theorem dX3_walker_0 : decode cX3_walker 0 = .ok (.aload_n 0, 1) := by decide +kernel
theorem dX3_walker_1 : decode cX3_walker 1 = .ok (.iload_n 1, 1) := by decide +kernel
theorem dX3_walker_2 : decode cX3_walker 2 = .ok (.i2l, 1) := by decide +kernel
theorem dX3_walker_3 : decode cX3_walker 3 = .ok (.invokestatic 86, 3) := by decide +kernel
theorem dX3_walker_6 : decode cX3_walker 6 = .ok (.ifCond .eq 26, 3) := by decide +kernel
theorem dX3_walker_9 : decode cX3_walker 9 = .ok (.iload_n 2, 1) := by decide +kernel
theorem dX3_walker_10 : decode cX3_walker 10 = .ok (.i2l, 1) := by decide +kernel
theorem dX3_walker_11 : decode cX3_walker 11 = .ok (.invokestatic 86, 3) := by decide +kernel
theorem dX3_walker_14 : decode cX3_walker 14 = .ok (.ifCond .eq 18, 3) := by decide +kernel
theorem dX3_walker_17 : decode cX3_walker 17 = .ok (.iload_n 3, 1) := by decide +kernel
theorem dX3_walker_18 : decode cX3_walker 18 = .ok (.iconst 1, 1) := by decide +kernel
theorem dX3_walker_19 : decode cX3_walker 19 = .ok (.if_icmp .lt 13, 3) := by decide +kernel
theorem dX3_walker_22 : decode cX3_walker 22 = .ok (.iload_n 3, 1) := by decide +kernel
theorem dX3_walker_23 : decode cX3_walker 23 = .ok (.bipush 10, 2) := by decide +kernel
theorem dX3_walker_25 : decode cX3_walker 25 = .ok (.if_icmp .gt 7, 3) := by decide +kernel
theorem dX3_walker_28 : decode cX3_walker 28 = .ok (.iconst 1, 1) := by decide +kernel
theorem dX3_walker_29 : decode cX3_walker 29 = .ok (.goto 4, 3) := by decide +kernel
theorem dX3_walker_32 : decode cX3_walker 32 = .ok (.iconst 0, 1) := by decide +kernel
theorem dX3_walker_33 : decode cX3_walker 33 = .ok (.aload_n 0, 1) := by decide +kernel
theorem dX3_walker_34 : decode cX3_walker 34 = .ok (.getfield 81, 3) := by decide +kernel
theorem dX3_walker_37 : decode cX3_walker 37 = .ok (.bipush 6, 2) := by decide +kernel
theorem dX3_walker_39 : decode cX3_walker 39 = .ok (.if_icmp .ge 7, 3) := by decide +kernel
theorem dX3_walker_42 : decode cX3_walker 42 = .ok (.iconst 1, 1) := by decide +kernel
theorem dX3_walker_43 : decode cX3_walker 43 = .ok (.goto 4, 3) := by decide +kernel
theorem dX3_walker_46 : decode cX3_walker 46 = .ok (.iconst 0, 1) := by decide +kernel
theorem dX3_walker_47 : decode cX3_walker 47 = .ok (.invokevirtual 90, 3) := by decide +kernel
theorem dX3_walker_50 : decode cX3_walker 50 = .ok (.ifCond .ne 5, 3) := by decide +kernel
theorem dX3_walker_53 : decode cX3_walker 53 = .ok (.iconst 0, 1) := by decide +kernel
theorem dX3_walker_54 : decode cX3_walker 54 = .ok (.ireturn, 1) := by decide +kernel
theorem dX3_walker_55 : decode cX3_walker 55 = .ok (.aload_n 0, 1) := by decide +kernel
theorem dX3_walker_56 : decode cX3_walker 56 = .ok (.getfield 26, 3) := by decide +kernel
theorem dX3_walker_59 : decode cX3_walker 59 = .ok (.aload_n 0, 1) := by decide +kernel
theorem dX3_walker_60 : decode cX3_walker 60 = .ok (.getfield 81, 3) := by decide +kernel
theorem dX3_walker_63 : decode cX3_walker 63 = .ok (.iload_n 1, 1) := by decide +kernel
theorem dX3_walker_64 : decode cX3_walker 64 = .ok (.iastore, 1) := by decide +kernel
theorem dX3_walker_65 : decode cX3_walker 65 = .ok (.aload_n 0, 1) := by decide +kernel
theorem dX3_walker_66 : decode cX3_walker 66 = .ok (.getfield 29, 3) := by decide +kernel
theorem dX3_walker_69 : decode cX3_walker 69 = .ok (.aload_n 0, 1) := by decide +kernel
theorem dX3_walker_70 : decode cX3_walker 70 = .ok (.getfield 81, 3) := by decide +kernel
theorem dX3_walker_73 : decode cX3_walker 73 = .ok (.iload_n 2, 1) := by decide +kernel
theorem dX3_walker_74 : decode cX3_walker 74 = .ok (.iastore, 1) := by decide +kernel
theorem dX3_walker_75 : decode cX3_walker 75 = .ok (.aload_n 0, 1) := by decide +kernel
theorem dX3_walker_76 : decode cX3_walker 76 = .ok (.getfield 32, 3) := by decide +kernel
theorem dX3_walker_79 : decode cX3_walker 79 = .ok (.aload_n 0, 1) := by decide +kernel
theorem dX3_walker_80 : decode cX3_walker 80 = .ok (.getfield 81, 3) := by decide +kernel
theorem dX3_walker_83 : decode cX3_walker 83 = .ok (.iload_n 3, 1) := by decide +kernel
theorem dX3_walker_84 : decode cX3_walker 84 = .ok (.iastore, 1) := by decide +kernel
theorem dX3_walker_85 : decode cX3_walker 85 = .ok (.aload_n 0, 1) := by decide +kernel
theorem dX3_walker_86 : decode cX3_walker 86 = .ok (.getfield 44, 3) := by decide +kernel
theorem dX3_walker_89 : decode cX3_walker 89 = .ok (.aload_n 0, 1) := by decide +kernel
theorem dX3_walker_90 : decode cX3_walker 90 = .ok (.getfield 81, 3) := by decide +kernel
theorem dX3_walker_93 : decode cX3_walker 93 = .ok (.iconst (-1), 1) := by decide +kernel
theorem dX3_walker_94 : decode cX3_walker 94 = .ok (.iastore, 1) := by decide +kernel
theorem dX3_walker_95 : decode cX3_walker 95 = .ok (.aload_n 0, 1) := by decide +kernel
theorem dX3_walker_96 : decode cX3_walker 96 = .ok (.aload_n 0, 1) := by decide +kernel
theorem dX3_walker_97 : decode cX3_walker 97 = .ok (.getfield 81, 3) := by decide +kernel
theorem dX3_walker_100 : decode cX3_walker 100 = .ok (.invokevirtual 102, 3) := by decide +kernel
theorem dX3_walker_103 : decode cX3_walker 103 = .ok (.aload_n 0, 1) := by decide +kernel
theorem dX3_walker_104 : decode cX3_walker 104 = .ok (.dup, 1) := by decide +kernel
theorem dX3_walker_105 : decode cX3_walker 105 = .ok (.getfield 81, 3) := by decide +kernel
theorem dX3_walker_108 : decode cX3_walker 108 = .ok (.iconst 1, 1) := by decide +kernel
theorem dX3_walker_109 : decode cX3_walker 109 = .ok (.iadd, 1) := by decide +kernel
theorem dX3_walker_110 : decode cX3_walker 110 = .ok (.putfield 81, 3) := by decide +kernel
theorem dX3_walker_113 : decode cX3_walker 113 = .ok (.aload_n 0, 1) := by decide +kernel
theorem dX3_walker_114 : decode cX3_walker 114 = .ok (.getfield 81, 3) := by decide +kernel
theorem dX3_walker_117 : decode cX3_walker 117 = .ok (.iconst 1, 1) := by decide +kernel
theorem dX3_walker_118 : decode cX3_walker 118 = .ok (.isub, 1) := by decide +kernel
theorem dX3_walker_119 : decode cX3_walker 119 = .ok (.ireturn, 1) := by decide +kernel
set_option maxRecDepth 20000 in
theorem ggX3_move_X3_isWalker : GoodIn wsX3_move wsX3_isWalker := goodIn_r _ [7, 8, 18, 19, 20, 21, 22, 23, 24, 25, 26, 27, 28, 29, 30, 31, 32, 33, 34, 35, 36, 37, 38, 39, 40, 41, 42, 43, 44, 45, 46, 47] (by decide +kernel) (by decide +kernel)
set_option maxRecDepth 20000 in
theorem gX3_move_X3_isWalker : GoodIn wsX3_move (wsV RX3 106 RX3 yX3_isWalker wsX3_isWalker) := goodIn_app (goodIn_of _ (by decide +kernel)) ggX3_move_X3_isWalker
set_option maxRecDepth 20000 in
theorem ggX3_move_X3_isOnLand : GoodIn wsX3_move wsX3_isOnLand := goodIn_r _ [11, 12] (by decide +kernel) (by decide +kernel)
set_option maxRecDepth 20000 in
theorem gX3_move_X3_isOnLand : GoodIn wsX3_move (va_wsS RX3 86 yX3_isOnLand wsX3_isOnLand) := goodIn_app (goodIn_of _ (by decide +kernel)) ggX3_move_X3_isOnLand
set_option maxRecDepth 20000 in
theorem ggX3_move_X3_mayBoth : GoodIn wsX3_move wsX3_mayBoth := goodIn_r _ [16, 17, 18, 19, 20, 21, 22, 23, 24, 25, 26, 27, 28, 29, 30, 31, 32, 33, 34, 35, 36, 37, 38, 39, 40, 41, 42, 43, 44, 45, 46, 47] (by decide +kernel) (by decide +kernel)
set_option maxRecDepth 20000 in
theorem gX3_move_X3_mayBoth : GoodIn wsX3_move (wsV RX3 90 RX3 yX3_mayBoth wsX3_mayBoth) := goodIn_app (goodIn_of _ (by decide +kernel)) ggX3_move_X3_mayBoth
theorem dX3_move_0 : decode cX3_move 0 = .ok (.aload_n 0, 1) := by decide +kernel
theorem dX3_move_1 : decode cX3_move 1 = .ok (.iload_n 1, 1) := by decide +kernel
theorem dX3_move_2 : decode cX3_move 2 = .ok (.invokevirtual 106, 3) := by decide +kernel
theorem dX3_move_5 : decode cX3_move 5 = .ok (.istore 4, 2) := by decide +kernel
theorem dX3_move_7 : decode cX3_move 7 = .ok (.iload 4, 2) := by decide +kernel
theorem dX3_move_9 : decode cX3_move 9 = .ok (.ifCond .eq 16, 3) := by decide +kernel
theorem dX3_move_12 : decode cX3_move 12 = .ok (.aload_n 0, 1) := by decide +kernel
theorem dX3_move_13 : decode cX3_move 13 = .ok (.getfield 26, 3) := by decide +kernel
theorem dX3_move_16 : decode cX3_move 16 = .ok (.iload_n 1, 1) := by decide +kernel
theorem dX3_move_17 : decode cX3_move 17 = .ok (.iaload, 1) := by decide +kernel
theorem dX3_move_18 : decode cX3_move 18 = .ok (.i2l, 1) := by decide +kernel
theorem dX3_move_19 : decode cX3_move 19 = .ok (.iload_n 2, 1) := by decide +kernel
theorem dX3_move_20 : decode cX3_move 20 = .ok (.i2l, 1) := by decide +kernel
theorem dX3_move_21 : decode cX3_move 21 = .ok (.ladd, 1) := by decide +kernel
theorem dX3_move_22 : decode cX3_move 22 = .ok (.goto 4, 3) := by decide +kernel
theorem dX3_move_25 : decode cX3_move 25 = .ok (.lconst 0, 1) := by decide +kernel
theorem dX3_move_26 : decode cX3_move 26 = .ok (.lstore 5, 2) := by decide +kernel
theorem dX3_move_28 : decode cX3_move 28 = .ok (.iload 4, 2) := by decide +kernel
theorem dX3_move_30 : decode cX3_move 30 = .ok (.ifCond .eq 16, 3) := by decide +kernel
theorem dX3_move_33 : decode cX3_move 33 = .ok (.aload_n 0, 1) := by decide +kernel
theorem dX3_move_34 : decode cX3_move 34 = .ok (.getfield 29, 3) := by decide +kernel
theorem dX3_move_37 : decode cX3_move 37 = .ok (.iload_n 1, 1) := by decide +kernel
theorem dX3_move_38 : decode cX3_move 38 = .ok (.iaload, 1) := by decide +kernel
theorem dX3_move_39 : decode cX3_move 39 = .ok (.i2l, 1) := by decide +kernel
theorem dX3_move_40 : decode cX3_move 40 = .ok (.iload_n 3, 1) := by decide +kernel
theorem dX3_move_41 : decode cX3_move 41 = .ok (.i2l, 1) := by decide +kernel
theorem dX3_move_42 : decode cX3_move 42 = .ok (.ladd, 1) := by decide +kernel
theorem dX3_move_43 : decode cX3_move 43 = .ok (.goto 4, 3) := by decide +kernel
theorem dX3_move_46 : decode cX3_move 46 = .ok (.lconst 0, 1) := by decide +kernel
theorem dX3_move_47 : decode cX3_move 47 = .ok (.lstore 7, 2) := by decide +kernel
theorem dX3_move_49 : decode cX3_move 49 = .ok (.aload_n 0, 1) := by decide +kernel
theorem dX3_move_50 : decode cX3_move 50 = .ok (.iload 4, 2) := by decide +kernel
theorem dX3_move_52 : decode cX3_move 52 = .ok (.lload 5, 2) := by decide +kernel
theorem dX3_move_54 : decode cX3_move 54 = .ok (.invokestatic 86, 3) := by decide +kernel
theorem dX3_move_57 : decode cX3_move 57 = .ok (.ifCond .eq 15, 3) := by decide +kernel
theorem dX3_move_60 : decode cX3_move 60 = .ok (.lload 7, 2) := by decide +kernel
theorem dX3_move_62 : decode cX3_move 62 = .ok (.invokestatic 86, 3) := by decide +kernel
theorem dX3_move_65 : decode cX3_move 65 = .ok (.ifCond .eq 7, 3) := by decide +kernel
theorem dX3_move_68 : decode cX3_move 68 = .ok (.iconst 1, 1) := by decide +kernel
theorem dX3_move_69 : decode cX3_move 69 = .ok (.goto 4, 3) := by decide +kernel
theorem dX3_move_72 : decode cX3_move 72 = .ok (.iconst 0, 1) := by decide +kernel
theorem dX3_move_73 : decode cX3_move 73 = .ok (.invokevirtual 90, 3) := by decide +kernel
theorem dX3_move_76 : decode cX3_move 76 = .ok (.ifCond .eq 21, 3) := by decide +kernel
theorem dX3_move_79 : decode cX3_move 79 = .ok (.aload_n 0, 1) := by decide +kernel
theorem dX3_move_80 : decode cX3_move 80 = .ok (.getfield 26, 3) := by decide +kernel
theorem dX3_move_83 : decode cX3_move 83 = .ok (.iload_n 1, 1) := by decide +kernel
theorem dX3_move_84 : decode cX3_move 84 = .ok (.lload 5, 2) := by decide +kernel
theorem dX3_move_86 : decode cX3_move 86 = .ok (.l2i, 1) := by decide +kernel
theorem dX3_move_87 : decode cX3_move 87 = .ok (.iastore, 1) := by decide +kernel
theorem dX3_move_88 : decode cX3_move 88 = .ok (.aload_n 0, 1) := by decide +kernel
theorem dX3_move_89 : decode cX3_move 89 = .ok (.getfield 29, 3) := by decide +kernel
theorem dX3_move_92 : decode cX3_move 92 = .ok (.iload_n 1, 1) := by decide +kernel
theorem dX3_move_93 : decode cX3_move 93 = .ok (.lload 7, 2) := by decide +kernel
theorem dX3_move_95 : decode cX3_move 95 = .ok (.l2i, 1) := by decide +kernel
theorem dX3_move_96 : decode cX3_move 96 = .ok (.iastore, 1) := by decide +kernel
theorem dX3_move_97 : decode cX3_move 97 = .ok (.return_, 1) := by decide +kernel
set_option maxRecDepth 20000 in
theorem ggX3_margin_X3_may : GoodIn wsX3_margin wsX3_may := goodIn_r _ [6, 7, 8, 9, 10, 11, 12, 13, 14, 15, 16, 17, 18, 19, 20, 21, 22, 23, 24, 25, 26, 27, 28, 29, 30, 31, 32, 33, 34, 35, 36, 37] (by decide +kernel) (by decide +kernel)
set_option maxRecDepth 20000 in
theorem gX3_margin_X3_may : GoodIn wsX3_margin (wsV RX3 98 RX3 yX3_may wsX3_may) := goodIn_app (goodIn_of _ (by decide +kernel)) ggX3_margin_X3_may
theorem dX3_margin_0 : decode cX3_margin 0 = .ok (.aload_n 0, 1) := by decide +kernel
theorem dX3_margin_1 : decode cX3_margin 1 = .ok (.iload_n 1, 1) := by decide +kernel
theorem dX3_margin_2 : decode cX3_margin 2 = .ok (.ifCond .lt 14, 3) := by decide +kernel
theorem dX3_margin_5 : decode cX3_margin 5 = .ok (.iload_n 1, 1) := by decide +kernel
theorem dX3_margin_6 : decode cX3_margin 6 = .ok (.sipush 1000, 3) := by decide +kernel
theorem dX3_margin_9 : decode cX3_margin 9 = .ok (.if_icmp .gt 7, 3) := by decide +kernel
theorem dX3_margin_12 : decode cX3_margin 12 = .ok (.iconst 1, 1) := by decide +kernel
theorem dX3_margin_13 : decode cX3_margin 13 = .ok (.goto 4, 3) := by decide +kernel
theorem dX3_margin_16 : decode cX3_margin 16 = .ok (.iconst 0, 1) := by decide +kernel
theorem dX3_margin_17 : decode cX3_margin 17 = .ok (.invokevirtual 98, 3) := by decide +kernel
theorem dX3_margin_20 : decode cX3_margin 20 = .ok (.ifCond .ne 5, 3) := by decide +kernel
theorem dX3_margin_23 : decode cX3_margin 23 = .ok (.iconst 0, 1) := by decide +kernel
theorem dX3_margin_24 : decode cX3_margin 24 = .ok (.ireturn, 1) := by decide +kernel
theorem dX3_margin_25 : decode cX3_margin 25 = .ok (.aload_n 0, 1) := by decide +kernel
theorem dX3_margin_26 : decode cX3_margin 26 = .ok (.getfield 50, 3) := by decide +kernel
theorem dX3_margin_29 : decode cX3_margin 29 = .ok (.istore_n 2, 1) := by decide +kernel
theorem dX3_margin_30 : decode cX3_margin 30 = .ok (.aload_n 0, 1) := by decide +kernel
theorem dX3_margin_31 : decode cX3_margin 31 = .ok (.iload_n 1, 1) := by decide +kernel
theorem dX3_margin_32 : decode cX3_margin 32 = .ok (.putfield 50, 3) := by decide +kernel
theorem dX3_margin_35 : decode cX3_margin 35 = .ok (.iload_n 2, 1) := by decide +kernel
theorem dX3_margin_36 : decode cX3_margin 36 = .ok (.ireturn, 1) := by decide +kernel
set_option maxRecDepth 20000 in
theorem ggX3_patience_X3_may : GoodIn wsX3_patience wsX3_may := goodIn_r _ [6, 7, 8, 9, 10, 11, 12, 13, 14, 15, 16, 17, 18, 19, 20, 21, 22, 23, 24, 25, 26, 27, 28, 29, 30, 31, 32, 33, 34, 35, 36, 37] (by decide +kernel) (by decide +kernel)
set_option maxRecDepth 20000 in
theorem gX3_patience_X3_may : GoodIn wsX3_patience (wsV RX3 98 RX3 yX3_may wsX3_may) := goodIn_app (goodIn_of _ (by decide +kernel)) ggX3_patience_X3_may
theorem dX3_patience_0 : decode cX3_patience 0 = .ok (.aload_n 0, 1) := by decide +kernel
theorem dX3_patience_1 : decode cX3_patience 1 = .ok (.iload_n 1, 1) := by decide +kernel
theorem dX3_patience_2 : decode cX3_patience 2 = .ok (.iconst 1, 1) := by decide +kernel
theorem dX3_patience_3 : decode cX3_patience 3 = .ok (.if_icmp .lt 13, 3) := by decide +kernel
theorem dX3_patience_6 : decode cX3_patience 6 = .ok (.iload_n 1, 1) := by decide +kernel
theorem dX3_patience_7 : decode cX3_patience 7 = .ok (.bipush 10, 2) := by decide +kernel
theorem dX3_patience_9 : decode cX3_patience 9 = .ok (.if_icmp .gt 7, 3) := by decide +kernel
theorem dX3_patience_12 : decode cX3_patience 12 = .ok (.iconst 1, 1) := by decide +kernel
theorem dX3_patience_13 : decode cX3_patience 13 = .ok (.goto 4, 3) := by decide +kernel
theorem dX3_patience_16 : decode cX3_patience 16 = .ok (.iconst 0, 1) := by decide +kernel
theorem dX3_patience_17 : decode cX3_patience 17 = .ok (.invokevirtual 98, 3) := by decide +kernel
theorem dX3_patience_20 : decode cX3_patience 20 = .ok (.ifCond .ne 5, 3) := by decide +kernel
theorem dX3_patience_23 : decode cX3_patience 23 = .ok (.iconst 0, 1) := by decide +kernel
theorem dX3_patience_24 : decode cX3_patience 24 = .ok (.ireturn, 1) := by decide +kernel
theorem dX3_patience_25 : decode cX3_patience 25 = .ok (.aload_n 0, 1) := by decide +kernel
theorem dX3_patience_26 : decode cX3_patience 26 = .ok (.getfield 54, 3) := by decide +kernel
theorem dX3_patience_29 : decode cX3_patience 29 = .ok (.istore_n 2, 1) := by decide +kernel
theorem dX3_patience_30 : decode cX3_patience 30 = .ok (.aload_n 0, 1) := by decide +kernel
theorem dX3_patience_31 : decode cX3_patience 31 = .ok (.iload_n 1, 1) := by decide +kernel
theorem dX3_patience_32 : decode cX3_patience 32 = .ok (.putfield 54, 3) := by decide +kernel
theorem dX3_patience_35 : decode cX3_patience 35 = .ok (.iload_n 2, 1) := by decide +kernel
theorem dX3_patience_36 : decode cX3_patience 36 = .ok (.ireturn, 1) := by decide +kernel
set_option maxRecDepth 20000 in
theorem ggX3_bound_X3_may : GoodIn wsX3_bound wsX3_may := goodIn_r _ [6, 7, 8, 9, 10, 11, 12, 13, 14, 15, 16, 17, 18, 19, 20, 21, 22, 23, 24, 25, 26, 27, 28, 29, 30, 31, 32, 33, 34, 35, 36, 37] (by decide +kernel) (by decide +kernel)
set_option maxRecDepth 20000 in
theorem gX3_bound_X3_may : GoodIn wsX3_bound (wsV RX3 98 RX3 yX3_may wsX3_may) := goodIn_app (goodIn_of _ (by decide +kernel)) ggX3_bound_X3_may
theorem dX3_bound_0 : decode cX3_bound 0 = .ok (.aload_n 0, 1) := by decide +kernel
theorem dX3_bound_1 : decode cX3_bound 1 = .ok (.iload_n 1, 1) := by decide +kernel
theorem dX3_bound_2 : decode cX3_bound 2 = .ok (.iconst 1, 1) := by decide +kernel
theorem dX3_bound_3 : decode cX3_bound 3 = .ok (.if_icmp .lt 14, 3) := by decide +kernel
theorem dX3_bound_6 : decode cX3_bound 6 = .ok (.iload_n 1, 1) := by decide +kernel
theorem dX3_bound_7 : decode cX3_bound 7 = .ok (.sipush 10000, 3) := by decide +kernel
theorem dX3_bound_10 : decode cX3_bound 10 = .ok (.if_icmp .gt 7, 3) := by decide +kernel
theorem dX3_bound_13 : decode cX3_bound 13 = .ok (.iconst 1, 1) := by decide +kernel
theorem dX3_bound_14 : decode cX3_bound 14 = .ok (.goto 4, 3) := by decide +kernel
theorem dX3_bound_17 : decode cX3_bound 17 = .ok (.iconst 0, 1) := by decide +kernel
theorem dX3_bound_18 : decode cX3_bound 18 = .ok (.invokevirtual 98, 3) := by decide +kernel
theorem dX3_bound_21 : decode cX3_bound 21 = .ok (.ifCond .ne 5, 3) := by decide +kernel
theorem dX3_bound_24 : decode cX3_bound 24 = .ok (.iconst 0, 1) := by decide +kernel
theorem dX3_bound_25 : decode cX3_bound 25 = .ok (.ireturn, 1) := by decide +kernel
theorem dX3_bound_26 : decode cX3_bound 26 = .ok (.aload_n 0, 1) := by decide +kernel
theorem dX3_bound_27 : decode cX3_bound 27 = .ok (.getfield 57, 3) := by decide +kernel
theorem dX3_bound_30 : decode cX3_bound 30 = .ok (.istore_n 2, 1) := by decide +kernel
theorem dX3_bound_31 : decode cX3_bound 31 = .ok (.aload_n 0, 1) := by decide +kernel
theorem dX3_bound_32 : decode cX3_bound 32 = .ok (.iload_n 1, 1) := by decide +kernel
theorem dX3_bound_33 : decode cX3_bound 33 = .ok (.putfield 57, 3) := by decide +kernel
theorem dX3_bound_36 : decode cX3_bound 36 = .ok (.iload_n 2, 1) := by decide +kernel
theorem dX3_bound_37 : decode cX3_bound 37 = .ok (.ireturn, 1) := by decide +kernel
theorem dX3_loadOf_0 : decode cX3_loadOf 0 = .ok (.iconst 0, 1) := by decide +kernel
theorem dX3_loadOf_1 : decode cX3_loadOf 1 = .ok (.istore_n 2, 1) := by decide +kernel
theorem dX3_loadOf_2 : decode cX3_loadOf 2 = .ok (.iconst 0, 1) := by decide +kernel
theorem dX3_loadOf_3 : decode cX3_loadOf 3 = .ok (.istore_n 3, 1) := by decide +kernel
theorem dX3_loadOf_4 : decode cX3_loadOf 4 = .ok (.iload_n 3, 1) := by decide +kernel
theorem dX3_loadOf_5 : decode cX3_loadOf 5 = .ok (.aload_n 0, 1) := by decide +kernel
theorem dX3_loadOf_6 : decode cX3_loadOf 6 = .ok (.getfield 81, 3) := by decide +kernel
theorem dX3_loadOf_9 : decode cX3_loadOf 9 = .ok (.if_icmp .ge 32, 3) := by decide +kernel
theorem dX3_loadOf_12 : decode cX3_loadOf 12 = .ok (.iload_n 2, 1) := by decide +kernel
theorem dX3_loadOf_13 : decode cX3_loadOf 13 = .ok (.aload_n 0, 1) := by decide +kernel
theorem dX3_loadOf_14 : decode cX3_loadOf 14 = .ok (.getfield 35, 3) := by decide +kernel
theorem dX3_loadOf_17 : decode cX3_loadOf 17 = .ok (.iload_n 3, 1) := by decide +kernel
theorem dX3_loadOf_18 : decode cX3_loadOf 18 = .ok (.iaload, 1) := by decide +kernel
theorem dX3_loadOf_19 : decode cX3_loadOf 19 = .ok (.iload_n 1, 1) := by decide +kernel
theorem dX3_loadOf_20 : decode cX3_loadOf 20 = .ok (.if_icmp .ne 12, 3) := by decide +kernel
theorem dX3_loadOf_23 : decode cX3_loadOf 23 = .ok (.aload_n 0, 1) := by decide +kernel
theorem dX3_loadOf_24 : decode cX3_loadOf 24 = .ok (.getfield 32, 3) := by decide +kernel
theorem dX3_loadOf_27 : decode cX3_loadOf 27 = .ok (.iload_n 3, 1) := by decide +kernel
theorem dX3_loadOf_28 : decode cX3_loadOf 28 = .ok (.iaload, 1) := by decide +kernel
theorem dX3_loadOf_29 : decode cX3_loadOf 29 = .ok (.goto 4, 3) := by decide +kernel
theorem dX3_loadOf_32 : decode cX3_loadOf 32 = .ok (.iconst 0, 1) := by decide +kernel
theorem dX3_loadOf_33 : decode cX3_loadOf 33 = .ok (.iadd, 1) := by decide +kernel
theorem dX3_loadOf_34 : decode cX3_loadOf 34 = .ok (.istore_n 2, 1) := by decide +kernel
theorem dX3_loadOf_35 : decode cX3_loadOf 35 = .ok (.iinc 3 1, 3) := by decide +kernel
theorem dX3_loadOf_38 : decode cX3_loadOf 38 = .ok (.goto (-34), 3) := by decide +kernel
theorem dX3_loadOf_41 : decode cX3_loadOf 41 = .ok (.iload_n 2, 1) := by decide +kernel
theorem dX3_loadOf_42 : decode cX3_loadOf 42 = .ok (.ireturn, 1) := by decide +kernel
set_option maxRecDepth 20000 in
theorem ggX3_useOf_X3_loadOf : GoodIn wsX3_useOf wsX3_loadOf := goodIn_r _ [6, 7, 8, 9, 10, 11, 12, 13, 14, 15, 16, 17, 18, 19, 20, 21, 22, 23, 24, 25, 26, 27, 28, 29, 30, 31, 32, 33, 34, 35, 36, 37, 38, 39] (by decide +kernel) (by decide +kernel)
set_option maxRecDepth 20000 in
theorem gX3_useOf_X3_loadOf : GoodIn wsX3_useOf (wsV RX3 109 RX3 yX3_loadOf wsX3_loadOf) := goodIn_app (goodIn_of _ (by decide +kernel)) ggX3_useOf_X3_loadOf
theorem dX3_useOf_0 : decode cX3_useOf 0 = .ok (.bipush 100, 2) := by decide +kernel
theorem dX3_useOf_2 : decode cX3_useOf 2 = .ok (.aload_n 0, 1) := by decide +kernel
theorem dX3_useOf_3 : decode cX3_useOf 3 = .ok (.iload_n 1, 1) := by decide +kernel
theorem dX3_useOf_4 : decode cX3_useOf 4 = .ok (.invokevirtual 109, 3) := by decide +kernel
theorem dX3_useOf_7 : decode cX3_useOf 7 = .ok (.imul, 1) := by decide +kernel
theorem dX3_useOf_8 : decode cX3_useOf 8 = .ok (.aload_n 0, 1) := by decide +kernel
theorem dX3_useOf_9 : decode cX3_useOf 9 = .ok (.getfield 19, 3) := by decide +kernel
theorem dX3_useOf_12 : decode cX3_useOf 12 = .ok (.iload_n 1, 1) := by decide +kernel
theorem dX3_useOf_13 : decode cX3_useOf 13 = .ok (.iaload, 1) := by decide +kernel
theorem dX3_useOf_14 : decode cX3_useOf 14 = .ok (.idiv, 1) := by decide +kernel
theorem dX3_useOf_15 : decode cX3_useOf 15 = .ok (.ireturn, 1) := by decide +kernel
set_option maxRecDepth 20000 in
theorem ggX3_takeUses_X3_useOf : GoodIn wsX3_takeUses wsX3_useOf := goodIn_r _ [7, 8, 9, 10, 11, 6, 12, 13, 14, 15, 16, 17, 18, 19, 20, 21, 22, 23, 24, 25, 26, 27, 28, 29, 30, 31, 32, 33, 34, 35, 36, 37, 38, 39, 40, 41, 42, 43, 44, 45] (by decide +kernel) (by decide +kernel)
set_option maxRecDepth 20000 in
theorem gX3_takeUses_X3_useOf : GoodIn wsX3_takeUses (wsV RX3 113 RX3 yX3_useOf wsX3_useOf) := goodIn_app (goodIn_of _ (by decide +kernel)) ggX3_takeUses_X3_useOf
theorem dX3_takeUses_0 : decode cX3_takeUses 0 = .ok (.iconst 0, 1) := by decide +kernel
theorem dX3_takeUses_1 : decode cX3_takeUses 1 = .ok (.istore_n 1, 1) := by decide +kernel
theorem dX3_takeUses_2 : decode cX3_takeUses 2 = .ok (.iload_n 1, 1) := by decide +kernel
theorem dX3_takeUses_3 : decode cX3_takeUses 3 = .ok (.aload_n 0, 1) := by decide +kernel
theorem dX3_takeUses_4 : decode cX3_takeUses 4 = .ok (.getfield 78, 3) := by decide +kernel
theorem dX3_takeUses_7 : decode cX3_takeUses 7 = .ok (.if_icmp .ge 20, 3) := by decide +kernel
theorem dX3_takeUses_10 : decode cX3_takeUses 10 = .ok (.aload_n 0, 1) := by decide +kernel
theorem dX3_takeUses_11 : decode cX3_takeUses 11 = .ok (.getfield 60, 3) := by decide +kernel
theorem dX3_takeUses_14 : decode cX3_takeUses 14 = .ok (.iload_n 1, 1) := by decide +kernel
theorem dX3_takeUses_15 : decode cX3_takeUses 15 = .ok (.aload_n 0, 1) := by decide +kernel
theorem dX3_takeUses_16 : decode cX3_takeUses 16 = .ok (.iload_n 1, 1) := by decide +kernel
theorem dX3_takeUses_17 : decode cX3_takeUses 17 = .ok (.invokevirtual 113, 3) := by decide +kernel
theorem dX3_takeUses_20 : decode cX3_takeUses 20 = .ok (.iastore, 1) := by decide +kernel
theorem dX3_takeUses_21 : decode cX3_takeUses 21 = .ok (.iinc 1 1, 3) := by decide +kernel
theorem dX3_takeUses_24 : decode cX3_takeUses 24 = .ok (.goto (-22), 3) := by decide +kernel
theorem dX3_takeUses_27 : decode cX3_takeUses 27 = .ok (.return_, 1) := by decide +kernel
theorem dX3_signalOf_0 : decode cX3_signalOf 0 = .ok (.aload_n 0, 1) := by decide +kernel
theorem dX3_signalOf_1 : decode cX3_signalOf 1 = .ok (.getfield 7, 3) := by decide +kernel
theorem dX3_signalOf_4 : decode cX3_signalOf 4 = .ok (.iload_n 1, 1) := by decide +kernel
theorem dX3_signalOf_5 : decode cX3_signalOf 5 = .ok (.iaload, 1) := by decide +kernel
theorem dX3_signalOf_6 : decode cX3_signalOf 6 = .ok (.aload_n 0, 1) := by decide +kernel
theorem dX3_signalOf_7 : decode cX3_signalOf 7 = .ok (.getfield 26, 3) := by decide +kernel
theorem dX3_signalOf_10 : decode cX3_signalOf 10 = .ok (.iload_n 2, 1) := by decide +kernel
theorem dX3_signalOf_11 : decode cX3_signalOf 11 = .ok (.iaload, 1) := by decide +kernel
theorem dX3_signalOf_12 : decode cX3_signalOf 12 = .ok (.isub, 1) := by decide +kernel
theorem dX3_signalOf_13 : decode cX3_signalOf 13 = .ok (.istore_n 3, 1) := by decide +kernel
theorem dX3_signalOf_14 : decode cX3_signalOf 14 = .ok (.aload_n 0, 1) := by decide +kernel
theorem dX3_signalOf_15 : decode cX3_signalOf 15 = .ok (.getfield 13, 3) := by decide +kernel
theorem dX3_signalOf_18 : decode cX3_signalOf 18 = .ok (.iload_n 1, 1) := by decide +kernel
theorem dX3_signalOf_19 : decode cX3_signalOf 19 = .ok (.iaload, 1) := by decide +kernel
theorem dX3_signalOf_20 : decode cX3_signalOf 20 = .ok (.aload_n 0, 1) := by decide +kernel
theorem dX3_signalOf_21 : decode cX3_signalOf 21 = .ok (.getfield 29, 3) := by decide +kernel
theorem dX3_signalOf_24 : decode cX3_signalOf 24 = .ok (.iload_n 2, 1) := by decide +kernel
theorem dX3_signalOf_25 : decode cX3_signalOf 25 = .ok (.iaload, 1) := by decide +kernel
theorem dX3_signalOf_26 : decode cX3_signalOf 26 = .ok (.isub, 1) := by decide +kernel
theorem dX3_signalOf_27 : decode cX3_signalOf 27 = .ok (.istore 4, 2) := by decide +kernel
theorem dX3_signalOf_29 : decode cX3_signalOf 29 = .ok (.iload_n 3, 1) := by decide +kernel
theorem dX3_signalOf_30 : decode cX3_signalOf 30 = .ok (.ifCond .ge 8, 3) := by decide +kernel
theorem dX3_signalOf_33 : decode cX3_signalOf 33 = .ok (.iload_n 3, 1) := by decide +kernel
theorem dX3_signalOf_34 : decode cX3_signalOf 34 = .ok (.ineg, 1) := by decide +kernel
theorem dX3_signalOf_35 : decode cX3_signalOf 35 = .ok (.goto 4, 3) := by decide +kernel
theorem dX3_signalOf_38 : decode cX3_signalOf 38 = .ok (.iload_n 3, 1) := by decide +kernel
theorem dX3_signalOf_39 : decode cX3_signalOf 39 = .ok (.iload 4, 2) := by decide +kernel
theorem dX3_signalOf_41 : decode cX3_signalOf 41 = .ok (.ifCond .ge 9, 3) := by decide +kernel
theorem dX3_signalOf_44 : decode cX3_signalOf 44 = .ok (.iload 4, 2) := by decide +kernel
theorem dX3_signalOf_46 : decode cX3_signalOf 46 = .ok (.ineg, 1) := by decide +kernel
theorem dX3_signalOf_47 : decode cX3_signalOf 47 = .ok (.goto 5, 3) := by decide +kernel
theorem dX3_signalOf_50 : decode cX3_signalOf 50 = .ok (.iload 4, 2) := by decide +kernel
theorem dX3_signalOf_52 : decode cX3_signalOf 52 = .ok (.iadd, 1) := by decide +kernel
theorem dX3_signalOf_53 : decode cX3_signalOf 53 = .ok (.istore 5, 2) := by decide +kernel
theorem dX3_signalOf_55 : decode cX3_signalOf 55 = .ok (.sipush 16000, 3) := by decide +kernel
theorem dX3_signalOf_58 : decode cX3_signalOf 58 = .ok (.iload 5, 2) := by decide +kernel
theorem dX3_signalOf_60 : decode cX3_signalOf 60 = .ok (.iconst 2, 1) := by decide +kernel
theorem dX3_signalOf_61 : decode cX3_signalOf 61 = .ok (.iadd, 1) := by decide +kernel
theorem dX3_signalOf_62 : decode cX3_signalOf 62 = .ok (.iload 5, 2) := by decide +kernel
theorem dX3_signalOf_64 : decode cX3_signalOf 64 = .ok (.iconst 2, 1) := by decide +kernel
theorem dX3_signalOf_65 : decode cX3_signalOf 65 = .ok (.iadd, 1) := by decide +kernel
theorem dX3_signalOf_66 : decode cX3_signalOf 66 = .ok (.imul, 1) := by decide +kernel
theorem dX3_signalOf_67 : decode cX3_signalOf 67 = .ok (.idiv, 1) := by decide +kernel
theorem dX3_signalOf_68 : decode cX3_signalOf 68 = .ok (.ireturn, 1) := by decide +kernel
set_option maxRecDepth 20000 in
theorem ggX3_qualityOf_X3_signalOf : GoodIn wsX3_qualityOf wsX3_signalOf := goodIn_r _ [9, 10, 11, 12, 13, 14, 15, 16, 17, 18, 19, 20, 21, 22, 23, 24, 25, 26, 27, 28, 29, 30, 31, 32, 33, 34, 35, 36, 37, 38, 39, 40, 41, 42, 43] (by decide +kernel) (by decide +kernel)
set_option maxRecDepth 20000 in
theorem gX3_qualityOf_X3_signalOf : GoodIn wsX3_qualityOf (wsV RX3 116 RX3 yX3_signalOf wsX3_signalOf) := goodIn_app (goodIn_of _ (by decide +kernel)) ggX3_qualityOf_X3_signalOf
theorem dX3_qualityOf_0 : decode cX3_qualityOf 0 = .ok (.bipush 10, 2) := by decide +kernel
theorem dX3_qualityOf_2 : decode cX3_qualityOf 2 = .ok (.istore_n 3, 1) := by decide +kernel
theorem dX3_qualityOf_3 : decode cX3_qualityOf 3 = .ok (.iconst 0, 1) := by decide +kernel
theorem dX3_qualityOf_4 : decode cX3_qualityOf 4 = .ok (.istore 4, 2) := by decide +kernel
theorem dX3_qualityOf_6 : decode cX3_qualityOf 6 = .ok (.iload 4, 2) := by decide +kernel
theorem dX3_qualityOf_8 : decode cX3_qualityOf 8 = .ok (.aload_n 0, 1) := by decide +kernel
theorem dX3_qualityOf_9 : decode cX3_qualityOf 9 = .ok (.getfield 78, 3) := by decide +kernel
theorem dX3_qualityOf_12 : decode cX3_qualityOf 12 = .ok (.if_icmp .ge 62, 3) := by decide +kernel
theorem dX3_qualityOf_15 : decode cX3_qualityOf 15 = .ok (.iload 4, 2) := by decide +kernel
theorem dX3_qualityOf_17 : decode cX3_qualityOf 17 = .ok (.iload_n 1, 1) := by decide +kernel
theorem dX3_qualityOf_18 : decode cX3_qualityOf 18 = .ok (.if_icmp .eq 50, 3) := by decide +kernel
theorem dX3_qualityOf_21 : decode cX3_qualityOf 21 = .ok (.aload_n 0, 1) := by decide +kernel
theorem dX3_qualityOf_22 : decode cX3_qualityOf 22 = .ok (.getfield 22, 3) := by decide +kernel
theorem dX3_qualityOf_25 : decode cX3_qualityOf 25 = .ok (.iload 4, 2) := by decide +kernel
theorem dX3_qualityOf_27 : decode cX3_qualityOf 27 = .ok (.baload, 1) := by decide +kernel
theorem dX3_qualityOf_28 : decode cX3_qualityOf 28 = .ok (.ifCond .eq 40, 3) := by decide +kernel
theorem dX3_qualityOf_31 : decode cX3_qualityOf 31 = .ok (.aload_n 0, 1) := by decide +kernel
theorem dX3_qualityOf_32 : decode cX3_qualityOf 32 = .ok (.getfield 16, 3) := by decide +kernel
theorem dX3_qualityOf_35 : decode cX3_qualityOf 35 = .ok (.iload 4, 2) := by decide +kernel
theorem dX3_qualityOf_37 : decode cX3_qualityOf 37 = .ok (.iaload, 1) := by decide +kernel
theorem dX3_qualityOf_38 : decode cX3_qualityOf 38 = .ok (.aload_n 0, 1) := by decide +kernel
theorem dX3_qualityOf_39 : decode cX3_qualityOf 39 = .ok (.getfield 16, 3) := by decide +kernel
theorem dX3_qualityOf_42 : decode cX3_qualityOf 42 = .ok (.iload_n 1, 1) := by decide +kernel
theorem dX3_qualityOf_43 : decode cX3_qualityOf 43 = .ok (.iaload, 1) := by decide +kernel
theorem dX3_qualityOf_44 : decode cX3_qualityOf 44 = .ok (.if_icmp .ne 24, 3) := by decide +kernel
theorem dX3_qualityOf_47 : decode cX3_qualityOf 47 = .ok (.iload_n 3, 1) := by decide +kernel
theorem dX3_qualityOf_48 : decode cX3_qualityOf 48 = .ok (.aload_n 0, 1) := by decide +kernel
theorem dX3_qualityOf_49 : decode cX3_qualityOf 49 = .ok (.iload 4, 2) := by decide +kernel
theorem dX3_qualityOf_51 : decode cX3_qualityOf 51 = .ok (.iload_n 2, 1) := by decide +kernel
theorem dX3_qualityOf_52 : decode cX3_qualityOf 52 = .ok (.invokevirtual 116, 3) := by decide +kernel
theorem dX3_qualityOf_55 : decode cX3_qualityOf 55 = .ok (.aload_n 0, 1) := by decide +kernel
theorem dX3_qualityOf_56 : decode cX3_qualityOf 56 = .ok (.getfield 60, 3) := by decide +kernel
theorem dX3_qualityOf_59 : decode cX3_qualityOf 59 = .ok (.iload 4, 2) := by decide +kernel
theorem dX3_qualityOf_61 : decode cX3_qualityOf 61 = .ok (.iaload, 1) := by decide +kernel
theorem dX3_qualityOf_62 : decode cX3_qualityOf 62 = .ok (.imul, 1) := by decide +kernel
theorem dX3_qualityOf_63 : decode cX3_qualityOf 63 = .ok (.bipush 100, 2) := by decide +kernel
theorem dX3_qualityOf_65 : decode cX3_qualityOf 65 = .ok (.idiv, 1) := by decide +kernel
theorem dX3_qualityOf_66 : decode cX3_qualityOf 66 = .ok (.iadd, 1) := by decide +kernel
theorem dX3_qualityOf_67 : decode cX3_qualityOf 67 = .ok (.istore_n 3, 1) := by decide +kernel
theorem dX3_qualityOf_68 : decode cX3_qualityOf 68 = .ok (.iinc 4 1, 3) := by decide +kernel
theorem dX3_qualityOf_71 : decode cX3_qualityOf 71 = .ok (.goto (-65), 3) := by decide +kernel
theorem dX3_qualityOf_74 : decode cX3_qualityOf 74 = .ok (.bipush 100, 2) := by decide +kernel
theorem dX3_qualityOf_76 : decode cX3_qualityOf 76 = .ok (.aload_n 0, 1) := by decide +kernel
theorem dX3_qualityOf_77 : decode cX3_qualityOf 77 = .ok (.iload_n 1, 1) := by decide +kernel
theorem dX3_qualityOf_78 : decode cX3_qualityOf 78 = .ok (.iload_n 2, 1) := by decide +kernel
theorem dX3_qualityOf_79 : decode cX3_qualityOf 79 = .ok (.invokevirtual 116, 3) := by decide +kernel
theorem dX3_qualityOf_82 : decode cX3_qualityOf 82 = .ok (.imul, 1) := by decide +kernel
theorem dX3_qualityOf_83 : decode cX3_qualityOf 83 = .ok (.iload_n 3, 1) := by decide +kernel
theorem dX3_qualityOf_84 : decode cX3_qualityOf 84 = .ok (.idiv, 1) := by decide +kernel
theorem dX3_qualityOf_85 : decode cX3_qualityOf 85 = .ok (.ireturn, 1) := by decide +kernel
set_option maxRecDepth 20000 in
theorem ggX3_better_X3_loadOf : GoodIn wsX3_better wsX3_loadOf := goodIn_r _ [10, 11, 3, 4, 26, 27, 28, 29, 30, 31, 32, 33, 34, 35, 36, 37, 38, 39, 40, 41, 42, 43, 44, 45, 46, 47, 48, 49, 50, 51, 52, 53, 54, 55] (by decide +kernel) (by decide +kernel)
set_option maxRecDepth 20000 in
theorem gX3_better_X3_loadOf : GoodIn wsX3_better (wsV RX3 109 RX3 yX3_loadOf wsX3_loadOf) := goodIn_app (goodIn_of _ (by decide +kernel)) ggX3_better_X3_loadOf
set_option maxRecDepth 20000 in
theorem ggX3_better_X3_qualityOf : GoodIn wsX3_better wsX3_qualityOf := goodIn_r _ [15, 1, 2, 16, 17, 18, 19, 20, 9, 21, 22, 23, 24, 25, 26, 27, 28, 29, 30, 31, 32, 33, 34, 35, 36, 37, 38, 39, 40, 41, 42, 43, 44, 45, 46, 47, 48, 49, 50, 51, 52, 53, 54, 55] (by decide +kernel) (by decide +kernel)
set_option maxRecDepth 20000 in
theorem gX3_better_X3_qualityOf : GoodIn wsX3_better (wsV RX3 120 RX3 yX3_qualityOf wsX3_qualityOf) := goodIn_app (goodIn_of _ (by decide +kernel)) ggX3_better_X3_qualityOf
theorem dX3_better_0 : decode cX3_better 0 = .ok (.iconst (-1), 1) := by decide +kernel
theorem dX3_better_1 : decode cX3_better 1 = .ok (.istore_n 2, 1) := by decide +kernel
theorem dX3_better_2 : decode cX3_better 2 = .ok (.iconst 0, 1) := by decide +kernel
theorem dX3_better_3 : decode cX3_better 3 = .ok (.istore_n 3, 1) := by decide +kernel
theorem dX3_better_4 : decode cX3_better 4 = .ok (.iload_n 3, 1) := by decide +kernel
theorem dX3_better_5 : decode cX3_better 5 = .ok (.aload_n 0, 1) := by decide +kernel
theorem dX3_better_6 : decode cX3_better 6 = .ok (.getfield 78, 3) := by decide +kernel
theorem dX3_better_9 : decode cX3_better 9 = .ok (.if_icmp .ge 83, 3) := by decide +kernel
theorem dX3_better_12 : decode cX3_better 12 = .ok (.aload_n 0, 1) := by decide +kernel
theorem dX3_better_13 : decode cX3_better 13 = .ok (.getfield 22, 3) := by decide +kernel
theorem dX3_better_16 : decode cX3_better 16 = .ok (.iload_n 3, 1) := by decide +kernel
theorem dX3_better_17 : decode cX3_better 17 = .ok (.baload, 1) := by decide +kernel
theorem dX3_better_18 : decode cX3_better 18 = .ok (.ifCond .eq 38, 3) := by decide +kernel
theorem dX3_better_21 : decode cX3_better 21 = .ok (.iload_n 3, 1) := by decide +kernel
theorem dX3_better_22 : decode cX3_better 22 = .ok (.aload_n 0, 1) := by decide +kernel
theorem dX3_better_23 : decode cX3_better 23 = .ok (.getfield 35, 3) := by decide +kernel
theorem dX3_better_26 : decode cX3_better 26 = .ok (.iload_n 1, 1) := by decide +kernel
theorem dX3_better_27 : decode cX3_better 27 = .ok (.iaload, 1) := by decide +kernel
theorem dX3_better_28 : decode cX3_better 28 = .ok (.if_icmp .eq 28, 3) := by decide +kernel
theorem dX3_better_31 : decode cX3_better 31 = .ok (.aload_n 0, 1) := by decide +kernel
theorem dX3_better_32 : decode cX3_better 32 = .ok (.iload_n 3, 1) := by decide +kernel
theorem dX3_better_33 : decode cX3_better 33 = .ok (.invokevirtual 109, 3) := by decide +kernel
theorem dX3_better_36 : decode cX3_better 36 = .ok (.aload_n 0, 1) := by decide +kernel
theorem dX3_better_37 : decode cX3_better 37 = .ok (.getfield 32, 3) := by decide +kernel
theorem dX3_better_40 : decode cX3_better 40 = .ok (.iload_n 1, 1) := by decide +kernel
theorem dX3_better_41 : decode cX3_better 41 = .ok (.iaload, 1) := by decide +kernel
theorem dX3_better_42 : decode cX3_better 42 = .ok (.iadd, 1) := by decide +kernel
theorem dX3_better_43 : decode cX3_better 43 = .ok (.aload_n 0, 1) := by decide +kernel
theorem dX3_better_44 : decode cX3_better 44 = .ok (.getfield 19, 3) := by decide +kernel
theorem dX3_better_47 : decode cX3_better 47 = .ok (.iload_n 3, 1) := by decide +kernel
theorem dX3_better_48 : decode cX3_better 48 = .ok (.iaload, 1) := by decide +kernel
theorem dX3_better_49 : decode cX3_better 49 = .ok (.if_icmp .gt 7, 3) := by decide +kernel
theorem dX3_better_52 : decode cX3_better 52 = .ok (.iconst 1, 1) := by decide +kernel
theorem dX3_better_53 : decode cX3_better 53 = .ok (.goto 4, 3) := by decide +kernel
theorem dX3_better_56 : decode cX3_better 56 = .ok (.iconst 0, 1) := by decide +kernel
theorem dX3_better_57 : decode cX3_better 57 = .ok (.istore 4, 2) := by decide +kernel
theorem dX3_better_59 : decode cX3_better 59 = .ok (.iload 4, 2) := by decide +kernel
theorem dX3_better_61 : decode cX3_better 61 = .ok (.ifCond .eq 25, 3) := by decide +kernel
theorem dX3_better_64 : decode cX3_better 64 = .ok (.iload_n 2, 1) := by decide +kernel
theorem dX3_better_65 : decode cX3_better 65 = .ok (.iconst (-1), 1) := by decide +kernel
theorem dX3_better_66 : decode cX3_better 66 = .ok (.if_icmp .eq 18, 3) := by decide +kernel
theorem dX3_better_69 : decode cX3_better 69 = .ok (.aload_n 0, 1) := by decide +kernel
theorem dX3_better_70 : decode cX3_better 70 = .ok (.iload_n 3, 1) := by decide +kernel
theorem dX3_better_71 : decode cX3_better 71 = .ok (.iload_n 1, 1) := by decide +kernel
theorem dX3_better_72 : decode cX3_better 72 = .ok (.invokevirtual 120, 3) := by decide +kernel
theorem dX3_better_75 : decode cX3_better 75 = .ok (.aload_n 0, 1) := by decide +kernel
theorem dX3_better_76 : decode cX3_better 76 = .ok (.iload_n 2, 1) := by decide +kernel
theorem dX3_better_77 : decode cX3_better 77 = .ok (.iload_n 1, 1) := by decide +kernel
theorem dX3_better_78 : decode cX3_better 78 = .ok (.invokevirtual 120, 3) := by decide +kernel
theorem dX3_better_81 : decode cX3_better 81 = .ok (.if_icmp .le 5, 3) := by decide +kernel
theorem dX3_better_84 : decode cX3_better 84 = .ok (.iload_n 3, 1) := by decide +kernel
theorem dX3_better_85 : decode cX3_better 85 = .ok (.istore_n 2, 1) := by decide +kernel
theorem dX3_better_86 : decode cX3_better 86 = .ok (.iinc 3 1, 3) := by decide +kernel
theorem dX3_better_89 : decode cX3_better 89 = .ok (.goto (-85), 3) := by decide +kernel
theorem dX3_better_92 : decode cX3_better 92 = .ok (.iload_n 2, 1) := by decide +kernel
theorem dX3_better_93 : decode cX3_better 93 = .ok (.ireturn, 1) := by decide +kernel
set_option maxRecDepth 20000 in
theorem ggX3_handOver_X3_lose : GoodIn wsX3_handOver wsX3_lose := goodIn_r _ [11, 6, 12, 13, 14, 15, 16, 17, 18, 19, 20, 21, 22, 23, 24, 25, 26, 27, 28, 29, 30, 31, 32, 33, 34, 35, 36, 37, 38, 39, 40, 41, 42, 43] (by decide +kernel) (by decide +kernel)
set_option maxRecDepth 20000 in
theorem gX3_handOver_X3_lose : GoodIn wsX3_handOver (wsV RX3 102 RX3 yX3_lose wsX3_lose) := goodIn_app (goodIn_of _ (by decide +kernel)) ggX3_handOver_X3_lose
theorem dX3_handOver_0 : decode cX3_handOver 0 = .ok (.aload_n 0, 1) := by decide +kernel
theorem dX3_handOver_1 : decode cX3_handOver 1 = .ok (.dup, 1) := by decide +kernel
theorem dX3_handOver_2 : decode cX3_handOver 2 = .ok (.getfield 123, 3) := by decide +kernel
theorem dX3_handOver_5 : decode cX3_handOver 5 = .ok (.iconst 1, 1) := by decide +kernel
theorem dX3_handOver_6 : decode cX3_handOver 6 = .ok (.iadd, 1) := by decide +kernel
theorem dX3_handOver_7 : decode cX3_handOver 7 = .ok (.putfield 123, 3) := by decide +kernel
theorem dX3_handOver_10 : decode cX3_handOver 10 = .ok (.aload_n 0, 1) := by decide +kernel
theorem dX3_handOver_11 : decode cX3_handOver 11 = .ok (.dup, 1) := by decide +kernel
theorem dX3_handOver_12 : decode cX3_handOver 12 = .ok (.getfield 126, 3) := by decide +kernel
theorem dX3_handOver_15 : decode cX3_handOver 15 = .ok (.aload_n 0, 1) := by decide +kernel
theorem dX3_handOver_16 : decode cX3_handOver 16 = .ok (.getfield 44, 3) := by decide +kernel
theorem dX3_handOver_19 : decode cX3_handOver 19 = .ok (.iload_n 1, 1) := by decide +kernel
theorem dX3_handOver_20 : decode cX3_handOver 20 = .ok (.iaload, 1) := by decide +kernel
theorem dX3_handOver_21 : decode cX3_handOver 21 = .ok (.iload_n 2, 1) := by decide +kernel
theorem dX3_handOver_22 : decode cX3_handOver 22 = .ok (.if_icmp .ne 22, 3) := by decide +kernel
theorem dX3_handOver_25 : decode cX3_handOver 25 = .ok (.aload_n 0, 1) := by decide +kernel
theorem dX3_handOver_26 : decode cX3_handOver 26 = .ok (.getfield 129, 3) := by decide +kernel
theorem dX3_handOver_29 : decode cX3_handOver 29 = .ok (.aload_n 0, 1) := by decide +kernel
theorem dX3_handOver_30 : decode cX3_handOver 30 = .ok (.getfield 47, 3) := by decide +kernel
theorem dX3_handOver_33 : decode cX3_handOver 33 = .ok (.iload_n 1, 1) := by decide +kernel
theorem dX3_handOver_34 : decode cX3_handOver 34 = .ok (.iaload, 1) := by decide +kernel
theorem dX3_handOver_35 : decode cX3_handOver 35 = .ok (.isub, 1) := by decide +kernel
theorem dX3_handOver_36 : decode cX3_handOver 36 = .ok (.iconst 5, 1) := by decide +kernel
theorem dX3_handOver_37 : decode cX3_handOver 37 = .ok (.if_icmp .gt 7, 3) := by decide +kernel
