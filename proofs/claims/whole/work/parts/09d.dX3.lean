theorem dX3_handOver_40 : decode cX3_handOver 40 = .ok (.iconst 1, 1) := by decide +kernel
theorem dX3_handOver_41 : decode cX3_handOver 41 = .ok (.goto 4, 3) := by decide +kernel
theorem dX3_handOver_44 : decode cX3_handOver 44 = .ok (.iconst 0, 1) := by decide +kernel
theorem dX3_handOver_45 : decode cX3_handOver 45 = .ok (.iadd, 1) := by decide +kernel
theorem dX3_handOver_46 : decode cX3_handOver 46 = .ok (.putfield 126, 3) := by decide +kernel
theorem dX3_handOver_49 : decode cX3_handOver 49 = .ok (.aload_n 0, 1) := by decide +kernel
theorem dX3_handOver_50 : decode cX3_handOver 50 = .ok (.getfield 44, 3) := by decide +kernel
theorem dX3_handOver_53 : decode cX3_handOver 53 = .ok (.iload_n 1, 1) := by decide +kernel
theorem dX3_handOver_54 : decode cX3_handOver 54 = .ok (.aload_n 0, 1) := by decide +kernel
theorem dX3_handOver_55 : decode cX3_handOver 55 = .ok (.getfield 35, 3) := by decide +kernel
theorem dX3_handOver_58 : decode cX3_handOver 58 = .ok (.iload_n 1, 1) := by decide +kernel
theorem dX3_handOver_59 : decode cX3_handOver 59 = .ok (.iaload, 1) := by decide +kernel
theorem dX3_handOver_60 : decode cX3_handOver 60 = .ok (.iastore, 1) := by decide +kernel
theorem dX3_handOver_61 : decode cX3_handOver 61 = .ok (.aload_n 0, 1) := by decide +kernel
theorem dX3_handOver_62 : decode cX3_handOver 62 = .ok (.getfield 47, 3) := by decide +kernel
theorem dX3_handOver_65 : decode cX3_handOver 65 = .ok (.iload_n 1, 1) := by decide +kernel
theorem dX3_handOver_66 : decode cX3_handOver 66 = .ok (.aload_n 0, 1) := by decide +kernel
theorem dX3_handOver_67 : decode cX3_handOver 67 = .ok (.getfield 129, 3) := by decide +kernel
theorem dX3_handOver_70 : decode cX3_handOver 70 = .ok (.iastore, 1) := by decide +kernel
theorem dX3_handOver_71 : decode cX3_handOver 71 = .ok (.aload_n 0, 1) := by decide +kernel
theorem dX3_handOver_72 : decode cX3_handOver 72 = .ok (.iload_n 1, 1) := by decide +kernel
theorem dX3_handOver_73 : decode cX3_handOver 73 = .ok (.invokevirtual 102, 3) := by decide +kernel
theorem dX3_handOver_76 : decode cX3_handOver 76 = .ok (.aload_n 0, 1) := by decide +kernel
theorem dX3_handOver_77 : decode cX3_handOver 77 = .ok (.getfield 35, 3) := by decide +kernel
theorem dX3_handOver_80 : decode cX3_handOver 80 = .ok (.iload_n 1, 1) := by decide +kernel
theorem dX3_handOver_81 : decode cX3_handOver 81 = .ok (.iload_n 2, 1) := by decide +kernel
theorem dX3_handOver_82 : decode cX3_handOver 82 = .ok (.iastore, 1) := by decide +kernel
theorem dX3_handOver_83 : decode cX3_handOver 83 = .ok (.return_, 1) := by decide +kernel
set_option maxRecDepth 20000 in
theorem ggX3_goOn_X3_better : GoodIn wsX3_goOn wsX3_better := goodIn_r _ [13, 14, 15, 1, 16, 17, 18, 19, 20, 12, 21, 22, 23, 24, 25, 26, 27, 28, 29, 30, 31, 32, 33, 34, 35, 36, 49, 50, 51, 52, 53, 54, 55, 56, 57, 58, 59, 60, 61, 62, 63, 64, 65, 66, 67, 68, 69, 70, 71, 72, 73, 74, 75, 76, 77, 78] (by decide +kernel) (by decide +kernel)
set_option maxRecDepth 20000 in
theorem gX3_goOn_X3_better : GoodIn wsX3_goOn (wsV RX3 132 RX3 yX3_better wsX3_better) := goodIn_app (goodIn_of _ (by decide +kernel)) ggX3_goOn_X3_better
set_option maxRecDepth 20000 in
theorem ggX3_goOn_X3_qualityOf : GoodIn wsX3_goOn wsX3_qualityOf := goodIn_r _ [26, 14, 15, 27, 28, 29, 30, 31, 12, 32, 33, 34, 35, 36, 49, 50, 51, 52, 53, 54, 55, 56, 57, 58, 59, 60, 61, 62, 63, 64, 65, 66, 67, 68, 69, 70, 71, 72, 73, 74, 75, 76, 77, 78] (by decide +kernel) (by decide +kernel)
set_option maxRecDepth 20000 in
theorem gX3_goOn_X3_qualityOf : GoodIn wsX3_goOn (wsV RX3 120 RX3 yX3_qualityOf wsX3_qualityOf) := goodIn_app (goodIn_of _ (by decide +kernel)) ggX3_goOn_X3_qualityOf
set_option maxRecDepth 20000 in
theorem ggX3_goOn_X3_lose : GoodIn wsX3_goOn wsX3_lose := goodIn_r _ [40, 1, 6, 7, 49, 50, 51, 52, 53, 54, 55, 56, 57, 58, 59, 60, 61, 62, 63, 64, 65, 66, 67, 68, 69, 70, 71, 72, 73, 74, 75, 76, 77, 78] (by decide +kernel) (by decide +kernel)
set_option maxRecDepth 20000 in
theorem gX3_goOn_X3_lose : GoodIn wsX3_goOn (wsV RX3 102 RX3 yX3_lose wsX3_lose) := goodIn_app (goodIn_of _ (by decide +kernel)) ggX3_goOn_X3_lose
set_option maxRecDepth 20000 in
theorem ggX3_goOn_X3_handOver : GoodIn wsX3_goOn wsX3_handOver := goodIn_r _ [44, 45, 46, 3, 47, 48, 1, 37, 38, 39, 12, 40, 6, 7, 49, 50, 51, 52, 53, 54, 55, 56, 57, 58, 59, 60, 61, 62, 63, 64, 65, 66, 67, 68, 69, 70, 71, 72, 73, 74, 75, 76, 77, 78] (by decide +kernel) (by decide +kernel)
set_option maxRecDepth 20000 in
theorem gX3_goOn_X3_handOver : GoodIn wsX3_goOn (wsV RX3 138 RX3 yX3_handOver wsX3_handOver) := goodIn_app (goodIn_of _ (by decide +kernel)) ggX3_goOn_X3_handOver
theorem dX3_goOn_0 : decode cX3_goOn 0 = .ok (.aload_n 0, 1) := by decide +kernel
theorem dX3_goOn_1 : decode cX3_goOn 1 = .ok (.iload_n 1, 1) := by decide +kernel
theorem dX3_goOn_2 : decode cX3_goOn 2 = .ok (.invokevirtual 132, 3) := by decide +kernel
theorem dX3_goOn_5 : decode cX3_goOn 5 = .ok (.istore_n 2, 1) := by decide +kernel
theorem dX3_goOn_6 : decode cX3_goOn 6 = .ok (.aload_n 0, 1) := by decide +kernel
theorem dX3_goOn_7 : decode cX3_goOn 7 = .ok (.getfield 35, 3) := by decide +kernel
theorem dX3_goOn_10 : decode cX3_goOn 10 = .ok (.iload_n 1, 1) := by decide +kernel
theorem dX3_goOn_11 : decode cX3_goOn 11 = .ok (.iaload, 1) := by decide +kernel
theorem dX3_goOn_12 : decode cX3_goOn 12 = .ok (.iconst (-1), 1) := by decide +kernel
theorem dX3_goOn_13 : decode cX3_goOn 13 = .ok (.if_icmp .ne 29, 3) := by decide +kernel
theorem dX3_goOn_16 : decode cX3_goOn 16 = .ok (.iload_n 2, 1) := by decide +kernel
theorem dX3_goOn_17 : decode cX3_goOn 17 = .ok (.iconst (-1), 1) := by decide +kernel
theorem dX3_goOn_18 : decode cX3_goOn 18 = .ok (.if_icmp .eq 23, 3) := by decide +kernel
theorem dX3_goOn_21 : decode cX3_goOn 21 = .ok (.aload_n 0, 1) := by decide +kernel
theorem dX3_goOn_22 : decode cX3_goOn 22 = .ok (.iload_n 2, 1) := by decide +kernel
theorem dX3_goOn_23 : decode cX3_goOn 23 = .ok (.iload_n 1, 1) := by decide +kernel
theorem dX3_goOn_24 : decode cX3_goOn 24 = .ok (.invokevirtual 120, 3) := by decide +kernel
theorem dX3_goOn_27 : decode cX3_goOn 27 = .ok (.aload_n 0, 1) := by decide +kernel
theorem dX3_goOn_28 : decode cX3_goOn 28 = .ok (.getfield 57, 3) := by decide +kernel
theorem dX3_goOn_31 : decode cX3_goOn 31 = .ok (.if_icmp .lt 10, 3) := by decide +kernel
theorem dX3_goOn_34 : decode cX3_goOn 34 = .ok (.aload_n 0, 1) := by decide +kernel
theorem dX3_goOn_35 : decode cX3_goOn 35 = .ok (.getfield 35, 3) := by decide +kernel
theorem dX3_goOn_38 : decode cX3_goOn 38 = .ok (.iload_n 1, 1) := by decide +kernel
theorem dX3_goOn_39 : decode cX3_goOn 39 = .ok (.iload_n 2, 1) := by decide +kernel
theorem dX3_goOn_40 : decode cX3_goOn 40 = .ok (.iastore, 1) := by decide +kernel
theorem dX3_goOn_41 : decode cX3_goOn 41 = .ok (.return_, 1) := by decide +kernel
theorem dX3_goOn_42 : decode cX3_goOn 42 = .ok (.aload_n 0, 1) := by decide +kernel
theorem dX3_goOn_43 : decode cX3_goOn 43 = .ok (.aload_n 0, 1) := by decide +kernel
theorem dX3_goOn_44 : decode cX3_goOn 44 = .ok (.getfield 35, 3) := by decide +kernel
theorem dX3_goOn_47 : decode cX3_goOn 47 = .ok (.iload_n 1, 1) := by decide +kernel
theorem dX3_goOn_48 : decode cX3_goOn 48 = .ok (.iaload, 1) := by decide +kernel
theorem dX3_goOn_49 : decode cX3_goOn 49 = .ok (.iload_n 1, 1) := by decide +kernel
theorem dX3_goOn_50 : decode cX3_goOn 50 = .ok (.invokevirtual 120, 3) := by decide +kernel
theorem dX3_goOn_53 : decode cX3_goOn 53 = .ok (.istore_n 3, 1) := by decide +kernel
theorem dX3_goOn_54 : decode cX3_goOn 54 = .ok (.iload_n 3, 1) := by decide +kernel
theorem dX3_goOn_55 : decode cX3_goOn 55 = .ok (.aload_n 0, 1) := by decide +kernel
theorem dX3_goOn_56 : decode cX3_goOn 56 = .ok (.getfield 57, 3) := by decide +kernel
theorem dX3_goOn_59 : decode cX3_goOn 59 = .ok (.if_icmp .ge 26, 3) := by decide +kernel
theorem dX3_goOn_62 : decode cX3_goOn 62 = .ok (.aload_n 0, 1) := by decide +kernel
theorem dX3_goOn_63 : decode cX3_goOn 63 = .ok (.iload_n 1, 1) := by decide +kernel
theorem dX3_goOn_64 : decode cX3_goOn 64 = .ok (.invokevirtual 102, 3) := by decide +kernel
theorem dX3_goOn_67 : decode cX3_goOn 67 = .ok (.aload_n 0, 1) := by decide +kernel
theorem dX3_goOn_68 : decode cX3_goOn 68 = .ok (.getfield 44, 3) := by decide +kernel
theorem dX3_goOn_71 : decode cX3_goOn 71 = .ok (.iload_n 1, 1) := by decide +kernel
theorem dX3_goOn_72 : decode cX3_goOn 72 = .ok (.iconst (-1), 1) := by decide +kernel
theorem dX3_goOn_73 : decode cX3_goOn 73 = .ok (.iastore, 1) := by decide +kernel
theorem dX3_goOn_74 : decode cX3_goOn 74 = .ok (.aload_n 0, 1) := by decide +kernel
theorem dX3_goOn_75 : decode cX3_goOn 75 = .ok (.dup, 1) := by decide +kernel
theorem dX3_goOn_76 : decode cX3_goOn 76 = .ok (.getfield 135, 3) := by decide +kernel
theorem dX3_goOn_79 : decode cX3_goOn 79 = .ok (.iconst 1, 1) := by decide +kernel
theorem dX3_goOn_80 : decode cX3_goOn 80 = .ok (.iadd, 1) := by decide +kernel
theorem dX3_goOn_81 : decode cX3_goOn 81 = .ok (.putfield 135, 3) := by decide +kernel
theorem dX3_goOn_84 : decode cX3_goOn 84 = .ok (.return_, 1) := by decide +kernel
theorem dX3_goOn_85 : decode cX3_goOn 85 = .ok (.iload_n 2, 1) := by decide +kernel
theorem dX3_goOn_86 : decode cX3_goOn 86 = .ok (.iconst (-1), 1) := by decide +kernel
theorem dX3_goOn_87 : decode cX3_goOn 87 = .ok (.if_icmp .eq 18, 3) := by decide +kernel
theorem dX3_goOn_90 : decode cX3_goOn 90 = .ok (.aload_n 0, 1) := by decide +kernel
theorem dX3_goOn_91 : decode cX3_goOn 91 = .ok (.iload_n 2, 1) := by decide +kernel
theorem dX3_goOn_92 : decode cX3_goOn 92 = .ok (.iload_n 1, 1) := by decide +kernel
theorem dX3_goOn_93 : decode cX3_goOn 93 = .ok (.invokevirtual 120, 3) := by decide +kernel
theorem dX3_goOn_96 : decode cX3_goOn 96 = .ok (.iload_n 3, 1) := by decide +kernel
theorem dX3_goOn_97 : decode cX3_goOn 97 = .ok (.aload_n 0, 1) := by decide +kernel
theorem dX3_goOn_98 : decode cX3_goOn 98 = .ok (.getfield 50, 3) := by decide +kernel
theorem dX3_goOn_101 : decode cX3_goOn 101 = .ok (.iadd, 1) := by decide +kernel
theorem dX3_goOn_102 : decode cX3_goOn 102 = .ok (.if_icmp .ge 18, 3) := by decide +kernel
theorem dX3_goOn_105 : decode cX3_goOn 105 = .ok (.aload_n 0, 1) := by decide +kernel
theorem dX3_goOn_106 : decode cX3_goOn 106 = .ok (.getfield 38, 3) := by decide +kernel
theorem dX3_goOn_109 : decode cX3_goOn 109 = .ok (.iload_n 1, 1) := by decide +kernel
theorem dX3_goOn_110 : decode cX3_goOn 110 = .ok (.iconst (-1), 1) := by decide +kernel
theorem dX3_goOn_111 : decode cX3_goOn 111 = .ok (.iastore, 1) := by decide +kernel
theorem dX3_goOn_112 : decode cX3_goOn 112 = .ok (.aload_n 0, 1) := by decide +kernel
theorem dX3_goOn_113 : decode cX3_goOn 113 = .ok (.getfield 41, 3) := by decide +kernel
theorem dX3_goOn_116 : decode cX3_goOn 116 = .ok (.iload_n 1, 1) := by decide +kernel
theorem dX3_goOn_117 : decode cX3_goOn 117 = .ok (.iconst 0, 1) := by decide +kernel
theorem dX3_goOn_118 : decode cX3_goOn 118 = .ok (.iastore, 1) := by decide +kernel
theorem dX3_goOn_119 : decode cX3_goOn 119 = .ok (.return_, 1) := by decide +kernel
theorem dX3_goOn_120 : decode cX3_goOn 120 = .ok (.aload_n 0, 1) := by decide +kernel
theorem dX3_goOn_121 : decode cX3_goOn 121 = .ok (.getfield 41, 3) := by decide +kernel
theorem dX3_goOn_124 : decode cX3_goOn 124 = .ok (.iload_n 1, 1) := by decide +kernel
theorem dX3_goOn_125 : decode cX3_goOn 125 = .ok (.aload_n 0, 1) := by decide +kernel
theorem dX3_goOn_126 : decode cX3_goOn 126 = .ok (.getfield 38, 3) := by decide +kernel
theorem dX3_goOn_129 : decode cX3_goOn 129 = .ok (.iload_n 1, 1) := by decide +kernel
theorem dX3_goOn_130 : decode cX3_goOn 130 = .ok (.iaload, 1) := by decide +kernel
theorem dX3_goOn_131 : decode cX3_goOn 131 = .ok (.iload_n 2, 1) := by decide +kernel
theorem dX3_goOn_132 : decode cX3_goOn 132 = .ok (.if_icmp .ne 14, 3) := by decide +kernel
theorem dX3_goOn_135 : decode cX3_goOn 135 = .ok (.aload_n 0, 1) := by decide +kernel
theorem dX3_goOn_136 : decode cX3_goOn 136 = .ok (.getfield 41, 3) := by decide +kernel
theorem dX3_goOn_139 : decode cX3_goOn 139 = .ok (.iload_n 1, 1) := by decide +kernel
theorem dX3_goOn_140 : decode cX3_goOn 140 = .ok (.iaload, 1) := by decide +kernel
theorem dX3_goOn_141 : decode cX3_goOn 141 = .ok (.iconst 1, 1) := by decide +kernel
theorem dX3_goOn_142 : decode cX3_goOn 142 = .ok (.iadd, 1) := by decide +kernel
theorem dX3_goOn_143 : decode cX3_goOn 143 = .ok (.goto 4, 3) := by decide +kernel
theorem dX3_goOn_146 : decode cX3_goOn 146 = .ok (.iconst 1, 1) := by decide +kernel
theorem dX3_goOn_147 : decode cX3_goOn 147 = .ok (.iastore, 1) := by decide +kernel
theorem dX3_goOn_148 : decode cX3_goOn 148 = .ok (.aload_n 0, 1) := by decide +kernel
theorem dX3_goOn_149 : decode cX3_goOn 149 = .ok (.getfield 38, 3) := by decide +kernel
theorem dX3_goOn_152 : decode cX3_goOn 152 = .ok (.iload_n 1, 1) := by decide +kernel
theorem dX3_goOn_153 : decode cX3_goOn 153 = .ok (.iload_n 2, 1) := by decide +kernel
theorem dX3_goOn_154 : decode cX3_goOn 154 = .ok (.iastore, 1) := by decide +kernel
theorem dX3_goOn_155 : decode cX3_goOn 155 = .ok (.aload_n 0, 1) := by decide +kernel
theorem dX3_goOn_156 : decode cX3_goOn 156 = .ok (.getfield 41, 3) := by decide +kernel
theorem dX3_goOn_159 : decode cX3_goOn 159 = .ok (.iload_n 1, 1) := by decide +kernel
theorem dX3_goOn_160 : decode cX3_goOn 160 = .ok (.iaload, 1) := by decide +kernel
theorem dX3_goOn_161 : decode cX3_goOn 161 = .ok (.aload_n 0, 1) := by decide +kernel
theorem dX3_goOn_162 : decode cX3_goOn 162 = .ok (.getfield 54, 3) := by decide +kernel
theorem dX3_goOn_165 : decode cX3_goOn 165 = .ok (.if_icmp .lt 9, 3) := by decide +kernel
theorem dX3_goOn_168 : decode cX3_goOn 168 = .ok (.aload_n 0, 1) := by decide +kernel
theorem dX3_goOn_169 : decode cX3_goOn 169 = .ok (.iload_n 1, 1) := by decide +kernel
theorem dX3_goOn_170 : decode cX3_goOn 170 = .ok (.iload_n 2, 1) := by decide +kernel
theorem dX3_goOn_171 : decode cX3_goOn 171 = .ok (.invokevirtual 138, 3) := by decide +kernel
theorem dX3_goOn_174 : decode cX3_goOn 174 = .ok (.return_, 1) := by decide +kernel
set_option maxRecDepth 20000 in
theorem ggX3_tick_X3_may : GoodIn wsX3_tick wsX3_may := goodIn_r _ [8, 9, 66, 67, 68, 69, 70, 71, 72, 73, 74, 75, 76, 77, 78, 79, 80, 81, 82, 83, 84, 85, 86, 87, 88, 89, 90, 91, 92, 93, 94, 95] (by decide +kernel) (by decide +kernel)
set_option maxRecDepth 20000 in
theorem gX3_tick_X3_may : GoodIn wsX3_tick (wsV RX3 98 RX3 yX3_may wsX3_may) := goodIn_app (goodIn_of _ (by decide +kernel)) ggX3_tick_X3_may
set_option maxRecDepth 20000 in
theorem ggX3_tick_X3_takeUses : GoodIn wsX3_tick wsX3_takeUses := goodIn_r _ [13, 14, 15, 16, 17, 18, 7, 19, 20, 21, 22, 23, 24, 3, 25, 26, 66, 67, 68, 69, 70, 71, 72, 73, 74, 75, 76, 77, 78, 79, 80, 81, 82, 83, 84, 85, 86, 87, 88, 89, 90, 91, 92, 93, 94, 95] (by decide +kernel) (by decide +kernel)
set_option maxRecDepth 20000 in
theorem gX3_tick_X3_takeUses : GoodIn wsX3_tick (wsV RX3 142 RX3 yX3_takeUses wsX3_takeUses) := goodIn_app (goodIn_of _ (by decide +kernel)) ggX3_tick_X3_takeUses
set_option maxRecDepth 20000 in
theorem ggX3_tick_X3_goOn : GoodIn wsX3_tick wsX3_goOn := goodIn_r _ [30, 25, 31, 32, 33, 34, 35, 36, 37, 38, 39, 40, 7, 41, 14, 42, 26, 20, 21, 22, 23, 24, 3, 43, 44, 45, 46, 47, 15, 48, 49, 50, 51, 52, 53, 54, 55, 56, 57, 58, 59, 60, 61, 62, 63, 1, 64, 2, 65, 66, 67, 68, 69, 70, 71, 72, 73, 74, 75, 76, 77, 78, 79, 80, 81, 82, 83, 84, 85, 86, 87, 88, 89, 90, 91, 92, 93, 94, 95] (by decide +kernel) (by decide +kernel)
set_option maxRecDepth 20000 in
theorem gX3_tick_X3_goOn : GoodIn wsX3_tick (wsV RX3 145 RX3 yX3_goOn wsX3_goOn) := goodIn_app (goodIn_of _ (by decide +kernel)) ggX3_tick_X3_goOn
theorem dX3_tick_0 : decode cX3_tick 0 = .ok (.aload_n 0, 1) := by decide +kernel
theorem dX3_tick_1 : decode cX3_tick 1 = .ok (.iload_n 1, 1) := by decide +kernel
theorem dX3_tick_2 : decode cX3_tick 2 = .ok (.iconst 1, 1) := by decide +kernel
theorem dX3_tick_3 : decode cX3_tick 3 = .ok (.if_icmp .lt 13, 3) := by decide +kernel
theorem dX3_tick_6 : decode cX3_tick 6 = .ok (.iload_n 1, 1) := by decide +kernel
theorem dX3_tick_7 : decode cX3_tick 7 = .ok (.bipush 20, 2) := by decide +kernel
theorem dX3_tick_9 : decode cX3_tick 9 = .ok (.if_icmp .gt 7, 3) := by decide +kernel
theorem dX3_tick_12 : decode cX3_tick 12 = .ok (.iconst 1, 1) := by decide +kernel
theorem dX3_tick_13 : decode cX3_tick 13 = .ok (.goto 4, 3) := by decide +kernel
theorem dX3_tick_16 : decode cX3_tick 16 = .ok (.iconst 0, 1) := by decide +kernel
theorem dX3_tick_17 : decode cX3_tick 17 = .ok (.invokevirtual 98, 3) := by decide +kernel
theorem dX3_tick_20 : decode cX3_tick 20 = .ok (.ifCond .ne 5, 3) := by decide +kernel
theorem dX3_tick_23 : decode cX3_tick 23 = .ok (.iconst 0, 1) := by decide +kernel
theorem dX3_tick_24 : decode cX3_tick 24 = .ok (.ireturn, 1) := by decide +kernel
theorem dX3_tick_25 : decode cX3_tick 25 = .ok (.aload_n 0, 1) := by decide +kernel
theorem dX3_tick_26 : decode cX3_tick 26 = .ok (.getfield 123, 3) := by decide +kernel
theorem dX3_tick_29 : decode cX3_tick 29 = .ok (.istore_n 2, 1) := by decide +kernel
theorem dX3_tick_30 : decode cX3_tick 30 = .ok (.iconst 0, 1) := by decide +kernel
theorem dX3_tick_31 : decode cX3_tick 31 = .ok (.istore_n 3, 1) := by decide +kernel
theorem dX3_tick_32 : decode cX3_tick 32 = .ok (.iload_n 3, 1) := by decide +kernel
theorem dX3_tick_33 : decode cX3_tick 33 = .ok (.iload_n 1, 1) := by decide +kernel
theorem dX3_tick_34 : decode cX3_tick 34 = .ok (.if_icmp .ge 47, 3) := by decide +kernel
theorem dX3_tick_37 : decode cX3_tick 37 = .ok (.aload_n 0, 1) := by decide +kernel
theorem dX3_tick_38 : decode cX3_tick 38 = .ok (.dup, 1) := by decide +kernel
theorem dX3_tick_39 : decode cX3_tick 39 = .ok (.getfield 129, 3) := by decide +kernel
theorem dX3_tick_42 : decode cX3_tick 42 = .ok (.iconst 1, 1) := by decide +kernel
theorem dX3_tick_43 : decode cX3_tick 43 = .ok (.iadd, 1) := by decide +kernel
theorem dX3_tick_44 : decode cX3_tick 44 = .ok (.putfield 129, 3) := by decide +kernel
theorem dX3_tick_47 : decode cX3_tick 47 = .ok (.aload_n 0, 1) := by decide +kernel
theorem dX3_tick_48 : decode cX3_tick 48 = .ok (.invokevirtual 142, 3) := by decide +kernel
theorem dX3_tick_51 : decode cX3_tick 51 = .ok (.iconst 0, 1) := by decide +kernel
theorem dX3_tick_52 : decode cX3_tick 52 = .ok (.istore 4, 2) := by decide +kernel
theorem dX3_tick_54 : decode cX3_tick 54 = .ok (.iload 4, 2) := by decide +kernel
theorem dX3_tick_56 : decode cX3_tick 56 = .ok (.aload_n 0, 1) := by decide +kernel
theorem dX3_tick_57 : decode cX3_tick 57 = .ok (.getfield 81, 3) := by decide +kernel
theorem dX3_tick_60 : decode cX3_tick 60 = .ok (.if_icmp .ge 15, 3) := by decide +kernel
theorem dX3_tick_63 : decode cX3_tick 63 = .ok (.aload_n 0, 1) := by decide +kernel
theorem dX3_tick_64 : decode cX3_tick 64 = .ok (.iload 4, 2) := by decide +kernel
theorem dX3_tick_66 : decode cX3_tick 66 = .ok (.invokevirtual 145, 3) := by decide +kernel
theorem dX3_tick_69 : decode cX3_tick 69 = .ok (.iinc 4 1, 3) := by decide +kernel
theorem dX3_tick_72 : decode cX3_tick 72 = .ok (.goto (-18), 3) := by decide +kernel
theorem dX3_tick_75 : decode cX3_tick 75 = .ok (.iinc 3 1, 3) := by decide +kernel
theorem dX3_tick_78 : decode cX3_tick 78 = .ok (.goto (-46), 3) := by decide +kernel
theorem dX3_tick_81 : decode cX3_tick 81 = .ok (.aload_n 0, 1) := by decide +kernel
theorem dX3_tick_82 : decode cX3_tick 82 = .ok (.getfield 123, 3) := by decide +kernel
theorem dX3_tick_85 : decode cX3_tick 85 = .ok (.iload_n 2, 1) := by decide +kernel
theorem dX3_tick_86 : decode cX3_tick 86 = .ok (.isub, 1) := by decide +kernel
theorem dX3_tick_87 : decode cX3_tick 87 = .ok (.ireturn, 1) := by decide +kernel
theorem dX3_ticks_0 : decode cX3_ticks 0 = .ok (.aload_n 0, 1) := by decide +kernel
theorem dX3_ticks_1 : decode cX3_ticks 1 = .ok (.iconst 0, 1) := by decide +kernel
theorem dX3_ticks_2 : decode cX3_ticks 2 = .ok (.putfield 75, 3) := by decide +kernel
theorem dX3_ticks_5 : decode cX3_ticks 5 = .ok (.aload_n 0, 1) := by decide +kernel
theorem dX3_ticks_6 : decode cX3_ticks 6 = .ok (.getfield 129, 3) := by decide +kernel
theorem dX3_ticks_9 : decode cX3_ticks 9 = .ok (.ireturn, 1) := by decide +kernel
theorem dX3_cells_0 : decode cX3_cells 0 = .ok (.aload_n 0, 1) := by decide +kernel
theorem dX3_cells_1 : decode cX3_cells 1 = .ok (.iconst 0, 1) := by decide +kernel
theorem dX3_cells_2 : decode cX3_cells 2 = .ok (.putfield 75, 3) := by decide +kernel
theorem dX3_cells_5 : decode cX3_cells 5 = .ok (.aload_n 0, 1) := by decide +kernel
theorem dX3_cells_6 : decode cX3_cells 6 = .ok (.getfield 78, 3) := by decide +kernel
theorem dX3_cells_9 : decode cX3_cells 9 = .ok (.ireturn, 1) := by decide +kernel
theorem dX3_walkers_0 : decode cX3_walkers 0 = .ok (.aload_n 0, 1) := by decide +kernel
theorem dX3_walkers_1 : decode cX3_walkers 1 = .ok (.iconst 0, 1) := by decide +kernel
theorem dX3_walkers_2 : decode cX3_walkers 2 = .ok (.putfield 75, 3) := by decide +kernel
theorem dX3_walkers_5 : decode cX3_walkers 5 = .ok (.aload_n 0, 1) := by decide +kernel
theorem dX3_walkers_6 : decode cX3_walkers 6 = .ok (.getfield 81, 3) := by decide +kernel
theorem dX3_walkers_9 : decode cX3_walkers 9 = .ok (.ireturn, 1) := by decide +kernel
set_option maxRecDepth 20000 in
theorem ggX3_signal_X3_isCell : GoodIn wsX3_signal wsX3_isCell := goodIn_r _ [5, 6, 25, 26, 27, 28, 29, 30, 31, 32, 33, 34, 35, 36, 37, 38, 39, 40, 41, 42, 43, 44, 45, 46, 47, 48, 49, 50, 51, 52, 53, 54] (by decide +kernel) (by decide +kernel)
set_option maxRecDepth 20000 in
theorem gX3_signal_X3_isCell : GoodIn wsX3_signal (wsV RX3 94 RX3 yX3_isCell wsX3_isCell) := goodIn_app (goodIn_of _ (by decide +kernel)) ggX3_signal_X3_isCell
set_option maxRecDepth 20000 in
theorem ggX3_signal_X3_isWalker : GoodIn wsX3_signal wsX3_isWalker := goodIn_r _ [10, 11, 25, 26, 27, 28, 29, 30, 31, 32, 33, 34, 35, 36, 37, 38, 39, 40, 41, 42, 43, 44, 45, 46, 47, 48, 49, 50, 51, 52, 53, 54] (by decide +kernel) (by decide +kernel)
set_option maxRecDepth 20000 in
theorem gX3_signal_X3_isWalker : GoodIn wsX3_signal (wsV RX3 106 RX3 yX3_isWalker wsX3_isWalker) := goodIn_app (goodIn_of _ (by decide +kernel)) ggX3_signal_X3_isWalker
set_option maxRecDepth 20000 in
theorem ggX3_signal_X3_may : GoodIn wsX3_signal wsX3_may := goodIn_r _ [15, 16, 25, 26, 27, 28, 29, 30, 31, 32, 33, 34, 35, 36, 37, 38, 39, 40, 41, 42, 43, 44, 45, 46, 47, 48, 49, 50, 51, 52, 53, 54] (by decide +kernel) (by decide +kernel)
set_option maxRecDepth 20000 in
theorem gX3_signal_X3_may : GoodIn wsX3_signal (wsV RX3 98 RX3 yX3_may wsX3_may) := goodIn_app (goodIn_of _ (by decide +kernel)) ggX3_signal_X3_may
set_option maxRecDepth 20000 in
theorem ggX3_signal_X3_signalOf : GoodIn wsX3_signal wsX3_signalOf := goodIn_r _ [20, 21, 22, 23, 24, 25, 26, 27, 28, 29, 30, 31, 32, 33, 34, 35, 36, 37, 38, 39, 40, 41, 42, 43, 44, 45, 46, 47, 48, 49, 50, 51, 52, 53, 54] (by decide +kernel) (by decide +kernel)
set_option maxRecDepth 20000 in
theorem gX3_signal_X3_signalOf : GoodIn wsX3_signal (wsV RX3 116 RX3 yX3_signalOf wsX3_signalOf) := goodIn_app (goodIn_of _ (by decide +kernel)) ggX3_signal_X3_signalOf
theorem dX3_signal_0 : decode cX3_signal 0 = .ok (.aload_n 0, 1) := by decide +kernel
theorem dX3_signal_1 : decode cX3_signal 1 = .ok (.aload_n 0, 1) := by decide +kernel
theorem dX3_signal_2 : decode cX3_signal 2 = .ok (.iload_n 1, 1) := by decide +kernel
theorem dX3_signal_3 : decode cX3_signal 3 = .ok (.invokevirtual 94, 3) := by decide +kernel
theorem dX3_signal_6 : decode cX3_signal 6 = .ok (.ifCond .eq 15, 3) := by decide +kernel
theorem dX3_signal_9 : decode cX3_signal 9 = .ok (.aload_n 0, 1) := by decide +kernel
theorem dX3_signal_10 : decode cX3_signal 10 = .ok (.iload_n 2, 1) := by decide +kernel
theorem dX3_signal_11 : decode cX3_signal 11 = .ok (.invokevirtual 106, 3) := by decide +kernel
theorem dX3_signal_14 : decode cX3_signal 14 = .ok (.ifCond .eq 7, 3) := by decide +kernel
theorem dX3_signal_17 : decode cX3_signal 17 = .ok (.iconst 1, 1) := by decide +kernel
theorem dX3_signal_18 : decode cX3_signal 18 = .ok (.goto 4, 3) := by decide +kernel
theorem dX3_signal_21 : decode cX3_signal 21 = .ok (.iconst 0, 1) := by decide +kernel
theorem dX3_signal_22 : decode cX3_signal 22 = .ok (.invokevirtual 98, 3) := by decide +kernel
theorem dX3_signal_25 : decode cX3_signal 25 = .ok (.ifCond .eq 12, 3) := by decide +kernel
theorem dX3_signal_28 : decode cX3_signal 28 = .ok (.aload_n 0, 1) := by decide +kernel
theorem dX3_signal_29 : decode cX3_signal 29 = .ok (.iload_n 1, 1) := by decide +kernel
theorem dX3_signal_30 : decode cX3_signal 30 = .ok (.iload_n 2, 1) := by decide +kernel
theorem dX3_signal_31 : decode cX3_signal 31 = .ok (.invokevirtual 116, 3) := by decide +kernel
theorem dX3_signal_34 : decode cX3_signal 34 = .ok (.goto 4, 3) := by decide +kernel
theorem dX3_signal_37 : decode cX3_signal 37 = .ok (.iconst 0, 1) := by decide +kernel
theorem dX3_signal_38 : decode cX3_signal 38 = .ok (.ireturn, 1) := by decide +kernel
set_option maxRecDepth 20000 in
theorem ggX3_quality_X3_isCell : GoodIn wsX3_quality wsX3_isCell := goodIn_r _ [5, 6, 47, 48, 49, 50, 51, 52, 53, 54, 55, 56, 57, 58, 59, 60, 61, 62, 63, 64, 65, 66, 67, 68, 69, 70, 71, 72, 73, 74, 75, 76] (by decide +kernel) (by decide +kernel)
set_option maxRecDepth 20000 in
theorem gX3_quality_X3_isCell : GoodIn wsX3_quality (wsV RX3 94 RX3 yX3_isCell wsX3_isCell) := goodIn_app (goodIn_of _ (by decide +kernel)) ggX3_quality_X3_isCell
set_option maxRecDepth 20000 in
theorem ggX3_quality_X3_isWalker : GoodIn wsX3_quality wsX3_isWalker := goodIn_r _ [10, 11, 47, 48, 49, 50, 51, 52, 53, 54, 55, 56, 57, 58, 59, 60, 61, 62, 63, 64, 65, 66, 67, 68, 69, 70, 71, 72, 73, 74, 75, 76] (by decide +kernel) (by decide +kernel)
set_option maxRecDepth 20000 in
theorem gX3_quality_X3_isWalker : GoodIn wsX3_quality (wsV RX3 106 RX3 yX3_isWalker wsX3_isWalker) := goodIn_app (goodIn_of _ (by decide +kernel)) ggX3_quality_X3_isWalker
set_option maxRecDepth 20000 in
theorem ggX3_quality_X3_may : GoodIn wsX3_quality wsX3_may := goodIn_r _ [15, 16, 47, 48, 49, 50, 51, 52, 53, 54, 55, 56, 57, 58, 59, 60, 61, 62, 63, 64, 65, 66, 67, 68, 69, 70, 71, 72, 73, 74, 75, 76] (by decide +kernel) (by decide +kernel)
set_option maxRecDepth 20000 in
theorem gX3_quality_X3_may : GoodIn wsX3_quality (wsV RX3 98 RX3 yX3_may wsX3_may) := goodIn_app (goodIn_of _ (by decide +kernel)) ggX3_quality_X3_may
set_option maxRecDepth 20000 in
theorem ggX3_quality_X3_takeUses : GoodIn wsX3_quality wsX3_takeUses := goodIn_r _ [20, 6, 21, 22, 23, 24, 4, 25, 26, 27, 28, 29, 30, 11, 31, 32, 47, 48, 49, 50, 51, 52, 53, 54, 55, 56, 57, 58, 59, 60, 61, 62, 63, 64, 65, 66, 67, 68, 69, 70, 71, 72, 73, 74, 75, 76] (by decide +kernel) (by decide +kernel)
set_option maxRecDepth 20000 in
theorem gX3_quality_X3_takeUses : GoodIn wsX3_quality (wsV RX3 142 RX3 yX3_takeUses wsX3_takeUses) := goodIn_app (goodIn_of _ (by decide +kernel)) ggX3_quality_X3_takeUses
set_option maxRecDepth 20000 in
theorem ggX3_quality_X3_qualityOf : GoodIn wsX3_quality wsX3_qualityOf := goodIn_r _ [36, 6, 37, 38, 21, 39, 40, 41, 4, 42, 43, 44, 45, 46, 47, 48, 49, 50, 51, 52, 53, 54, 55, 56, 57, 58, 59, 60, 61, 62, 63, 64, 65, 66, 67, 68, 69, 70, 71, 72, 73, 74, 75, 76] (by decide +kernel) (by decide +kernel)
set_option maxRecDepth 20000 in
theorem gX3_quality_X3_qualityOf : GoodIn wsX3_quality (wsV RX3 120 RX3 yX3_qualityOf wsX3_qualityOf) := goodIn_app (goodIn_of _ (by decide +kernel)) ggX3_quality_X3_qualityOf
theorem dX3_quality_0 : decode cX3_quality 0 = .ok (.aload_n 0, 1) := by decide +kernel
theorem dX3_quality_1 : decode cX3_quality 1 = .ok (.aload_n 0, 1) := by decide +kernel
theorem dX3_quality_2 : decode cX3_quality 2 = .ok (.iload_n 1, 1) := by decide +kernel
theorem dX3_quality_3 : decode cX3_quality 3 = .ok (.invokevirtual 94, 3) := by decide +kernel
theorem dX3_quality_6 : decode cX3_quality 6 = .ok (.ifCond .eq 15, 3) := by decide +kernel
theorem dX3_quality_9 : decode cX3_quality 9 = .ok (.aload_n 0, 1) := by decide +kernel
theorem dX3_quality_10 : decode cX3_quality 10 = .ok (.iload_n 2, 1) := by decide +kernel
theorem dX3_quality_11 : decode cX3_quality 11 = .ok (.invokevirtual 106, 3) := by decide +kernel
theorem dX3_quality_14 : decode cX3_quality 14 = .ok (.ifCond .eq 7, 3) := by decide +kernel
theorem dX3_quality_17 : decode cX3_quality 17 = .ok (.iconst 1, 1) := by decide +kernel
theorem dX3_quality_18 : decode cX3_quality 18 = .ok (.goto 4, 3) := by decide +kernel
theorem dX3_quality_21 : decode cX3_quality 21 = .ok (.iconst 0, 1) := by decide +kernel
theorem dX3_quality_22 : decode cX3_quality 22 = .ok (.invokevirtual 98, 3) := by decide +kernel
theorem dX3_quality_25 : decode cX3_quality 25 = .ok (.ifCond .ne 5, 3) := by decide +kernel
theorem dX3_quality_28 : decode cX3_quality 28 = .ok (.iconst 0, 1) := by decide +kernel
theorem dX3_quality_29 : decode cX3_quality 29 = .ok (.ireturn, 1) := by decide +kernel
theorem dX3_quality_30 : decode cX3_quality 30 = .ok (.aload_n 0, 1) := by decide +kernel
theorem dX3_quality_31 : decode cX3_quality 31 = .ok (.invokevirtual 142, 3) := by decide +kernel
theorem dX3_quality_34 : decode cX3_quality 34 = .ok (.aload_n 0, 1) := by decide +kernel
theorem dX3_quality_35 : decode cX3_quality 35 = .ok (.iload_n 1, 1) := by decide +kernel
theorem dX3_quality_36 : decode cX3_quality 36 = .ok (.iload_n 2, 1) := by decide +kernel
theorem dX3_quality_37 : decode cX3_quality 37 = .ok (.invokevirtual 120, 3) := by decide +kernel
theorem dX3_quality_40 : decode cX3_quality 40 = .ok (.ireturn, 1) := by decide +kernel
set_option maxRecDepth 20000 in
theorem ggX3_load_X3_isCell : GoodIn wsX3_load wsX3_isCell := goodIn_r _ [5, 6, 19, 20, 21, 22, 23, 24, 25, 26, 27, 28, 29, 30, 31, 32, 33, 34, 35, 36, 37, 38, 39, 40, 41, 42, 43, 44, 45, 46, 47, 48] (by decide +kernel) (by decide +kernel)
set_option maxRecDepth 20000 in
theorem gX3_load_X3_isCell : GoodIn wsX3_load (wsV RX3 94 RX3 yX3_isCell wsX3_isCell) := goodIn_app (goodIn_of _ (by decide +kernel)) ggX3_load_X3_isCell
set_option maxRecDepth 20000 in
theorem ggX3_load_X3_may : GoodIn wsX3_load wsX3_may := goodIn_r _ [10, 11, 19, 20, 21, 22, 23, 24, 25, 26, 27, 28, 29, 30, 31, 32, 33, 34, 35, 36, 37, 38, 39, 40, 41, 42, 43, 44, 45, 46, 47, 48] (by decide +kernel) (by decide +kernel)
set_option maxRecDepth 20000 in
theorem gX3_load_X3_may : GoodIn wsX3_load (wsV RX3 98 RX3 yX3_may wsX3_may) := goodIn_app (goodIn_of _ (by decide +kernel)) ggX3_load_X3_may
set_option maxRecDepth 20000 in
theorem ggX3_load_X3_loadOf : GoodIn wsX3_load wsX3_loadOf := goodIn_r _ [15, 16, 17, 18, 19, 20, 21, 22, 23, 24, 25, 26, 27, 28, 29, 30, 31, 32, 33, 34, 35, 36, 37, 38, 39, 40, 41, 42, 43, 44, 45, 46, 47, 48] (by decide +kernel) (by decide +kernel)
set_option maxRecDepth 20000 in
theorem gX3_load_X3_loadOf : GoodIn wsX3_load (wsV RX3 109 RX3 yX3_loadOf wsX3_loadOf) := goodIn_app (goodIn_of _ (by decide +kernel)) ggX3_load_X3_loadOf
theorem dX3_load_0 : decode cX3_load 0 = .ok (.aload_n 0, 1) := by decide +kernel
theorem dX3_load_1 : decode cX3_load 1 = .ok (.aload_n 0, 1) := by decide +kernel
theorem dX3_load_2 : decode cX3_load 2 = .ok (.iload_n 1, 1) := by decide +kernel
theorem dX3_load_3 : decode cX3_load 3 = .ok (.invokevirtual 94, 3) := by decide +kernel
theorem dX3_load_6 : decode cX3_load 6 = .ok (.invokevirtual 98, 3) := by decide +kernel
theorem dX3_load_9 : decode cX3_load 9 = .ok (.ifCond .eq 11, 3) := by decide +kernel
theorem dX3_load_12 : decode cX3_load 12 = .ok (.aload_n 0, 1) := by decide +kernel
theorem dX3_load_13 : decode cX3_load 13 = .ok (.iload_n 1, 1) := by decide +kernel
theorem dX3_load_14 : decode cX3_load 14 = .ok (.invokevirtual 109, 3) := by decide +kernel
theorem dX3_load_17 : decode cX3_load 17 = .ok (.goto 4, 3) := by decide +kernel
theorem dX3_load_20 : decode cX3_load 20 = .ok (.iconst 0, 1) := by decide +kernel
theorem dX3_load_21 : decode cX3_load 21 = .ok (.ireturn, 1) := by decide +kernel
set_option maxRecDepth 20000 in
theorem ggX3_use_X3_isCell : GoodIn wsX3_use wsX3_isCell := goodIn_r _ [5, 6, 24, 25, 26, 27, 28, 29, 30, 31, 32, 33, 34, 35, 36, 37, 38, 39, 40, 41, 42, 43, 44, 45, 46, 47, 48, 49, 50, 51, 52, 53] (by decide +kernel) (by decide +kernel)
set_option maxRecDepth 20000 in
theorem gX3_use_X3_isCell : GoodIn wsX3_use (wsV RX3 94 RX3 yX3_isCell wsX3_isCell) := goodIn_app (goodIn_of _ (by decide +kernel)) ggX3_use_X3_isCell
set_option maxRecDepth 20000 in
theorem ggX3_use_X3_may : GoodIn wsX3_use wsX3_may := goodIn_r _ [10, 11, 24, 25, 26, 27, 28, 29, 30, 31, 32, 33, 34, 35, 36, 37, 38, 39, 40, 41, 42, 43, 44, 45, 46, 47, 48, 49, 50, 51, 52, 53] (by decide +kernel) (by decide +kernel)
set_option maxRecDepth 20000 in
theorem gX3_use_X3_may : GoodIn wsX3_use (wsV RX3 98 RX3 yX3_may wsX3_may) := goodIn_app (goodIn_of _ (by decide +kernel)) ggX3_use_X3_may
set_option maxRecDepth 20000 in
theorem ggX3_use_X3_useOf : GoodIn wsX3_use wsX3_useOf := goodIn_r _ [15, 16, 17, 18, 19, 4, 20, 21, 22, 23, 24, 25, 26, 27, 28, 29, 30, 31, 32, 33, 34, 35, 36, 37, 38, 39, 40, 41, 42, 43, 44, 45, 46, 47, 48, 49, 50, 51, 52, 53] (by decide +kernel) (by decide +kernel)
set_option maxRecDepth 20000 in
theorem gX3_use_X3_useOf : GoodIn wsX3_use (wsV RX3 113 RX3 yX3_useOf wsX3_useOf) := goodIn_app (goodIn_of _ (by decide +kernel)) ggX3_use_X3_useOf
theorem dX3_use_0 : decode cX3_use 0 = .ok (.aload_n 0, 1) := by decide +kernel
theorem dX3_use_1 : decode cX3_use 1 = .ok (.aload_n 0, 1) := by decide +kernel
theorem dX3_use_2 : decode cX3_use 2 = .ok (.iload_n 1, 1) := by decide +kernel
theorem dX3_use_3 : decode cX3_use 3 = .ok (.invokevirtual 94, 3) := by decide +kernel
theorem dX3_use_6 : decode cX3_use 6 = .ok (.invokevirtual 98, 3) := by decide +kernel
theorem dX3_use_9 : decode cX3_use 9 = .ok (.ifCond .eq 11, 3) := by decide +kernel
theorem dX3_use_12 : decode cX3_use 12 = .ok (.aload_n 0, 1) := by decide +kernel
theorem dX3_use_13 : decode cX3_use 13 = .ok (.iload_n 1, 1) := by decide +kernel
theorem dX3_use_14 : decode cX3_use 14 = .ok (.invokevirtual 113, 3) := by decide +kernel
theorem dX3_use_17 : decode cX3_use 17 = .ok (.goto 4, 3) := by decide +kernel
theorem dX3_use_20 : decode cX3_use 20 = .ok (.iconst 0, 1) := by decide +kernel
theorem dX3_use_21 : decode cX3_use 21 = .ok (.ireturn, 1) := by decide +kernel
set_option maxRecDepth 20000 in
theorem ggX3_servedBy_X3_isWalker : GoodIn wsX3_servedBy wsX3_isWalker := goodIn_r _ [6, 7, 13, 14, 15, 16, 17, 18, 19, 20, 21, 22, 23, 24, 25, 26, 27, 28, 29, 30, 31, 32, 33, 34, 35, 36, 37, 38, 39, 40, 41, 42] (by decide +kernel) (by decide +kernel)
set_option maxRecDepth 20000 in
theorem gX3_servedBy_X3_isWalker : GoodIn wsX3_servedBy (wsV RX3 106 RX3 yX3_isWalker wsX3_isWalker) := goodIn_app (goodIn_of _ (by decide +kernel)) ggX3_servedBy_X3_isWalker
set_option maxRecDepth 20000 in
theorem ggX3_servedBy_X3_may : GoodIn wsX3_servedBy wsX3_may := goodIn_r _ [11, 12, 13, 14, 15, 16, 17, 18, 19, 20, 21, 22, 23, 24, 25, 26, 27, 28, 29, 30, 31, 32, 33, 34, 35, 36, 37, 38, 39, 40, 41, 42] (by decide +kernel) (by decide +kernel)
set_option maxRecDepth 20000 in
theorem gX3_servedBy_X3_may : GoodIn wsX3_servedBy (wsV RX3 98 RX3 yX3_may wsX3_may) := goodIn_app (goodIn_of _ (by decide +kernel)) ggX3_servedBy_X3_may
theorem dX3_servedBy_0 : decode cX3_servedBy 0 = .ok (.aload_n 0, 1) := by decide +kernel
theorem dX3_servedBy_1 : decode cX3_servedBy 1 = .ok (.aload_n 0, 1) := by decide +kernel
theorem dX3_servedBy_2 : decode cX3_servedBy 2 = .ok (.iload_n 1, 1) := by decide +kernel
theorem dX3_servedBy_3 : decode cX3_servedBy 3 = .ok (.invokevirtual 106, 3) := by decide +kernel
theorem dX3_servedBy_6 : decode cX3_servedBy 6 = .ok (.invokevirtual 98, 3) := by decide +kernel
theorem dX3_servedBy_9 : decode cX3_servedBy 9 = .ok (.ifCond .eq 12, 3) := by decide +kernel
theorem dX3_servedBy_12 : decode cX3_servedBy 12 = .ok (.aload_n 0, 1) := by decide +kernel
theorem dX3_servedBy_13 : decode cX3_servedBy 13 = .ok (.getfield 35, 3) := by decide +kernel
theorem dX3_servedBy_16 : decode cX3_servedBy 16 = .ok (.iload_n 1, 1) := by decide +kernel
theorem dX3_servedBy_17 : decode cX3_servedBy 17 = .ok (.iaload, 1) := by decide +kernel
theorem dX3_servedBy_18 : decode cX3_servedBy 18 = .ok (.goto 4, 3) := by decide +kernel
theorem dX3_servedBy_21 : decode cX3_servedBy 21 = .ok (.iconst 0, 1) := by decide +kernel
theorem dX3_servedBy_22 : decode cX3_servedBy 22 = .ok (.ireturn, 1) := by decide +kernel
set_option maxRecDepth 20000 in
theorem ggX3_favourite_X3_isWalker : GoodIn wsX3_favourite wsX3_isWalker := goodIn_r _ [6, 7, 13, 14, 15, 16, 17, 18, 19, 20, 21, 22, 23, 24, 25, 26, 27, 28, 29, 30, 31, 32, 33, 34, 35, 36, 37, 38, 39, 40, 41, 42] (by decide +kernel) (by decide +kernel)
set_option maxRecDepth 20000 in
theorem gX3_favourite_X3_isWalker : GoodIn wsX3_favourite (wsV RX3 106 RX3 yX3_isWalker wsX3_isWalker) := goodIn_app (goodIn_of _ (by decide +kernel)) ggX3_favourite_X3_isWalker
set_option maxRecDepth 20000 in
theorem ggX3_favourite_X3_may : GoodIn wsX3_favourite wsX3_may := goodIn_r _ [11, 12, 13, 14, 15, 16, 17, 18, 19, 20, 21, 22, 23, 24, 25, 26, 27, 28, 29, 30, 31, 32, 33, 34, 35, 36, 37, 38, 39, 40, 41, 42] (by decide +kernel) (by decide +kernel)
set_option maxRecDepth 20000 in
theorem gX3_favourite_X3_may : GoodIn wsX3_favourite (wsV RX3 98 RX3 yX3_may wsX3_may) := goodIn_app (goodIn_of _ (by decide +kernel)) ggX3_favourite_X3_may
theorem dX3_favourite_0 : decode cX3_favourite 0 = .ok (.aload_n 0, 1) := by decide +kernel
theorem dX3_favourite_1 : decode cX3_favourite 1 = .ok (.aload_n 0, 1) := by decide +kernel
theorem dX3_favourite_2 : decode cX3_favourite 2 = .ok (.iload_n 1, 1) := by decide +kernel
theorem dX3_favourite_3 : decode cX3_favourite 3 = .ok (.invokevirtual 106, 3) := by decide +kernel
theorem dX3_favourite_6 : decode cX3_favourite 6 = .ok (.invokevirtual 98, 3) := by decide +kernel
theorem dX3_favourite_9 : decode cX3_favourite 9 = .ok (.ifCond .eq 12, 3) := by decide +kernel
theorem dX3_favourite_12 : decode cX3_favourite 12 = .ok (.aload_n 0, 1) := by decide +kernel
theorem dX3_favourite_13 : decode cX3_favourite 13 = .ok (.getfield 38, 3) := by decide +kernel
theorem dX3_favourite_16 : decode cX3_favourite 16 = .ok (.iload_n 1, 1) := by decide +kernel
theorem dX3_favourite_17 : decode cX3_favourite 17 = .ok (.iaload, 1) := by decide +kernel
theorem dX3_favourite_18 : decode cX3_favourite 18 = .ok (.goto 4, 3) := by decide +kernel
theorem dX3_favourite_21 : decode cX3_favourite 21 = .ok (.iconst 0, 1) := by decide +kernel
theorem dX3_favourite_22 : decode cX3_favourite 22 = .ok (.ireturn, 1) := by decide +kernel
set_option maxRecDepth 20000 in
theorem ggX3_heldFor_X3_isWalker : GoodIn wsX3_heldFor wsX3_isWalker := goodIn_r _ [6, 7, 13, 14, 15, 16, 17, 18, 19, 20, 21, 22, 23, 24, 25, 26, 27, 28, 29, 30, 31, 32, 33, 34, 35, 36, 37, 38, 39, 40, 41, 42] (by decide +kernel) (by decide +kernel)
set_option maxRecDepth 20000 in
theorem gX3_heldFor_X3_isWalker : GoodIn wsX3_heldFor (wsV RX3 106 RX3 yX3_isWalker wsX3_isWalker) := goodIn_app (goodIn_of _ (by decide +kernel)) ggX3_heldFor_X3_isWalker
set_option maxRecDepth 20000 in
theorem ggX3_heldFor_X3_may : GoodIn wsX3_heldFor wsX3_may := goodIn_r _ [11, 12, 13, 14, 15, 16, 17, 18, 19, 20, 21, 22, 23, 24, 25, 26, 27, 28, 29, 30, 31, 32, 33, 34, 35, 36, 37, 38, 39, 40, 41, 42] (by decide +kernel) (by decide +kernel)
set_option maxRecDepth 20000 in
theorem gX3_heldFor_X3_may : GoodIn wsX3_heldFor (wsV RX3 98 RX3 yX3_may wsX3_may) := goodIn_app (goodIn_of _ (by decide +kernel)) ggX3_heldFor_X3_may
theorem dX3_heldFor_0 : decode cX3_heldFor 0 = .ok (.aload_n 0, 1) := by decide +kernel
theorem dX3_heldFor_1 : decode cX3_heldFor 1 = .ok (.aload_n 0, 1) := by decide +kernel
theorem dX3_heldFor_2 : decode cX3_heldFor 2 = .ok (.iload_n 1, 1) := by decide +kernel
theorem dX3_heldFor_3 : decode cX3_heldFor 3 = .ok (.invokevirtual 106, 3) := by decide +kernel
theorem dX3_heldFor_6 : decode cX3_heldFor 6 = .ok (.invokevirtual 98, 3) := by decide +kernel
theorem dX3_heldFor_9 : decode cX3_heldFor 9 = .ok (.ifCond .eq 12, 3) := by decide +kernel
theorem dX3_heldFor_12 : decode cX3_heldFor 12 = .ok (.aload_n 0, 1) := by decide +kernel
theorem dX3_heldFor_13 : decode cX3_heldFor 13 = .ok (.getfield 41, 3) := by decide +kernel
theorem dX3_heldFor_16 : decode cX3_heldFor 16 = .ok (.iload_n 1, 1) := by decide +kernel
theorem dX3_heldFor_17 : decode cX3_heldFor 17 = .ok (.iaload, 1) := by decide +kernel
theorem dX3_heldFor_18 : decode cX3_heldFor 18 = .ok (.goto 4, 3) := by decide +kernel
theorem dX3_heldFor_21 : decode cX3_heldFor 21 = .ok (.iconst 0, 1) := by decide +kernel
theorem dX3_heldFor_22 : decode cX3_heldFor 22 = .ok (.ireturn, 1) := by decide +kernel
theorem dX3_handovers_0 : decode cX3_handovers 0 = .ok (.aload_n 0, 1) := by decide +kernel
theorem dX3_handovers_1 : decode cX3_handovers 1 = .ok (.iconst 0, 1) := by decide +kernel
theorem dX3_handovers_2 : decode cX3_handovers 2 = .ok (.putfield 75, 3) := by decide +kernel
theorem dX3_handovers_5 : decode cX3_handovers 5 = .ok (.aload_n 0, 1) := by decide +kernel
theorem dX3_handovers_6 : decode cX3_handovers 6 = .ok (.getfield 123, 3) := by decide +kernel
theorem dX3_handovers_9 : decode cX3_handovers 9 = .ok (.ireturn, 1) := by decide +kernel
theorem dX3_rings_0 : decode cX3_rings 0 = .ok (.aload_n 0, 1) := by decide +kernel
theorem dX3_rings_1 : decode cX3_rings 1 = .ok (.iconst 0, 1) := by decide +kernel
theorem dX3_rings_2 : decode cX3_rings 2 = .ok (.putfield 75, 3) := by decide +kernel
theorem dX3_rings_5 : decode cX3_rings 5 = .ok (.aload_n 0, 1) := by decide +kernel
theorem dX3_rings_6 : decode cX3_rings 6 = .ok (.getfield 126, 3) := by decide +kernel
theorem dX3_rings_9 : decode cX3_rings 9 = .ok (.ireturn, 1) := by decide +kernel
theorem dX3_losses_0 : decode cX3_losses 0 = .ok (.aload_n 0, 1) := by decide +kernel
theorem dX3_losses_1 : decode cX3_losses 1 = .ok (.iconst 0, 1) := by decide +kernel
theorem dX3_losses_2 : decode cX3_losses 2 = .ok (.putfield 75, 3) := by decide +kernel
theorem dX3_losses_5 : decode cX3_losses 5 = .ok (.aload_n 0, 1) := by decide +kernel
theorem dX3_losses_6 : decode cX3_losses 6 = .ok (.getfield 135, 3) := by decide +kernel
theorem dX3_losses_9 : decode cX3_losses 9 = .ok (.ireturn, 1) := by decide +kernel
theorem dX3_unserved_0 : decode cX3_unserved 0 = .ok (.aload_n 0, 1) := by decide +kernel
theorem dX3_unserved_1 : decode cX3_unserved 1 = .ok (.iconst 0, 1) := by decide +kernel
theorem dX3_unserved_2 : decode cX3_unserved 2 = .ok (.putfield 75, 3) := by decide +kernel
theorem dX3_unserved_5 : decode cX3_unserved 5 = .ok (.iconst 0, 1) := by decide +kernel
theorem dX3_unserved_6 : decode cX3_unserved 6 = .ok (.istore_n 1, 1) := by decide +kernel
theorem dX3_unserved_7 : decode cX3_unserved 7 = .ok (.iconst 0, 1) := by decide +kernel
theorem dX3_unserved_8 : decode cX3_unserved 8 = .ok (.istore_n 2, 1) := by decide +kernel
theorem dX3_unserved_9 : decode cX3_unserved 9 = .ok (.iload_n 2, 1) := by decide +kernel
theorem dX3_unserved_10 : decode cX3_unserved 10 = .ok (.aload_n 0, 1) := by decide +kernel
theorem dX3_unserved_11 : decode cX3_unserved 11 = .ok (.getfield 81, 3) := by decide +kernel
theorem dX3_unserved_14 : decode cX3_unserved 14 = .ok (.if_icmp .ge 29, 3) := by decide +kernel
theorem dX3_unserved_17 : decode cX3_unserved 17 = .ok (.iload_n 1, 1) := by decide +kernel
theorem dX3_unserved_18 : decode cX3_unserved 18 = .ok (.aload_n 0, 1) := by decide +kernel
theorem dX3_unserved_19 : decode cX3_unserved 19 = .ok (.getfield 35, 3) := by decide +kernel
theorem dX3_unserved_22 : decode cX3_unserved 22 = .ok (.iload_n 2, 1) := by decide +kernel
theorem dX3_unserved_23 : decode cX3_unserved 23 = .ok (.iaload, 1) := by decide +kernel
theorem dX3_unserved_24 : decode cX3_unserved 24 = .ok (.iconst (-1), 1) := by decide +kernel
theorem dX3_unserved_25 : decode cX3_unserved 25 = .ok (.if_icmp .ne 9, 3) := by decide +kernel
theorem dX3_unserved_28 : decode cX3_unserved 28 = .ok (.iconst 1, 1) := by decide +kernel
theorem dX3_unserved_29 : decode cX3_unserved 29 = .ok (.iload_n 2, 1) := by decide +kernel
theorem dX3_unserved_30 : decode cX3_unserved 30 = .ok (.ishl, 1) := by decide +kernel
theorem dX3_unserved_31 : decode cX3_unserved 31 = .ok (.goto 4, 3) := by decide +kernel
theorem dX3_unserved_34 : decode cX3_unserved 34 = .ok (.iconst 0, 1) := by decide +kernel
theorem dX3_unserved_35 : decode cX3_unserved 35 = .ok (.ior, 1) := by decide +kernel
theorem dX3_unserved_36 : decode cX3_unserved 36 = .ok (.istore_n 1, 1) := by decide +kernel
theorem dX3_unserved_37 : decode cX3_unserved 37 = .ok (.iinc 2 1, 3) := by decide +kernel
theorem dX3_unserved_40 : decode cX3_unserved 40 = .ok (.goto (-31), 3) := by decide +kernel
theorem dX3_unserved_43 : decode cX3_unserved 43 = .ok (.iload_n 1, 1) := by decide +kernel
theorem dX3_unserved_44 : decode cX3_unserved 44 = .ok (.ireturn, 1) := by decide +kernel
theorem dX3_canBe_0 : decode cX3_canBe 0 = .ok (.iconst 0, 1) := by decide +kernel
theorem dX3_canBe_1 : decode cX3_canBe 1 = .ok (.istore_n 1, 1) := by decide +kernel
theorem dX3_canBe_2 : decode cX3_canBe 2 = .ok (.iload_n 1, 1) := by decide +kernel
theorem dX3_canBe_3 : decode cX3_canBe 3 = .ok (.aload_n 0, 1) := by decide +kernel
theorem dX3_canBe_4 : decode cX3_canBe 4 = .ok (.getfield 78, 3) := by decide +kernel
theorem dX3_canBe_7 : decode cX3_canBe 7 = .ok (.if_icmp .ge 16, 3) := by decide +kernel
theorem dX3_canBe_10 : decode cX3_canBe 10 = .ok (.aload_n 0, 1) := by decide +kernel
theorem dX3_canBe_11 : decode cX3_canBe 11 = .ok (.getfield 69, 3) := by decide +kernel
theorem dX3_canBe_14 : decode cX3_canBe 14 = .ok (.iload_n 1, 1) := by decide +kernel
theorem dX3_canBe_15 : decode cX3_canBe 15 = .ok (.iconst 0, 1) := by decide +kernel
theorem dX3_canBe_16 : decode cX3_canBe 16 = .ok (.iastore, 1) := by decide +kernel
theorem dX3_canBe_17 : decode cX3_canBe 17 = .ok (.iinc 1 1, 3) := by decide +kernel
theorem dX3_canBe_20 : decode cX3_canBe 20 = .ok (.goto (-18), 3) := by decide +kernel
theorem dX3_canBe_23 : decode cX3_canBe 23 = .ok (.iconst 0, 1) := by decide +kernel
theorem dX3_canBe_24 : decode cX3_canBe 24 = .ok (.istore_n 1, 1) := by decide +kernel
theorem dX3_canBe_25 : decode cX3_canBe 25 = .ok (.iload_n 1, 1) := by decide +kernel
theorem dX3_canBe_26 : decode cX3_canBe 26 = .ok (.aload_n 0, 1) := by decide +kernel
theorem dX3_canBe_27 : decode cX3_canBe 27 = .ok (.getfield 81, 3) := by decide +kernel
theorem dX3_canBe_30 : decode cX3_canBe 30 = .ok (.if_icmp .ge 83, 3) := by decide +kernel
theorem dX3_canBe_33 : decode cX3_canBe 33 = .ok (.aload_n 0, 1) := by decide +kernel
theorem dX3_canBe_34 : decode cX3_canBe 34 = .ok (.getfield 63, 3) := by decide +kernel
theorem dX3_canBe_37 : decode cX3_canBe 37 = .ok (.iload_n 1, 1) := by decide +kernel
theorem dX3_canBe_38 : decode cX3_canBe 38 = .ok (.iaload, 1) := by decide +kernel
theorem dX3_canBe_39 : decode cX3_canBe 39 = .ok (.istore_n 2, 1) := by decide +kernel
theorem dX3_canBe_40 : decode cX3_canBe 40 = .ok (.iload_n 2, 1) := by decide +kernel
theorem dX3_canBe_41 : decode cX3_canBe 41 = .ok (.aload_n 0, 1) := by decide +kernel
theorem dX3_canBe_42 : decode cX3_canBe 42 = .ok (.getfield 78, 3) := by decide +kernel
theorem dX3_canBe_45 : decode cX3_canBe 45 = .ok (.if_icmp .ge 62, 3) := by decide +kernel
theorem dX3_canBe_48 : decode cX3_canBe 48 = .ok (.aload_n 0, 1) := by decide +kernel
theorem dX3_canBe_49 : decode cX3_canBe 49 = .ok (.getfield 69, 3) := by decide +kernel
theorem dX3_canBe_52 : decode cX3_canBe 52 = .ok (.iload_n 2, 1) := by decide +kernel
theorem dX3_canBe_53 : decode cX3_canBe 53 = .ok (.dup2, 1) := by decide +kernel
theorem dX3_canBe_54 : decode cX3_canBe 54 = .ok (.iaload, 1) := by decide +kernel
theorem dX3_canBe_55 : decode cX3_canBe 55 = .ok (.aload_n 0, 1) := by decide +kernel
theorem dX3_canBe_56 : decode cX3_canBe 56 = .ok (.getfield 32, 3) := by decide +kernel
theorem dX3_canBe_59 : decode cX3_canBe 59 = .ok (.iload_n 1, 1) := by decide +kernel
theorem dX3_canBe_60 : decode cX3_canBe 60 = .ok (.iaload, 1) := by decide +kernel
theorem dX3_canBe_61 : decode cX3_canBe 61 = .ok (.iadd, 1) := by decide +kernel
theorem dX3_canBe_62 : decode cX3_canBe 62 = .ok (.iastore, 1) := by decide +kernel
theorem dX3_canBe_63 : decode cX3_canBe 63 = .ok (.aload_n 0, 1) := by decide +kernel
theorem dX3_canBe_64 : decode cX3_canBe 64 = .ok (.getfield 22, 3) := by decide +kernel
theorem dX3_canBe_67 : decode cX3_canBe 67 = .ok (.iload_n 2, 1) := by decide +kernel
theorem dX3_canBe_68 : decode cX3_canBe 68 = .ok (.baload, 1) := by decide +kernel
theorem dX3_canBe_69 : decode cX3_canBe 69 = .ok (.ifCond .eq 36, 3) := by decide +kernel
theorem dX3_canBe_72 : decode cX3_canBe 72 = .ok (.aload_n 0, 1) := by decide +kernel
theorem dX3_canBe_73 : decode cX3_canBe 73 = .ok (.getfield 72, 3) := by decide +kernel
theorem dX3_canBe_76 : decode cX3_canBe 76 = .ok (.bipush 6, 2) := by decide +kernel
theorem dX3_canBe_78 : decode cX3_canBe 78 = .ok (.iload_n 2, 1) := by decide +kernel
theorem dX3_canBe_79 : decode cX3_canBe 79 = .ok (.imul, 1) := by decide +kernel
theorem dX3_canBe_80 : decode cX3_canBe 80 = .ok (.iload_n 1, 1) := by decide +kernel
theorem dX3_canBe_81 : decode cX3_canBe 81 = .ok (.iadd, 1) := by decide +kernel
theorem dX3_canBe_82 : decode cX3_canBe 82 = .ok (.iaload, 1) := by decide +kernel
theorem dX3_canBe_83 : decode cX3_canBe 83 = .ok (.aload_n 0, 1) := by decide +kernel
theorem dX3_canBe_84 : decode cX3_canBe 84 = .ok (.getfield 57, 3) := by decide +kernel
theorem dX3_canBe_87 : decode cX3_canBe 87 = .ok (.if_icmp .lt 18, 3) := by decide +kernel
theorem dX3_canBe_90 : decode cX3_canBe 90 = .ok (.aload_n 0, 1) := by decide +kernel
theorem dX3_canBe_91 : decode cX3_canBe 91 = .ok (.getfield 69, 3) := by decide +kernel
theorem dX3_canBe_94 : decode cX3_canBe 94 = .ok (.iload_n 2, 1) := by decide +kernel
theorem dX3_canBe_95 : decode cX3_canBe 95 = .ok (.iaload, 1) := by decide +kernel
theorem dX3_canBe_96 : decode cX3_canBe 96 = .ok (.aload_n 0, 1) := by decide +kernel
theorem dX3_canBe_97 : decode cX3_canBe 97 = .ok (.getfield 19, 3) := by decide +kernel
theorem dX3_canBe_100 : decode cX3_canBe 100 = .ok (.iload_n 2, 1) := by decide +kernel
theorem dX3_canBe_101 : decode cX3_canBe 101 = .ok (.iaload, 1) := by decide +kernel
theorem dX3_canBe_102 : decode cX3_canBe 102 = .ok (.if_icmp .le 5, 3) := by decide +kernel
theorem dX3_canBe_105 : decode cX3_canBe 105 = .ok (.iconst 0, 1) := by decide +kernel
theorem dX3_canBe_106 : decode cX3_canBe 106 = .ok (.ireturn, 1) := by decide +kernel
theorem dX3_canBe_107 : decode cX3_canBe 107 = .ok (.iinc 1 1, 3) := by decide +kernel
theorem dX3_canBe_110 : decode cX3_canBe 110 = .ok (.goto (-85), 3) := by decide +kernel
theorem dX3_canBe_113 : decode cX3_canBe 113 = .ok (.iconst 1, 1) := by decide +kernel
theorem dX3_canBe_114 : decode cX3_canBe 114 = .ok (.ireturn, 1) := by decide +kernel
theorem dX3_goOnGiven_0 : decode cX3_goOnGiven 0 = .ok (.aload_n 0, 1) := by decide +kernel
theorem dX3_goOnGiven_1 : decode cX3_goOnGiven 1 = .ok (.getfield 81, 3) := by decide +kernel
theorem dX3_goOnGiven_4 : decode cX3_goOnGiven 4 = .ok (.iconst 1, 1) := by decide +kernel
theorem dX3_goOnGiven_5 : decode cX3_goOnGiven 5 = .ok (.isub, 1) := by decide +kernel
theorem dX3_goOnGiven_6 : decode cX3_goOnGiven 6 = .ok (.istore_n 1, 1) := by decide +kernel
theorem dX3_goOnGiven_7 : decode cX3_goOnGiven 7 = .ok (.iload_n 1, 1) := by decide +kernel
theorem dX3_goOnGiven_8 : decode cX3_goOnGiven 8 = .ok (.ifCond .lt 29, 3) := by decide +kernel
theorem dX3_goOnGiven_11 : decode cX3_goOnGiven 11 = .ok (.aload_n 0, 1) := by decide +kernel
theorem dX3_goOnGiven_12 : decode cX3_goOnGiven 12 = .ok (.getfield 63, 3) := by decide +kernel
theorem dX3_goOnGiven_15 : decode cX3_goOnGiven 15 = .ok (.iload_n 1, 1) := by decide +kernel
theorem dX3_goOnGiven_16 : decode cX3_goOnGiven 16 = .ok (.iaload, 1) := by decide +kernel
theorem dX3_goOnGiven_17 : decode cX3_goOnGiven 17 = .ok (.aload_n 0, 1) := by decide +kernel
theorem dX3_goOnGiven_18 : decode cX3_goOnGiven 18 = .ok (.getfield 78, 3) := by decide +kernel
theorem dX3_goOnGiven_21 : decode cX3_goOnGiven 21 = .ok (.if_icmp .ne 16, 3) := by decide +kernel
theorem dX3_goOnGiven_24 : decode cX3_goOnGiven 24 = .ok (.aload_n 0, 1) := by decide +kernel
theorem dX3_goOnGiven_25 : decode cX3_goOnGiven 25 = .ok (.getfield 63, 3) := by decide +kernel
theorem dX3_goOnGiven_28 : decode cX3_goOnGiven 28 = .ok (.iload_n 1, 1) := by decide +kernel
theorem dX3_goOnGiven_29 : decode cX3_goOnGiven 29 = .ok (.iconst 0, 1) := by decide +kernel
theorem dX3_goOnGiven_30 : decode cX3_goOnGiven 30 = .ok (.iastore, 1) := by decide +kernel
theorem dX3_goOnGiven_31 : decode cX3_goOnGiven 31 = .ok (.iinc 1 (-1), 3) := by decide +kernel
theorem dX3_goOnGiven_34 : decode cX3_goOnGiven 34 = .ok (.goto (-27), 3) := by decide +kernel
theorem dX3_goOnGiven_37 : decode cX3_goOnGiven 37 = .ok (.iload_n 1, 1) := by decide +kernel
theorem dX3_goOnGiven_38 : decode cX3_goOnGiven 38 = .ok (.ifCond .lt 13, 3) := by decide +kernel
theorem dX3_goOnGiven_41 : decode cX3_goOnGiven 41 = .ok (.aload_n 0, 1) := by decide +kernel
theorem dX3_goOnGiven_42 : decode cX3_goOnGiven 42 = .ok (.getfield 63, 3) := by decide +kernel
theorem dX3_goOnGiven_45 : decode cX3_goOnGiven 45 = .ok (.iload_n 1, 1) := by decide +kernel
theorem dX3_goOnGiven_46 : decode cX3_goOnGiven 46 = .ok (.dup2, 1) := by decide +kernel
theorem dX3_goOnGiven_47 : decode cX3_goOnGiven 47 = .ok (.iaload, 1) := by decide +kernel
theorem dX3_goOnGiven_48 : decode cX3_goOnGiven 48 = .ok (.iconst 1, 1) := by decide +kernel
theorem dX3_goOnGiven_49 : decode cX3_goOnGiven 49 = .ok (.iadd, 1) := by decide +kernel
theorem dX3_goOnGiven_50 : decode cX3_goOnGiven 50 = .ok (.iastore, 1) := by decide +kernel
theorem dX3_goOnGiven_51 : decode cX3_goOnGiven 51 = .ok (.iload_n 1, 1) := by decide +kernel
theorem dX3_goOnGiven_52 : decode cX3_goOnGiven 52 = .ok (.ifCond .lt 7, 3) := by decide +kernel
theorem dX3_goOnGiven_55 : decode cX3_goOnGiven 55 = .ok (.iconst 1, 1) := by decide +kernel
theorem dX3_goOnGiven_56 : decode cX3_goOnGiven 56 = .ok (.goto 4, 3) := by decide +kernel
theorem dX3_goOnGiven_59 : decode cX3_goOnGiven 59 = .ok (.iconst 0, 1) := by decide +kernel
theorem dX3_goOnGiven_60 : decode cX3_goOnGiven 60 = .ok (.ireturn, 1) := by decide +kernel
set_option maxRecDepth 20000 in
theorem ggX3_assign_X3_takeUses : GoodIn wsX3_assign wsX3_takeUses := goodIn_r _ [13, 4, 14, 15, 16, 17, 12, 18, 19, 20, 21, 22, 23, 1, 24, 8, 49, 50, 51, 52, 53, 54, 55, 56, 57, 58, 59, 60, 61, 62, 63, 64, 65, 66, 67, 68, 69, 70, 71, 72, 73, 74, 75, 76, 77, 78] (by decide +kernel) (by decide +kernel)
set_option maxRecDepth 20000 in
theorem gX3_assign_X3_takeUses : GoodIn wsX3_assign (wsV RX3 142 RX3 yX3_takeUses wsX3_takeUses) := goodIn_app (goodIn_of _ (by decide +kernel)) ggX3_assign_X3_takeUses
set_option maxRecDepth 20000 in
theorem ggX3_assign_X3_qualityOf : GoodIn wsX3_assign wsX3_qualityOf := goodIn_r _ [28, 4, 29, 30, 14, 31, 32, 33, 12, 34, 35, 36, 37, 38, 49, 50, 51, 52, 53, 54, 55, 56, 57, 58, 59, 60, 61, 62, 63, 64, 65, 66, 67, 68, 69, 70, 71, 72, 73, 74, 75, 76, 77, 78] (by decide +kernel) (by decide +kernel)
set_option maxRecDepth 20000 in
theorem gX3_assign_X3_qualityOf : GoodIn wsX3_assign (wsV RX3 120 RX3 yX3_qualityOf wsX3_qualityOf) := goodIn_app (goodIn_of _ (by decide +kernel)) ggX3_assign_X3_qualityOf
set_option maxRecDepth 20000 in
theorem ggX3_assign_X3_canBe : GoodIn wsX3_assign wsX3_canBe := goodIn_r _ [42, 4, 43, 1, 2, 8, 29, 5, 44, 19, 49, 50, 51, 52, 53, 54, 55, 56, 57, 58, 59, 60, 61, 62, 63, 64, 65, 66, 67, 68, 69, 70, 71, 72, 73, 74, 75, 76, 77, 78] (by decide +kernel) (by decide +kernel)
set_option maxRecDepth 20000 in
theorem gX3_assign_X3_canBe : GoodIn wsX3_assign (wsV RX3 154 RX3 yX3_canBe wsX3_canBe) := goodIn_app (goodIn_of _ (by decide +kernel)) ggX3_assign_X3_canBe
set_option maxRecDepth 20000 in
theorem ggX3_assign_X3_goOnGiven : GoodIn wsX3_assign wsX3_goOnGiven := goodIn_r _ [48, 1, 2, 4, 49, 50, 51, 52, 53, 54, 55, 56, 57, 58, 59, 60, 61, 62, 63, 64, 65, 66, 67, 68, 69, 70, 71, 72, 73, 74, 75, 76, 77, 78] (by decide +kernel) (by decide +kernel)
set_option maxRecDepth 20000 in
theorem gX3_assign_X3_goOnGiven : GoodIn wsX3_assign (wsV RX3 158 RX3 yX3_goOnGiven wsX3_goOnGiven) := goodIn_app (goodIn_of _ (by decide +kernel)) ggX3_assign_X3_goOnGiven
theorem dX3_assign_0 : decode cX3_assign 0 = .ok (.aload_n 0, 1) := by decide +kernel
theorem dX3_assign_1 : decode cX3_assign 1 = .ok (.invokevirtual 142, 3) := by decide +kernel
theorem dX3_assign_4 : decode cX3_assign 4 = .ok (.iconst 0, 1) := by decide +kernel
theorem dX3_assign_5 : decode cX3_assign 5 = .ok (.istore_n 1, 1) := by decide +kernel
theorem dX3_assign_6 : decode cX3_assign 6 = .ok (.iload_n 1, 1) := by decide +kernel
theorem dX3_assign_7 : decode cX3_assign 7 = .ok (.aload_n 0, 1) := by decide +kernel
theorem dX3_assign_8 : decode cX3_assign 8 = .ok (.getfield 81, 3) := by decide +kernel
theorem dX3_assign_11 : decode cX3_assign 11 = .ok (.if_icmp .ge 59, 3) := by decide +kernel
theorem dX3_assign_14 : decode cX3_assign 14 = .ok (.aload_n 0, 1) := by decide +kernel
theorem dX3_assign_15 : decode cX3_assign 15 = .ok (.getfield 63, 3) := by decide +kernel
theorem dX3_assign_18 : decode cX3_assign 18 = .ok (.iload_n 1, 1) := by decide +kernel
theorem dX3_assign_19 : decode cX3_assign 19 = .ok (.iconst 0, 1) := by decide +kernel
theorem dX3_assign_20 : decode cX3_assign 20 = .ok (.iastore, 1) := by decide +kernel
theorem dX3_assign_21 : decode cX3_assign 21 = .ok (.aload_n 0, 1) := by decide +kernel
theorem dX3_assign_22 : decode cX3_assign 22 = .ok (.getfield 66, 3) := by decide +kernel
theorem dX3_assign_25 : decode cX3_assign 25 = .ok (.iload_n 1, 1) := by decide +kernel
theorem dX3_assign_26 : decode cX3_assign 26 = .ok (.aload_n 0, 1) := by decide +kernel
theorem dX3_assign_27 : decode cX3_assign 27 = .ok (.getfield 78, 3) := by decide +kernel
theorem dX3_assign_30 : decode cX3_assign 30 = .ok (.iastore, 1) := by decide +kernel
theorem dX3_assign_31 : decode cX3_assign 31 = .ok (.iconst 0, 1) := by decide +kernel
theorem dX3_assign_32 : decode cX3_assign 32 = .ok (.istore_n 2, 1) := by decide +kernel
theorem dX3_assign_33 : decode cX3_assign 33 = .ok (.iload_n 2, 1) := by decide +kernel
theorem dX3_assign_34 : decode cX3_assign 34 = .ok (.aload_n 0, 1) := by decide +kernel
theorem dX3_assign_35 : decode cX3_assign 35 = .ok (.getfield 78, 3) := by decide +kernel
theorem dX3_assign_38 : decode cX3_assign 38 = .ok (.if_icmp .ge 26, 3) := by decide +kernel
theorem dX3_assign_41 : decode cX3_assign 41 = .ok (.aload_n 0, 1) := by decide +kernel
theorem dX3_assign_42 : decode cX3_assign 42 = .ok (.getfield 72, 3) := by decide +kernel
theorem dX3_assign_45 : decode cX3_assign 45 = .ok (.bipush 6, 2) := by decide +kernel
theorem dX3_assign_47 : decode cX3_assign 47 = .ok (.iload_n 2, 1) := by decide +kernel
theorem dX3_assign_48 : decode cX3_assign 48 = .ok (.imul, 1) := by decide +kernel
theorem dX3_assign_49 : decode cX3_assign 49 = .ok (.iload_n 1, 1) := by decide +kernel
theorem dX3_assign_50 : decode cX3_assign 50 = .ok (.iadd, 1) := by decide +kernel
theorem dX3_assign_51 : decode cX3_assign 51 = .ok (.aload_n 0, 1) := by decide +kernel
theorem dX3_assign_52 : decode cX3_assign 52 = .ok (.iload_n 2, 1) := by decide +kernel
theorem dX3_assign_53 : decode cX3_assign 53 = .ok (.iload_n 1, 1) := by decide +kernel
theorem dX3_assign_54 : decode cX3_assign 54 = .ok (.invokevirtual 120, 3) := by decide +kernel
theorem dX3_assign_57 : decode cX3_assign 57 = .ok (.iastore, 1) := by decide +kernel
theorem dX3_assign_58 : decode cX3_assign 58 = .ok (.iinc 2 1, 3) := by decide +kernel
theorem dX3_assign_61 : decode cX3_assign 61 = .ok (.goto (-28), 3) := by decide +kernel
theorem dX3_assign_64 : decode cX3_assign 64 = .ok (.iinc 1 1, 3) := by decide +kernel
theorem dX3_assign_67 : decode cX3_assign 67 = .ok (.goto (-61), 3) := by decide +kernel
theorem dX3_assign_70 : decode cX3_assign 70 = .ok (.aload_n 0, 1) := by decide +kernel
theorem dX3_assign_71 : decode cX3_assign 71 = .ok (.iconst 0, 1) := by decide +kernel
theorem dX3_assign_72 : decode cX3_assign 72 = .ok (.putfield 148, 3) := by decide +kernel
theorem dX3_assign_75 : decode cX3_assign 75 = .ok (.aload_n 0, 1) := by decide +kernel
theorem dX3_assign_76 : decode cX3_assign 76 = .ok (.iconst 0, 1) := by decide +kernel
theorem dX3_assign_77 : decode cX3_assign 77 = .ok (.putfield 151, 3) := by decide +kernel
theorem dX3_assign_80 : decode cX3_assign 80 = .ok (.iconst (-1), 1) := by decide +kernel
theorem dX3_assign_81 : decode cX3_assign 81 = .ok (.istore_n 1, 1) := by decide +kernel
theorem dX3_assign_82 : decode cX3_assign 82 = .ok (.iconst 1, 1) := by decide +kernel
theorem dX3_assign_83 : decode cX3_assign 83 = .ok (.istore_n 2, 1) := by decide +kernel
theorem dX3_assign_84 : decode cX3_assign 84 = .ok (.iload_n 2, 1) := by decide +kernel
theorem dX3_assign_85 : decode cX3_assign 85 = .ok (.ifCond .eq 215, 3) := by decide +kernel
theorem dX3_assign_88 : decode cX3_assign 88 = .ok (.aload_n 0, 1) := by decide +kernel
theorem dX3_assign_89 : decode cX3_assign 89 = .ok (.invokevirtual 154, 3) := by decide +kernel
theorem dX3_assign_92 : decode cX3_assign 92 = .ok (.ifCond .eq 200, 3) := by decide +kernel
theorem dX3_assign_95 : decode cX3_assign 95 = .ok (.iconst 0, 1) := by decide +kernel
theorem dX3_assign_96 : decode cX3_assign 96 = .ok (.istore_n 3, 1) := by decide +kernel
theorem dX3_assign_97 : decode cX3_assign 97 = .ok (.iconst 0, 1) := by decide +kernel
theorem dX3_assign_98 : decode cX3_assign 98 = .ok (.istore 4, 2) := by decide +kernel
theorem dX3_assign_100 : decode cX3_assign 100 = .ok (.iconst 0, 1) := by decide +kernel
theorem dX3_assign_101 : decode cX3_assign 101 = .ok (.istore 5, 2) := by decide +kernel
theorem dX3_assign_103 : decode cX3_assign 103 = .ok (.iconst 0, 1) := by decide +kernel
theorem dX3_assign_104 : decode cX3_assign 104 = .ok (.istore 6, 2) := by decide +kernel
theorem dX3_assign_106 : decode cX3_assign 106 = .ok (.iload 6, 2) := by decide +kernel
theorem dX3_assign_108 : decode cX3_assign 108 = .ok (.aload_n 0, 1) := by decide +kernel
theorem dX3_assign_109 : decode cX3_assign 109 = .ok (.getfield 81, 3) := by decide +kernel
theorem dX3_assign_112 : decode cX3_assign 112 = .ok (.if_icmp .ge 96, 3) := by decide +kernel
theorem dX3_assign_115 : decode cX3_assign 115 = .ok (.aload_n 0, 1) := by decide +kernel
theorem dX3_assign_116 : decode cX3_assign 116 = .ok (.getfield 63, 3) := by decide +kernel
theorem dX3_assign_119 : decode cX3_assign 119 = .ok (.iload 6, 2) := by decide +kernel
theorem dX3_assign_121 : decode cX3_assign 121 = .ok (.iaload, 1) := by decide +kernel
theorem dX3_assign_122 : decode cX3_assign 122 = .ok (.aload_n 0, 1) := by decide +kernel
theorem dX3_assign_123 : decode cX3_assign 123 = .ok (.getfield 78, 3) := by decide +kernel
theorem dX3_assign_126 : decode cX3_assign 126 = .ok (.if_icmp .ge 7, 3) := by decide +kernel
theorem dX3_assign_129 : decode cX3_assign 129 = .ok (.iconst 1, 1) := by decide +kernel
theorem dX3_assign_130 : decode cX3_assign 130 = .ok (.goto 4, 3) := by decide +kernel
theorem dX3_assign_133 : decode cX3_assign 133 = .ok (.iconst 0, 1) := by decide +kernel
theorem dX3_assign_134 : decode cX3_assign 134 = .ok (.istore 7, 2) := by decide +kernel
theorem dX3_assign_136 : decode cX3_assign 136 = .ok (.iload_n 3, 1) := by decide +kernel
theorem dX3_assign_137 : decode cX3_assign 137 = .ok (.iload 7, 2) := by decide +kernel
theorem dX3_assign_139 : decode cX3_assign 139 = .ok (.ifCond .eq 7, 3) := by decide +kernel
theorem dX3_assign_142 : decode cX3_assign 142 = .ok (.iconst 1, 1) := by decide +kernel
theorem dX3_assign_143 : decode cX3_assign 143 = .ok (.goto 4, 3) := by decide +kernel
theorem dX3_assign_146 : decode cX3_assign 146 = .ok (.iconst 0, 1) := by decide +kernel
theorem dX3_assign_147 : decode cX3_assign 147 = .ok (.iadd, 1) := by decide +kernel
theorem dX3_assign_148 : decode cX3_assign 148 = .ok (.istore_n 3, 1) := by decide +kernel
theorem dX3_assign_149 : decode cX3_assign 149 = .ok (.iload 4, 2) := by decide +kernel
theorem dX3_assign_151 : decode cX3_assign 151 = .ok (.iload 7, 2) := by decide +kernel
theorem dX3_assign_153 : decode cX3_assign 153 = .ok (.ifCond .eq 24, 3) := by decide +kernel
theorem dX3_assign_156 : decode cX3_assign 156 = .ok (.aload_n 0, 1) := by decide +kernel
theorem dX3_assign_157 : decode cX3_assign 157 = .ok (.getfield 72, 3) := by decide +kernel
theorem dX3_assign_160 : decode cX3_assign 160 = .ok (.bipush 6, 2) := by decide +kernel
theorem dX3_assign_162 : decode cX3_assign 162 = .ok (.aload_n 0, 1) := by decide +kernel
theorem dX3_assign_163 : decode cX3_assign 163 = .ok (.getfield 63, 3) := by decide +kernel
theorem dX3_assign_166 : decode cX3_assign 166 = .ok (.iload 6, 2) := by decide +kernel
theorem dX3_assign_168 : decode cX3_assign 168 = .ok (.iaload, 1) := by decide +kernel
theorem dX3_assign_169 : decode cX3_assign 169 = .ok (.imul, 1) := by decide +kernel
theorem dX3_assign_170 : decode cX3_assign 170 = .ok (.iload 6, 2) := by decide +kernel
theorem dX3_assign_172 : decode cX3_assign 172 = .ok (.iadd, 1) := by decide +kernel
theorem dX3_assign_173 : decode cX3_assign 173 = .ok (.iaload, 1) := by decide +kernel
theorem dX3_assign_174 : decode cX3_assign 174 = .ok (.goto 4, 3) := by decide +kernel
theorem dX3_assign_177 : decode cX3_assign 177 = .ok (.iconst 0, 1) := by decide +kernel
theorem dX3_assign_178 : decode cX3_assign 178 = .ok (.iadd, 1) := by decide +kernel
theorem dX3_assign_179 : decode cX3_assign 179 = .ok (.istore 4, 2) := by decide +kernel
theorem dX3_assign_181 : decode cX3_assign 181 = .ok (.iload 5, 2) := by decide +kernel
theorem dX3_assign_183 : decode cX3_assign 183 = .ok (.iload 7, 2) := by decide +kernel
theorem dX3_assign_185 : decode cX3_assign 185 = .ok (.ifCond .eq 13, 3) := by decide +kernel
theorem dX3_assign_188 : decode cX3_assign 188 = .ok (.aload_n 0, 1) := by decide +kernel
theorem dX3_assign_189 : decode cX3_assign 189 = .ok (.getfield 32, 3) := by decide +kernel
theorem dX3_assign_192 : decode cX3_assign 192 = .ok (.iload 6, 2) := by decide +kernel
theorem dX3_assign_194 : decode cX3_assign 194 = .ok (.iaload, 1) := by decide +kernel
theorem dX3_assign_195 : decode cX3_assign 195 = .ok (.goto 4, 3) := by decide +kernel
theorem dX3_assign_198 : decode cX3_assign 198 = .ok (.iconst 0, 1) := by decide +kernel
theorem dX3_assign_199 : decode cX3_assign 199 = .ok (.iadd, 1) := by decide +kernel
theorem dX3_assign_200 : decode cX3_assign 200 = .ok (.istore 5, 2) := by decide +kernel
theorem dX3_assign_202 : decode cX3_assign 202 = .ok (.iinc 6 1, 3) := by decide +kernel
theorem dX3_assign_205 : decode cX3_assign 205 = .ok (.goto (-99), 3) := by decide +kernel
theorem dX3_assign_208 : decode cX3_assign 208 = .ok (.aload_n 0, 1) := by decide +kernel
theorem dX3_assign_209 : decode cX3_assign 209 = .ok (.iload 5, 2) := by decide +kernel
theorem dX3_assign_211 : decode cX3_assign 211 = .ok (.aload_n 0, 1) := by decide +kernel
theorem dX3_assign_212 : decode cX3_assign 212 = .ok (.getfield 151, 3) := by decide +kernel
theorem dX3_assign_215 : decode cX3_assign 215 = .ok (.if_icmp .le 8, 3) := by decide +kernel
theorem dX3_assign_218 : decode cX3_assign 218 = .ok (.iload 5, 2) := by decide +kernel
theorem dX3_assign_220 : decode cX3_assign 220 = .ok (.goto 7, 3) := by decide +kernel
theorem dX3_assign_223 : decode cX3_assign 223 = .ok (.aload_n 0, 1) := by decide +kernel
theorem dX3_assign_224 : decode cX3_assign 224 = .ok (.getfield 151, 3) := by decide +kernel
theorem dX3_assign_227 : decode cX3_assign 227 = .ok (.putfield 151, 3) := by decide +kernel
theorem dX3_assign_230 : decode cX3_assign 230 = .ok (.iload_n 3, 1) := by decide +kernel
theorem dX3_assign_231 : decode cX3_assign 231 = .ok (.aload_n 0, 1) := by decide +kernel
theorem dX3_assign_232 : decode cX3_assign 232 = .ok (.getfield 148, 3) := by decide +kernel
theorem dX3_assign_235 : decode cX3_assign 235 = .ok (.if_icmp .gt 17, 3) := by decide +kernel
theorem dX3_assign_238 : decode cX3_assign 238 = .ok (.iload_n 3, 1) := by decide +kernel
theorem dX3_assign_239 : decode cX3_assign 239 = .ok (.aload_n 0, 1) := by decide +kernel
theorem dX3_assign_240 : decode cX3_assign 240 = .ok (.getfield 148, 3) := by decide +kernel
theorem dX3_assign_243 : decode cX3_assign 243 = .ok (.if_icmp .ne 49, 3) := by decide +kernel
theorem dX3_assign_246 : decode cX3_assign 246 = .ok (.iload 4, 2) := by decide +kernel
theorem dX3_assign_248 : decode cX3_assign 248 = .ok (.iload_n 1, 1) := by decide +kernel
theorem dX3_assign_249 : decode cX3_assign 249 = .ok (.if_icmp .le 43, 3) := by decide +kernel
theorem dX3_assign_252 : decode cX3_assign 252 = .ok (.aload_n 0, 1) := by decide +kernel
theorem dX3_assign_253 : decode cX3_assign 253 = .ok (.iload_n 3, 1) := by decide +kernel
theorem dX3_assign_254 : decode cX3_assign 254 = .ok (.putfield 148, 3) := by decide +kernel
theorem dX3_assign_257 : decode cX3_assign 257 = .ok (.iload 4, 2) := by decide +kernel
theorem dX3_assign_259 : decode cX3_assign 259 = .ok (.istore_n 1, 1) := by decide +kernel
theorem dX3_assign_260 : decode cX3_assign 260 = .ok (.iconst 0, 1) := by decide +kernel
theorem dX3_assign_261 : decode cX3_assign 261 = .ok (.istore 6, 2) := by decide +kernel
theorem dX3_assign_263 : decode cX3_assign 263 = .ok (.iload 6, 2) := by decide +kernel
theorem dX3_assign_265 : decode cX3_assign 265 = .ok (.aload_n 0, 1) := by decide +kernel
theorem dX3_assign_266 : decode cX3_assign 266 = .ok (.getfield 81, 3) := by decide +kernel
theorem dX3_assign_269 : decode cX3_assign 269 = .ok (.if_icmp .ge 23, 3) := by decide +kernel
theorem dX3_assign_272 : decode cX3_assign 272 = .ok (.aload_n 0, 1) := by decide +kernel
theorem dX3_assign_273 : decode cX3_assign 273 = .ok (.getfield 66, 3) := by decide +kernel
theorem dX3_assign_276 : decode cX3_assign 276 = .ok (.iload 6, 2) := by decide +kernel
theorem dX3_assign_278 : decode cX3_assign 278 = .ok (.aload_n 0, 1) := by decide +kernel
theorem dX3_assign_279 : decode cX3_assign 279 = .ok (.getfield 63, 3) := by decide +kernel
theorem dX3_assign_282 : decode cX3_assign 282 = .ok (.iload 6, 2) := by decide +kernel
theorem dX3_assign_284 : decode cX3_assign 284 = .ok (.iaload, 1) := by decide +kernel
theorem dX3_assign_285 : decode cX3_assign 285 = .ok (.iastore, 1) := by decide +kernel
theorem dX3_assign_286 : decode cX3_assign 286 = .ok (.iinc 6 1, 3) := by decide +kernel
theorem dX3_assign_289 : decode cX3_assign 289 = .ok (.goto (-26), 3) := by decide +kernel
theorem dX3_assign_292 : decode cX3_assign 292 = .ok (.aload_n 0, 1) := by decide +kernel
theorem dX3_assign_293 : decode cX3_assign 293 = .ok (.invokevirtual 158, 3) := by decide +kernel
theorem dX3_assign_296 : decode cX3_assign 296 = .ok (.istore_n 2, 1) := by decide +kernel
theorem dX3_assign_297 : decode cX3_assign 297 = .ok (.goto (-213), 3) := by decide +kernel
theorem dX3_assign_300 : decode cX3_assign 300 = .ok (.return_, 1) := by decide +kernel
set_option maxRecDepth 20000 in
theorem ggX3_mostServed_X3_assign : GoodIn wsX3_mostServed wsX3_assign := goodIn_r _ [7, 8, 9, 10, 11, 12, 2, 13, 14, 15, 16, 17, 6, 18, 19, 20, 21, 22, 23, 24, 25, 26, 27, 28, 29, 30, 31, 32, 33, 34, 35, 36, 37, 38, 39, 40, 41, 42, 43, 44, 45, 46, 47, 48, 49, 50, 51, 52, 53, 54, 55, 56, 57, 58, 59, 60, 61, 62, 63, 64, 65, 66, 67, 68, 69, 70, 71, 72, 73, 74, 75, 76, 77, 78, 79, 80, 81, 82, 83] (by decide +kernel) (by decide +kernel)
set_option maxRecDepth 20000 in
theorem gX3_mostServed_X3_assign : GoodIn wsX3_mostServed (wsV RX3 161 RX3 yX3_assign wsX3_assign) := goodIn_app (goodIn_of _ (by decide +kernel)) ggX3_mostServed_X3_assign
theorem dX3_mostServed_0 : decode cX3_mostServed 0 = .ok (.aload_n 0, 1) := by decide +kernel
theorem dX3_mostServed_1 : decode cX3_mostServed 1 = .ok (.iconst 0, 1) := by decide +kernel
theorem dX3_mostServed_2 : decode cX3_mostServed 2 = .ok (.putfield 75, 3) := by decide +kernel
theorem dX3_mostServed_5 : decode cX3_mostServed 5 = .ok (.aload_n 0, 1) := by decide +kernel
theorem dX3_mostServed_6 : decode cX3_mostServed 6 = .ok (.invokevirtual 161, 3) := by decide +kernel
theorem dX3_mostServed_9 : decode cX3_mostServed 9 = .ok (.aload_n 0, 1) := by decide +kernel
theorem dX3_mostServed_10 : decode cX3_mostServed 10 = .ok (.getfield 148, 3) := by decide +kernel
theorem dX3_mostServed_13 : decode cX3_mostServed 13 = .ok (.ireturn, 1) := by decide +kernel
set_option maxRecDepth 20000 in
theorem ggX3_mostDemand_X3_assign : GoodIn wsX3_mostDemand wsX3_assign := goodIn_r _ [7, 8, 9, 10, 11, 12, 13, 2, 14, 15, 16, 17, 6, 18, 19, 20, 21, 22, 23, 24, 25, 26, 27, 28, 29, 30, 31, 32, 33, 34, 35, 36, 37, 38, 39, 40, 41, 42, 43, 44, 45, 46, 47, 48, 49, 50, 51, 52, 53, 54, 55, 56, 57, 58, 59, 60, 61, 62, 63, 64, 65, 66, 67, 68, 69, 70, 71, 72, 73, 74, 75, 76, 77, 78, 79, 80, 81, 82, 83] (by decide +kernel) (by decide +kernel)
set_option maxRecDepth 20000 in
theorem gX3_mostDemand_X3_assign : GoodIn wsX3_mostDemand (wsV RX3 161 RX3 yX3_assign wsX3_assign) := goodIn_app (goodIn_of _ (by decide +kernel)) ggX3_mostDemand_X3_assign
theorem dX3_mostDemand_0 : decode cX3_mostDemand 0 = .ok (.aload_n 0, 1) := by decide +kernel
theorem dX3_mostDemand_1 : decode cX3_mostDemand 1 = .ok (.iconst 0, 1) := by decide +kernel
theorem dX3_mostDemand_2 : decode cX3_mostDemand 2 = .ok (.putfield 75, 3) := by decide +kernel
theorem dX3_mostDemand_5 : decode cX3_mostDemand 5 = .ok (.aload_n 0, 1) := by decide +kernel
theorem dX3_mostDemand_6 : decode cX3_mostDemand 6 = .ok (.invokevirtual 161, 3) := by decide +kernel
theorem dX3_mostDemand_9 : decode cX3_mostDemand 9 = .ok (.aload_n 0, 1) := by decide +kernel
theorem dX3_mostDemand_10 : decode cX3_mostDemand 10 = .ok (.getfield 151, 3) := by decide +kernel
theorem dX3_mostDemand_13 : decode cX3_mostDemand 13 = .ok (.ireturn, 1) := by decide +kernel
set_option maxRecDepth 20000 in
theorem ggX3_bestCell_X3_isWalker : GoodIn wsX3_bestCell wsX3_isWalker := goodIn_r _ [7, 8, 62, 63, 64, 65, 66, 67, 68, 69, 70, 71, 72, 73, 74, 75, 76, 77, 78, 79, 80, 81, 82, 83, 84, 85, 86, 87, 88, 89, 90, 91] (by decide +kernel) (by decide +kernel)
set_option maxRecDepth 20000 in
theorem gX3_bestCell_X3_isWalker : GoodIn wsX3_bestCell (wsV RX3 106 RX3 yX3_isWalker wsX3_isWalker) := goodIn_app (goodIn_of _ (by decide +kernel)) ggX3_bestCell_X3_isWalker
set_option maxRecDepth 20000 in
theorem ggX3_bestCell_X3_may : GoodIn wsX3_bestCell wsX3_may := goodIn_r _ [12, 13, 62, 63, 64, 65, 66, 67, 68, 69, 70, 71, 72, 73, 74, 75, 76, 77, 78, 79, 80, 81, 82, 83, 84, 85, 86, 87, 88, 89, 90, 91] (by decide +kernel) (by decide +kernel)
set_option maxRecDepth 20000 in
theorem gX3_bestCell_X3_may : GoodIn wsX3_bestCell (wsV RX3 98 RX3 yX3_may wsX3_may) := goodIn_app (goodIn_of _ (by decide +kernel)) ggX3_bestCell_X3_may
set_option maxRecDepth 20000 in
theorem ggX3_bestCell_X3_assign : GoodIn wsX3_bestCell wsX3_assign := goodIn_r _ [17, 8, 18, 1, 2, 19, 20, 21, 22, 23, 24, 25, 6, 26, 27, 28, 29, 30, 31, 32, 33, 34, 35, 36, 37, 38, 39, 40, 41, 42, 43, 44, 45, 46, 47, 48, 49, 50, 51, 52, 53, 54, 55, 56, 57, 58, 59, 60, 61, 62, 63, 64, 65, 66, 67, 68, 69, 70, 71, 72, 73, 74, 75, 76, 77, 78, 79, 80, 81, 82, 83, 84, 85, 86, 87, 88, 89, 90, 91] (by decide +kernel) (by decide +kernel)
set_option maxRecDepth 20000 in
theorem gX3_bestCell_X3_assign : GoodIn wsX3_bestCell (wsV RX3 161 RX3 yX3_assign wsX3_assign) := goodIn_app (goodIn_of _ (by decide +kernel)) ggX3_bestCell_X3_assign
theorem dX3_bestCell_0 : decode cX3_bestCell 0 = .ok (.aload_n 0, 1) := by decide +kernel
theorem dX3_bestCell_1 : decode cX3_bestCell 1 = .ok (.aload_n 0, 1) := by decide +kernel
theorem dX3_bestCell_2 : decode cX3_bestCell 2 = .ok (.iload_n 1, 1) := by decide +kernel
theorem dX3_bestCell_3 : decode cX3_bestCell 3 = .ok (.invokevirtual 106, 3) := by decide +kernel
theorem dX3_bestCell_6 : decode cX3_bestCell 6 = .ok (.invokevirtual 98, 3) := by decide +kernel
theorem dX3_bestCell_9 : decode cX3_bestCell 9 = .ok (.ifCond .ne 5, 3) := by decide +kernel
theorem dX3_bestCell_12 : decode cX3_bestCell 12 = .ok (.iconst 0, 1) := by decide +kernel
theorem dX3_bestCell_13 : decode cX3_bestCell 13 = .ok (.ireturn, 1) := by decide +kernel
theorem dX3_bestCell_14 : decode cX3_bestCell 14 = .ok (.aload_n 0, 1) := by decide +kernel
theorem dX3_bestCell_15 : decode cX3_bestCell 15 = .ok (.invokevirtual 161, 3) := by decide +kernel
theorem dX3_bestCell_18 : decode cX3_bestCell 18 = .ok (.aload_n 0, 1) := by decide +kernel
theorem dX3_bestCell_19 : decode cX3_bestCell 19 = .ok (.getfield 66, 3) := by decide +kernel
theorem dX3_bestCell_22 : decode cX3_bestCell 22 = .ok (.iload_n 1, 1) := by decide +kernel
theorem dX3_bestCell_23 : decode cX3_bestCell 23 = .ok (.iaload, 1) := by decide +kernel
theorem dX3_bestCell_24 : decode cX3_bestCell 24 = .ok (.aload_n 0, 1) := by decide +kernel
theorem dX3_bestCell_25 : decode cX3_bestCell 25 = .ok (.getfield 78, 3) := by decide +kernel
theorem dX3_bestCell_28 : decode cX3_bestCell 28 = .ok (.if_icmp .ge 12, 3) := by decide +kernel
theorem dX3_bestCell_31 : decode cX3_bestCell 31 = .ok (.aload_n 0, 1) := by decide +kernel
theorem dX3_bestCell_32 : decode cX3_bestCell 32 = .ok (.getfield 66, 3) := by decide +kernel
theorem dX3_bestCell_35 : decode cX3_bestCell 35 = .ok (.iload_n 1, 1) := by decide +kernel
theorem dX3_bestCell_36 : decode cX3_bestCell 36 = .ok (.iaload, 1) := by decide +kernel
theorem dX3_bestCell_37 : decode cX3_bestCell 37 = .ok (.goto 4, 3) := by decide +kernel
theorem dX3_bestCell_40 : decode cX3_bestCell 40 = .ok (.iconst (-1), 1) := by decide +kernel
theorem dX3_bestCell_41 : decode cX3_bestCell 41 = .ok (.ireturn, 1) := by decide +kernel
