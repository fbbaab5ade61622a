theorem dX0_init_0 : decode cX0_init 0 = .ok (.aload_n 0, 1) := by decide +kernel
theorem dX0_init_1 : decode cX0_init 1 = .ok (.invokespecial 3, 3) := by decide +kernel
theorem dX0_init_4 : decode cX0_init 4 = .ok (.aload_n 0, 1) := by decide +kernel
theorem dX0_init_5 : decode cX0_init 5 = .ok (.iconst 5, 1) := by decide +kernel
theorem dX0_init_6 : decode cX0_init 6 = .ok (.newarray .int, 2) := by decide +kernel
theorem dX0_init_8 : decode cX0_init 8 = .ok (.putfield 9, 3) := by decide +kernel
theorem dX0_init_11 : decode cX0_init 11 = .ok (.aload_n 0, 1) := by decide +kernel
theorem dX0_init_12 : decode cX0_init 12 = .ok (.iconst 5, 1) := by decide +kernel
theorem dX0_init_13 : decode cX0_init 13 = .ok (.newarray .int, 2) := by decide +kernel
theorem dX0_init_15 : decode cX0_init 15 = .ok (.putfield 15, 3) := by decide +kernel
theorem dX0_init_18 : decode cX0_init 18 = .ok (.aload_n 0, 1) := by decide +kernel
theorem dX0_init_19 : decode cX0_init 19 = .ok (.iconst 5, 1) := by decide +kernel
theorem dX0_init_20 : decode cX0_init 20 = .ok (.newarray .int, 2) := by decide +kernel
theorem dX0_init_22 : decode cX0_init 22 = .ok (.putfield 18, 3) := by decide +kernel
theorem dX0_init_25 : decode cX0_init 25 = .ok (.aload_n 0, 1) := by decide +kernel
theorem dX0_init_26 : decode cX0_init 26 = .ok (.iconst 5, 1) := by decide +kernel
theorem dX0_init_27 : decode cX0_init 27 = .ok (.newarray .int, 2) := by decide +kernel
theorem dX0_init_29 : decode cX0_init 29 = .ok (.putfield 21, 3) := by decide +kernel
theorem dX0_init_32 : decode cX0_init 32 = .ok (.aload_n 0, 1) := by decide +kernel
theorem dX0_init_33 : decode cX0_init 33 = .ok (.iconst 5, 1) := by decide +kernel
theorem dX0_init_34 : decode cX0_init 34 = .ok (.newarray .boolean, 2) := by decide +kernel
theorem dX0_init_36 : decode cX0_init 36 = .ok (.putfield 24, 3) := by decide +kernel
theorem dX0_init_39 : decode cX0_init 39 = .ok (.aload_n 0, 1) := by decide +kernel
theorem dX0_init_40 : decode cX0_init 40 = .ok (.bipush 6, 2) := by decide +kernel
theorem dX0_init_42 : decode cX0_init 42 = .ok (.newarray .int, 2) := by decide +kernel
theorem dX0_init_44 : decode cX0_init 44 = .ok (.putfield 28, 3) := by decide +kernel
theorem dX0_init_47 : decode cX0_init 47 = .ok (.aload_n 0, 1) := by decide +kernel
theorem dX0_init_48 : decode cX0_init 48 = .ok (.bipush 6, 2) := by decide +kernel
theorem dX0_init_50 : decode cX0_init 50 = .ok (.newarray .int, 2) := by decide +kernel
theorem dX0_init_52 : decode cX0_init 52 = .ok (.putfield 31, 3) := by decide +kernel
theorem dX0_init_55 : decode cX0_init 55 = .ok (.aload_n 0, 1) := by decide +kernel
theorem dX0_init_56 : decode cX0_init 56 = .ok (.bipush 6, 2) := by decide +kernel
theorem dX0_init_58 : decode cX0_init 58 = .ok (.newarray .int, 2) := by decide +kernel
theorem dX0_init_60 : decode cX0_init 60 = .ok (.putfield 34, 3) := by decide +kernel
theorem dX0_init_63 : decode cX0_init 63 = .ok (.aload_n 0, 1) := by decide +kernel
theorem dX0_init_64 : decode cX0_init 64 = .ok (.bipush 6, 2) := by decide +kernel
theorem dX0_init_66 : decode cX0_init 66 = .ok (.newarray .int, 2) := by decide +kernel
theorem dX0_init_68 : decode cX0_init 68 = .ok (.putfield 37, 3) := by decide +kernel
theorem dX0_init_71 : decode cX0_init 71 = .ok (.aload_n 0, 1) := by decide +kernel
theorem dX0_init_72 : decode cX0_init 72 = .ok (.iconst 5, 1) := by decide +kernel
theorem dX0_init_73 : decode cX0_init 73 = .ok (.newarray .int, 2) := by decide +kernel
theorem dX0_init_75 : decode cX0_init 75 = .ok (.putfield 40, 3) := by decide +kernel
theorem dX0_init_78 : decode cX0_init 78 = .ok (.aload_n 0, 1) := by decide +kernel
theorem dX0_init_79 : decode cX0_init 79 = .ok (.bipush 6, 2) := by decide +kernel
theorem dX0_init_81 : decode cX0_init 81 = .ok (.iconst 5, 1) := by decide +kernel
theorem dX0_init_82 : decode cX0_init 82 = .ok (.multianewarray 43 2, 4) := by decide +kernel
theorem dX0_init_86 : decode cX0_init 86 = .ok (.putfield 45, 3) := by decide +kernel
theorem dX0_init_89 : decode cX0_init 89 = .ok (.return_, 1) := by decide +kernel
theorem dX0_addCell_0 : decode cX0_addCell 0 = .ok (.aload_n 0, 1) := by decide +kernel
theorem dX0_addCell_1 : decode cX0_addCell 1 = .ok (.getfield 48, 3) := by decide +kernel
theorem dX0_addCell_4 : decode cX0_addCell 4 = .ok (.istore 5, 2) := by decide +kernel
theorem dX0_addCell_6 : decode cX0_addCell 6 = .ok (.aload_n 0, 1) := by decide +kernel
theorem dX0_addCell_7 : decode cX0_addCell 7 = .ok (.getfield 9, 3) := by decide +kernel
theorem dX0_addCell_10 : decode cX0_addCell 10 = .ok (.iload 5, 2) := by decide +kernel
theorem dX0_addCell_12 : decode cX0_addCell 12 = .ok (.iload_n 1, 1) := by decide +kernel
theorem dX0_addCell_13 : decode cX0_addCell 13 = .ok (.iastore, 1) := by decide +kernel
theorem dX0_addCell_14 : decode cX0_addCell 14 = .ok (.aload_n 0, 1) := by decide +kernel
theorem dX0_addCell_15 : decode cX0_addCell 15 = .ok (.getfield 15, 3) := by decide +kernel
theorem dX0_addCell_18 : decode cX0_addCell 18 = .ok (.iload 5, 2) := by decide +kernel
theorem dX0_addCell_20 : decode cX0_addCell 20 = .ok (.iload_n 2, 1) := by decide +kernel
theorem dX0_addCell_21 : decode cX0_addCell 21 = .ok (.iastore, 1) := by decide +kernel
theorem dX0_addCell_22 : decode cX0_addCell 22 = .ok (.aload_n 0, 1) := by decide +kernel
theorem dX0_addCell_23 : decode cX0_addCell 23 = .ok (.getfield 18, 3) := by decide +kernel
theorem dX0_addCell_26 : decode cX0_addCell 26 = .ok (.iload 5, 2) := by decide +kernel
theorem dX0_addCell_28 : decode cX0_addCell 28 = .ok (.iload_n 3, 1) := by decide +kernel
theorem dX0_addCell_29 : decode cX0_addCell 29 = .ok (.iastore, 1) := by decide +kernel
theorem dX0_addCell_30 : decode cX0_addCell 30 = .ok (.aload_n 0, 1) := by decide +kernel
theorem dX0_addCell_31 : decode cX0_addCell 31 = .ok (.getfield 21, 3) := by decide +kernel
theorem dX0_addCell_34 : decode cX0_addCell 34 = .ok (.iload 5, 2) := by decide +kernel
theorem dX0_addCell_36 : decode cX0_addCell 36 = .ok (.iload 4, 2) := by decide +kernel
theorem dX0_addCell_38 : decode cX0_addCell 38 = .ok (.iastore, 1) := by decide +kernel
theorem dX0_addCell_39 : decode cX0_addCell 39 = .ok (.aload_n 0, 1) := by decide +kernel
theorem dX0_addCell_40 : decode cX0_addCell 40 = .ok (.getfield 24, 3) := by decide +kernel
theorem dX0_addCell_43 : decode cX0_addCell 43 = .ok (.iload 5, 2) := by decide +kernel
theorem dX0_addCell_45 : decode cX0_addCell 45 = .ok (.iconst 1, 1) := by decide +kernel
theorem dX0_addCell_46 : decode cX0_addCell 46 = .ok (.bastore, 1) := by decide +kernel
theorem dX0_addCell_47 : decode cX0_addCell 47 = .ok (.aload_n 0, 1) := by decide +kernel
theorem dX0_addCell_48 : decode cX0_addCell 48 = .ok (.dup, 1) := by decide +kernel
theorem dX0_addCell_49 : decode cX0_addCell 49 = .ok (.getfield 48, 3) := by decide +kernel
theorem dX0_addCell_52 : decode cX0_addCell 52 = .ok (.iconst 1, 1) := by decide +kernel
theorem dX0_addCell_53 : decode cX0_addCell 53 = .ok (.iadd, 1) := by decide +kernel
theorem dX0_addCell_54 : decode cX0_addCell 54 = .ok (.putfield 48, 3) := by decide +kernel
theorem dX0_addCell_57 : decode cX0_addCell 57 = .ok (.iload 5, 2) := by decide +kernel
theorem dX0_addCell_59 : decode cX0_addCell 59 = .ok (.ireturn, 1) := by decide +kernel
theorem dX0_addWalker_0 : decode cX0_addWalker 0 = .ok (.aload_n 0, 1) := by decide +kernel
theorem dX0_addWalker_1 : decode cX0_addWalker 1 = .ok (.getfield 52, 3) := by decide +kernel
theorem dX0_addWalker_4 : decode cX0_addWalker 4 = .ok (.istore 4, 2) := by decide +kernel
theorem dX0_addWalker_6 : decode cX0_addWalker 6 = .ok (.aload_n 0, 1) := by decide +kernel
theorem dX0_addWalker_7 : decode cX0_addWalker 7 = .ok (.getfield 28, 3) := by decide +kernel
theorem dX0_addWalker_10 : decode cX0_addWalker 10 = .ok (.iload 4, 2) := by decide +kernel
theorem dX0_addWalker_12 : decode cX0_addWalker 12 = .ok (.iload_n 1, 1) := by decide +kernel
theorem dX0_addWalker_13 : decode cX0_addWalker 13 = .ok (.iastore, 1) := by decide +kernel
theorem dX0_addWalker_14 : decode cX0_addWalker 14 = .ok (.aload_n 0, 1) := by decide +kernel
theorem dX0_addWalker_15 : decode cX0_addWalker 15 = .ok (.getfield 31, 3) := by decide +kernel
theorem dX0_addWalker_18 : decode cX0_addWalker 18 = .ok (.iload 4, 2) := by decide +kernel
theorem dX0_addWalker_20 : decode cX0_addWalker 20 = .ok (.iload_n 2, 1) := by decide +kernel
theorem dX0_addWalker_21 : decode cX0_addWalker 21 = .ok (.iastore, 1) := by decide +kernel
theorem dX0_addWalker_22 : decode cX0_addWalker 22 = .ok (.aload_n 0, 1) := by decide +kernel
theorem dX0_addWalker_23 : decode cX0_addWalker 23 = .ok (.getfield 34, 3) := by decide +kernel
theorem dX0_addWalker_26 : decode cX0_addWalker 26 = .ok (.iload 4, 2) := by decide +kernel
theorem dX0_addWalker_28 : decode cX0_addWalker 28 = .ok (.iload_n 3, 1) := by decide +kernel
theorem dX0_addWalker_29 : decode cX0_addWalker 29 = .ok (.iastore, 1) := by decide +kernel
theorem dX0_addWalker_30 : decode cX0_addWalker 30 = .ok (.aload_n 0, 1) := by decide +kernel
theorem dX0_addWalker_31 : decode cX0_addWalker 31 = .ok (.getfield 37, 3) := by decide +kernel
theorem dX0_addWalker_34 : decode cX0_addWalker 34 = .ok (.iload 4, 2) := by decide +kernel
theorem dX0_addWalker_36 : decode cX0_addWalker 36 = .ok (.iconst (-1), 1) := by decide +kernel
theorem dX0_addWalker_37 : decode cX0_addWalker 37 = .ok (.iastore, 1) := by decide +kernel
theorem dX0_addWalker_38 : decode cX0_addWalker 38 = .ok (.aload_n 0, 1) := by decide +kernel
theorem dX0_addWalker_39 : decode cX0_addWalker 39 = .ok (.dup, 1) := by decide +kernel
theorem dX0_addWalker_40 : decode cX0_addWalker 40 = .ok (.getfield 52, 3) := by decide +kernel
theorem dX0_addWalker_43 : decode cX0_addWalker 43 = .ok (.iconst 1, 1) := by decide +kernel
theorem dX0_addWalker_44 : decode cX0_addWalker 44 = .ok (.iadd, 1) := by decide +kernel
theorem dX0_addWalker_45 : decode cX0_addWalker 45 = .ok (.putfield 52, 3) := by decide +kernel
theorem dX0_addWalker_48 : decode cX0_addWalker 48 = .ok (.iload 4, 2) := by decide +kernel
theorem dX0_addWalker_50 : decode cX0_addWalker 50 = .ok (.ireturn, 1) := by decide +kernel
theorem dX0_loadOf_0 : decode cX0_loadOf 0 = .ok (.iconst 0, 1) := by decide +kernel
theorem dX0_loadOf_1 : decode cX0_loadOf 1 = .ok (.istore_n 2, 1) := by decide +kernel
theorem dX0_loadOf_2 : decode cX0_loadOf 2 = .ok (.iconst 0, 1) := by decide +kernel
theorem dX0_loadOf_3 : decode cX0_loadOf 3 = .ok (.istore_n 3, 1) := by decide +kernel
theorem dX0_loadOf_4 : decode cX0_loadOf 4 = .ok (.iload_n 3, 1) := by decide +kernel
theorem dX0_loadOf_5 : decode cX0_loadOf 5 = .ok (.aload_n 0, 1) := by decide +kernel
theorem dX0_loadOf_6 : decode cX0_loadOf 6 = .ok (.getfield 52, 3) := by decide +kernel
theorem dX0_loadOf_9 : decode cX0_loadOf 9 = .ok (.if_icmp .ge 28, 3) := by decide +kernel
theorem dX0_loadOf_12 : decode cX0_loadOf 12 = .ok (.aload_n 0, 1) := by decide +kernel
theorem dX0_loadOf_13 : decode cX0_loadOf 13 = .ok (.getfield 37, 3) := by decide +kernel
theorem dX0_loadOf_16 : decode cX0_loadOf 16 = .ok (.iload_n 3, 1) := by decide +kernel
theorem dX0_loadOf_17 : decode cX0_loadOf 17 = .ok (.iaload, 1) := by decide +kernel
theorem dX0_loadOf_18 : decode cX0_loadOf 18 = .ok (.iload_n 1, 1) := by decide +kernel
theorem dX0_loadOf_19 : decode cX0_loadOf 19 = .ok (.if_icmp .ne 12, 3) := by decide +kernel
theorem dX0_loadOf_22 : decode cX0_loadOf 22 = .ok (.iload_n 2, 1) := by decide +kernel
theorem dX0_loadOf_23 : decode cX0_loadOf 23 = .ok (.aload_n 0, 1) := by decide +kernel
theorem dX0_loadOf_24 : decode cX0_loadOf 24 = .ok (.getfield 34, 3) := by decide +kernel
theorem dX0_loadOf_27 : decode cX0_loadOf 27 = .ok (.iload_n 3, 1) := by decide +kernel
theorem dX0_loadOf_28 : decode cX0_loadOf 28 = .ok (.iaload, 1) := by decide +kernel
theorem dX0_loadOf_29 : decode cX0_loadOf 29 = .ok (.iadd, 1) := by decide +kernel
theorem dX0_loadOf_30 : decode cX0_loadOf 30 = .ok (.istore_n 2, 1) := by decide +kernel
theorem dX0_loadOf_31 : decode cX0_loadOf 31 = .ok (.iinc 3 1, 3) := by decide +kernel
theorem dX0_loadOf_34 : decode cX0_loadOf 34 = .ok (.goto (-30), 3) := by decide +kernel
theorem dX0_loadOf_37 : decode cX0_loadOf 37 = .ok (.iload_n 2, 1) := by decide +kernel
theorem dX0_loadOf_38 : decode cX0_loadOf 38 = .ok (.ireturn, 1) := by decide +kernel
set_option maxRecDepth 20000 in
theorem ggX0_useOf_X0_loadOf : GoodIn wsX0_useOf wsX0_loadOf := goodIn_r _ [6, 7, 8, 9, 10, 11, 12, 13, 14, 15, 16, 17, 18, 19, 20, 21, 22] (by decide +kernel) (by decide +kernel)
set_option maxRecDepth 20000 in
theorem gX0_useOf_X0_loadOf : GoodIn wsX0_useOf (wsV RX0 55 RX0 yX0_loadOf wsX0_loadOf) := goodIn_app (goodIn_of _ (by decide +kernel)) ggX0_useOf_X0_loadOf
theorem dX0_useOf_0 : decode cX0_useOf 0 = .ok (.aload_n 0, 1) := by decide +kernel
theorem dX0_useOf_1 : decode cX0_useOf 1 = .ok (.getfield 21, 3) := by decide +kernel
theorem dX0_useOf_4 : decode cX0_useOf 4 = .ok (.iload_n 1, 1) := by decide +kernel
theorem dX0_useOf_5 : decode cX0_useOf 5 = .ok (.iaload, 1) := by decide +kernel
theorem dX0_useOf_6 : decode cX0_useOf 6 = .ok (.ifCond .le 21, 3) := by decide +kernel
theorem dX0_useOf_9 : decode cX0_useOf 9 = .ok (.bipush 100, 2) := by decide +kernel
theorem dX0_useOf_11 : decode cX0_useOf 11 = .ok (.aload_n 0, 1) := by decide +kernel
theorem dX0_useOf_12 : decode cX0_useOf 12 = .ok (.iload_n 1, 1) := by decide +kernel
theorem dX0_useOf_13 : decode cX0_useOf 13 = .ok (.invokevirtual 55, 3) := by decide +kernel
theorem dX0_useOf_16 : decode cX0_useOf 16 = .ok (.imul, 1) := by decide +kernel
theorem dX0_useOf_17 : decode cX0_useOf 17 = .ok (.aload_n 0, 1) := by decide +kernel
theorem dX0_useOf_18 : decode cX0_useOf 18 = .ok (.getfield 21, 3) := by decide +kernel
theorem dX0_useOf_21 : decode cX0_useOf 21 = .ok (.iload_n 1, 1) := by decide +kernel
theorem dX0_useOf_22 : decode cX0_useOf 22 = .ok (.iaload, 1) := by decide +kernel
theorem dX0_useOf_23 : decode cX0_useOf 23 = .ok (.idiv, 1) := by decide +kernel
theorem dX0_useOf_24 : decode cX0_useOf 24 = .ok (.goto 4, 3) := by decide +kernel
theorem dX0_useOf_27 : decode cX0_useOf 27 = .ok (.iconst 0, 1) := by decide +kernel
theorem dX0_useOf_28 : decode cX0_useOf 28 = .ok (.ireturn, 1) := by decide +kernel
theorem dX0_signalOf_0 : decode cX0_signalOf 0 = .ok (.aload_n 0, 1) := by decide +kernel
theorem dX0_signalOf_1 : decode cX0_signalOf 1 = .ok (.getfield 9, 3) := by decide +kernel
theorem dX0_signalOf_4 : decode cX0_signalOf 4 = .ok (.iload_n 1, 1) := by decide +kernel
theorem dX0_signalOf_5 : decode cX0_signalOf 5 = .ok (.iaload, 1) := by decide +kernel
theorem dX0_signalOf_6 : decode cX0_signalOf 6 = .ok (.aload_n 0, 1) := by decide +kernel
theorem dX0_signalOf_7 : decode cX0_signalOf 7 = .ok (.getfield 28, 3) := by decide +kernel
theorem dX0_signalOf_10 : decode cX0_signalOf 10 = .ok (.iload_n 2, 1) := by decide +kernel
theorem dX0_signalOf_11 : decode cX0_signalOf 11 = .ok (.iaload, 1) := by decide +kernel
theorem dX0_signalOf_12 : decode cX0_signalOf 12 = .ok (.isub, 1) := by decide +kernel
theorem dX0_signalOf_13 : decode cX0_signalOf 13 = .ok (.invokestatic 59, 3) := by decide +kernel
theorem dX0_signalOf_16 : decode cX0_signalOf 16 = .ok (.aload_n 0, 1) := by decide +kernel
theorem dX0_signalOf_17 : decode cX0_signalOf 17 = .ok (.getfield 15, 3) := by decide +kernel
theorem dX0_signalOf_20 : decode cX0_signalOf 20 = .ok (.iload_n 1, 1) := by decide +kernel
theorem dX0_signalOf_21 : decode cX0_signalOf 21 = .ok (.iaload, 1) := by decide +kernel
theorem dX0_signalOf_22 : decode cX0_signalOf 22 = .ok (.aload_n 0, 1) := by decide +kernel
theorem dX0_signalOf_23 : decode cX0_signalOf 23 = .ok (.getfield 31, 3) := by decide +kernel
theorem dX0_signalOf_26 : decode cX0_signalOf 26 = .ok (.iload_n 2, 1) := by decide +kernel
theorem dX0_signalOf_27 : decode cX0_signalOf 27 = .ok (.iaload, 1) := by decide +kernel
theorem dX0_signalOf_28 : decode cX0_signalOf 28 = .ok (.isub, 1) := by decide +kernel
theorem dX0_signalOf_29 : decode cX0_signalOf 29 = .ok (.invokestatic 59, 3) := by decide +kernel
theorem dX0_signalOf_32 : decode cX0_signalOf 32 = .ok (.iadd, 1) := by decide +kernel
theorem dX0_signalOf_33 : decode cX0_signalOf 33 = .ok (.istore_n 3, 1) := by decide +kernel
theorem dX0_signalOf_34 : decode cX0_signalOf 34 = .ok (.sipush 16000, 3) := by decide +kernel
theorem dX0_signalOf_37 : decode cX0_signalOf 37 = .ok (.iload_n 3, 1) := by decide +kernel
theorem dX0_signalOf_38 : decode cX0_signalOf 38 = .ok (.iconst 2, 1) := by decide +kernel
theorem dX0_signalOf_39 : decode cX0_signalOf 39 = .ok (.iadd, 1) := by decide +kernel
theorem dX0_signalOf_40 : decode cX0_signalOf 40 = .ok (.iload_n 3, 1) := by decide +kernel
theorem dX0_signalOf_41 : decode cX0_signalOf 41 = .ok (.iconst 2, 1) := by decide +kernel
theorem dX0_signalOf_42 : decode cX0_signalOf 42 = .ok (.iadd, 1) := by decide +kernel
theorem dX0_signalOf_43 : decode cX0_signalOf 43 = .ok (.imul, 1) := by decide +kernel
theorem dX0_signalOf_44 : decode cX0_signalOf 44 = .ok (.idiv, 1) := by decide +kernel
theorem dX0_signalOf_45 : decode cX0_signalOf 45 = .ok (.ireturn, 1) := by decide +kernel
set_option maxRecDepth 20000 in
theorem ggX0_measure_X0_useOf : GoodIn wsX0_measure wsX0_useOf := goodIn_r _ [9, 10, 11, 12, 13, 8, 14, 3, 15, 16, 35, 36, 37, 38, 39, 40, 41, 42, 43, 44, 45, 46, 47] (by decide +kernel) (by decide +kernel)
set_option maxRecDepth 20000 in
theorem gX0_measure_X0_useOf : GoodIn wsX0_measure (wsV RX0 64 RX0 yX0_useOf wsX0_useOf) := goodIn_app (goodIn_of _ (by decide +kernel)) ggX0_measure_X0_useOf
set_option maxRecDepth 20000 in
theorem ggX0_measure_X0_signalOf : GoodIn wsX0_measure wsX0_signalOf := goodIn_r _ [20, 21, 22, 23, 24, 25, 26, 27, 28, 35, 36, 37, 38, 39, 40, 41, 42, 43, 44, 45, 46, 47] (by decide +kernel) (by decide +kernel)
set_option maxRecDepth 20000 in
theorem gX0_measure_X0_signalOf : GoodIn wsX0_measure (wsV RX0 67 RX0 yX0_signalOf wsX0_signalOf) := goodIn_app (goodIn_of _ (by decide +kernel)) ggX0_measure_X0_signalOf
set_option maxRecDepth 20000 in
theorem ggX0_measure_X0_disturbances : GoodIn wsX0_measure wsX0_disturbances := goodIn_r _ [32, 1, 33, 34, 2, 17, 18, 19, 8, 20, 21, 22, 23, 24, 25, 26, 27, 28, 35, 36, 37, 38, 39, 40, 41, 42, 43, 44, 45, 46, 47] (by decide +kernel) (by decide +kernel)
set_option maxRecDepth 20000 in
theorem gX0_measure_X0_disturbances : GoodIn wsX0_measure (wsV RX0 71 RX0 yX0_disturbances wsX0_disturbances) := goodIn_app (goodIn_of _ (by decide +kernel)) ggX0_measure_X0_disturbances
theorem dX0_measure_0 : decode cX0_measure 0 = .ok (.iconst 0, 1) := by decide +kernel
theorem dX0_measure_1 : decode cX0_measure 1 = .ok (.istore_n 1, 1) := by decide +kernel
theorem dX0_measure_2 : decode cX0_measure 2 = .ok (.iload_n 1, 1) := by decide +kernel
theorem dX0_measure_3 : decode cX0_measure 3 = .ok (.aload_n 0, 1) := by decide +kernel
theorem dX0_measure_4 : decode cX0_measure 4 = .ok (.getfield 48, 3) := by decide +kernel
theorem dX0_measure_7 : decode cX0_measure 7 = .ok (.if_icmp .ge 20, 3) := by decide +kernel
theorem dX0_measure_10 : decode cX0_measure 10 = .ok (.aload_n 0, 1) := by decide +kernel
theorem dX0_measure_11 : decode cX0_measure 11 = .ok (.getfield 40, 3) := by decide +kernel
theorem dX0_measure_14 : decode cX0_measure 14 = .ok (.iload_n 1, 1) := by decide +kernel
theorem dX0_measure_15 : decode cX0_measure 15 = .ok (.aload_n 0, 1) := by decide +kernel
theorem dX0_measure_16 : decode cX0_measure 16 = .ok (.iload_n 1, 1) := by decide +kernel
theorem dX0_measure_17 : decode cX0_measure 17 = .ok (.invokevirtual 64, 3) := by decide +kernel
theorem dX0_measure_20 : decode cX0_measure 20 = .ok (.iastore, 1) := by decide +kernel
theorem dX0_measure_21 : decode cX0_measure 21 = .ok (.iinc 1 1, 3) := by decide +kernel
theorem dX0_measure_24 : decode cX0_measure 24 = .ok (.goto (-22), 3) := by decide +kernel
theorem dX0_measure_27 : decode cX0_measure 27 = .ok (.iconst 0, 1) := by decide +kernel
theorem dX0_measure_28 : decode cX0_measure 28 = .ok (.istore_n 1, 1) := by decide +kernel
theorem dX0_measure_29 : decode cX0_measure 29 = .ok (.iload_n 1, 1) := by decide +kernel
theorem dX0_measure_30 : decode cX0_measure 30 = .ok (.aload_n 0, 1) := by decide +kernel
theorem dX0_measure_31 : decode cX0_measure 31 = .ok (.getfield 52, 3) := by decide +kernel
theorem dX0_measure_34 : decode cX0_measure 34 = .ok (.if_icmp .ge 52, 3) := by decide +kernel
theorem dX0_measure_37 : decode cX0_measure 37 = .ok (.iconst 0, 1) := by decide +kernel
theorem dX0_measure_38 : decode cX0_measure 38 = .ok (.istore_n 2, 1) := by decide +kernel
theorem dX0_measure_39 : decode cX0_measure 39 = .ok (.iload_n 2, 1) := by decide +kernel
theorem dX0_measure_40 : decode cX0_measure 40 = .ok (.aload_n 0, 1) := by decide +kernel
theorem dX0_measure_41 : decode cX0_measure 41 = .ok (.getfield 48, 3) := by decide +kernel
theorem dX0_measure_44 : decode cX0_measure 44 = .ok (.if_icmp .ge 36, 3) := by decide +kernel
theorem dX0_measure_47 : decode cX0_measure 47 = .ok (.aload_n 0, 1) := by decide +kernel
theorem dX0_measure_48 : decode cX0_measure 48 = .ok (.getfield 45, 3) := by decide +kernel
theorem dX0_measure_51 : decode cX0_measure 51 = .ok (.iload_n 1, 1) := by decide +kernel
theorem dX0_measure_52 : decode cX0_measure 52 = .ok (.aaload, 1) := by decide +kernel
theorem dX0_measure_53 : decode cX0_measure 53 = .ok (.iload_n 2, 1) := by decide +kernel
theorem dX0_measure_54 : decode cX0_measure 54 = .ok (.bipush 100, 2) := by decide +kernel
theorem dX0_measure_56 : decode cX0_measure 56 = .ok (.aload_n 0, 1) := by decide +kernel
theorem dX0_measure_57 : decode cX0_measure 57 = .ok (.iload_n 2, 1) := by decide +kernel
theorem dX0_measure_58 : decode cX0_measure 58 = .ok (.iload_n 1, 1) := by decide +kernel
theorem dX0_measure_59 : decode cX0_measure 59 = .ok (.invokevirtual 67, 3) := by decide +kernel
theorem dX0_measure_62 : decode cX0_measure 62 = .ok (.imul, 1) := by decide +kernel
theorem dX0_measure_63 : decode cX0_measure 63 = .ok (.bipush 10, 2) := by decide +kernel
theorem dX0_measure_65 : decode cX0_measure 65 = .ok (.aload_n 0, 1) := by decide +kernel
theorem dX0_measure_66 : decode cX0_measure 66 = .ok (.iload_n 2, 1) := by decide +kernel
theorem dX0_measure_67 : decode cX0_measure 67 = .ok (.iload_n 1, 1) := by decide +kernel
theorem dX0_measure_68 : decode cX0_measure 68 = .ok (.invokevirtual 71, 3) := by decide +kernel
theorem dX0_measure_71 : decode cX0_measure 71 = .ok (.iadd, 1) := by decide +kernel
theorem dX0_measure_72 : decode cX0_measure 72 = .ok (.idiv, 1) := by decide +kernel
theorem dX0_measure_73 : decode cX0_measure 73 = .ok (.iastore, 1) := by decide +kernel
theorem dX0_measure_74 : decode cX0_measure 74 = .ok (.iinc 2 1, 3) := by decide +kernel
theorem dX0_measure_77 : decode cX0_measure 77 = .ok (.goto (-38), 3) := by decide +kernel
theorem dX0_measure_80 : decode cX0_measure 80 = .ok (.iinc 1 1, 3) := by decide +kernel
theorem dX0_measure_83 : decode cX0_measure 83 = .ok (.goto (-54), 3) := by decide +kernel
theorem dX0_measure_86 : decode cX0_measure 86 = .ok (.return_, 1) := by decide +kernel
set_option maxRecDepth 20000 in
theorem ggX0_disturbances_X0_signalOf : GoodIn wsX0_disturbances wsX0_signalOf := goodIn_r _ [9, 10, 11, 12, 13, 14, 15, 16, 17, 18, 19, 20, 21, 22, 23, 24, 25, 26, 27, 28, 29, 30] (by decide +kernel) (by decide +kernel)
set_option maxRecDepth 20000 in
theorem gX0_disturbances_X0_signalOf : GoodIn wsX0_disturbances (wsV RX0 67 RX0 yX0_signalOf wsX0_signalOf) := goodIn_app (goodIn_of _ (by decide +kernel)) ggX0_disturbances_X0_signalOf
theorem dX0_disturbances_0 : decode cX0_disturbances 0 = .ok (.iconst 0, 1) := by decide +kernel
theorem dX0_disturbances_1 : decode cX0_disturbances 1 = .ok (.istore_n 3, 1) := by decide +kernel
theorem dX0_disturbances_2 : decode cX0_disturbances 2 = .ok (.iconst 0, 1) := by decide +kernel
theorem dX0_disturbances_3 : decode cX0_disturbances 3 = .ok (.istore 4, 2) := by decide +kernel
theorem dX0_disturbances_5 : decode cX0_disturbances 5 = .ok (.iload 4, 2) := by decide +kernel
theorem dX0_disturbances_7 : decode cX0_disturbances 7 = .ok (.aload_n 0, 1) := by decide +kernel
theorem dX0_disturbances_8 : decode cX0_disturbances 8 = .ok (.getfield 48, 3) := by decide +kernel
theorem dX0_disturbances_11 : decode cX0_disturbances 11 = .ok (.if_icmp .ge 62, 3) := by decide +kernel
theorem dX0_disturbances_14 : decode cX0_disturbances 14 = .ok (.iload 4, 2) := by decide +kernel
theorem dX0_disturbances_16 : decode cX0_disturbances 16 = .ok (.iload_n 1, 1) := by decide +kernel
theorem dX0_disturbances_17 : decode cX0_disturbances 17 = .ok (.if_icmp .eq 50, 3) := by decide +kernel
theorem dX0_disturbances_20 : decode cX0_disturbances 20 = .ok (.aload_n 0, 1) := by decide +kernel
theorem dX0_disturbances_21 : decode cX0_disturbances 21 = .ok (.getfield 24, 3) := by decide +kernel
theorem dX0_disturbances_24 : decode cX0_disturbances 24 = .ok (.iload 4, 2) := by decide +kernel
theorem dX0_disturbances_26 : decode cX0_disturbances 26 = .ok (.baload, 1) := by decide +kernel
theorem dX0_disturbances_27 : decode cX0_disturbances 27 = .ok (.ifCond .eq 40, 3) := by decide +kernel
theorem dX0_disturbances_30 : decode cX0_disturbances 30 = .ok (.aload_n 0, 1) := by decide +kernel
theorem dX0_disturbances_31 : decode cX0_disturbances 31 = .ok (.getfield 18, 3) := by decide +kernel
theorem dX0_disturbances_34 : decode cX0_disturbances 34 = .ok (.iload 4, 2) := by decide +kernel
theorem dX0_disturbances_36 : decode cX0_disturbances 36 = .ok (.iaload, 1) := by decide +kernel
theorem dX0_disturbances_37 : decode cX0_disturbances 37 = .ok (.aload_n 0, 1) := by decide +kernel
theorem dX0_disturbances_38 : decode cX0_disturbances 38 = .ok (.getfield 18, 3) := by decide +kernel
theorem dX0_disturbances_41 : decode cX0_disturbances 41 = .ok (.iload_n 1, 1) := by decide +kernel
theorem dX0_disturbances_42 : decode cX0_disturbances 42 = .ok (.iaload, 1) := by decide +kernel
theorem dX0_disturbances_43 : decode cX0_disturbances 43 = .ok (.if_icmp .ne 24, 3) := by decide +kernel
theorem dX0_disturbances_46 : decode cX0_disturbances 46 = .ok (.iload_n 3, 1) := by decide +kernel
theorem dX0_disturbances_47 : decode cX0_disturbances 47 = .ok (.aload_n 0, 1) := by decide +kernel
theorem dX0_disturbances_48 : decode cX0_disturbances 48 = .ok (.iload 4, 2) := by decide +kernel
theorem dX0_disturbances_50 : decode cX0_disturbances 50 = .ok (.iload_n 2, 1) := by decide +kernel
theorem dX0_disturbances_51 : decode cX0_disturbances 51 = .ok (.invokevirtual 67, 3) := by decide +kernel
theorem dX0_disturbances_54 : decode cX0_disturbances 54 = .ok (.aload_n 0, 1) := by decide +kernel
theorem dX0_disturbances_55 : decode cX0_disturbances 55 = .ok (.getfield 40, 3) := by decide +kernel
theorem dX0_disturbances_58 : decode cX0_disturbances 58 = .ok (.iload 4, 2) := by decide +kernel
theorem dX0_disturbances_60 : decode cX0_disturbances 60 = .ok (.iaload, 1) := by decide +kernel
theorem dX0_disturbances_61 : decode cX0_disturbances 61 = .ok (.imul, 1) := by decide +kernel
theorem dX0_disturbances_62 : decode cX0_disturbances 62 = .ok (.bipush 100, 2) := by decide +kernel
theorem dX0_disturbances_64 : decode cX0_disturbances 64 = .ok (.idiv, 1) := by decide +kernel
theorem dX0_disturbances_65 : decode cX0_disturbances 65 = .ok (.iadd, 1) := by decide +kernel
theorem dX0_disturbances_66 : decode cX0_disturbances 66 = .ok (.istore_n 3, 1) := by decide +kernel
theorem dX0_disturbances_67 : decode cX0_disturbances 67 = .ok (.iinc 4 1, 3) := by decide +kernel
theorem dX0_disturbances_70 : decode cX0_disturbances 70 = .ok (.goto (-65), 3) := by decide +kernel
theorem dX0_disturbances_73 : decode cX0_disturbances 73 = .ok (.iload_n 3, 1) := by decide +kernel
theorem dX0_disturbances_74 : decode cX0_disturbances 74 = .ok (.ireturn, 1) := by decide +kernel
set_option maxRecDepth 20000 in
theorem ggX0_bestOther_X0_couldTake : GoodIn wsX0_bestOther wsX0_couldTake := goodIn_r _ [7, 8, 9, 10, 11, 12, 13, 14, 6, 15, 16, 17, 18, 19, 20, 21, 22, 23, 24, 25, 26, 27, 28, 29] (by decide +kernel) (by decide +kernel)
set_option maxRecDepth 20000 in
theorem gX0_bestOther_X0_couldTake : GoodIn wsX0_bestOther (wsV RX0 74 RX0 yX0_couldTake wsX0_couldTake) := goodIn_app (goodIn_of _ (by decide +kernel)) ggX0_bestOther_X0_couldTake
theorem dX0_bestOther_0 : decode cX0_bestOther 0 = .ok (.iconst (-1), 1) := by decide +kernel
theorem dX0_bestOther_1 : decode cX0_bestOther 1 = .ok (.istore_n 2, 1) := by decide +kernel
theorem dX0_bestOther_2 : decode cX0_bestOther 2 = .ok (.iconst 0, 1) := by decide +kernel
theorem dX0_bestOther_3 : decode cX0_bestOther 3 = .ok (.istore_n 3, 1) := by decide +kernel
theorem dX0_bestOther_4 : decode cX0_bestOther 4 = .ok (.iload_n 3, 1) := by decide +kernel
theorem dX0_bestOther_5 : decode cX0_bestOther 5 = .ok (.aload_n 0, 1) := by decide +kernel
theorem dX0_bestOther_6 : decode cX0_bestOther 6 = .ok (.getfield 48, 3) := by decide +kernel
theorem dX0_bestOther_9 : decode cX0_bestOther 9 = .ok (.if_icmp .ge 44, 3) := by decide +kernel
theorem dX0_bestOther_12 : decode cX0_bestOther 12 = .ok (.aload_n 0, 1) := by decide +kernel
theorem dX0_bestOther_13 : decode cX0_bestOther 13 = .ok (.iload_n 3, 1) := by decide +kernel
theorem dX0_bestOther_14 : decode cX0_bestOther 14 = .ok (.iload_n 1, 1) := by decide +kernel
theorem dX0_bestOther_15 : decode cX0_bestOther 15 = .ok (.invokevirtual 74, 3) := by decide +kernel
theorem dX0_bestOther_18 : decode cX0_bestOther 18 = .ok (.ifCond .eq 29, 3) := by decide +kernel
theorem dX0_bestOther_21 : decode cX0_bestOther 21 = .ok (.iload_n 2, 1) := by decide +kernel
theorem dX0_bestOther_22 : decode cX0_bestOther 22 = .ok (.iconst (-1), 1) := by decide +kernel
theorem dX0_bestOther_23 : decode cX0_bestOther 23 = .ok (.if_icmp .eq 22, 3) := by decide +kernel
theorem dX0_bestOther_26 : decode cX0_bestOther 26 = .ok (.aload_n 0, 1) := by decide +kernel
theorem dX0_bestOther_27 : decode cX0_bestOther 27 = .ok (.getfield 45, 3) := by decide +kernel
theorem dX0_bestOther_30 : decode cX0_bestOther 30 = .ok (.iload_n 1, 1) := by decide +kernel
theorem dX0_bestOther_31 : decode cX0_bestOther 31 = .ok (.aaload, 1) := by decide +kernel
theorem dX0_bestOther_32 : decode cX0_bestOther 32 = .ok (.iload_n 3, 1) := by decide +kernel
theorem dX0_bestOther_33 : decode cX0_bestOther 33 = .ok (.iaload, 1) := by decide +kernel
theorem dX0_bestOther_34 : decode cX0_bestOther 34 = .ok (.aload_n 0, 1) := by decide +kernel
theorem dX0_bestOther_35 : decode cX0_bestOther 35 = .ok (.getfield 45, 3) := by decide +kernel
theorem dX0_bestOther_38 : decode cX0_bestOther 38 = .ok (.iload_n 1, 1) := by decide +kernel
theorem dX0_bestOther_39 : decode cX0_bestOther 39 = .ok (.aaload, 1) := by decide +kernel
theorem dX0_bestOther_40 : decode cX0_bestOther 40 = .ok (.iload_n 2, 1) := by decide +kernel
theorem dX0_bestOther_41 : decode cX0_bestOther 41 = .ok (.iaload, 1) := by decide +kernel
theorem dX0_bestOther_42 : decode cX0_bestOther 42 = .ok (.if_icmp .le 5, 3) := by decide +kernel
theorem dX0_bestOther_45 : decode cX0_bestOther 45 = .ok (.iload_n 3, 1) := by decide +kernel
theorem dX0_bestOther_46 : decode cX0_bestOther 46 = .ok (.istore_n 2, 1) := by decide +kernel
theorem dX0_bestOther_47 : decode cX0_bestOther 47 = .ok (.iinc 3 1, 3) := by decide +kernel
theorem dX0_bestOther_50 : decode cX0_bestOther 50 = .ok (.goto (-46), 3) := by decide +kernel
theorem dX0_bestOther_53 : decode cX0_bestOther 53 = .ok (.iload_n 2, 1) := by decide +kernel
theorem dX0_bestOther_54 : decode cX0_bestOther 54 = .ok (.ireturn, 1) := by decide +kernel
set_option maxRecDepth 20000 in
theorem ggX0_couldTake_X0_loadOf : GoodIn wsX0_couldTake wsX0_loadOf := goodIn_r _ [9, 10, 2, 3, 11, 12, 13, 14, 15, 16, 17, 18, 19, 20, 21, 22, 23] (by decide +kernel) (by decide +kernel)
set_option maxRecDepth 20000 in
theorem gX0_couldTake_X0_loadOf : GoodIn wsX0_couldTake (wsV RX0 55 RX0 yX0_loadOf wsX0_loadOf) := goodIn_app (goodIn_of _ (by decide +kernel)) ggX0_couldTake_X0_loadOf
theorem dX0_couldTake_0 : decode cX0_couldTake 0 = .ok (.aload_n 0, 1) := by decide +kernel
theorem dX0_couldTake_1 : decode cX0_couldTake 1 = .ok (.getfield 24, 3) := by decide +kernel
theorem dX0_couldTake_4 : decode cX0_couldTake 4 = .ok (.iload_n 1, 1) := by decide +kernel
theorem dX0_couldTake_5 : decode cX0_couldTake 5 = .ok (.baload, 1) := by decide +kernel
theorem dX0_couldTake_6 : decode cX0_couldTake 6 = .ok (.ifCond .eq 38, 3) := by decide +kernel
theorem dX0_couldTake_9 : decode cX0_couldTake 9 = .ok (.aload_n 0, 1) := by decide +kernel
theorem dX0_couldTake_10 : decode cX0_couldTake 10 = .ok (.getfield 37, 3) := by decide +kernel
theorem dX0_couldTake_13 : decode cX0_couldTake 13 = .ok (.iload_n 2, 1) := by decide +kernel
theorem dX0_couldTake_14 : decode cX0_couldTake 14 = .ok (.iaload, 1) := by decide +kernel
theorem dX0_couldTake_15 : decode cX0_couldTake 15 = .ok (.iload_n 1, 1) := by decide +kernel
theorem dX0_couldTake_16 : decode cX0_couldTake 16 = .ok (.if_icmp .eq 28, 3) := by decide +kernel
theorem dX0_couldTake_19 : decode cX0_couldTake 19 = .ok (.aload_n 0, 1) := by decide +kernel
theorem dX0_couldTake_20 : decode cX0_couldTake 20 = .ok (.iload_n 1, 1) := by decide +kernel
theorem dX0_couldTake_21 : decode cX0_couldTake 21 = .ok (.invokevirtual 55, 3) := by decide +kernel
theorem dX0_couldTake_24 : decode cX0_couldTake 24 = .ok (.aload_n 0, 1) := by decide +kernel
theorem dX0_couldTake_25 : decode cX0_couldTake 25 = .ok (.getfield 34, 3) := by decide +kernel
theorem dX0_couldTake_28 : decode cX0_couldTake 28 = .ok (.iload_n 2, 1) := by decide +kernel
theorem dX0_couldTake_29 : decode cX0_couldTake 29 = .ok (.iaload, 1) := by decide +kernel
theorem dX0_couldTake_30 : decode cX0_couldTake 30 = .ok (.iadd, 1) := by decide +kernel
theorem dX0_couldTake_31 : decode cX0_couldTake 31 = .ok (.aload_n 0, 1) := by decide +kernel
theorem dX0_couldTake_32 : decode cX0_couldTake 32 = .ok (.getfield 21, 3) := by decide +kernel
theorem dX0_couldTake_35 : decode cX0_couldTake 35 = .ok (.iload_n 1, 1) := by decide +kernel
theorem dX0_couldTake_36 : decode cX0_couldTake 36 = .ok (.iaload, 1) := by decide +kernel
theorem dX0_couldTake_37 : decode cX0_couldTake 37 = .ok (.if_icmp .gt 7, 3) := by decide +kernel
theorem dX0_couldTake_40 : decode cX0_couldTake 40 = .ok (.iconst 1, 1) := by decide +kernel
theorem dX0_couldTake_41 : decode cX0_couldTake 41 = .ok (.goto 4, 3) := by decide +kernel
theorem dX0_couldTake_44 : decode cX0_couldTake 44 = .ok (.iconst 0, 1) := by decide +kernel
theorem dX0_couldTake_45 : decode cX0_couldTake 45 = .ok (.ireturn, 1) := by decide +kernel
theorem dX1_init_0 : decode cX1_init 0 = .ok (.aload_n 0, 1) := by decide +kernel
theorem dX1_init_1 : decode cX1_init 1 = .ok (.invokespecial 3, 3) := by decide +kernel
theorem dX1_init_4 : decode cX1_init 4 = .ok (.aload_n 0, 1) := by decide +kernel
theorem dX1_init_5 : decode cX1_init 5 = .ok (.bipush 6, 2) := by decide +kernel
theorem dX1_init_7 : decode cX1_init 7 = .ok (.iconst 5, 1) := by decide +kernel
theorem dX1_init_8 : decode cX1_init 8 = .ok (.multianewarray 9 2, 4) := by decide +kernel
theorem dX1_init_12 : decode cX1_init 12 = .ok (.putfield 11, 3) := by decide +kernel
theorem dX1_init_15 : decode cX1_init 15 = .ok (.aload_n 0, 1) := by decide +kernel
theorem dX1_init_16 : decode cX1_init 16 = .ok (.bipush 7, 2) := by decide +kernel
theorem dX1_init_18 : decode cX1_init 18 = .ok (.newarray .int, 2) := by decide +kernel
theorem dX1_init_20 : decode cX1_init 20 = .ok (.putfield 16, 3) := by decide +kernel
theorem dX1_init_23 : decode cX1_init 23 = .ok (.aload_n 0, 1) := by decide +kernel
theorem dX1_init_24 : decode cX1_init 24 = .ok (.iconst 5, 1) := by decide +kernel
theorem dX1_init_25 : decode cX1_init 25 = .ok (.newarray .int, 2) := by decide +kernel
theorem dX1_init_27 : decode cX1_init 27 = .ok (.putfield 20, 3) := by decide +kernel
theorem dX1_init_30 : decode cX1_init 30 = .ok (.aload_n 0, 1) := by decide +kernel
theorem dX1_init_31 : decode cX1_init 31 = .ok (.bipush 6, 2) := by decide +kernel
theorem dX1_init_33 : decode cX1_init 33 = .ok (.newarray .int, 2) := by decide +kernel
theorem dX1_init_35 : decode cX1_init 35 = .ok (.putfield 23, 3) := by decide +kernel
theorem dX1_init_38 : decode cX1_init 38 = .ok (.aload_n 0, 1) := by decide +kernel
theorem dX1_init_39 : decode cX1_init 39 = .ok (.bipush 6, 2) := by decide +kernel
theorem dX1_init_41 : decode cX1_init 41 = .ok (.newarray .int, 2) := by decide +kernel
theorem dX1_init_43 : decode cX1_init 43 = .ok (.putfield 26, 3) := by decide +kernel
theorem dX1_init_46 : decode cX1_init 46 = .ok (.aload_n 0, 1) := by decide +kernel
theorem dX1_init_47 : decode cX1_init 47 = .ok (.aload_n 1, 1) := by decide +kernel
theorem dX1_init_48 : decode cX1_init 48 = .ok (.putfield 29, 3) := by decide +kernel
theorem dX1_init_51 : decode cX1_init 51 = .ok (.return_, 1) := by decide +kernel
set_option maxRecDepth 20000 in
theorem ggX1_greatestWorth_X0_measure : GoodIn wsX1_greatestWorth wsX0_measure := goodIn_r _ [17, 18, 19, 20, 21, 22, 23, 24, 16, 25, 26, 27, 28, 29, 30, 31, 32, 33, 34, 35, 36, 37, 38, 39, 40, 41, 42, 43, 44, 45, 46, 47, 48, 49, 50, 78, 79, 80, 81, 82, 83, 84, 85, 86, 87, 88, 89, 90] (by decide +kernel) (by decide +kernel)
set_option maxRecDepth 20000 in
theorem gX1_greatestWorth_X0_measure : GoodIn wsX1_greatestWorth (wsV RX1 33 RX0 yX0_measure wsX0_measure) := goodIn_app (goodIn_of _ (by decide +kernel)) ggX1_greatestWorth_X0_measure
set_option maxRecDepth 20000 in
theorem ggX1_greatestWorth_X1_fillWorth : GoodIn wsX1_greatestWorth wsX1_fillWorth := goodIn_r _ [55, 1, 7, 56, 57, 58, 59, 60, 41, 61, 71, 72, 73, 74, 75, 76, 77, 78, 79, 80, 81, 82, 83, 84, 85, 86, 87, 88, 89, 90] (by decide +kernel) (by decide +kernel)
set_option maxRecDepth 20000 in
theorem gX1_greatestWorth_X1_fillWorth : GoodIn wsX1_greatestWorth (wsV RX1 45 RX1 yX1_fillWorth wsX1_fillWorth) := goodIn_app (goodIn_of _ (by decide +kernel)) ggX1_greatestWorth_X1_fillWorth
set_option maxRecDepth 20000 in
theorem ggX1_greatestWorth_X1_place : GoodIn wsX1_greatestWorth wsX1_place := goodIn_r _ [64, 2, 12, 1, 3, 4, 7, 58, 6, 65, 66, 67, 68, 54, 69, 70, 8, 9, 10, 11, 62, 63, 71, 72, 73, 74, 75, 76, 77, 78, 79, 80, 81, 82, 83, 84, 85, 86, 87, 88, 89, 90] (by decide +kernel) (by decide +kernel)
set_option maxRecDepth 20000 in
theorem gX1_greatestWorth_X1_place : GoodIn wsX1_greatestWorth (va_wsS RX1 64 yX1_place wsX1_place) := goodIn_app (goodIn_of _ (by decide +kernel)) ggX1_greatestWorth_X1_place
theorem dX1_greatestWorth_0 : decode cX1_greatestWorth 0 = .ok (.aload_n 0, 1) := by decide +kernel
theorem dX1_greatestWorth_1 : decode cX1_greatestWorth 1 = .ok (.getfield 29, 3) := by decide +kernel
theorem dX1_greatestWorth_4 : decode cX1_greatestWorth 4 = .ok (.invokevirtual 33, 3) := by decide +kernel
theorem dX1_greatestWorth_7 : decode cX1_greatestWorth 7 = .ok (.aload_n 0, 1) := by decide +kernel
theorem dX1_greatestWorth_8 : decode cX1_greatestWorth 8 = .ok (.getfield 16, 3) := by decide +kernel
theorem dX1_greatestWorth_11 : decode cX1_greatestWorth 11 = .ok (.aload_n 0, 1) := by decide +kernel
theorem dX1_greatestWorth_12 : decode cX1_greatestWorth 12 = .ok (.getfield 29, 3) := by decide +kernel
theorem dX1_greatestWorth_15 : decode cX1_greatestWorth 15 = .ok (.getfield 38, 3) := by decide +kernel
theorem dX1_greatestWorth_18 : decode cX1_greatestWorth 18 = .ok (.iconst 0, 1) := by decide +kernel
theorem dX1_greatestWorth_19 : decode cX1_greatestWorth 19 = .ok (.iastore, 1) := by decide +kernel
theorem dX1_greatestWorth_20 : decode cX1_greatestWorth 20 = .ok (.aload_n 0, 1) := by decide +kernel
theorem dX1_greatestWorth_21 : decode cX1_greatestWorth 21 = .ok (.getfield 29, 3) := by decide +kernel
theorem dX1_greatestWorth_24 : decode cX1_greatestWorth 24 = .ok (.getfield 38, 3) := by decide +kernel
theorem dX1_greatestWorth_27 : decode cX1_greatestWorth 27 = .ok (.iconst 1, 1) := by decide +kernel
theorem dX1_greatestWorth_28 : decode cX1_greatestWorth 28 = .ok (.isub, 1) := by decide +kernel
theorem dX1_greatestWorth_29 : decode cX1_greatestWorth 29 = .ok (.istore 5, 2) := by decide +kernel
theorem dX1_greatestWorth_31 : decode cX1_greatestWorth 31 = .ok (.iload 5, 2) := by decide +kernel
theorem dX1_greatestWorth_33 : decode cX1_greatestWorth 33 = .ok (.ifCond .lt 53, 3) := by decide +kernel
theorem dX1_greatestWorth_36 : decode cX1_greatestWorth 36 = .ok (.iload_n 2, 1) := by decide +kernel
theorem dX1_greatestWorth_37 : decode cX1_greatestWorth 37 = .ok (.iload_n 3, 1) := by decide +kernel
theorem dX1_greatestWorth_38 : decode cX1_greatestWorth 38 = .ok (.aload_n 0, 1) := by decide +kernel
theorem dX1_greatestWorth_39 : decode cX1_greatestWorth 39 = .ok (.getfield 29, 3) := by decide +kernel
theorem dX1_greatestWorth_42 : decode cX1_greatestWorth 42 = .ok (.getfield 42, 3) := by decide +kernel
theorem dX1_greatestWorth_45 : decode cX1_greatestWorth 45 = .ok (.iload 5, 2) := by decide +kernel
theorem dX1_greatestWorth_47 : decode cX1_greatestWorth 47 = .ok (.iaload, 1) := by decide +kernel
theorem dX1_greatestWorth_48 : decode cX1_greatestWorth 48 = .ok (.imul, 1) := by decide +kernel
theorem dX1_greatestWorth_49 : decode cX1_greatestWorth 49 = .ok (.iadd, 1) := by decide +kernel
theorem dX1_greatestWorth_50 : decode cX1_greatestWorth 50 = .ok (.istore 6, 2) := by decide +kernel
theorem dX1_greatestWorth_52 : decode cX1_greatestWorth 52 = .ok (.aload_n 0, 1) := by decide +kernel
theorem dX1_greatestWorth_53 : decode cX1_greatestWorth 53 = .ok (.getfield 16, 3) := by decide +kernel
theorem dX1_greatestWorth_56 : decode cX1_greatestWorth 56 = .ok (.iload 5, 2) := by decide +kernel
theorem dX1_greatestWorth_58 : decode cX1_greatestWorth 58 = .ok (.aload_n 0, 1) := by decide +kernel
theorem dX1_greatestWorth_59 : decode cX1_greatestWorth 59 = .ok (.getfield 16, 3) := by decide +kernel
theorem dX1_greatestWorth_62 : decode cX1_greatestWorth 62 = .ok (.iload 5, 2) := by decide +kernel
theorem dX1_greatestWorth_64 : decode cX1_greatestWorth 64 = .ok (.iconst 1, 1) := by decide +kernel
theorem dX1_greatestWorth_65 : decode cX1_greatestWorth 65 = .ok (.iadd, 1) := by decide +kernel
theorem dX1_greatestWorth_66 : decode cX1_greatestWorth 66 = .ok (.iaload, 1) := by decide +kernel
theorem dX1_greatestWorth_67 : decode cX1_greatestWorth 67 = .ok (.aload_n 0, 1) := by decide +kernel
theorem dX1_greatestWorth_68 : decode cX1_greatestWorth 68 = .ok (.iload 5, 2) := by decide +kernel
theorem dX1_greatestWorth_70 : decode cX1_greatestWorth 70 = .ok (.iload_n 1, 1) := by decide +kernel
theorem dX1_greatestWorth_71 : decode cX1_greatestWorth 71 = .ok (.iload 6, 2) := by decide +kernel
theorem dX1_greatestWorth_73 : decode cX1_greatestWorth 73 = .ok (.iload 4, 2) := by decide +kernel
theorem dX1_greatestWorth_75 : decode cX1_greatestWorth 75 = .ok (.invokevirtual 45, 3) := by decide +kernel
theorem dX1_greatestWorth_78 : decode cX1_greatestWorth 78 = .ok (.iadd, 1) := by decide +kernel
theorem dX1_greatestWorth_79 : decode cX1_greatestWorth 79 = .ok (.iastore, 1) := by decide +kernel
theorem dX1_greatestWorth_80 : decode cX1_greatestWorth 80 = .ok (.iinc 5 (-1), 3) := by decide +kernel
theorem dX1_greatestWorth_83 : decode cX1_greatestWorth 83 = .ok (.goto (-52), 3) := by decide +kernel
theorem dX1_greatestWorth_86 : decode cX1_greatestWorth 86 = .ok (.aload_n 0, 1) := by decide +kernel
theorem dX1_greatestWorth_87 : decode cX1_greatestWorth 87 = .ok (.getfield 29, 3) := by decide +kernel
theorem dX1_greatestWorth_90 : decode cX1_greatestWorth 90 = .ok (.getfield 49, 3) := by decide +kernel
theorem dX1_greatestWorth_93 : decode cX1_greatestWorth 93 = .ok (.iconst 0, 1) := by decide +kernel
theorem dX1_greatestWorth_94 : decode cX1_greatestWorth 94 = .ok (.aload_n 0, 1) := by decide +kernel
theorem dX1_greatestWorth_95 : decode cX1_greatestWorth 95 = .ok (.getfield 20, 3) := by decide +kernel
theorem dX1_greatestWorth_98 : decode cX1_greatestWorth 98 = .ok (.iconst 0, 1) := by decide +kernel
theorem dX1_greatestWorth_99 : decode cX1_greatestWorth 99 = .ok (.aload_n 0, 1) := by decide +kernel
theorem dX1_greatestWorth_100 : decode cX1_greatestWorth 100 = .ok (.getfield 29, 3) := by decide +kernel
theorem dX1_greatestWorth_103 : decode cX1_greatestWorth 103 = .ok (.getfield 52, 3) := by decide +kernel
theorem dX1_greatestWorth_106 : decode cX1_greatestWorth 106 = .ok (.invokestatic 55, 3) := by decide +kernel
theorem dX1_greatestWorth_109 : decode cX1_greatestWorth 109 = .ok (.aload_n 0, 1) := by decide +kernel
theorem dX1_greatestWorth_110 : decode cX1_greatestWorth 110 = .ok (.iconst (-1), 1) := by decide +kernel
theorem dX1_greatestWorth_111 : decode cX1_greatestWorth 111 = .ok (.putfield 61, 3) := by decide +kernel
theorem dX1_greatestWorth_114 : decode cX1_greatestWorth 114 = .ok (.aload_n 0, 1) := by decide +kernel
theorem dX1_greatestWorth_115 : decode cX1_greatestWorth 115 = .ok (.iconst 0, 1) := by decide +kernel
theorem dX1_greatestWorth_116 : decode cX1_greatestWorth 116 = .ok (.iconst 0, 1) := by decide +kernel
theorem dX1_greatestWorth_117 : decode cX1_greatestWorth 117 = .ok (.invokestatic 64, 3) := by decide +kernel
theorem dX1_greatestWorth_120 : decode cX1_greatestWorth 120 = .ok (.aload_n 0, 1) := by decide +kernel
theorem dX1_greatestWorth_121 : decode cX1_greatestWorth 121 = .ok (.getfield 61, 3) := by decide +kernel
theorem dX1_greatestWorth_124 : decode cX1_greatestWorth 124 = .ok (.ireturn, 1) := by decide +kernel
theorem dX1_fillWorth_0 : decode cX1_fillWorth 0 = .ok (.iconst 0, 1) := by decide +kernel
theorem dX1_fillWorth_1 : decode cX1_fillWorth 1 = .ok (.istore 5, 2) := by decide +kernel
theorem dX1_fillWorth_3 : decode cX1_fillWorth 3 = .ok (.iconst 0, 1) := by decide +kernel
theorem dX1_fillWorth_4 : decode cX1_fillWorth 4 = .ok (.istore 6, 2) := by decide +kernel
theorem dX1_fillWorth_6 : decode cX1_fillWorth 6 = .ok (.iload 6, 2) := by decide +kernel
theorem dX1_fillWorth_8 : decode cX1_fillWorth 8 = .ok (.aload_n 0, 1) := by decide +kernel
theorem dX1_fillWorth_9 : decode cX1_fillWorth 9 = .ok (.getfield 29, 3) := by decide +kernel
theorem dX1_fillWorth_12 : decode cX1_fillWorth 12 = .ok (.getfield 52, 3) := by decide +kernel
theorem dX1_fillWorth_15 : decode cX1_fillWorth 15 = .ok (.if_icmp .ge 90, 3) := by decide +kernel
theorem dX1_fillWorth_18 : decode cX1_fillWorth 18 = .ok (.aload_n 0, 1) := by decide +kernel
theorem dX1_fillWorth_19 : decode cX1_fillWorth 19 = .ok (.getfield 29, 3) := by decide +kernel
theorem dX1_fillWorth_22 : decode cX1_fillWorth 22 = .ok (.getfield 68, 3) := by decide +kernel
theorem dX1_fillWorth_25 : decode cX1_fillWorth 25 = .ok (.iload_n 1, 1) := by decide +kernel
theorem dX1_fillWorth_26 : decode cX1_fillWorth 26 = .ok (.aaload, 1) := by decide +kernel
theorem dX1_fillWorth_27 : decode cX1_fillWorth 27 = .ok (.iload 6, 2) := by decide +kernel
theorem dX1_fillWorth_29 : decode cX1_fillWorth 29 = .ok (.iaload, 1) := by decide +kernel
theorem dX1_fillWorth_30 : decode cX1_fillWorth 30 = .ok (.istore 7, 2) := by decide +kernel
theorem dX1_fillWorth_32 : decode cX1_fillWorth 32 = .ok (.aload_n 0, 1) := by decide +kernel
theorem dX1_fillWorth_33 : decode cX1_fillWorth 33 = .ok (.getfield 29, 3) := by decide +kernel
theorem dX1_fillWorth_36 : decode cX1_fillWorth 36 = .ok (.getfield 71, 3) := by decide +kernel
theorem dX1_fillWorth_39 : decode cX1_fillWorth 39 = .ok (.iload 6, 2) := by decide +kernel
theorem dX1_fillWorth_41 : decode cX1_fillWorth 41 = .ok (.baload, 1) := by decide +kernel
theorem dX1_fillWorth_42 : decode cX1_fillWorth 42 = .ok (.ifCond .eq 13, 3) := by decide +kernel
theorem dX1_fillWorth_45 : decode cX1_fillWorth 45 = .ok (.iload 7, 2) := by decide +kernel
theorem dX1_fillWorth_47 : decode cX1_fillWorth 47 = .ok (.iload_n 2, 1) := by decide +kernel
theorem dX1_fillWorth_48 : decode cX1_fillWorth 48 = .ok (.if_icmp .lt 7, 3) := by decide +kernel
theorem dX1_fillWorth_51 : decode cX1_fillWorth 51 = .ok (.iconst 1, 1) := by decide +kernel
theorem dX1_fillWorth_52 : decode cX1_fillWorth 52 = .ok (.goto 4, 3) := by decide +kernel
theorem dX1_fillWorth_55 : decode cX1_fillWorth 55 = .ok (.iconst 0, 1) := by decide +kernel
theorem dX1_fillWorth_56 : decode cX1_fillWorth 56 = .ok (.istore 8, 2) := by decide +kernel
theorem dX1_fillWorth_58 : decode cX1_fillWorth 58 = .ok (.aload_n 0, 1) := by decide +kernel
theorem dX1_fillWorth_59 : decode cX1_fillWorth 59 = .ok (.getfield 11, 3) := by decide +kernel
theorem dX1_fillWorth_62 : decode cX1_fillWorth 62 = .ok (.iload_n 1, 1) := by decide +kernel
theorem dX1_fillWorth_63 : decode cX1_fillWorth 63 = .ok (.aaload, 1) := by decide +kernel
theorem dX1_fillWorth_64 : decode cX1_fillWorth 64 = .ok (.iload 6, 2) := by decide +kernel
theorem dX1_fillWorth_66 : decode cX1_fillWorth 66 = .ok (.iload 8, 2) := by decide +kernel
theorem dX1_fillWorth_68 : decode cX1_fillWorth 68 = .ok (.ifCond .eq 13, 3) := by decide +kernel
theorem dX1_fillWorth_71 : decode cX1_fillWorth 71 = .ok (.iload_n 3, 1) := by decide +kernel
theorem dX1_fillWorth_72 : decode cX1_fillWorth 72 = .ok (.iload 4, 2) := by decide +kernel
theorem dX1_fillWorth_74 : decode cX1_fillWorth 74 = .ok (.iload 7, 2) := by decide +kernel
theorem dX1_fillWorth_76 : decode cX1_fillWorth 76 = .ok (.imul, 1) := by decide +kernel
theorem dX1_fillWorth_77 : decode cX1_fillWorth 77 = .ok (.iadd, 1) := by decide +kernel
theorem dX1_fillWorth_78 : decode cX1_fillWorth 78 = .ok (.goto 4, 3) := by decide +kernel
theorem dX1_fillWorth_81 : decode cX1_fillWorth 81 = .ok (.iconst 0, 1) := by decide +kernel
theorem dX1_fillWorth_82 : decode cX1_fillWorth 82 = .ok (.iastore, 1) := by decide +kernel
theorem dX1_fillWorth_83 : decode cX1_fillWorth 83 = .ok (.iload 5, 2) := by decide +kernel
theorem dX1_fillWorth_85 : decode cX1_fillWorth 85 = .ok (.aload_n 0, 1) := by decide +kernel
theorem dX1_fillWorth_86 : decode cX1_fillWorth 86 = .ok (.getfield 11, 3) := by decide +kernel
theorem dX1_fillWorth_89 : decode cX1_fillWorth 89 = .ok (.iload_n 1, 1) := by decide +kernel
theorem dX1_fillWorth_90 : decode cX1_fillWorth 90 = .ok (.aaload, 1) := by decide +kernel
theorem dX1_fillWorth_91 : decode cX1_fillWorth 91 = .ok (.iload 6, 2) := by decide +kernel
theorem dX1_fillWorth_93 : decode cX1_fillWorth 93 = .ok (.iaload, 1) := by decide +kernel
theorem dX1_fillWorth_94 : decode cX1_fillWorth 94 = .ok (.invokestatic 75, 3) := by decide +kernel
theorem dX1_fillWorth_97 : decode cX1_fillWorth 97 = .ok (.istore 5, 2) := by decide +kernel
theorem dX1_fillWorth_99 : decode cX1_fillWorth 99 = .ok (.iinc 6 1, 3) := by decide +kernel
theorem dX1_fillWorth_102 : decode cX1_fillWorth 102 = .ok (.goto (-96), 3) := by decide +kernel
theorem dX1_fillWorth_105 : decode cX1_fillWorth 105 = .ok (.iload 5, 2) := by decide +kernel
theorem dX1_fillWorth_107 : decode cX1_fillWorth 107 = .ok (.ireturn, 1) := by decide +kernel
set_option maxRecDepth 20000 in
theorem ggX1_place_X1_keep : GoodIn wsX1_place wsX1_keep := goodIn_r _ [14, 2, 9, 15, 3, 4, 16, 17, 18, 19, 22, 23, 24, 25, 26, 27, 28, 29, 30, 31, 32, 33, 34, 35, 36, 37, 38, 39, 40, 41] (by decide +kernel) (by decide +kernel)
set_option maxRecDepth 20000 in
theorem gX1_place_X1_keep : GoodIn wsX1_place (wsV RX1 81 RX1 yX1_keep wsX1_keep) := goodIn_app (goodIn_of _ (by decide +kernel)) ggX1_place_X1_keep
set_option maxRecDepth 20000 in
theorem ggX1_place_X1_place : GoodIn wsX1_place wsX1_place := goodIn_r _ [0, 1, 2, 3, 4, 5, 6, 7, 8, 9, 10, 11, 12, 13, 14, 15, 16, 17, 18, 19, 20, 21, 22, 23, 24, 25, 26, 27, 28, 29, 30, 31, 32, 33, 34, 35, 36, 37, 38, 39, 40, 41] (by decide +kernel) (by decide +kernel)
set_option maxRecDepth 20000 in
theorem gX1_place_X1_place : GoodIn wsX1_place (va_wsS RX1 64 yX1_place wsX1_place) := goodIn_app (goodIn_of _ (by decide +kernel)) ggX1_place_X1_place
theorem dX1_place_0 : decode cX1_place 0 = .ok (.iload_n 2, 1) := by decide +kernel
theorem dX1_place_1 : decode cX1_place 1 = .ok (.aload_n 0, 1) := by decide +kernel
theorem dX1_place_2 : decode cX1_place 2 = .ok (.getfield 16, 3) := by decide +kernel
theorem dX1_place_5 : decode cX1_place 5 = .ok (.iload_n 1, 1) := by decide +kernel
theorem dX1_place_6 : decode cX1_place 6 = .ok (.iaload, 1) := by decide +kernel
theorem dX1_place_7 : decode cX1_place 7 = .ok (.iadd, 1) := by decide +kernel
theorem dX1_place_8 : decode cX1_place 8 = .ok (.aload_n 0, 1) := by decide +kernel
theorem dX1_place_9 : decode cX1_place 9 = .ok (.getfield 61, 3) := by decide +kernel
theorem dX1_place_12 : decode cX1_place 12 = .ok (.if_icmp .gt 4, 3) := by decide +kernel
theorem dX1_place_15 : decode cX1_place 15 = .ok (.return_, 1) := by decide +kernel
theorem dX1_place_16 : decode cX1_place 16 = .ok (.iload_n 1, 1) := by decide +kernel
theorem dX1_place_17 : decode cX1_place 17 = .ok (.aload_n 0, 1) := by decide +kernel
theorem dX1_place_18 : decode cX1_place 18 = .ok (.getfield 29, 3) := by decide +kernel
theorem dX1_place_21 : decode cX1_place 21 = .ok (.getfield 38, 3) := by decide +kernel
theorem dX1_place_24 : decode cX1_place 24 = .ok (.if_icmp .lt 9, 3) := by decide +kernel
theorem dX1_place_27 : decode cX1_place 27 = .ok (.aload_n 0, 1) := by decide +kernel
theorem dX1_place_28 : decode cX1_place 28 = .ok (.iload_n 2, 1) := by decide +kernel
theorem dX1_place_29 : decode cX1_place 29 = .ok (.invokevirtual 81, 3) := by decide +kernel
theorem dX1_place_32 : decode cX1_place 32 = .ok (.return_, 1) := by decide +kernel
theorem dX1_place_33 : decode cX1_place 33 = .ok (.aload_n 0, 1) := by decide +kernel
theorem dX1_place_34 : decode cX1_place 34 = .ok (.getfield 29, 3) := by decide +kernel
theorem dX1_place_37 : decode cX1_place 37 = .ok (.getfield 42, 3) := by decide +kernel
theorem dX1_place_40 : decode cX1_place 40 = .ok (.iload_n 1, 1) := by decide +kernel
theorem dX1_place_41 : decode cX1_place 41 = .ok (.iaload, 1) := by decide +kernel
theorem dX1_place_42 : decode cX1_place 42 = .ok (.istore_n 3, 1) := by decide +kernel
theorem dX1_place_43 : decode cX1_place 43 = .ok (.iconst 0, 1) := by decide +kernel
theorem dX1_place_44 : decode cX1_place 44 = .ok (.istore 4, 2) := by decide +kernel
theorem dX1_place_46 : decode cX1_place 46 = .ok (.iload 4, 2) := by decide +kernel
theorem dX1_place_48 : decode cX1_place 48 = .ok (.aload_n 0, 1) := by decide +kernel
theorem dX1_place_49 : decode cX1_place 49 = .ok (.getfield 29, 3) := by decide +kernel
theorem dX1_place_52 : decode cX1_place 52 = .ok (.getfield 52, 3) := by decide +kernel
theorem dX1_place_55 : decode cX1_place 55 = .ok (.if_icmp .ge 77, 3) := by decide +kernel
theorem dX1_place_58 : decode cX1_place 58 = .ok (.aload_n 0, 1) := by decide +kernel
theorem dX1_place_59 : decode cX1_place 59 = .ok (.getfield 11, 3) := by decide +kernel
theorem dX1_place_62 : decode cX1_place 62 = .ok (.iload_n 1, 1) := by decide +kernel
theorem dX1_place_63 : decode cX1_place 63 = .ok (.aaload, 1) := by decide +kernel
theorem dX1_place_64 : decode cX1_place 64 = .ok (.iload 4, 2) := by decide +kernel
theorem dX1_place_66 : decode cX1_place 66 = .ok (.iaload, 1) := by decide +kernel
theorem dX1_place_67 : decode cX1_place 67 = .ok (.istore 5, 2) := by decide +kernel
theorem dX1_place_69 : decode cX1_place 69 = .ok (.iload 5, 2) := by decide +kernel
theorem dX1_place_71 : decode cX1_place 71 = .ok (.ifCond .le 55, 3) := by decide +kernel
theorem dX1_place_74 : decode cX1_place 74 = .ok (.aload_n 0, 1) := by decide +kernel
theorem dX1_place_75 : decode cX1_place 75 = .ok (.getfield 20, 3) := by decide +kernel
theorem dX1_place_78 : decode cX1_place 78 = .ok (.iload 4, 2) := by decide +kernel
theorem dX1_place_80 : decode cX1_place 80 = .ok (.iaload, 1) := by decide +kernel
theorem dX1_place_81 : decode cX1_place 81 = .ok (.iload_n 3, 1) := by decide +kernel
theorem dX1_place_82 : decode cX1_place 82 = .ok (.if_icmp .lt 44, 3) := by decide +kernel
theorem dX1_place_85 : decode cX1_place 85 = .ok (.aload_n 0, 1) := by decide +kernel
theorem dX1_place_86 : decode cX1_place 86 = .ok (.getfield 20, 3) := by decide +kernel
theorem dX1_place_89 : decode cX1_place 89 = .ok (.iload 4, 2) := by decide +kernel
theorem dX1_place_91 : decode cX1_place 91 = .ok (.dup2, 1) := by decide +kernel
theorem dX1_place_92 : decode cX1_place 92 = .ok (.iaload, 1) := by decide +kernel
theorem dX1_place_93 : decode cX1_place 93 = .ok (.iload_n 3, 1) := by decide +kernel
theorem dX1_place_94 : decode cX1_place 94 = .ok (.isub, 1) := by decide +kernel
theorem dX1_place_95 : decode cX1_place 95 = .ok (.iastore, 1) := by decide +kernel
theorem dX1_place_96 : decode cX1_place 96 = .ok (.aload_n 0, 1) := by decide +kernel
theorem dX1_place_97 : decode cX1_place 97 = .ok (.getfield 23, 3) := by decide +kernel
theorem dX1_place_100 : decode cX1_place 100 = .ok (.iload_n 1, 1) := by decide +kernel
theorem dX1_place_101 : decode cX1_place 101 = .ok (.iload 4, 2) := by decide +kernel
theorem dX1_place_103 : decode cX1_place 103 = .ok (.iastore, 1) := by decide +kernel
theorem dX1_place_104 : decode cX1_place 104 = .ok (.aload_n 0, 1) := by decide +kernel
theorem dX1_place_105 : decode cX1_place 105 = .ok (.iload_n 1, 1) := by decide +kernel
theorem dX1_place_106 : decode cX1_place 106 = .ok (.iconst 1, 1) := by decide +kernel
theorem dX1_place_107 : decode cX1_place 107 = .ok (.iadd, 1) := by decide +kernel
theorem dX1_place_108 : decode cX1_place 108 = .ok (.iload_n 2, 1) := by decide +kernel
theorem dX1_place_109 : decode cX1_place 109 = .ok (.iload 5, 2) := by decide +kernel
theorem dX1_place_111 : decode cX1_place 111 = .ok (.iadd, 1) := by decide +kernel
theorem dX1_place_112 : decode cX1_place 112 = .ok (.invokestatic 64, 3) := by decide +kernel
theorem dX1_place_115 : decode cX1_place 115 = .ok (.aload_n 0, 1) := by decide +kernel
theorem dX1_place_116 : decode cX1_place 116 = .ok (.getfield 20, 3) := by decide +kernel
theorem dX1_place_119 : decode cX1_place 119 = .ok (.iload 4, 2) := by decide +kernel
theorem dX1_place_121 : decode cX1_place 121 = .ok (.dup2, 1) := by decide +kernel
theorem dX1_place_122 : decode cX1_place 122 = .ok (.iaload, 1) := by decide +kernel
theorem dX1_place_123 : decode cX1_place 123 = .ok (.iload_n 3, 1) := by decide +kernel
theorem dX1_place_124 : decode cX1_place 124 = .ok (.iadd, 1) := by decide +kernel
theorem dX1_place_125 : decode cX1_place 125 = .ok (.iastore, 1) := by decide +kernel
theorem dX1_place_126 : decode cX1_place 126 = .ok (.iinc 4 1, 3) := by decide +kernel
theorem dX1_place_129 : decode cX1_place 129 = .ok (.goto (-83), 3) := by decide +kernel
theorem dX1_place_132 : decode cX1_place 132 = .ok (.aload_n 0, 1) := by decide +kernel
theorem dX1_place_133 : decode cX1_place 133 = .ok (.getfield 23, 3) := by decide +kernel
theorem dX1_place_136 : decode cX1_place 136 = .ok (.iload_n 1, 1) := by decide +kernel
theorem dX1_place_137 : decode cX1_place 137 = .ok (.iconst (-1), 1) := by decide +kernel
theorem dX1_place_138 : decode cX1_place 138 = .ok (.iastore, 1) := by decide +kernel
theorem dX1_place_139 : decode cX1_place 139 = .ok (.aload_n 0, 1) := by decide +kernel
theorem dX1_place_140 : decode cX1_place 140 = .ok (.iload_n 1, 1) := by decide +kernel
theorem dX1_place_141 : decode cX1_place 141 = .ok (.iconst 1, 1) := by decide +kernel
theorem dX1_place_142 : decode cX1_place 142 = .ok (.iadd, 1) := by decide +kernel
theorem dX1_place_143 : decode cX1_place 143 = .ok (.iload_n 2, 1) := by decide +kernel
theorem dX1_place_144 : decode cX1_place 144 = .ok (.invokestatic 64, 3) := by decide +kernel
theorem dX1_place_147 : decode cX1_place 147 = .ok (.return_, 1) := by decide +kernel
theorem dX1_keep_0 : decode cX1_keep 0 = .ok (.aload_n 0, 1) := by decide +kernel
theorem dX1_keep_1 : decode cX1_keep 1 = .ok (.iload_n 1, 1) := by decide +kernel
theorem dX1_keep_2 : decode cX1_keep 2 = .ok (.putfield 61, 3) := by decide +kernel
theorem dX1_keep_5 : decode cX1_keep 5 = .ok (.aload_n 0, 1) := by decide +kernel
theorem dX1_keep_6 : decode cX1_keep 6 = .ok (.getfield 23, 3) := by decide +kernel
theorem dX1_keep_9 : decode cX1_keep 9 = .ok (.iconst 0, 1) := by decide +kernel
theorem dX1_keep_10 : decode cX1_keep 10 = .ok (.aload_n 0, 1) := by decide +kernel
theorem dX1_keep_11 : decode cX1_keep 11 = .ok (.getfield 26, 3) := by decide +kernel
theorem dX1_keep_14 : decode cX1_keep 14 = .ok (.iconst 0, 1) := by decide +kernel
theorem dX1_keep_15 : decode cX1_keep 15 = .ok (.aload_n 0, 1) := by decide +kernel
theorem dX1_keep_16 : decode cX1_keep 16 = .ok (.getfield 29, 3) := by decide +kernel
theorem dX1_keep_19 : decode cX1_keep 19 = .ok (.getfield 38, 3) := by decide +kernel
theorem dX1_keep_22 : decode cX1_keep 22 = .ok (.invokestatic 55, 3) := by decide +kernel
theorem dX1_keep_25 : decode cX1_keep 25 = .ok (.return_, 1) := by decide +kernel
