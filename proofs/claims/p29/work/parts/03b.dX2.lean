set_option maxRecDepth 20000 in
theorem ggX2_init_X0_init : GoodIn wsX2_init wsX0_init := goodIn_r _ [21, 22, 2, 3, 12, 23, 24, 25, 26, 27, 28, 29, 30, 31, 32, 33, 34, 35, 47, 48, 49, 50, 51, 52, 53, 54, 55, 56, 57, 58, 59] (by decide +kernel) (by decide +kernel)
set_option maxRecDepth 20000 in
theorem gX2_init_X0_init_n9 : GoodIn wsX2_init (wsX0_init) := ggX2_init_X0_init
set_option maxRecDepth 20000 in
theorem ggX2_init_X1_init : GoodIn wsX2_init wsX1_init := goodIn_r _ [38, 39, 2, 3, 40, 12, 41, 42, 43, 44, 45, 46, 73, 74, 75, 76, 77, 78, 79] (by decide +kernel) (by decide +kernel)
set_option maxRecDepth 20000 in
theorem gX2_init_X1_init : GoodIn wsX2_init (wsX1_init) := ggX2_init_X1_init
theorem dX2_init_0 : decode cX2_init 0 = .ok (.aload_n 0, 1) := by decide +kernel
theorem dX2_init_1 : decode cX2_init 1 = .ok (.invokespecial 1, 3) := by decide +kernel
theorem dX2_init_4 : decode cX2_init 4 = .ok (.aload_n 0, 1) := by decide +kernel
theorem dX2_init_5 : decode cX2_init 5 = .ok (.new 7, 3) := by decide +kernel
theorem dX2_init_8 : decode cX2_init 8 = .ok (.dup, 1) := by decide +kernel
theorem dX2_init_9 : decode cX2_init 9 = .ok (.invokespecial 9, 3) := by decide +kernel
theorem dX2_init_12 : decode cX2_init 12 = .ok (.putfield 10, 3) := by decide +kernel
theorem dX2_init_15 : decode cX2_init 15 = .ok (.aload_n 0, 1) := by decide +kernel
theorem dX2_init_16 : decode cX2_init 16 = .ok (.new 16, 3) := by decide +kernel
theorem dX2_init_19 : decode cX2_init 19 = .ok (.dup, 1) := by decide +kernel
theorem dX2_init_20 : decode cX2_init 20 = .ok (.aload_n 0, 1) := by decide +kernel
theorem dX2_init_21 : decode cX2_init 21 = .ok (.getfield 10, 3) := by decide +kernel
theorem dX2_init_24 : decode cX2_init 24 = .ok (.invokespecial 18, 3) := by decide +kernel
theorem dX2_init_27 : decode cX2_init 27 = .ok (.putfield 21, 3) := by decide +kernel
theorem dX2_init_30 : decode cX2_init 30 = .ok (.aload_n 0, 1) := by decide +kernel
theorem dX2_init_31 : decode cX2_init 31 = .ok (.bipush 6, 2) := by decide +kernel
theorem dX2_init_33 : decode cX2_init 33 = .ok (.newarray .int, 2) := by decide +kernel
theorem dX2_init_35 : decode cX2_init 35 = .ok (.putfield 25, 3) := by decide +kernel
theorem dX2_init_38 : decode cX2_init 38 = .ok (.aload_n 0, 1) := by decide +kernel
theorem dX2_init_39 : decode cX2_init 39 = .ok (.bipush 6, 2) := by decide +kernel
theorem dX2_init_41 : decode cX2_init 41 = .ok (.newarray .int, 2) := by decide +kernel
theorem dX2_init_43 : decode cX2_init 43 = .ok (.putfield 29, 3) := by decide +kernel
theorem dX2_init_46 : decode cX2_init 46 = .ok (.aload_n 0, 1) := by decide +kernel
theorem dX2_init_47 : decode cX2_init 47 = .ok (.bipush 6, 2) := by decide +kernel
theorem dX2_init_49 : decode cX2_init 49 = .ok (.newarray .int, 2) := by decide +kernel
theorem dX2_init_51 : decode cX2_init 51 = .ok (.putfield 32, 3) := by decide +kernel
theorem dX2_init_54 : decode cX2_init 54 = .ok (.aload_n 0, 1) := by decide +kernel
theorem dX2_init_55 : decode cX2_init 55 = .ok (.bipush 6, 2) := by decide +kernel
theorem dX2_init_57 : decode cX2_init 57 = .ok (.newarray .int, 2) := by decide +kernel
theorem dX2_init_59 : decode cX2_init 59 = .ok (.putfield 35, 3) := by decide +kernel
theorem dX2_init_62 : decode cX2_init 62 = .ok (.aload_n 0, 1) := by decide +kernel
theorem dX2_init_63 : decode cX2_init 63 = .ok (.bipush 20, 2) := by decide +kernel
theorem dX2_init_65 : decode cX2_init 65 = .ok (.putfield 38, 3) := by decide +kernel
theorem dX2_init_68 : decode cX2_init 68 = .ok (.aload_n 0, 1) := by decide +kernel
theorem dX2_init_69 : decode cX2_init 69 = .ok (.iconst 2, 1) := by decide +kernel
theorem dX2_init_70 : decode cX2_init 70 = .ok (.putfield 42, 3) := by decide +kernel
theorem dX2_init_73 : decode cX2_init 73 = .ok (.aload_n 0, 1) := by decide +kernel
theorem dX2_init_74 : decode cX2_init 74 = .ok (.bipush 100, 2) := by decide +kernel
theorem dX2_init_76 : decode cX2_init 76 = .ok (.putfield 45, 3) := by decide +kernel
theorem dX2_init_79 : decode cX2_init 79 = .ok (.return_, 1) := by decide +kernel
set_option maxRecDepth 20000 in
theorem ggX2_cell_X2_requireRange : GoodIn wsX2_cell wsX2_requireRange := goodIn_ca (goodIn_r _ [8, 9, 10] (by decide +kernel) (by decide +kernel)) (goodIn_sub (fun _ h => List.mem_cons_of_mem _ (List.mem_append_right _ h)) (by decide +kernel))
set_option maxRecDepth 20000 in
theorem gX2_cell_X2_requireRange : GoodIn wsX2_cell (va_wsS RX2 48 yX2_requireRange wsX2_requireRange) := goodIn_app (goodIn_of _ (by decide +kernel)) ggX2_cell_X2_requireRange
set_option maxRecDepth 20000 in
theorem ggX2_cell_X0_addCell : GoodIn wsX2_cell wsX0_addCell := goodIn_r _ [15, 16, 17, 18, 19, 20, 21, 35, 36, 37, 38, 39, 40, 41, 42, 43, 44, 45, 46, 47] (by decide +kernel) (by decide +kernel)
set_option maxRecDepth 20000 in
theorem gX2_cell_X0_addCell : GoodIn wsX2_cell (wsV RX2 62 RX0 yX0_addCell wsX0_addCell) := goodIn_app (goodIn_of _ (by decide +kernel)) ggX2_cell_X0_addCell
theorem dX2_cell_0 : decode cX2_cell 0 = .ok (.iload_n 1, 1) := by decide +kernel
theorem dX2_cell_1 : decode cX2_cell 1 = .ok (.i2l, 1) := by decide +kernel
theorem dX2_cell_2 : decode cX2_cell 2 = .ok (.iconst 0, 1) := by decide +kernel
theorem dX2_cell_3 : decode cX2_cell 3 = .ok (.bipush 63, 2) := by decide +kernel
theorem dX2_cell_5 : decode cX2_cell 5 = .ok (.invokestatic 48, 3) := by decide +kernel
theorem dX2_cell_8 : decode cX2_cell 8 = .ok (.iload_n 2, 1) := by decide +kernel
theorem dX2_cell_9 : decode cX2_cell 9 = .ok (.i2l, 1) := by decide +kernel
theorem dX2_cell_10 : decode cX2_cell 10 = .ok (.iconst 0, 1) := by decide +kernel
theorem dX2_cell_11 : decode cX2_cell 11 = .ok (.bipush 63, 2) := by decide +kernel
theorem dX2_cell_13 : decode cX2_cell 13 = .ok (.invokestatic 48, 3) := by decide +kernel
theorem dX2_cell_16 : decode cX2_cell 16 = .ok (.iload_n 3, 1) := by decide +kernel
theorem dX2_cell_17 : decode cX2_cell 17 = .ok (.i2l, 1) := by decide +kernel
theorem dX2_cell_18 : decode cX2_cell 18 = .ok (.iconst 0, 1) := by decide +kernel
theorem dX2_cell_19 : decode cX2_cell 19 = .ok (.iconst 2, 1) := by decide +kernel
theorem dX2_cell_20 : decode cX2_cell 20 = .ok (.invokestatic 48, 3) := by decide +kernel
theorem dX2_cell_23 : decode cX2_cell 23 = .ok (.iload 4, 2) := by decide +kernel
theorem dX2_cell_25 : decode cX2_cell 25 = .ok (.i2l, 1) := by decide +kernel
theorem dX2_cell_26 : decode cX2_cell 26 = .ok (.iconst 1, 1) := by decide +kernel
theorem dX2_cell_27 : decode cX2_cell 27 = .ok (.bipush 40, 2) := by decide +kernel
theorem dX2_cell_29 : decode cX2_cell 29 = .ok (.invokestatic 48, 3) := by decide +kernel
theorem dX2_cell_32 : decode cX2_cell 32 = .ok (.aload_n 0, 1) := by decide +kernel
theorem dX2_cell_33 : decode cX2_cell 33 = .ok (.getfield 10, 3) := by decide +kernel
theorem dX2_cell_36 : decode cX2_cell 36 = .ok (.getfield 52, 3) := by decide +kernel
theorem dX2_cell_39 : decode cX2_cell 39 = .ok (.iconst 5, 1) := by decide +kernel
theorem dX2_cell_40 : decode cX2_cell 40 = .ok (.if_icmp .lt 13, 3) := by decide +kernel
theorem dX2_cell_43 : decode cX2_cell 43 = .ok (.new 55, 3) := by decide +kernel
theorem dX2_cell_46 : decode cX2_cell 46 = .ok (.dup, 1) := by decide +kernel
theorem dX2_cell_47 : decode cX2_cell 47 = .ok (.ldc 57, 2) := by decide +kernel
theorem dX2_cell_49 : decode cX2_cell 49 = .ok (.invokespecial 59, 3) := by decide +kernel
theorem dX2_cell_52 : decode cX2_cell 52 = .ok (.athrow, 1) := by decide +kernel
theorem dX2_cell_53 : decode cX2_cell 53 = .ok (.aload_n 0, 1) := by decide +kernel
theorem dX2_cell_54 : decode cX2_cell 54 = .ok (.getfield 10, 3) := by decide +kernel
theorem dX2_cell_57 : decode cX2_cell 57 = .ok (.iload_n 1, 1) := by decide +kernel
theorem dX2_cell_58 : decode cX2_cell 58 = .ok (.iload_n 2, 1) := by decide +kernel
theorem dX2_cell_59 : decode cX2_cell 59 = .ok (.iload_n 3, 1) := by decide +kernel
theorem dX2_cell_60 : decode cX2_cell 60 = .ok (.iload 4, 2) := by decide +kernel
theorem dX2_cell_62 : decode cX2_cell 62 = .ok (.invokevirtual 62, 3) := by decide +kernel
theorem dX2_cell_65 : decode cX2_cell 65 = .ok (.ireturn, 1) := by decide +kernel
set_option maxRecDepth 20000 in
theorem ggX2_turn_X2_requireCell : GoodIn wsX2_turn wsX2_requireCell := goodIn_ca (goodIn_r _ [7, 8, 9, 1, 10, 23, 24, 25, 26, 27, 28, 29, 30, 31, 32, 33, 34, 35, 36, 37, 38, 39, 40, 41, 42, 43, 44, 45, 46, 47, 48] (by decide +kernel) (by decide +kernel)) (goodIn_sub (fun _ h => List.mem_cons_of_mem _ (List.mem_append_right _ h)) (by decide +kernel))
set_option maxRecDepth 20000 in
theorem gX2_turn_X2_requireCell : GoodIn wsX2_turn (wsV RX2 66 RX2 yX2_requireCell wsX2_requireCell) := goodIn_app (goodIn_of _ (by decide +kernel)) ggX2_turn_X2_requireCell
set_option maxRecDepth 20000 in
theorem ggX2_turn_X2_releaseWalkers : GoodIn wsX2_turn wsX2_releaseWalkers := goodIn_r _ [14, 1, 15, 16, 17, 18, 19, 6, 20, 21, 22, 23, 24, 25, 26, 27, 28, 29, 30, 31, 32, 33, 34, 35, 36, 37, 38, 39, 40, 41, 42, 43, 44, 45, 46, 47, 48] (by decide +kernel) (by decide +kernel)
set_option maxRecDepth 20000 in
theorem gX2_turn_X2_releaseWalkers : GoodIn wsX2_turn (wsV RX2 74 RX2 yX2_releaseWalkers wsX2_releaseWalkers) := goodIn_app (goodIn_of _ (by decide +kernel)) ggX2_turn_X2_releaseWalkers
theorem dX2_turn_0 : decode cX2_turn 0 = .ok (.aload_n 0, 1) := by decide +kernel
theorem dX2_turn_1 : decode cX2_turn 1 = .ok (.iload_n 1, 1) := by decide +kernel
theorem dX2_turn_2 : decode cX2_turn 2 = .ok (.invokevirtual 66, 3) := by decide +kernel
theorem dX2_turn_5 : decode cX2_turn 5 = .ok (.aload_n 0, 1) := by decide +kernel
theorem dX2_turn_6 : decode cX2_turn 6 = .ok (.getfield 10, 3) := by decide +kernel
theorem dX2_turn_9 : decode cX2_turn 9 = .ok (.getfield 70, 3) := by decide +kernel
theorem dX2_turn_12 : decode cX2_turn 12 = .ok (.iload_n 1, 1) := by decide +kernel
theorem dX2_turn_13 : decode cX2_turn 13 = .ok (.aload_n 0, 1) := by decide +kernel
theorem dX2_turn_14 : decode cX2_turn 14 = .ok (.getfield 10, 3) := by decide +kernel
theorem dX2_turn_17 : decode cX2_turn 17 = .ok (.getfield 70, 3) := by decide +kernel
theorem dX2_turn_20 : decode cX2_turn 20 = .ok (.iload_n 1, 1) := by decide +kernel
theorem dX2_turn_21 : decode cX2_turn 21 = .ok (.baload, 1) := by decide +kernel
theorem dX2_turn_22 : decode cX2_turn 22 = .ok (.ifCond .ne 7, 3) := by decide +kernel
theorem dX2_turn_25 : decode cX2_turn 25 = .ok (.iconst 1, 1) := by decide +kernel
theorem dX2_turn_26 : decode cX2_turn 26 = .ok (.goto 4, 3) := by decide +kernel
theorem dX2_turn_29 : decode cX2_turn 29 = .ok (.iconst 0, 1) := by decide +kernel
theorem dX2_turn_30 : decode cX2_turn 30 = .ok (.bastore, 1) := by decide +kernel
theorem dX2_turn_31 : decode cX2_turn 31 = .ok (.aload_n 0, 1) := by decide +kernel
theorem dX2_turn_32 : decode cX2_turn 32 = .ok (.getfield 10, 3) := by decide +kernel
theorem dX2_turn_35 : decode cX2_turn 35 = .ok (.getfield 70, 3) := by decide +kernel
theorem dX2_turn_38 : decode cX2_turn 38 = .ok (.iload_n 1, 1) := by decide +kernel
theorem dX2_turn_39 : decode cX2_turn 39 = .ok (.baload, 1) := by decide +kernel
theorem dX2_turn_40 : decode cX2_turn 40 = .ok (.ifCond .ne 8, 3) := by decide +kernel
theorem dX2_turn_43 : decode cX2_turn 43 = .ok (.aload_n 0, 1) := by decide +kernel
theorem dX2_turn_44 : decode cX2_turn 44 = .ok (.iload_n 1, 1) := by decide +kernel
theorem dX2_turn_45 : decode cX2_turn 45 = .ok (.invokevirtual 74, 3) := by decide +kernel
theorem dX2_turn_48 : decode cX2_turn 48 = .ok (.aload_n 0, 1) := by decide +kernel
theorem dX2_turn_49 : decode cX2_turn 49 = .ok (.getfield 10, 3) := by decide +kernel
theorem dX2_turn_52 : decode cX2_turn 52 = .ok (.getfield 70, 3) := by decide +kernel
theorem dX2_turn_55 : decode cX2_turn 55 = .ok (.iload_n 1, 1) := by decide +kernel
theorem dX2_turn_56 : decode cX2_turn 56 = .ok (.baload, 1) := by decide +kernel
theorem dX2_turn_57 : decode cX2_turn 57 = .ok (.ireturn, 1) := by decide +kernel
set_option maxRecDepth 20000 in
theorem ggX2_tune_X2_requireCell : GoodIn wsX2_tune wsX2_requireCell := goodIn_ca (goodIn_r _ [7, 8, 9, 1, 10, 16, 17, 18, 19, 20, 21, 22, 23, 24, 25, 26, 27, 28, 29, 30, 31, 32, 33, 34, 35, 36, 37, 38, 39, 40, 41] (by decide +kernel) (by decide +kernel)) (goodIn_sub (fun _ h => List.mem_cons_of_mem _ (List.mem_append_left _ (List.mem_append_right _ h))) (by decide +kernel))
set_option maxRecDepth 20000 in
theorem gX2_tune_X2_requireCell : GoodIn wsX2_tune (wsV RX2 66 RX2 yX2_requireCell wsX2_requireCell) := goodIn_app (goodIn_of _ (by decide +kernel)) ggX2_tune_X2_requireCell
set_option maxRecDepth 20000 in
theorem ggX2_tune_X2_requireRange : GoodIn wsX2_tune wsX2_requireRange := goodIn_ca (goodIn_r _ [13, 14, 15] (by decide +kernel) (by decide +kernel)) (goodIn_sub (fun _ h => List.mem_cons_of_mem _ (List.mem_append_right _ h)) (by decide +kernel))
set_option maxRecDepth 20000 in
theorem gX2_tune_X2_requireRange : GoodIn wsX2_tune (va_wsS RX2 48 yX2_requireRange wsX2_requireRange) := goodIn_app (goodIn_of _ (by decide +kernel)) ggX2_tune_X2_requireRange
theorem dX2_tune_0 : decode cX2_tune 0 = .ok (.aload_n 0, 1) := by decide +kernel
theorem dX2_tune_1 : decode cX2_tune 1 = .ok (.iload_n 1, 1) := by decide +kernel
theorem dX2_tune_2 : decode cX2_tune 2 = .ok (.invokevirtual 66, 3) := by decide +kernel
theorem dX2_tune_5 : decode cX2_tune 5 = .ok (.iload_n 2, 1) := by decide +kernel
theorem dX2_tune_6 : decode cX2_tune 6 = .ok (.i2l, 1) := by decide +kernel
theorem dX2_tune_7 : decode cX2_tune 7 = .ok (.iconst 0, 1) := by decide +kernel
theorem dX2_tune_8 : decode cX2_tune 8 = .ok (.iconst 2, 1) := by decide +kernel
theorem dX2_tune_9 : decode cX2_tune 9 = .ok (.invokestatic 48, 3) := by decide +kernel
theorem dX2_tune_12 : decode cX2_tune 12 = .ok (.aload_n 0, 1) := by decide +kernel
theorem dX2_tune_13 : decode cX2_tune 13 = .ok (.getfield 10, 3) := by decide +kernel
theorem dX2_tune_16 : decode cX2_tune 16 = .ok (.getfield 77, 3) := by decide +kernel
theorem dX2_tune_19 : decode cX2_tune 19 = .ok (.iload_n 1, 1) := by decide +kernel
theorem dX2_tune_20 : decode cX2_tune 20 = .ok (.iaload, 1) := by decide +kernel
theorem dX2_tune_21 : decode cX2_tune 21 = .ok (.istore_n 3, 1) := by decide +kernel
theorem dX2_tune_22 : decode cX2_tune 22 = .ok (.aload_n 0, 1) := by decide +kernel
theorem dX2_tune_23 : decode cX2_tune 23 = .ok (.getfield 10, 3) := by decide +kernel
theorem dX2_tune_26 : decode cX2_tune 26 = .ok (.getfield 77, 3) := by decide +kernel
theorem dX2_tune_29 : decode cX2_tune 29 = .ok (.iload_n 1, 1) := by decide +kernel
theorem dX2_tune_30 : decode cX2_tune 30 = .ok (.iload_n 2, 1) := by decide +kernel
theorem dX2_tune_31 : decode cX2_tune 31 = .ok (.iastore, 1) := by decide +kernel
theorem dX2_tune_32 : decode cX2_tune 32 = .ok (.iload_n 3, 1) := by decide +kernel
theorem dX2_tune_33 : decode cX2_tune 33 = .ok (.ireturn, 1) := by decide +kernel
set_option maxRecDepth 20000 in
theorem ggX2_walker_X2_requireRange : GoodIn wsX2_walker wsX2_requireRange := goodIn_ca (goodIn_r _ [9, 10, 11] (by decide +kernel) (by decide +kernel)) (goodIn_sub (fun _ h => List.mem_cons_of_mem _ (List.mem_append_right _ h)) (by decide +kernel))
set_option maxRecDepth 20000 in
theorem gX2_walker_X2_requireRange : GoodIn wsX2_walker (va_wsS RX2 48 yX2_requireRange wsX2_requireRange) := goodIn_app (goodIn_of _ (by decide +kernel)) ggX2_walker_X2_requireRange
set_option maxRecDepth 20000 in
theorem ggX2_walker_X0_addWalker : GoodIn wsX2_walker wsX0_addWalker := goodIn_r _ [16, 17, 18, 19, 20, 21, 41, 42, 43, 44, 45, 46, 47, 48, 49, 50, 51, 52, 53] (by decide +kernel) (by decide +kernel)
set_option maxRecDepth 20000 in
theorem gX2_walker_X0_addWalker : GoodIn wsX2_walker (wsV RX2 85 RX0 yX0_addWalker wsX0_addWalker) := goodIn_app (goodIn_of _ (by decide +kernel)) ggX2_walker_X0_addWalker
set_option maxRecDepth 20000 in
theorem ggX2_walker_X2_dropFavourite : GoodIn wsX2_walker wsX2_dropFavourite := goodIn_r _ [25, 26, 27, 28, 29, 30, 31, 32, 33, 34, 35, 36, 37, 38, 39, 40] (by decide +kernel) (by decide +kernel)
set_option maxRecDepth 20000 in
theorem gX2_walker_X2_dropFavourite : GoodIn wsX2_walker (wsV RX2 89 RX2 yX2_dropFavourite wsX2_dropFavourite) := goodIn_app (goodIn_of _ (by decide +kernel)) ggX2_walker_X2_dropFavourite
theorem dX2_walker_0 : decode cX2_walker 0 = .ok (.iload_n 1, 1) := by decide +kernel
theorem dX2_walker_1 : decode cX2_walker 1 = .ok (.i2l, 1) := by decide +kernel
theorem dX2_walker_2 : decode cX2_walker 2 = .ok (.iconst 0, 1) := by decide +kernel
theorem dX2_walker_3 : decode cX2_walker 3 = .ok (.bipush 63, 2) := by decide +kernel
theorem dX2_walker_5 : decode cX2_walker 5 = .ok (.invokestatic 48, 3) := by decide +kernel
theorem dX2_walker_8 : decode cX2_walker 8 = .ok (.iload_n 2, 1) := by decide +kernel
theorem dX2_walker_9 : decode cX2_walker 9 = .ok (.i2l, 1) := by decide +kernel
theorem dX2_walker_10 : decode cX2_walker 10 = .ok (.iconst 0, 1) := by decide +kernel
theorem dX2_walker_11 : decode cX2_walker 11 = .ok (.bipush 63, 2) := by decide +kernel
theorem dX2_walker_13 : decode cX2_walker 13 = .ok (.invokestatic 48, 3) := by decide +kernel
theorem dX2_walker_16 : decode cX2_walker 16 = .ok (.iload_n 3, 1) := by decide +kernel
theorem dX2_walker_17 : decode cX2_walker 17 = .ok (.i2l, 1) := by decide +kernel
theorem dX2_walker_18 : decode cX2_walker 18 = .ok (.iconst 1, 1) := by decide +kernel
theorem dX2_walker_19 : decode cX2_walker 19 = .ok (.bipush 10, 2) := by decide +kernel
theorem dX2_walker_21 : decode cX2_walker 21 = .ok (.invokestatic 48, 3) := by decide +kernel
theorem dX2_walker_24 : decode cX2_walker 24 = .ok (.aload_n 0, 1) := by decide +kernel
theorem dX2_walker_25 : decode cX2_walker 25 = .ok (.getfield 10, 3) := by decide +kernel
theorem dX2_walker_28 : decode cX2_walker 28 = .ok (.getfield 80, 3) := by decide +kernel
theorem dX2_walker_31 : decode cX2_walker 31 = .ok (.bipush 6, 2) := by decide +kernel
theorem dX2_walker_33 : decode cX2_walker 33 = .ok (.if_icmp .lt 13, 3) := by decide +kernel
theorem dX2_walker_36 : decode cX2_walker 36 = .ok (.new 55, 3) := by decide +kernel
theorem dX2_walker_39 : decode cX2_walker 39 = .ok (.dup, 1) := by decide +kernel
theorem dX2_walker_40 : decode cX2_walker 40 = .ok (.ldc 83, 2) := by decide +kernel
theorem dX2_walker_42 : decode cX2_walker 42 = .ok (.invokespecial 59, 3) := by decide +kernel
theorem dX2_walker_45 : decode cX2_walker 45 = .ok (.athrow, 1) := by decide +kernel
theorem dX2_walker_46 : decode cX2_walker 46 = .ok (.aload_n 0, 1) := by decide +kernel
theorem dX2_walker_47 : decode cX2_walker 47 = .ok (.getfield 10, 3) := by decide +kernel
theorem dX2_walker_50 : decode cX2_walker 50 = .ok (.iload_n 1, 1) := by decide +kernel
theorem dX2_walker_51 : decode cX2_walker 51 = .ok (.iload_n 2, 1) := by decide +kernel
theorem dX2_walker_52 : decode cX2_walker 52 = .ok (.iload_n 3, 1) := by decide +kernel
theorem dX2_walker_53 : decode cX2_walker 53 = .ok (.invokevirtual 85, 3) := by decide +kernel
theorem dX2_walker_56 : decode cX2_walker 56 = .ok (.istore 4, 2) := by decide +kernel
theorem dX2_walker_58 : decode cX2_walker 58 = .ok (.aload_n 0, 1) := by decide +kernel
theorem dX2_walker_59 : decode cX2_walker 59 = .ok (.iload 4, 2) := by decide +kernel
theorem dX2_walker_61 : decode cX2_walker 61 = .ok (.invokevirtual 89, 3) := by decide +kernel
theorem dX2_walker_64 : decode cX2_walker 64 = .ok (.aload_n 0, 1) := by decide +kernel
theorem dX2_walker_65 : decode cX2_walker 65 = .ok (.getfield 32, 3) := by decide +kernel
theorem dX2_walker_68 : decode cX2_walker 68 = .ok (.iload 4, 2) := by decide +kernel
theorem dX2_walker_70 : decode cX2_walker 70 = .ok (.iconst (-1), 1) := by decide +kernel
theorem dX2_walker_71 : decode cX2_walker 71 = .ok (.iastore, 1) := by decide +kernel
theorem dX2_walker_72 : decode cX2_walker 72 = .ok (.iload 4, 2) := by decide +kernel
theorem dX2_walker_74 : decode cX2_walker 74 = .ok (.ireturn, 1) := by decide +kernel
set_option maxRecDepth 20000 in
theorem ggX2_move_X2_requireWalker : GoodIn wsX2_move wsX2_requireWalker := goodIn_ca (goodIn_r _ [8, 9, 10, 1, 11, 17, 18, 19, 20, 21, 22, 23, 24, 25, 26, 27, 28, 29, 30, 31, 32, 33, 34, 35, 36, 37, 38, 39, 40, 41, 42] (by decide +kernel) (by decide +kernel)) (goodIn_sub (fun _ h => List.mem_cons_of_mem _ (List.mem_append_left _ (List.mem_append_right _ h))) (by decide +kernel))
set_option maxRecDepth 20000 in
theorem gX2_move_X2_requireWalker : GoodIn wsX2_move (wsV RX2 92 RX2 yX2_requireWalker wsX2_requireWalker) := goodIn_app (goodIn_of _ (by decide +kernel)) ggX2_move_X2_requireWalker
set_option maxRecDepth 20000 in
theorem ggX2_move_X2_requireRange : GoodIn wsX2_move wsX2_requireRange := goodIn_ca (goodIn_r _ [14, 15, 16] (by decide +kernel) (by decide +kernel)) (goodIn_sub (fun _ h => List.mem_cons_of_mem _ (List.mem_append_right _ h)) (by decide +kernel))
set_option maxRecDepth 20000 in
theorem gX2_move_X2_requireRange : GoodIn wsX2_move (va_wsS RX2 48 yX2_requireRange wsX2_requireRange) := goodIn_app (goodIn_of _ (by decide +kernel)) ggX2_move_X2_requireRange
theorem dX2_move_0 : decode cX2_move 0 = .ok (.aload_n 0, 1) := by decide +kernel
theorem dX2_move_1 : decode cX2_move 1 = .ok (.iload_n 1, 1) := by decide +kernel
theorem dX2_move_2 : decode cX2_move 2 = .ok (.invokevirtual 92, 3) := by decide +kernel
theorem dX2_move_5 : decode cX2_move 5 = .ok (.aload_n 0, 1) := by decide +kernel
theorem dX2_move_6 : decode cX2_move 6 = .ok (.getfield 10, 3) := by decide +kernel
theorem dX2_move_9 : decode cX2_move 9 = .ok (.getfield 95, 3) := by decide +kernel
theorem dX2_move_12 : decode cX2_move 12 = .ok (.iload_n 1, 1) := by decide +kernel
theorem dX2_move_13 : decode cX2_move 13 = .ok (.iaload, 1) := by decide +kernel
theorem dX2_move_14 : decode cX2_move 14 = .ok (.i2l, 1) := by decide +kernel
theorem dX2_move_15 : decode cX2_move 15 = .ok (.iload_n 2, 1) := by decide +kernel
theorem dX2_move_16 : decode cX2_move 16 = .ok (.i2l, 1) := by decide +kernel
theorem dX2_move_17 : decode cX2_move 17 = .ok (.ladd, 1) := by decide +kernel
theorem dX2_move_18 : decode cX2_move 18 = .ok (.lstore 4, 2) := by decide +kernel
theorem dX2_move_20 : decode cX2_move 20 = .ok (.aload_n 0, 1) := by decide +kernel
theorem dX2_move_21 : decode cX2_move 21 = .ok (.getfield 10, 3) := by decide +kernel
theorem dX2_move_24 : decode cX2_move 24 = .ok (.getfield 98, 3) := by decide +kernel
theorem dX2_move_27 : decode cX2_move 27 = .ok (.iload_n 1, 1) := by decide +kernel
theorem dX2_move_28 : decode cX2_move 28 = .ok (.iaload, 1) := by decide +kernel
theorem dX2_move_29 : decode cX2_move 29 = .ok (.i2l, 1) := by decide +kernel
theorem dX2_move_30 : decode cX2_move 30 = .ok (.iload_n 3, 1) := by decide +kernel
theorem dX2_move_31 : decode cX2_move 31 = .ok (.i2l, 1) := by decide +kernel
theorem dX2_move_32 : decode cX2_move 32 = .ok (.ladd, 1) := by decide +kernel
theorem dX2_move_33 : decode cX2_move 33 = .ok (.lstore 6, 2) := by decide +kernel
theorem dX2_move_35 : decode cX2_move 35 = .ok (.lload 4, 2) := by decide +kernel
theorem dX2_move_37 : decode cX2_move 37 = .ok (.iconst 0, 1) := by decide +kernel
theorem dX2_move_38 : decode cX2_move 38 = .ok (.bipush 63, 2) := by decide +kernel
theorem dX2_move_40 : decode cX2_move 40 = .ok (.invokestatic 48, 3) := by decide +kernel
theorem dX2_move_43 : decode cX2_move 43 = .ok (.lload 6, 2) := by decide +kernel
theorem dX2_move_45 : decode cX2_move 45 = .ok (.iconst 0, 1) := by decide +kernel
theorem dX2_move_46 : decode cX2_move 46 = .ok (.bipush 63, 2) := by decide +kernel
theorem dX2_move_48 : decode cX2_move 48 = .ok (.invokestatic 48, 3) := by decide +kernel
theorem dX2_move_51 : decode cX2_move 51 = .ok (.aload_n 0, 1) := by decide +kernel
theorem dX2_move_52 : decode cX2_move 52 = .ok (.getfield 10, 3) := by decide +kernel
theorem dX2_move_55 : decode cX2_move 55 = .ok (.getfield 95, 3) := by decide +kernel
theorem dX2_move_58 : decode cX2_move 58 = .ok (.iload_n 1, 1) := by decide +kernel
theorem dX2_move_59 : decode cX2_move 59 = .ok (.lload 4, 2) := by decide +kernel
theorem dX2_move_61 : decode cX2_move 61 = .ok (.l2i, 1) := by decide +kernel
theorem dX2_move_62 : decode cX2_move 62 = .ok (.iastore, 1) := by decide +kernel
theorem dX2_move_63 : decode cX2_move 63 = .ok (.aload_n 0, 1) := by decide +kernel
theorem dX2_move_64 : decode cX2_move 64 = .ok (.getfield 10, 3) := by decide +kernel
theorem dX2_move_67 : decode cX2_move 67 = .ok (.getfield 98, 3) := by decide +kernel
theorem dX2_move_70 : decode cX2_move 70 = .ok (.iload_n 1, 1) := by decide +kernel
theorem dX2_move_71 : decode cX2_move 71 = .ok (.lload 6, 2) := by decide +kernel
theorem dX2_move_73 : decode cX2_move 73 = .ok (.l2i, 1) := by decide +kernel
theorem dX2_move_74 : decode cX2_move 74 = .ok (.iastore, 1) := by decide +kernel
theorem dX2_move_75 : decode cX2_move 75 = .ok (.return_, 1) := by decide +kernel
set_option maxRecDepth 20000 in
theorem ggX2_margin_X2_requireRange : GoodIn wsX2_margin wsX2_requireRange := goodIn_ca (goodIn_r _ [5, 6, 7] (by decide +kernel) (by decide +kernel)) (goodIn_sub (fun _ h => List.mem_cons_of_mem _ (List.mem_append_right _ h)) (by decide +kernel))
set_option maxRecDepth 20000 in
theorem gX2_margin_X2_requireRange : GoodIn wsX2_margin (va_wsS RX2 48 yX2_requireRange wsX2_requireRange) := goodIn_app (goodIn_of _ (by decide +kernel)) ggX2_margin_X2_requireRange
theorem dX2_margin_0 : decode cX2_margin 0 = .ok (.iload_n 1, 1) := by decide +kernel
theorem dX2_margin_1 : decode cX2_margin 1 = .ok (.i2l, 1) := by decide +kernel
theorem dX2_margin_2 : decode cX2_margin 2 = .ok (.iconst 0, 1) := by decide +kernel
theorem dX2_margin_3 : decode cX2_margin 3 = .ok (.sipush 1000, 3) := by decide +kernel
theorem dX2_margin_6 : decode cX2_margin 6 = .ok (.invokestatic 48, 3) := by decide +kernel
theorem dX2_margin_9 : decode cX2_margin 9 = .ok (.aload_n 0, 1) := by decide +kernel
theorem dX2_margin_10 : decode cX2_margin 10 = .ok (.getfield 38, 3) := by decide +kernel
theorem dX2_margin_13 : decode cX2_margin 13 = .ok (.istore_n 2, 1) := by decide +kernel
theorem dX2_margin_14 : decode cX2_margin 14 = .ok (.aload_n 0, 1) := by decide +kernel
theorem dX2_margin_15 : decode cX2_margin 15 = .ok (.iload_n 1, 1) := by decide +kernel
theorem dX2_margin_16 : decode cX2_margin 16 = .ok (.putfield 38, 3) := by decide +kernel
theorem dX2_margin_19 : decode cX2_margin 19 = .ok (.iload_n 2, 1) := by decide +kernel
theorem dX2_margin_20 : decode cX2_margin 20 = .ok (.ireturn, 1) := by decide +kernel
set_option maxRecDepth 20000 in
theorem ggX2_patience_X2_requireRange : GoodIn wsX2_patience wsX2_requireRange := goodIn_ca (goodIn_r _ [5, 6, 7] (by decide +kernel) (by decide +kernel)) (goodIn_sub (fun _ h => List.mem_cons_of_mem _ (List.mem_append_right _ h)) (by decide +kernel))
set_option maxRecDepth 20000 in
theorem gX2_patience_X2_requireRange : GoodIn wsX2_patience (va_wsS RX2 48 yX2_requireRange wsX2_requireRange) := goodIn_app (goodIn_of _ (by decide +kernel)) ggX2_patience_X2_requireRange
theorem dX2_patience_0 : decode cX2_patience 0 = .ok (.iload_n 1, 1) := by decide +kernel
theorem dX2_patience_1 : decode cX2_patience 1 = .ok (.i2l, 1) := by decide +kernel
theorem dX2_patience_2 : decode cX2_patience 2 = .ok (.iconst 1, 1) := by decide +kernel
theorem dX2_patience_3 : decode cX2_patience 3 = .ok (.bipush 10, 2) := by decide +kernel
theorem dX2_patience_5 : decode cX2_patience 5 = .ok (.invokestatic 48, 3) := by decide +kernel
theorem dX2_patience_8 : decode cX2_patience 8 = .ok (.aload_n 0, 1) := by decide +kernel
theorem dX2_patience_9 : decode cX2_patience 9 = .ok (.getfield 42, 3) := by decide +kernel
theorem dX2_patience_12 : decode cX2_patience 12 = .ok (.istore_n 2, 1) := by decide +kernel
theorem dX2_patience_13 : decode cX2_patience 13 = .ok (.aload_n 0, 1) := by decide +kernel
theorem dX2_patience_14 : decode cX2_patience 14 = .ok (.iload_n 1, 1) := by decide +kernel
theorem dX2_patience_15 : decode cX2_patience 15 = .ok (.putfield 42, 3) := by decide +kernel
theorem dX2_patience_18 : decode cX2_patience 18 = .ok (.iload_n 2, 1) := by decide +kernel
theorem dX2_patience_19 : decode cX2_patience 19 = .ok (.ireturn, 1) := by decide +kernel
set_option maxRecDepth 20000 in
theorem ggX2_bound_X2_requireRange : GoodIn wsX2_bound wsX2_requireRange := goodIn_ca (goodIn_r _ [5, 6, 7] (by decide +kernel) (by decide +kernel)) (goodIn_sub (fun _ h => List.mem_cons_of_mem _ (List.mem_append_right _ h)) (by decide +kernel))
set_option maxRecDepth 20000 in
theorem gX2_bound_X2_requireRange : GoodIn wsX2_bound (va_wsS RX2 48 yX2_requireRange wsX2_requireRange) := goodIn_app (goodIn_of _ (by decide +kernel)) ggX2_bound_X2_requireRange
theorem dX2_bound_0 : decode cX2_bound 0 = .ok (.iload_n 1, 1) := by decide +kernel
theorem dX2_bound_1 : decode cX2_bound 1 = .ok (.i2l, 1) := by decide +kernel
theorem dX2_bound_2 : decode cX2_bound 2 = .ok (.iconst 1, 1) := by decide +kernel
theorem dX2_bound_3 : decode cX2_bound 3 = .ok (.sipush 10000, 3) := by decide +kernel
theorem dX2_bound_6 : decode cX2_bound 6 = .ok (.invokestatic 48, 3) := by decide +kernel
theorem dX2_bound_9 : decode cX2_bound 9 = .ok (.aload_n 0, 1) := by decide +kernel
theorem dX2_bound_10 : decode cX2_bound 10 = .ok (.getfield 45, 3) := by decide +kernel
theorem dX2_bound_13 : decode cX2_bound 13 = .ok (.istore_n 2, 1) := by decide +kernel
theorem dX2_bound_14 : decode cX2_bound 14 = .ok (.aload_n 0, 1) := by decide +kernel
theorem dX2_bound_15 : decode cX2_bound 15 = .ok (.iload_n 1, 1) := by decide +kernel
theorem dX2_bound_16 : decode cX2_bound 16 = .ok (.putfield 45, 3) := by decide +kernel
theorem dX2_bound_19 : decode cX2_bound 19 = .ok (.iload_n 2, 1) := by decide +kernel
theorem dX2_bound_20 : decode cX2_bound 20 = .ok (.ireturn, 1) := by decide +kernel
set_option maxRecDepth 20000 in
theorem ggX2_tick_X2_requireRange : GoodIn wsX2_tick wsX2_requireRange := goodIn_ca (goodIn_r _ [5, 6, 7] (by decide +kernel) (by decide +kernel)) (goodIn_sub (fun _ h => List.mem_cons_of_mem _ (List.mem_append_right _ h)) (by decide +kernel))
set_option maxRecDepth 20000 in
theorem gX2_tick_X2_requireRange : GoodIn wsX2_tick (va_wsS RX2 48 yX2_requireRange wsX2_requireRange) := goodIn_app (goodIn_of _ (by decide +kernel)) ggX2_tick_X2_requireRange
set_option maxRecDepth 20000 in
theorem ggX2_tick_X2_passTick : GoodIn wsX2_tick wsX2_passTick := goodIn_r _ [11, 12, 13, 14, 15, 16, 17, 18, 19, 20, 21, 22, 23, 24, 25, 26, 27, 28, 29, 30, 31, 32, 33, 34, 35, 36, 37, 38, 39, 40, 41, 42, 43, 44, 45, 46, 47, 48, 49, 50, 51, 52, 53, 54, 55, 56, 57, 58, 4, 59, 60, 61, 62, 63, 64, 65, 66, 67, 68, 69, 70, 71, 72, 73, 74, 75, 76, 77, 78, 79, 80, 81, 82, 83, 84, 85, 86, 87, 88, 89, 1, 90, 91, 92, 93, 94, 95, 96, 97, 98, 99, 100, 101, 102, 103, 104, 105, 106, 107, 108, 109, 110, 111, 112, 113, 114, 115, 116, 117] (by decide +kernel) (by decide +kernel)
set_option maxRecDepth 20000 in
theorem gX2_tick_X2_passTick : GoodIn wsX2_tick (wsV RX2 104 RX2 yX2_passTick wsX2_passTick) := goodIn_app (goodIn_of _ (by decide +kernel)) ggX2_tick_X2_passTick
theorem dX2_tick_0 : decode cX2_tick 0 = .ok (.iload_n 1, 1) := by decide +kernel
theorem dX2_tick_1 : decode cX2_tick 1 = .ok (.i2l, 1) := by decide +kernel
theorem dX2_tick_2 : decode cX2_tick 2 = .ok (.iconst 1, 1) := by decide +kernel
theorem dX2_tick_3 : decode cX2_tick 3 = .ok (.bipush 20, 2) := by decide +kernel
theorem dX2_tick_5 : decode cX2_tick 5 = .ok (.invokestatic 48, 3) := by decide +kernel
theorem dX2_tick_8 : decode cX2_tick 8 = .ok (.aload_n 0, 1) := by decide +kernel
theorem dX2_tick_9 : decode cX2_tick 9 = .ok (.getfield 101, 3) := by decide +kernel
theorem dX2_tick_12 : decode cX2_tick 12 = .ok (.istore_n 2, 1) := by decide +kernel
theorem dX2_tick_13 : decode cX2_tick 13 = .ok (.iconst 0, 1) := by decide +kernel
theorem dX2_tick_14 : decode cX2_tick 14 = .ok (.istore_n 3, 1) := by decide +kernel
theorem dX2_tick_15 : decode cX2_tick 15 = .ok (.iload_n 3, 1) := by decide +kernel
theorem dX2_tick_16 : decode cX2_tick 16 = .ok (.iload_n 1, 1) := by decide +kernel
theorem dX2_tick_17 : decode cX2_tick 17 = .ok (.if_icmp .ge 13, 3) := by decide +kernel
theorem dX2_tick_20 : decode cX2_tick 20 = .ok (.aload_n 0, 1) := by decide +kernel
theorem dX2_tick_21 : decode cX2_tick 21 = .ok (.invokevirtual 104, 3) := by decide +kernel
theorem dX2_tick_24 : decode cX2_tick 24 = .ok (.iinc 3 1, 3) := by decide +kernel
theorem dX2_tick_27 : decode cX2_tick 27 = .ok (.goto (-12), 3) := by decide +kernel
theorem dX2_tick_30 : decode cX2_tick 30 = .ok (.aload_n 0, 1) := by decide +kernel
theorem dX2_tick_31 : decode cX2_tick 31 = .ok (.getfield 101, 3) := by decide +kernel
theorem dX2_tick_34 : decode cX2_tick 34 = .ok (.iload_n 2, 1) := by decide +kernel
theorem dX2_tick_35 : decode cX2_tick 35 = .ok (.isub, 1) := by decide +kernel
theorem dX2_tick_36 : decode cX2_tick 36 = .ok (.ireturn, 1) := by decide +kernel
theorem dX2_ticks_0 : decode cX2_ticks 0 = .ok (.aload_n 0, 1) := by decide +kernel
theorem dX2_ticks_1 : decode cX2_ticks 1 = .ok (.getfield 107, 3) := by decide +kernel
theorem dX2_ticks_4 : decode cX2_ticks 4 = .ok (.ireturn, 1) := by decide +kernel
theorem dX2_cells_0 : decode cX2_cells 0 = .ok (.aload_n 0, 1) := by decide +kernel
theorem dX2_cells_1 : decode cX2_cells 1 = .ok (.getfield 10, 3) := by decide +kernel
theorem dX2_cells_4 : decode cX2_cells 4 = .ok (.getfield 52, 3) := by decide +kernel
theorem dX2_cells_7 : decode cX2_cells 7 = .ok (.ireturn, 1) := by decide +kernel
theorem dX2_walkers_0 : decode cX2_walkers 0 = .ok (.aload_n 0, 1) := by decide +kernel
theorem dX2_walkers_1 : decode cX2_walkers 1 = .ok (.getfield 10, 3) := by decide +kernel
theorem dX2_walkers_4 : decode cX2_walkers 4 = .ok (.getfield 80, 3) := by decide +kernel
theorem dX2_walkers_7 : decode cX2_walkers 7 = .ok (.ireturn, 1) := by decide +kernel
set_option maxRecDepth 20000 in
theorem ggX2_signal_X2_requireCell : GoodIn wsX2_signal wsX2_requireCell := goodIn_ca (goodIn_r _ [6, 7, 8, 1, 9, 28, 29, 30, 31, 32, 33, 34, 35, 36, 37, 38, 39, 40, 41, 42, 43, 44, 45, 46, 47, 48, 49, 50, 51, 52, 53] (by decide +kernel) (by decide +kernel)) (goodIn_sub (fun _ h => List.mem_cons_of_mem _ (List.mem_append_right _ h)) (by decide +kernel))
set_option maxRecDepth 20000 in
theorem gX2_signal_X2_requireCell : GoodIn wsX2_signal (wsV RX2 66 RX2 yX2_requireCell wsX2_requireCell) := goodIn_app (goodIn_of _ (by decide +kernel)) ggX2_signal_X2_requireCell
set_option maxRecDepth 20000 in
theorem ggX2_signal_X2_requireWalker : GoodIn wsX2_signal wsX2_requireWalker := goodIn_ca (goodIn_r _ [13, 7, 8, 1, 14, 28, 29, 30, 31, 32, 33, 34, 35, 36, 37, 38, 39, 40, 41, 42, 43, 44, 45, 46, 47, 48, 49, 50, 51, 52, 53] (by decide +kernel) (by decide +kernel)) (goodIn_sub (fun _ h => List.mem_cons_of_mem _ (List.mem_append_right _ h)) (by decide +kernel))
set_option maxRecDepth 20000 in
theorem gX2_signal_X2_requireWalker : GoodIn wsX2_signal (wsV RX2 92 RX2 yX2_requireWalker wsX2_requireWalker) := goodIn_app (goodIn_of _ (by decide +kernel)) ggX2_signal_X2_requireWalker
set_option maxRecDepth 20000 in
theorem ggX2_signal_X0_signalOf : GoodIn wsX2_signal wsX0_signalOf := goodIn_r _ [19, 20, 21, 22, 23, 24, 25, 26, 27, 41, 42, 43, 44, 45, 46, 47, 48, 49, 50, 51, 52, 53] (by decide +kernel) (by decide +kernel)
set_option maxRecDepth 20000 in
theorem gX2_signal_X0_signalOf : GoodIn wsX2_signal (wsV RX2 110 RX0 yX0_signalOf wsX0_signalOf) := goodIn_app (goodIn_of _ (by decide +kernel)) ggX2_signal_X0_signalOf
theorem dX2_signal_0 : decode cX2_signal 0 = .ok (.aload_n 0, 1) := by decide +kernel
theorem dX2_signal_1 : decode cX2_signal 1 = .ok (.iload_n 1, 1) := by decide +kernel
theorem dX2_signal_2 : decode cX2_signal 2 = .ok (.invokevirtual 66, 3) := by decide +kernel
theorem dX2_signal_5 : decode cX2_signal 5 = .ok (.aload_n 0, 1) := by decide +kernel
theorem dX2_signal_6 : decode cX2_signal 6 = .ok (.iload_n 2, 1) := by decide +kernel
theorem dX2_signal_7 : decode cX2_signal 7 = .ok (.invokevirtual 92, 3) := by decide +kernel
theorem dX2_signal_10 : decode cX2_signal 10 = .ok (.aload_n 0, 1) := by decide +kernel
theorem dX2_signal_11 : decode cX2_signal 11 = .ok (.getfield 10, 3) := by decide +kernel
theorem dX2_signal_14 : decode cX2_signal 14 = .ok (.iload_n 1, 1) := by decide +kernel
theorem dX2_signal_15 : decode cX2_signal 15 = .ok (.iload_n 2, 1) := by decide +kernel
theorem dX2_signal_16 : decode cX2_signal 16 = .ok (.invokevirtual 110, 3) := by decide +kernel
theorem dX2_signal_19 : decode cX2_signal 19 = .ok (.ireturn, 1) := by decide +kernel
set_option maxRecDepth 20000 in
theorem ggX2_quality_X2_requireCell : GoodIn wsX2_quality wsX2_requireCell := goodIn_ca (goodIn_r _ [7, 8, 9, 1, 10, 54, 55, 56, 57, 58, 59, 60, 61, 62, 63, 64, 65, 66, 67, 68, 69, 70, 71, 72, 73, 74, 75, 76, 77, 78, 79] (by decide +kernel) (by decide +kernel)) (goodIn_sub (fun _ h => List.mem_cons_of_mem _ (List.mem_append_right _ h)) (by decide +kernel))
set_option maxRecDepth 20000 in
theorem gX2_quality_X2_requireCell : GoodIn wsX2_quality (wsV RX2 66 RX2 yX2_requireCell wsX2_requireCell) := goodIn_app (goodIn_of _ (by decide +kernel)) ggX2_quality_X2_requireCell
set_option maxRecDepth 20000 in
theorem ggX2_quality_X2_requireWalker : GoodIn wsX2_quality wsX2_requireWalker := goodIn_ca (goodIn_r _ [14, 8, 9, 1, 15, 54, 55, 56, 57, 58, 59, 60, 61, 62, 63, 64, 65, 66, 67, 68, 69, 70, 71, 72, 73, 74, 75, 76, 77, 78, 79] (by decide +kernel) (by decide +kernel)) (goodIn_sub (fun _ h => List.mem_cons_of_mem _ (List.mem_append_right _ h)) (by decide +kernel))
set_option maxRecDepth 20000 in
theorem gX2_quality_X2_requireWalker : GoodIn wsX2_quality (wsV RX2 92 RX2 yX2_requireWalker wsX2_requireWalker) := goodIn_app (goodIn_of _ (by decide +kernel)) ggX2_quality_X2_requireWalker
set_option maxRecDepth 20000 in
theorem ggX2_quality_X0_measure : GoodIn wsX2_quality wsX0_measure := goodIn_r _ [20, 21, 22, 23, 24, 25, 26, 27, 19, 28, 29, 30, 31, 32, 33, 34, 35, 36, 37, 38, 39, 40, 41, 42, 43, 44, 45, 46, 47, 48, 49, 50, 51, 52, 53, 67, 68, 69, 70, 71, 72, 73, 74, 75, 76, 77, 78, 79] (by decide +kernel) (by decide +kernel)
set_option maxRecDepth 20000 in
theorem gX2_quality_X0_measure : GoodIn wsX2_quality (wsV RX2 114 RX0 yX0_measure wsX0_measure) := goodIn_app (goodIn_of _ (by decide +kernel)) ggX2_quality_X0_measure
theorem dX2_quality_0 : decode cX2_quality 0 = .ok (.aload_n 0, 1) := by decide +kernel
theorem dX2_quality_1 : decode cX2_quality 1 = .ok (.iload_n 1, 1) := by decide +kernel
theorem dX2_quality_2 : decode cX2_quality 2 = .ok (.invokevirtual 66, 3) := by decide +kernel
theorem dX2_quality_5 : decode cX2_quality 5 = .ok (.aload_n 0, 1) := by decide +kernel
theorem dX2_quality_6 : decode cX2_quality 6 = .ok (.iload_n 2, 1) := by decide +kernel
theorem dX2_quality_7 : decode cX2_quality 7 = .ok (.invokevirtual 92, 3) := by decide +kernel
theorem dX2_quality_10 : decode cX2_quality 10 = .ok (.aload_n 0, 1) := by decide +kernel
theorem dX2_quality_11 : decode cX2_quality 11 = .ok (.getfield 10, 3) := by decide +kernel
theorem dX2_quality_14 : decode cX2_quality 14 = .ok (.invokevirtual 114, 3) := by decide +kernel
theorem dX2_quality_17 : decode cX2_quality 17 = .ok (.aload_n 0, 1) := by decide +kernel
theorem dX2_quality_18 : decode cX2_quality 18 = .ok (.getfield 10, 3) := by decide +kernel
theorem dX2_quality_21 : decode cX2_quality 21 = .ok (.getfield 117, 3) := by decide +kernel
theorem dX2_quality_24 : decode cX2_quality 24 = .ok (.iload_n 2, 1) := by decide +kernel
theorem dX2_quality_25 : decode cX2_quality 25 = .ok (.aaload, 1) := by decide +kernel
theorem dX2_quality_26 : decode cX2_quality 26 = .ok (.iload_n 1, 1) := by decide +kernel
theorem dX2_quality_27 : decode cX2_quality 27 = .ok (.iaload, 1) := by decide +kernel
theorem dX2_quality_28 : decode cX2_quality 28 = .ok (.ireturn, 1) := by decide +kernel
set_option maxRecDepth 20000 in
theorem ggX2_load_X2_requireCell : GoodIn wsX2_load wsX2_requireCell := goodIn_ca (goodIn_r _ [6, 7, 8, 1, 9, 18, 19, 20, 21, 22, 23, 24, 25, 26, 27, 28, 29, 30, 31, 32, 33, 34, 35, 36, 37, 38, 39, 40, 41, 42, 43] (by decide +kernel) (by decide +kernel)) (goodIn_sub (fun _ h => List.mem_cons_of_mem _ (List.mem_append_right _ h)) (by decide +kernel))
set_option maxRecDepth 20000 in
theorem gX2_load_X2_requireCell : GoodIn wsX2_load (wsV RX2 66 RX2 yX2_requireCell wsX2_requireCell) := goodIn_app (goodIn_of _ (by decide +kernel)) ggX2_load_X2_requireCell
set_option maxRecDepth 20000 in
theorem ggX2_load_X0_loadOf : GoodIn wsX2_load wsX0_loadOf := goodIn_r _ [14, 15, 16, 17, 31, 32, 33, 34, 35, 36, 37, 38, 39, 40, 41, 42, 43] (by decide +kernel) (by decide +kernel)
set_option maxRecDepth 20000 in
theorem gX2_load_X0_loadOf : GoodIn wsX2_load (wsV RX2 121 RX0 yX0_loadOf wsX0_loadOf) := goodIn_app (goodIn_of _ (by decide +kernel)) ggX2_load_X0_loadOf
theorem dX2_load_0 : decode cX2_load 0 = .ok (.aload_n 0, 1) := by decide +kernel
theorem dX2_load_1 : decode cX2_load 1 = .ok (.iload_n 1, 1) := by decide +kernel
theorem dX2_load_2 : decode cX2_load 2 = .ok (.invokevirtual 66, 3) := by decide +kernel
theorem dX2_load_5 : decode cX2_load 5 = .ok (.aload_n 0, 1) := by decide +kernel
theorem dX2_load_6 : decode cX2_load 6 = .ok (.getfield 10, 3) := by decide +kernel
theorem dX2_load_9 : decode cX2_load 9 = .ok (.iload_n 1, 1) := by decide +kernel
theorem dX2_load_10 : decode cX2_load 10 = .ok (.invokevirtual 121, 3) := by decide +kernel
theorem dX2_load_13 : decode cX2_load 13 = .ok (.ireturn, 1) := by decide +kernel
set_option maxRecDepth 20000 in
theorem ggX2_use_X2_requireCell : GoodIn wsX2_use wsX2_requireCell := goodIn_ca (goodIn_r _ [6, 7, 8, 1, 9, 23, 24, 25, 26, 27, 28, 29, 30, 31, 32, 33, 34, 35, 36, 37, 38, 39, 40, 41, 42, 43, 44, 45, 46, 47, 48] (by decide +kernel) (by decide +kernel)) (goodIn_sub (fun _ h => List.mem_cons_of_mem _ (List.mem_append_right _ h)) (by decide +kernel))
set_option maxRecDepth 20000 in
theorem gX2_use_X2_requireCell : GoodIn wsX2_use (wsV RX2 66 RX2 yX2_requireCell wsX2_requireCell) := goodIn_app (goodIn_of _ (by decide +kernel)) ggX2_use_X2_requireCell
set_option maxRecDepth 20000 in
theorem ggX2_use_X0_useOf : GoodIn wsX2_use wsX0_useOf := goodIn_r _ [14, 15, 16, 17, 18, 13, 19, 20, 21, 22, 36, 37, 38, 39, 40, 41, 42, 43, 44, 45, 46, 47, 48] (by decide +kernel) (by decide +kernel)
set_option maxRecDepth 20000 in
theorem gX2_use_X0_useOf : GoodIn wsX2_use (wsV RX2 125 RX0 yX0_useOf wsX0_useOf) := goodIn_app (goodIn_of _ (by decide +kernel)) ggX2_use_X0_useOf
theorem dX2_use_0 : decode cX2_use 0 = .ok (.aload_n 0, 1) := by decide +kernel
theorem dX2_use_1 : decode cX2_use 1 = .ok (.iload_n 1, 1) := by decide +kernel
theorem dX2_use_2 : decode cX2_use 2 = .ok (.invokevirtual 66, 3) := by decide +kernel
theorem dX2_use_5 : decode cX2_use 5 = .ok (.aload_n 0, 1) := by decide +kernel
theorem dX2_use_6 : decode cX2_use 6 = .ok (.getfield 10, 3) := by decide +kernel
theorem dX2_use_9 : decode cX2_use 9 = .ok (.iload_n 1, 1) := by decide +kernel
theorem dX2_use_10 : decode cX2_use 10 = .ok (.invokevirtual 125, 3) := by decide +kernel
theorem dX2_use_13 : decode cX2_use 13 = .ok (.ireturn, 1) := by decide +kernel
set_option maxRecDepth 20000 in
theorem ggX2_servedBy_X2_requireWalker : GoodIn wsX2_servedBy wsX2_requireWalker := goodIn_ca (goodIn_r _ [7, 8, 9, 1, 10, 11, 12, 13, 14, 15, 16, 17, 18, 19, 20, 21, 22, 23, 24, 25, 26, 27, 28, 29, 30, 31, 32, 33, 34, 35, 36] (by decide +kernel) (by decide +kernel)) (goodIn_sub (fun _ h => List.mem_cons_of_mem _ (List.mem_append_right _ h)) (by decide +kernel))
set_option maxRecDepth 20000 in
theorem gX2_servedBy_X2_requireWalker : GoodIn wsX2_servedBy (wsV RX2 92 RX2 yX2_requireWalker wsX2_requireWalker) := goodIn_app (goodIn_of _ (by decide +kernel)) ggX2_servedBy_X2_requireWalker
theorem dX2_servedBy_0 : decode cX2_servedBy 0 = .ok (.aload_n 0, 1) := by decide +kernel
theorem dX2_servedBy_1 : decode cX2_servedBy 1 = .ok (.iload_n 1, 1) := by decide +kernel
theorem dX2_servedBy_2 : decode cX2_servedBy 2 = .ok (.invokevirtual 92, 3) := by decide +kernel
theorem dX2_servedBy_5 : decode cX2_servedBy 5 = .ok (.aload_n 0, 1) := by decide +kernel
theorem dX2_servedBy_6 : decode cX2_servedBy 6 = .ok (.getfield 10, 3) := by decide +kernel
theorem dX2_servedBy_9 : decode cX2_servedBy 9 = .ok (.getfield 128, 3) := by decide +kernel
theorem dX2_servedBy_12 : decode cX2_servedBy 12 = .ok (.iload_n 1, 1) := by decide +kernel
theorem dX2_servedBy_13 : decode cX2_servedBy 13 = .ok (.iaload, 1) := by decide +kernel
theorem dX2_servedBy_14 : decode cX2_servedBy 14 = .ok (.ireturn, 1) := by decide +kernel
set_option maxRecDepth 20000 in
theorem ggX2_favourite_X2_requireWalker : GoodIn wsX2_favourite wsX2_requireWalker := goodIn_ca (goodIn_r _ [6, 7, 8, 9, 10, 11, 12, 13, 14, 15, 16, 17, 18, 19, 20, 21, 22, 23, 24, 25, 26, 27, 28, 29, 30, 31, 32, 33, 34, 35, 36] (by decide +kernel) (by decide +kernel)) (goodIn_sub (fun _ h => List.mem_cons_of_mem _ (List.mem_append_right _ h)) (by decide +kernel))
set_option maxRecDepth 20000 in
theorem gX2_favourite_X2_requireWalker : GoodIn wsX2_favourite (wsV RX2 92 RX2 yX2_requireWalker wsX2_requireWalker) := goodIn_app (goodIn_of _ (by decide +kernel)) ggX2_favourite_X2_requireWalker
theorem dX2_favourite_0 : decode cX2_favourite 0 = .ok (.aload_n 0, 1) := by decide +kernel
theorem dX2_favourite_1 : decode cX2_favourite 1 = .ok (.iload_n 1, 1) := by decide +kernel
theorem dX2_favourite_2 : decode cX2_favourite 2 = .ok (.invokevirtual 92, 3) := by decide +kernel
theorem dX2_favourite_5 : decode cX2_favourite 5 = .ok (.aload_n 0, 1) := by decide +kernel
theorem dX2_favourite_6 : decode cX2_favourite 6 = .ok (.getfield 25, 3) := by decide +kernel
theorem dX2_favourite_9 : decode cX2_favourite 9 = .ok (.iload_n 1, 1) := by decide +kernel
theorem dX2_favourite_10 : decode cX2_favourite 10 = .ok (.iaload, 1) := by decide +kernel
theorem dX2_favourite_11 : decode cX2_favourite 11 = .ok (.ireturn, 1) := by decide +kernel
set_option maxRecDepth 20000 in
theorem ggX2_heldFor_X2_requireWalker : GoodIn wsX2_heldFor wsX2_requireWalker := goodIn_ca (goodIn_r _ [6, 7, 8, 9, 10, 11, 12, 13, 14, 15, 16, 17, 18, 19, 20, 21, 22, 23, 24, 25, 26, 27, 28, 29, 30, 31, 32, 33, 34, 35, 36] (by decide +kernel) (by decide +kernel)) (goodIn_sub (fun _ h => List.mem_cons_of_mem _ (List.mem_append_right _ h)) (by decide +kernel))
set_option maxRecDepth 20000 in
theorem gX2_heldFor_X2_requireWalker : GoodIn wsX2_heldFor (wsV RX2 92 RX2 yX2_requireWalker wsX2_requireWalker) := goodIn_app (goodIn_of _ (by decide +kernel)) ggX2_heldFor_X2_requireWalker
theorem dX2_heldFor_0 : decode cX2_heldFor 0 = .ok (.aload_n 0, 1) := by decide +kernel
theorem dX2_heldFor_1 : decode cX2_heldFor 1 = .ok (.iload_n 1, 1) := by decide +kernel
theorem dX2_heldFor_2 : decode cX2_heldFor 2 = .ok (.invokevirtual 92, 3) := by decide +kernel
theorem dX2_heldFor_5 : decode cX2_heldFor 5 = .ok (.aload_n 0, 1) := by decide +kernel
theorem dX2_heldFor_6 : decode cX2_heldFor 6 = .ok (.getfield 29, 3) := by decide +kernel
theorem dX2_heldFor_9 : decode cX2_heldFor 9 = .ok (.iload_n 1, 1) := by decide +kernel
theorem dX2_heldFor_10 : decode cX2_heldFor 10 = .ok (.iaload, 1) := by decide +kernel
theorem dX2_heldFor_11 : decode cX2_heldFor 11 = .ok (.ireturn, 1) := by decide +kernel
theorem dX2_handovers_0 : decode cX2_handovers 0 = .ok (.aload_n 0, 1) := by decide +kernel
theorem dX2_handovers_1 : decode cX2_handovers 1 = .ok (.getfield 101, 3) := by decide +kernel
theorem dX2_handovers_4 : decode cX2_handovers 4 = .ok (.ireturn, 1) := by decide +kernel
theorem dX2_rings_0 : decode cX2_rings 0 = .ok (.aload_n 0, 1) := by decide +kernel
theorem dX2_rings_1 : decode cX2_rings 1 = .ok (.getfield 131, 3) := by decide +kernel
theorem dX2_rings_4 : decode cX2_rings 4 = .ok (.ireturn, 1) := by decide +kernel
theorem dX2_losses_0 : decode cX2_losses 0 = .ok (.aload_n 0, 1) := by decide +kernel
theorem dX2_losses_1 : decode cX2_losses 1 = .ok (.getfield 134, 3) := by decide +kernel
theorem dX2_losses_4 : decode cX2_losses 4 = .ok (.ireturn, 1) := by decide +kernel
theorem dX2_unserved_0 : decode cX2_unserved 0 = .ok (.iconst 0, 1) := by decide +kernel
theorem dX2_unserved_1 : decode cX2_unserved 1 = .ok (.istore_n 1, 1) := by decide +kernel
theorem dX2_unserved_2 : decode cX2_unserved 2 = .ok (.iconst 0, 1) := by decide +kernel
theorem dX2_unserved_3 : decode cX2_unserved 3 = .ok (.istore_n 2, 1) := by decide +kernel
theorem dX2_unserved_4 : decode cX2_unserved 4 = .ok (.iload_n 2, 1) := by decide +kernel
theorem dX2_unserved_5 : decode cX2_unserved 5 = .ok (.aload_n 0, 1) := by decide +kernel
theorem dX2_unserved_6 : decode cX2_unserved 6 = .ok (.getfield 10, 3) := by decide +kernel
theorem dX2_unserved_9 : decode cX2_unserved 9 = .ok (.getfield 80, 3) := by decide +kernel
theorem dX2_unserved_12 : decode cX2_unserved 12 = .ok (.if_icmp .ge 28, 3) := by decide +kernel
theorem dX2_unserved_15 : decode cX2_unserved 15 = .ok (.aload_n 0, 1) := by decide +kernel
theorem dX2_unserved_16 : decode cX2_unserved 16 = .ok (.getfield 10, 3) := by decide +kernel
theorem dX2_unserved_19 : decode cX2_unserved 19 = .ok (.getfield 128, 3) := by decide +kernel
theorem dX2_unserved_22 : decode cX2_unserved 22 = .ok (.iload_n 2, 1) := by decide +kernel
theorem dX2_unserved_23 : decode cX2_unserved 23 = .ok (.iaload, 1) := by decide +kernel
theorem dX2_unserved_24 : decode cX2_unserved 24 = .ok (.iconst (-1), 1) := by decide +kernel
theorem dX2_unserved_25 : decode cX2_unserved 25 = .ok (.if_icmp .ne 9, 3) := by decide +kernel
theorem dX2_unserved_28 : decode cX2_unserved 28 = .ok (.iload_n 1, 1) := by decide +kernel
theorem dX2_unserved_29 : decode cX2_unserved 29 = .ok (.iconst 1, 1) := by decide +kernel
theorem dX2_unserved_30 : decode cX2_unserved 30 = .ok (.iload_n 2, 1) := by decide +kernel
theorem dX2_unserved_31 : decode cX2_unserved 31 = .ok (.ishl, 1) := by decide +kernel
theorem dX2_unserved_32 : decode cX2_unserved 32 = .ok (.ior, 1) := by decide +kernel
theorem dX2_unserved_33 : decode cX2_unserved 33 = .ok (.istore_n 1, 1) := by decide +kernel
theorem dX2_unserved_34 : decode cX2_unserved 34 = .ok (.iinc 2 1, 3) := by decide +kernel
theorem dX2_unserved_37 : decode cX2_unserved 37 = .ok (.goto (-33), 3) := by decide +kernel
theorem dX2_unserved_40 : decode cX2_unserved 40 = .ok (.iload_n 1, 1) := by decide +kernel
theorem dX2_unserved_41 : decode cX2_unserved 41 = .ok (.ireturn, 1) := by decide +kernel
set_option maxRecDepth 20000 in
theorem ggX2_mostServed_X1_greatestWorth : GoodIn wsX2_mostServed wsX1_greatestWorth := goodIn_r _ [7, 8, 9, 10, 11, 12, 13, 14, 15, 16, 17, 18, 19, 20, 21, 22, 23, 24, 25, 26, 27, 28, 29, 30, 31, 32, 33, 34, 35, 36, 37, 38, 39, 40, 41, 42, 43, 44, 45, 46, 47, 48, 49, 50, 51, 52, 53, 54, 55, 56, 57, 58, 59, 60, 6, 61, 62, 63, 64, 65, 66, 67, 68, 69, 70, 71, 72, 73, 74, 75, 76, 90, 91, 92, 93, 94, 95, 96, 97, 98, 99, 100, 101, 102, 103, 104, 105, 106, 107, 108, 109] (by decide +kernel) (by decide +kernel)
set_option maxRecDepth 20000 in
theorem gX2_mostServed_X1_greatestWorth : GoodIn wsX2_mostServed (wsV RX2 137 RX1 yX1_greatestWorth wsX1_greatestWorth) := goodIn_app (goodIn_of _ (by decide +kernel)) ggX2_mostServed_X1_greatestWorth
theorem dX2_mostServed_0 : decode cX2_mostServed 0 = .ok (.aload_n 0, 1) := by decide +kernel
theorem dX2_mostServed_1 : decode cX2_mostServed 1 = .ok (.getfield 21, 3) := by decide +kernel
theorem dX2_mostServed_4 : decode cX2_mostServed 4 = .ok (.aload_n 0, 1) := by decide +kernel
theorem dX2_mostServed_5 : decode cX2_mostServed 5 = .ok (.getfield 45, 3) := by decide +kernel
theorem dX2_mostServed_8 : decode cX2_mostServed 8 = .ok (.iconst 1, 1) := by decide +kernel
theorem dX2_mostServed_9 : decode cX2_mostServed 9 = .ok (.iconst 0, 1) := by decide +kernel
theorem dX2_mostServed_10 : decode cX2_mostServed 10 = .ok (.iconst 0, 1) := by decide +kernel
theorem dX2_mostServed_11 : decode cX2_mostServed 11 = .ok (.invokevirtual 137, 3) := by decide +kernel
theorem dX2_mostServed_14 : decode cX2_mostServed 14 = .ok (.ireturn, 1) := by decide +kernel
set_option maxRecDepth 20000 in
theorem ggX2_mostDemand_X1_greatestWorth : GoodIn wsX2_mostDemand wsX1_greatestWorth := goodIn_r _ [7, 8, 9, 10, 11, 12, 13, 14, 15, 16, 17, 18, 19, 20, 21, 22, 23, 24, 25, 26, 27, 28, 29, 30, 31, 32, 33, 34, 35, 36, 37, 38, 39, 40, 41, 42, 43, 44, 45, 46, 47, 48, 49, 50, 51, 52, 53, 54, 55, 56, 57, 58, 59, 60, 6, 61, 62, 63, 64, 65, 66, 67, 68, 69, 70, 71, 72, 73, 74, 75, 76, 90, 91, 92, 93, 94, 95, 96, 97, 98, 99, 100, 101, 102, 103, 104, 105, 106, 107, 108, 109] (by decide +kernel) (by decide +kernel)
set_option maxRecDepth 20000 in
theorem gX2_mostDemand_X1_greatestWorth : GoodIn wsX2_mostDemand (wsV RX2 137 RX1 yX1_greatestWorth wsX1_greatestWorth) := goodIn_app (goodIn_of _ (by decide +kernel)) ggX2_mostDemand_X1_greatestWorth
theorem dX2_mostDemand_0 : decode cX2_mostDemand 0 = .ok (.aload_n 0, 1) := by decide +kernel
theorem dX2_mostDemand_1 : decode cX2_mostDemand 1 = .ok (.getfield 21, 3) := by decide +kernel
theorem dX2_mostDemand_4 : decode cX2_mostDemand 4 = .ok (.aload_n 0, 1) := by decide +kernel
theorem dX2_mostDemand_5 : decode cX2_mostDemand 5 = .ok (.getfield 45, 3) := by decide +kernel
theorem dX2_mostDemand_8 : decode cX2_mostDemand 8 = .ok (.iconst 0, 1) := by decide +kernel
theorem dX2_mostDemand_9 : decode cX2_mostDemand 9 = .ok (.iconst 1, 1) := by decide +kernel
theorem dX2_mostDemand_10 : decode cX2_mostDemand 10 = .ok (.iconst 0, 1) := by decide +kernel
theorem dX2_mostDemand_11 : decode cX2_mostDemand 11 = .ok (.invokevirtual 137, 3) := by decide +kernel
theorem dX2_mostDemand_14 : decode cX2_mostDemand 14 = .ok (.ireturn, 1) := by decide +kernel
set_option maxRecDepth 20000 in
theorem ggX2_bestCell_X2_requireWalker : GoodIn wsX2_bestCell wsX2_requireWalker := goodIn_ca (goodIn_r _ [9, 10, 11, 12, 13, 88, 89, 90, 91, 92, 93, 94, 95, 96, 97, 98, 99, 100, 108, 109, 110, 111, 112, 113, 114, 115, 116, 117, 118, 119, 120] (by decide +kernel) (by decide +kernel)) (goodIn_sub (fun _ h => List.mem_cons_of_mem _ (List.mem_append_right _ h)) (by decide +kernel))
set_option maxRecDepth 20000 in
theorem gX2_bestCell_X2_requireWalker : GoodIn wsX2_bestCell (wsV RX2 92 RX2 yX2_requireWalker wsX2_requireWalker) := goodIn_app (goodIn_of _ (by decide +kernel)) ggX2_bestCell_X2_requireWalker
set_option maxRecDepth 20000 in
theorem ggX2_bestCell_X1_greatestWorth : GoodIn wsX2_bestCell wsX1_greatestWorth := goodIn_r _ [18, 19, 20, 21, 22, 23, 24, 25, 26, 27, 28, 29, 30, 31, 32, 33, 34, 35, 36, 37, 38, 39, 40, 41, 42, 43, 44, 45, 46, 47, 48, 49, 50, 51, 52, 53, 54, 55, 56, 57, 58, 59, 60, 61, 62, 63, 64, 65, 66, 67, 68, 69, 70, 71, 17, 72, 73, 74, 75, 76, 77, 78, 79, 80, 81, 82, 83, 84, 85, 86, 87, 101, 102, 103, 104, 105, 106, 107, 108, 109, 110, 111, 112, 113, 114, 115, 116, 117, 118, 119, 120] (by decide +kernel) (by decide +kernel)
set_option maxRecDepth 20000 in
theorem gX2_bestCell_X1_greatestWorth : GoodIn wsX2_bestCell (wsV RX2 137 RX1 yX1_greatestWorth wsX1_greatestWorth) := goodIn_app (goodIn_of _ (by decide +kernel)) ggX2_bestCell_X1_greatestWorth
theorem dX2_bestCell_0 : decode cX2_bestCell 0 = .ok (.aload_n 0, 1) := by decide +kernel
theorem dX2_bestCell_1 : decode cX2_bestCell 1 = .ok (.iload_n 1, 1) := by decide +kernel
theorem dX2_bestCell_2 : decode cX2_bestCell 2 = .ok (.invokevirtual 92, 3) := by decide +kernel
theorem dX2_bestCell_5 : decode cX2_bestCell 5 = .ok (.aload_n 0, 1) := by decide +kernel
theorem dX2_bestCell_6 : decode cX2_bestCell 6 = .ok (.getfield 21, 3) := by decide +kernel
theorem dX2_bestCell_9 : decode cX2_bestCell 9 = .ok (.aload_n 0, 1) := by decide +kernel
theorem dX2_bestCell_10 : decode cX2_bestCell 10 = .ok (.getfield 45, 3) := by decide +kernel
theorem dX2_bestCell_13 : decode cX2_bestCell 13 = .ok (.ldc 140, 2) := by decide +kernel
theorem dX2_bestCell_15 : decode cX2_bestCell 15 = .ok (.iconst 0, 1) := by decide +kernel
theorem dX2_bestCell_16 : decode cX2_bestCell 16 = .ok (.iconst 1, 1) := by decide +kernel
theorem dX2_bestCell_17 : decode cX2_bestCell 17 = .ok (.invokevirtual 137, 3) := by decide +kernel
theorem dX2_bestCell_20 : decode cX2_bestCell 20 = .ok (.pop, 1) := by decide +kernel
theorem dX2_bestCell_21 : decode cX2_bestCell 21 = .ok (.aload_n 0, 1) := by decide +kernel
theorem dX2_bestCell_22 : decode cX2_bestCell 22 = .ok (.getfield 21, 3) := by decide +kernel
theorem dX2_bestCell_25 : decode cX2_bestCell 25 = .ok (.getfield 141, 3) := by decide +kernel
theorem dX2_bestCell_28 : decode cX2_bestCell 28 = .ok (.iload_n 1, 1) := by decide +kernel
theorem dX2_bestCell_29 : decode cX2_bestCell 29 = .ok (.iaload, 1) := by decide +kernel
theorem dX2_bestCell_30 : decode cX2_bestCell 30 = .ok (.ireturn, 1) := by decide +kernel
theorem dX2_requireRange_0 : decode cX2_requireRange 0 = .ok (.lload_n 0, 1) := by decide +kernel
theorem dX2_requireRange_1 : decode cX2_requireRange 1 = .ok (.iload_n 2, 1) := by decide +kernel
theorem dX2_requireRange_2 : decode cX2_requireRange 2 = .ok (.i2l, 1) := by decide +kernel
theorem dX2_requireRange_3 : decode cX2_requireRange 3 = .ok (.lcmp, 1) := by decide +kernel
theorem dX2_requireRange_4 : decode cX2_requireRange 4 = .ok (.ifCond .lt 10, 3) := by decide +kernel
theorem dX2_requireRange_7 : decode cX2_requireRange 7 = .ok (.lload_n 0, 1) := by decide +kernel
theorem dX2_requireRange_8 : decode cX2_requireRange 8 = .ok (.iload_n 3, 1) := by decide +kernel
theorem dX2_requireRange_9 : decode cX2_requireRange 9 = .ok (.i2l, 1) := by decide +kernel
theorem dX2_requireRange_10 : decode cX2_requireRange 10 = .ok (.lcmp, 1) := by decide +kernel
theorem dX2_requireRange_11 : decode cX2_requireRange 11 = .ok (.ifCond .le 13, 3) := by decide +kernel
theorem dX2_requireRange_14 : decode cX2_requireRange 14 = .ok (.new 144, 3) := by decide +kernel
theorem dX2_requireRange_17 : decode cX2_requireRange 17 = .ok (.dup, 1) := by decide +kernel
theorem dX2_requireRange_18 : decode cX2_requireRange 18 = .ok (.ldc 146, 2) := by decide +kernel
theorem dX2_requireRange_20 : decode cX2_requireRange 20 = .ok (.invokespecial 148, 3) := by decide +kernel
theorem dX2_requireRange_23 : decode cX2_requireRange 23 = .ok (.athrow, 1) := by decide +kernel
theorem dX2_requireRange_24 : decode cX2_requireRange 24 = .ok (.return_, 1) := by decide +kernel
theorem dX2_requireCell_0 : decode cX2_requireCell 0 = .ok (.iload_n 1, 1) := by decide +kernel
theorem dX2_requireCell_1 : decode cX2_requireCell 1 = .ok (.ifCond .lt 14, 3) := by decide +kernel
theorem dX2_requireCell_4 : decode cX2_requireCell 4 = .ok (.iload_n 1, 1) := by decide +kernel
theorem dX2_requireCell_5 : decode cX2_requireCell 5 = .ok (.aload_n 0, 1) := by decide +kernel
theorem dX2_requireCell_6 : decode cX2_requireCell 6 = .ok (.getfield 10, 3) := by decide +kernel
theorem dX2_requireCell_9 : decode cX2_requireCell 9 = .ok (.getfield 52, 3) := by decide +kernel
theorem dX2_requireCell_12 : decode cX2_requireCell 12 = .ok (.if_icmp .lt 13, 3) := by decide +kernel
theorem dX2_requireCell_15 : decode cX2_requireCell 15 = .ok (.new 149, 3) := by decide +kernel
theorem dX2_requireCell_18 : decode cX2_requireCell 18 = .ok (.dup, 1) := by decide +kernel
theorem dX2_requireCell_19 : decode cX2_requireCell 19 = .ok (.ldc 151, 2) := by decide +kernel
theorem dX2_requireCell_21 : decode cX2_requireCell 21 = .ok (.invokespecial 153, 3) := by decide +kernel
theorem dX2_requireCell_24 : decode cX2_requireCell 24 = .ok (.athrow, 1) := by decide +kernel
theorem dX2_requireCell_25 : decode cX2_requireCell 25 = .ok (.return_, 1) := by decide +kernel
theorem dX2_requireWalker_0 : decode cX2_requireWalker 0 = .ok (.iload_n 1, 1) := by decide +kernel
theorem dX2_requireWalker_1 : decode cX2_requireWalker 1 = .ok (.ifCond .lt 14, 3) := by decide +kernel
theorem dX2_requireWalker_4 : decode cX2_requireWalker 4 = .ok (.iload_n 1, 1) := by decide +kernel
theorem dX2_requireWalker_5 : decode cX2_requireWalker 5 = .ok (.aload_n 0, 1) := by decide +kernel
theorem dX2_requireWalker_6 : decode cX2_requireWalker 6 = .ok (.getfield 10, 3) := by decide +kernel
theorem dX2_requireWalker_9 : decode cX2_requireWalker 9 = .ok (.getfield 80, 3) := by decide +kernel
theorem dX2_requireWalker_12 : decode cX2_requireWalker 12 = .ok (.if_icmp .lt 13, 3) := by decide +kernel
theorem dX2_requireWalker_15 : decode cX2_requireWalker 15 = .ok (.new 149, 3) := by decide +kernel
theorem dX2_requireWalker_18 : decode cX2_requireWalker 18 = .ok (.dup, 1) := by decide +kernel
theorem dX2_requireWalker_19 : decode cX2_requireWalker 19 = .ok (.ldc 154, 2) := by decide +kernel
theorem dX2_requireWalker_21 : decode cX2_requireWalker 21 = .ok (.invokespecial 153, 3) := by decide +kernel
theorem dX2_requireWalker_24 : decode cX2_requireWalker 24 = .ok (.athrow, 1) := by decide +kernel
theorem dX2_requireWalker_25 : decode cX2_requireWalker 25 = .ok (.return_, 1) := by decide +kernel
set_option maxRecDepth 20000 in
theorem ggX2_releaseWalkers_X2_dropFavourite : GoodIn wsX2_releaseWalkers wsX2_dropFavourite := goodIn_r _ [8, 9, 10, 11, 12, 13, 14, 15, 16, 17, 18, 19, 20, 21, 22, 23] (by decide +kernel) (by decide +kernel)
set_option maxRecDepth 20000 in
theorem gX2_releaseWalkers_X2_dropFavourite : GoodIn wsX2_releaseWalkers (wsV RX2 89 RX2 yX2_dropFavourite wsX2_dropFavourite) := goodIn_app (goodIn_of _ (by decide +kernel)) ggX2_releaseWalkers_X2_dropFavourite
theorem dX2_releaseWalkers_0 : decode cX2_releaseWalkers 0 = .ok (.iconst 0, 1) := by decide +kernel
theorem dX2_releaseWalkers_1 : decode cX2_releaseWalkers 1 = .ok (.istore_n 2, 1) := by decide +kernel
theorem dX2_releaseWalkers_2 : decode cX2_releaseWalkers 2 = .ok (.iload_n 2, 1) := by decide +kernel
theorem dX2_releaseWalkers_3 : decode cX2_releaseWalkers 3 = .ok (.aload_n 0, 1) := by decide +kernel
theorem dX2_releaseWalkers_4 : decode cX2_releaseWalkers 4 = .ok (.getfield 10, 3) := by decide +kernel
theorem dX2_releaseWalkers_7 : decode cX2_releaseWalkers 7 = .ok (.getfield 80, 3) := by decide +kernel
theorem dX2_releaseWalkers_10 : decode cX2_releaseWalkers 10 = .ok (.if_icmp .ge 37, 3) := by decide +kernel
theorem dX2_releaseWalkers_13 : decode cX2_releaseWalkers 13 = .ok (.aload_n 0, 1) := by decide +kernel
theorem dX2_releaseWalkers_14 : decode cX2_releaseWalkers 14 = .ok (.getfield 10, 3) := by decide +kernel
theorem dX2_releaseWalkers_17 : decode cX2_releaseWalkers 17 = .ok (.getfield 128, 3) := by decide +kernel
theorem dX2_releaseWalkers_20 : decode cX2_releaseWalkers 20 = .ok (.iload_n 2, 1) := by decide +kernel
theorem dX2_releaseWalkers_21 : decode cX2_releaseWalkers 21 = .ok (.iaload, 1) := by decide +kernel
theorem dX2_releaseWalkers_22 : decode cX2_releaseWalkers 22 = .ok (.iload_n 1, 1) := by decide +kernel
theorem dX2_releaseWalkers_23 : decode cX2_releaseWalkers 23 = .ok (.if_icmp .ne 18, 3) := by decide +kernel
theorem dX2_releaseWalkers_26 : decode cX2_releaseWalkers 26 = .ok (.aload_n 0, 1) := by decide +kernel
theorem dX2_releaseWalkers_27 : decode cX2_releaseWalkers 27 = .ok (.getfield 10, 3) := by decide +kernel
theorem dX2_releaseWalkers_30 : decode cX2_releaseWalkers 30 = .ok (.getfield 128, 3) := by decide +kernel
theorem dX2_releaseWalkers_33 : decode cX2_releaseWalkers 33 = .ok (.iload_n 2, 1) := by decide +kernel
theorem dX2_releaseWalkers_34 : decode cX2_releaseWalkers 34 = .ok (.iconst (-1), 1) := by decide +kernel
theorem dX2_releaseWalkers_35 : decode cX2_releaseWalkers 35 = .ok (.iastore, 1) := by decide +kernel
theorem dX2_releaseWalkers_36 : decode cX2_releaseWalkers 36 = .ok (.aload_n 0, 1) := by decide +kernel
theorem dX2_releaseWalkers_37 : decode cX2_releaseWalkers 37 = .ok (.iload_n 2, 1) := by decide +kernel
theorem dX2_releaseWalkers_38 : decode cX2_releaseWalkers 38 = .ok (.invokevirtual 89, 3) := by decide +kernel
theorem dX2_releaseWalkers_41 : decode cX2_releaseWalkers 41 = .ok (.iinc 2 1, 3) := by decide +kernel
theorem dX2_releaseWalkers_44 : decode cX2_releaseWalkers 44 = .ok (.goto (-42), 3) := by decide +kernel
theorem dX2_releaseWalkers_47 : decode cX2_releaseWalkers 47 = .ok (.return_, 1) := by decide +kernel
theorem dX2_dropFavourite_0 : decode cX2_dropFavourite 0 = .ok (.aload_n 0, 1) := by decide +kernel
theorem dX2_dropFavourite_1 : decode cX2_dropFavourite 1 = .ok (.getfield 25, 3) := by decide +kernel
theorem dX2_dropFavourite_4 : decode cX2_dropFavourite 4 = .ok (.iload_n 1, 1) := by decide +kernel
theorem dX2_dropFavourite_5 : decode cX2_dropFavourite 5 = .ok (.iconst (-1), 1) := by decide +kernel
theorem dX2_dropFavourite_6 : decode cX2_dropFavourite 6 = .ok (.iastore, 1) := by decide +kernel
theorem dX2_dropFavourite_7 : decode cX2_dropFavourite 7 = .ok (.aload_n 0, 1) := by decide +kernel
theorem dX2_dropFavourite_8 : decode cX2_dropFavourite 8 = .ok (.getfield 29, 3) := by decide +kernel
theorem dX2_dropFavourite_11 : decode cX2_dropFavourite 11 = .ok (.iload_n 1, 1) := by decide +kernel
theorem dX2_dropFavourite_12 : decode cX2_dropFavourite 12 = .ok (.iconst 0, 1) := by decide +kernel
theorem dX2_dropFavourite_13 : decode cX2_dropFavourite 13 = .ok (.iastore, 1) := by decide +kernel
theorem dX2_dropFavourite_14 : decode cX2_dropFavourite 14 = .ok (.return_, 1) := by decide +kernel
set_option maxRecDepth 20000 in
theorem ggX2_passTick_X0_measure : GoodIn wsX2_passTick wsX0_measure := goodIn_r _ [11, 12, 13, 14, 15, 16, 17, 18, 10, 19, 20, 21, 22, 23, 24, 25, 26, 27, 28, 29, 30, 31, 32, 33, 34, 35, 36, 37, 38, 39, 40, 41, 42, 43, 44, 96, 97, 98, 99, 100, 101, 102, 103, 104, 105, 106, 107, 108] (by decide +kernel) (by decide +kernel)
set_option maxRecDepth 20000 in
theorem gX2_passTick_X0_measure : GoodIn wsX2_passTick (wsV RX2 114 RX0 yX0_measure wsX0_measure) := goodIn_app (goodIn_of _ (by decide +kernel)) ggX2_passTick_X0_measure
set_option maxRecDepth 20000 in
theorem ggX2_passTick_X2_seekCell : GoodIn wsX2_passTick wsX2_seekCell := goodIn_r _ [49, 2, 5, 6, 4, 50, 51, 52, 10, 53, 12, 15, 54, 55, 56, 57, 43, 25, 26, 20, 21, 22, 23, 24, 14, 83, 84, 85, 86, 87, 88, 89, 90, 91, 92, 93, 94, 95, 96, 97, 98, 99, 100, 101, 102, 103, 104, 105, 106, 107, 108] (by decide +kernel) (by decide +kernel)
set_option maxRecDepth 20000 in
theorem gX2_passTick_X2_seekCell : GoodIn wsX2_passTick (wsV RX2 156 RX2 yX2_seekCell wsX2_seekCell) := goodIn_app (goodIn_of _ (by decide +kernel)) ggX2_passTick_X2_seekCell
set_option maxRecDepth 20000 in
theorem ggX2_passTick_X2_loseCell : GoodIn wsX2_passTick wsX2_loseCell := goodIn_r _ [61, 62, 2, 4, 63, 64, 65, 66, 48, 67, 68, 69, 83, 84, 85, 86, 87, 88, 89, 90, 91, 92, 93, 94, 95, 96, 97, 98, 99, 100, 101, 102, 103, 104, 105, 106, 107, 108] (by decide +kernel) (by decide +kernel)
set_option maxRecDepth 20000 in
theorem gX2_passTick_X2_loseCell : GoodIn wsX2_passTick (wsV RX2 159 RX2 yX2_loseCell wsX2_loseCell) := goodIn_app (goodIn_of _ (by decide +kernel)) ggX2_passTick_X2_loseCell
set_option maxRecDepth 20000 in
theorem ggX2_passTick_X2_weighFavourite : GoodIn wsX2_passTick wsX2_weighFavourite := goodIn_r _ [73, 2, 5, 74, 69, 68, 75, 50, 51, 52, 10, 53, 12, 15, 54, 55, 56, 57, 43, 25, 26, 20, 21, 22, 23, 24, 14, 64, 65, 66, 48, 67, 76, 77, 78, 79, 80, 63, 1, 81, 82, 4, 83, 84, 85, 86, 87, 88, 89, 90, 91, 92, 93, 94, 95, 96, 97, 98, 99, 100, 101, 102, 103, 104, 105, 106, 107, 108] (by decide +kernel) (by decide +kernel)
set_option maxRecDepth 20000 in
theorem gX2_passTick_X2_weighFavourite : GoodIn wsX2_passTick (wsV RX2 162 RX2 yX2_weighFavourite wsX2_weighFavourite) := goodIn_app (goodIn_of _ (by decide +kernel)) ggX2_passTick_X2_weighFavourite
theorem dX2_passTick_0 : decode cX2_passTick 0 = .ok (.aload_n 0, 1) := by decide +kernel
theorem dX2_passTick_1 : decode cX2_passTick 1 = .ok (.dup, 1) := by decide +kernel
theorem dX2_passTick_2 : decode cX2_passTick 2 = .ok (.getfield 107, 3) := by decide +kernel
theorem dX2_passTick_5 : decode cX2_passTick 5 = .ok (.iconst 1, 1) := by decide +kernel
theorem dX2_passTick_6 : decode cX2_passTick 6 = .ok (.iadd, 1) := by decide +kernel
theorem dX2_passTick_7 : decode cX2_passTick 7 = .ok (.putfield 107, 3) := by decide +kernel
theorem dX2_passTick_10 : decode cX2_passTick 10 = .ok (.aload_n 0, 1) := by decide +kernel
theorem dX2_passTick_11 : decode cX2_passTick 11 = .ok (.getfield 10, 3) := by decide +kernel
theorem dX2_passTick_14 : decode cX2_passTick 14 = .ok (.invokevirtual 114, 3) := by decide +kernel
theorem dX2_passTick_17 : decode cX2_passTick 17 = .ok (.iconst 0, 1) := by decide +kernel
theorem dX2_passTick_18 : decode cX2_passTick 18 = .ok (.istore_n 1, 1) := by decide +kernel
theorem dX2_passTick_19 : decode cX2_passTick 19 = .ok (.iload_n 1, 1) := by decide +kernel
theorem dX2_passTick_20 : decode cX2_passTick 20 = .ok (.aload_n 0, 1) := by decide +kernel
theorem dX2_passTick_21 : decode cX2_passTick 21 = .ok (.getfield 10, 3) := by decide +kernel
theorem dX2_passTick_24 : decode cX2_passTick 24 = .ok (.getfield 80, 3) := by decide +kernel
theorem dX2_passTick_27 : decode cX2_passTick 27 = .ok (.if_icmp .ge 64, 3) := by decide +kernel
theorem dX2_passTick_30 : decode cX2_passTick 30 = .ok (.aload_n 0, 1) := by decide +kernel
theorem dX2_passTick_31 : decode cX2_passTick 31 = .ok (.getfield 10, 3) := by decide +kernel
theorem dX2_passTick_34 : decode cX2_passTick 34 = .ok (.getfield 128, 3) := by decide +kernel
theorem dX2_passTick_37 : decode cX2_passTick 37 = .ok (.iload_n 1, 1) := by decide +kernel
theorem dX2_passTick_38 : decode cX2_passTick 38 = .ok (.iaload, 1) := by decide +kernel
theorem dX2_passTick_39 : decode cX2_passTick 39 = .ok (.istore_n 2, 1) := by decide +kernel
theorem dX2_passTick_40 : decode cX2_passTick 40 = .ok (.iload_n 2, 1) := by decide +kernel
theorem dX2_passTick_41 : decode cX2_passTick 41 = .ok (.iconst (-1), 1) := by decide +kernel
theorem dX2_passTick_42 : decode cX2_passTick 42 = .ok (.if_icmp .ne 11, 3) := by decide +kernel
theorem dX2_passTick_45 : decode cX2_passTick 45 = .ok (.aload_n 0, 1) := by decide +kernel
theorem dX2_passTick_46 : decode cX2_passTick 46 = .ok (.iload_n 1, 1) := by decide +kernel
theorem dX2_passTick_47 : decode cX2_passTick 47 = .ok (.invokevirtual 156, 3) := by decide +kernel
theorem dX2_passTick_50 : decode cX2_passTick 50 = .ok (.goto 35, 3) := by decide +kernel
theorem dX2_passTick_53 : decode cX2_passTick 53 = .ok (.aload_n 0, 1) := by decide +kernel
theorem dX2_passTick_54 : decode cX2_passTick 54 = .ok (.getfield 10, 3) := by decide +kernel
theorem dX2_passTick_57 : decode cX2_passTick 57 = .ok (.getfield 117, 3) := by decide +kernel
theorem dX2_passTick_60 : decode cX2_passTick 60 = .ok (.iload_n 1, 1) := by decide +kernel
theorem dX2_passTick_61 : decode cX2_passTick 61 = .ok (.aaload, 1) := by decide +kernel
theorem dX2_passTick_62 : decode cX2_passTick 62 = .ok (.iload_n 2, 1) := by decide +kernel
theorem dX2_passTick_63 : decode cX2_passTick 63 = .ok (.iaload, 1) := by decide +kernel
theorem dX2_passTick_64 : decode cX2_passTick 64 = .ok (.aload_n 0, 1) := by decide +kernel
theorem dX2_passTick_65 : decode cX2_passTick 65 = .ok (.getfield 45, 3) := by decide +kernel
theorem dX2_passTick_68 : decode cX2_passTick 68 = .ok (.if_icmp .ge 11, 3) := by decide +kernel
theorem dX2_passTick_71 : decode cX2_passTick 71 = .ok (.aload_n 0, 1) := by decide +kernel
theorem dX2_passTick_72 : decode cX2_passTick 72 = .ok (.iload_n 1, 1) := by decide +kernel
theorem dX2_passTick_73 : decode cX2_passTick 73 = .ok (.invokevirtual 159, 3) := by decide +kernel
theorem dX2_passTick_76 : decode cX2_passTick 76 = .ok (.goto 9, 3) := by decide +kernel
theorem dX2_passTick_79 : decode cX2_passTick 79 = .ok (.aload_n 0, 1) := by decide +kernel
theorem dX2_passTick_80 : decode cX2_passTick 80 = .ok (.iload_n 1, 1) := by decide +kernel
theorem dX2_passTick_81 : decode cX2_passTick 81 = .ok (.iload_n 2, 1) := by decide +kernel
theorem dX2_passTick_82 : decode cX2_passTick 82 = .ok (.invokevirtual 162, 3) := by decide +kernel
theorem dX2_passTick_85 : decode cX2_passTick 85 = .ok (.iinc 1 1, 3) := by decide +kernel
theorem dX2_passTick_88 : decode cX2_passTick 88 = .ok (.goto (-69), 3) := by decide +kernel
theorem dX2_passTick_91 : decode cX2_passTick 91 = .ok (.return_, 1) := by decide +kernel
set_option maxRecDepth 20000 in
theorem ggX2_seekCell_X0_bestOther : GoodIn wsX2_seekCell wsX0_bestOther := goodIn_r _ [9, 10, 11, 12, 13, 14, 8, 15, 16, 17, 18, 19, 20, 21, 22, 23, 24, 38, 39, 40, 41, 42, 43, 44, 45, 46, 47, 48, 49, 50] (by decide +kernel) (by decide +kernel)
set_option maxRecDepth 20000 in
theorem gX2_seekCell_X0_bestOther : GoodIn wsX2_seekCell (wsV RX2 166 RX0 yX0_bestOther wsX0_bestOther) := goodIn_app (goodIn_of _ (by decide +kernel)) ggX2_seekCell_X0_bestOther
theorem dX2_seekCell_0 : decode cX2_seekCell 0 = .ok (.aload_n 0, 1) := by decide +kernel
theorem dX2_seekCell_1 : decode cX2_seekCell 1 = .ok (.getfield 10, 3) := by decide +kernel
theorem dX2_seekCell_4 : decode cX2_seekCell 4 = .ok (.iload_n 1, 1) := by decide +kernel
theorem dX2_seekCell_5 : decode cX2_seekCell 5 = .ok (.invokevirtual 166, 3) := by decide +kernel
theorem dX2_seekCell_8 : decode cX2_seekCell 8 = .ok (.istore_n 2, 1) := by decide +kernel
theorem dX2_seekCell_9 : decode cX2_seekCell 9 = .ok (.iload_n 2, 1) := by decide +kernel
theorem dX2_seekCell_10 : decode cX2_seekCell 10 = .ok (.iconst (-1), 1) := by decide +kernel
theorem dX2_seekCell_11 : decode cX2_seekCell 11 = .ok (.if_icmp .eq 31, 3) := by decide +kernel
theorem dX2_seekCell_14 : decode cX2_seekCell 14 = .ok (.aload_n 0, 1) := by decide +kernel
theorem dX2_seekCell_15 : decode cX2_seekCell 15 = .ok (.getfield 10, 3) := by decide +kernel
theorem dX2_seekCell_18 : decode cX2_seekCell 18 = .ok (.getfield 117, 3) := by decide +kernel
theorem dX2_seekCell_21 : decode cX2_seekCell 21 = .ok (.iload_n 1, 1) := by decide +kernel
theorem dX2_seekCell_22 : decode cX2_seekCell 22 = .ok (.aaload, 1) := by decide +kernel
theorem dX2_seekCell_23 : decode cX2_seekCell 23 = .ok (.iload_n 2, 1) := by decide +kernel
theorem dX2_seekCell_24 : decode cX2_seekCell 24 = .ok (.iaload, 1) := by decide +kernel
theorem dX2_seekCell_25 : decode cX2_seekCell 25 = .ok (.aload_n 0, 1) := by decide +kernel
theorem dX2_seekCell_26 : decode cX2_seekCell 26 = .ok (.getfield 45, 3) := by decide +kernel
theorem dX2_seekCell_29 : decode cX2_seekCell 29 = .ok (.if_icmp .lt 13, 3) := by decide +kernel
theorem dX2_seekCell_32 : decode cX2_seekCell 32 = .ok (.aload_n 0, 1) := by decide +kernel
theorem dX2_seekCell_33 : decode cX2_seekCell 33 = .ok (.getfield 10, 3) := by decide +kernel
theorem dX2_seekCell_36 : decode cX2_seekCell 36 = .ok (.getfield 128, 3) := by decide +kernel
theorem dX2_seekCell_39 : decode cX2_seekCell 39 = .ok (.iload_n 1, 1) := by decide +kernel
theorem dX2_seekCell_40 : decode cX2_seekCell 40 = .ok (.iload_n 2, 1) := by decide +kernel
theorem dX2_seekCell_41 : decode cX2_seekCell 41 = .ok (.iastore, 1) := by decide +kernel
theorem dX2_seekCell_42 : decode cX2_seekCell 42 = .ok (.return_, 1) := by decide +kernel
set_option maxRecDepth 20000 in
theorem ggX2_loseCell_X2_dropFavourite : GoodIn wsX2_loseCell wsX2_dropFavourite := goodIn_r _ [9, 10, 11, 12, 13, 14, 15, 16, 17, 18, 19, 20, 21, 22, 23, 24] (by decide +kernel) (by decide +kernel)
set_option maxRecDepth 20000 in
theorem gX2_loseCell_X2_dropFavourite : GoodIn wsX2_loseCell (wsV RX2 89 RX2 yX2_dropFavourite wsX2_dropFavourite) := goodIn_app (goodIn_of _ (by decide +kernel)) ggX2_loseCell_X2_dropFavourite
theorem dX2_loseCell_0 : decode cX2_loseCell 0 = .ok (.aload_n 0, 1) := by decide +kernel
theorem dX2_loseCell_1 : decode cX2_loseCell 1 = .ok (.dup, 1) := by decide +kernel
theorem dX2_loseCell_2 : decode cX2_loseCell 2 = .ok (.getfield 134, 3) := by decide +kernel
theorem dX2_loseCell_5 : decode cX2_loseCell 5 = .ok (.iconst 1, 1) := by decide +kernel
theorem dX2_loseCell_6 : decode cX2_loseCell 6 = .ok (.iadd, 1) := by decide +kernel
theorem dX2_loseCell_7 : decode cX2_loseCell 7 = .ok (.putfield 134, 3) := by decide +kernel
theorem dX2_loseCell_10 : decode cX2_loseCell 10 = .ok (.aload_n 0, 1) := by decide +kernel
theorem dX2_loseCell_11 : decode cX2_loseCell 11 = .ok (.getfield 10, 3) := by decide +kernel
theorem dX2_loseCell_14 : decode cX2_loseCell 14 = .ok (.getfield 128, 3) := by decide +kernel
theorem dX2_loseCell_17 : decode cX2_loseCell 17 = .ok (.iload_n 1, 1) := by decide +kernel
theorem dX2_loseCell_18 : decode cX2_loseCell 18 = .ok (.iconst (-1), 1) := by decide +kernel
theorem dX2_loseCell_19 : decode cX2_loseCell 19 = .ok (.iastore, 1) := by decide +kernel
theorem dX2_loseCell_20 : decode cX2_loseCell 20 = .ok (.aload_n 0, 1) := by decide +kernel
theorem dX2_loseCell_21 : decode cX2_loseCell 21 = .ok (.iload_n 1, 1) := by decide +kernel
theorem dX2_loseCell_22 : decode cX2_loseCell 22 = .ok (.invokevirtual 89, 3) := by decide +kernel
theorem dX2_loseCell_25 : decode cX2_loseCell 25 = .ok (.aload_n 0, 1) := by decide +kernel
theorem dX2_loseCell_26 : decode cX2_loseCell 26 = .ok (.getfield 32, 3) := by decide +kernel
theorem dX2_loseCell_29 : decode cX2_loseCell 29 = .ok (.iload_n 1, 1) := by decide +kernel
theorem dX2_loseCell_30 : decode cX2_loseCell 30 = .ok (.iconst (-1), 1) := by decide +kernel
theorem dX2_loseCell_31 : decode cX2_loseCell 31 = .ok (.iastore, 1) := by decide +kernel
theorem dX2_loseCell_32 : decode cX2_loseCell 32 = .ok (.return_, 1) := by decide +kernel
set_option maxRecDepth 20000 in
theorem ggX2_weighFavourite_X0_bestOther : GoodIn wsX2_weighFavourite wsX0_bestOther := goodIn_r _ [11, 12, 13, 14, 15, 16, 10, 17, 18, 19, 20, 21, 22, 23, 24, 25, 26, 55, 56, 57, 58, 59, 60, 61, 62, 63, 64, 65, 66, 67] (by decide +kernel) (by decide +kernel)
set_option maxRecDepth 20000 in
theorem gX2_weighFavourite_X0_bestOther : GoodIn wsX2_weighFavourite (wsV RX2 166 RX0 yX0_bestOther wsX0_bestOther) := goodIn_app (goodIn_of _ (by decide +kernel)) ggX2_weighFavourite_X0_bestOther
set_option maxRecDepth 20000 in
theorem ggX2_weighFavourite_X2_dropFavourite : GoodIn wsX2_weighFavourite wsX2_dropFavourite := goodIn_r _ [31, 5, 4, 42, 43, 44, 45, 46, 47, 48, 49, 50, 51, 52, 53, 54] (by decide +kernel) (by decide +kernel)
set_option maxRecDepth 20000 in
theorem gX2_weighFavourite_X2_dropFavourite : GoodIn wsX2_weighFavourite (wsV RX2 89 RX2 yX2_dropFavourite wsX2_dropFavourite) := goodIn_app (goodIn_of _ (by decide +kernel)) ggX2_weighFavourite_X2_dropFavourite
set_option maxRecDepth 20000 in
theorem ggX2_weighFavourite_X2_handOver : GoodIn wsX2_weighFavourite wsX2_handOver := goodIn_r _ [35, 36, 37, 38, 39, 40, 1, 41, 27, 28, 29, 30, 31, 5, 4, 42, 43, 44, 45, 46, 47, 48, 49, 50, 51, 52, 53, 54, 55, 56, 57, 58, 59, 60, 61, 62, 63, 64, 65, 66, 67] (by decide +kernel) (by decide +kernel)
set_option maxRecDepth 20000 in
theorem gX2_weighFavourite_X2_handOver : GoodIn wsX2_weighFavourite (wsV RX2 169 RX2 yX2_handOver wsX2_handOver) := goodIn_app (goodIn_of _ (by decide +kernel)) ggX2_weighFavourite_X2_handOver
theorem dX2_weighFavourite_0 : decode cX2_weighFavourite 0 = .ok (.aload_n 0, 1) := by decide +kernel
theorem dX2_weighFavourite_1 : decode cX2_weighFavourite 1 = .ok (.getfield 10, 3) := by decide +kernel
theorem dX2_weighFavourite_4 : decode cX2_weighFavourite 4 = .ok (.iload_n 1, 1) := by decide +kernel
theorem dX2_weighFavourite_5 : decode cX2_weighFavourite 5 = .ok (.invokevirtual 166, 3) := by decide +kernel
theorem dX2_weighFavourite_8 : decode cX2_weighFavourite 8 = .ok (.istore_n 3, 1) := by decide +kernel
theorem dX2_weighFavourite_9 : decode cX2_weighFavourite 9 = .ok (.iload_n 3, 1) := by decide +kernel
theorem dX2_weighFavourite_10 : decode cX2_weighFavourite 10 = .ok (.iconst (-1), 1) := by decide +kernel
theorem dX2_weighFavourite_11 : decode cX2_weighFavourite 11 = .ok (.if_icmp .eq 33, 3) := by decide +kernel
theorem dX2_weighFavourite_14 : decode cX2_weighFavourite 14 = .ok (.aload_n 0, 1) := by decide +kernel
theorem dX2_weighFavourite_15 : decode cX2_weighFavourite 15 = .ok (.getfield 10, 3) := by decide +kernel
theorem dX2_weighFavourite_18 : decode cX2_weighFavourite 18 = .ok (.getfield 117, 3) := by decide +kernel
theorem dX2_weighFavourite_21 : decode cX2_weighFavourite 21 = .ok (.iload_n 1, 1) := by decide +kernel
theorem dX2_weighFavourite_22 : decode cX2_weighFavourite 22 = .ok (.aaload, 1) := by decide +kernel
theorem dX2_weighFavourite_23 : decode cX2_weighFavourite 23 = .ok (.iload_n 3, 1) := by decide +kernel
theorem dX2_weighFavourite_24 : decode cX2_weighFavourite 24 = .ok (.iaload, 1) := by decide +kernel
theorem dX2_weighFavourite_25 : decode cX2_weighFavourite 25 = .ok (.aload_n 0, 1) := by decide +kernel
theorem dX2_weighFavourite_26 : decode cX2_weighFavourite 26 = .ok (.getfield 10, 3) := by decide +kernel
theorem dX2_weighFavourite_29 : decode cX2_weighFavourite 29 = .ok (.getfield 117, 3) := by decide +kernel
theorem dX2_weighFavourite_32 : decode cX2_weighFavourite 32 = .ok (.iload_n 1, 1) := by decide +kernel
theorem dX2_weighFavourite_33 : decode cX2_weighFavourite 33 = .ok (.aaload, 1) := by decide +kernel
theorem dX2_weighFavourite_34 : decode cX2_weighFavourite 34 = .ok (.iload_n 2, 1) := by decide +kernel
theorem dX2_weighFavourite_35 : decode cX2_weighFavourite 35 = .ok (.iaload, 1) := by decide +kernel
theorem dX2_weighFavourite_36 : decode cX2_weighFavourite 36 = .ok (.aload_n 0, 1) := by decide +kernel
theorem dX2_weighFavourite_37 : decode cX2_weighFavourite 37 = .ok (.getfield 38, 3) := by decide +kernel
theorem dX2_weighFavourite_40 : decode cX2_weighFavourite 40 = .ok (.iadd, 1) := by decide +kernel
theorem dX2_weighFavourite_41 : decode cX2_weighFavourite 41 = .ok (.if_icmp .ge 9, 3) := by decide +kernel
theorem dX2_weighFavourite_44 : decode cX2_weighFavourite 44 = .ok (.aload_n 0, 1) := by decide +kernel
theorem dX2_weighFavourite_45 : decode cX2_weighFavourite 45 = .ok (.iload_n 1, 1) := by decide +kernel
theorem dX2_weighFavourite_46 : decode cX2_weighFavourite 46 = .ok (.invokevirtual 89, 3) := by decide +kernel
theorem dX2_weighFavourite_49 : decode cX2_weighFavourite 49 = .ok (.return_, 1) := by decide +kernel
theorem dX2_weighFavourite_50 : decode cX2_weighFavourite 50 = .ok (.aload_n 0, 1) := by decide +kernel
theorem dX2_weighFavourite_51 : decode cX2_weighFavourite 51 = .ok (.getfield 29, 3) := by decide +kernel
theorem dX2_weighFavourite_54 : decode cX2_weighFavourite 54 = .ok (.iload_n 1, 1) := by decide +kernel
theorem dX2_weighFavourite_55 : decode cX2_weighFavourite 55 = .ok (.iload_n 3, 1) := by decide +kernel
theorem dX2_weighFavourite_56 : decode cX2_weighFavourite 56 = .ok (.aload_n 0, 1) := by decide +kernel
theorem dX2_weighFavourite_57 : decode cX2_weighFavourite 57 = .ok (.getfield 25, 3) := by decide +kernel
theorem dX2_weighFavourite_60 : decode cX2_weighFavourite 60 = .ok (.iload_n 1, 1) := by decide +kernel
theorem dX2_weighFavourite_61 : decode cX2_weighFavourite 61 = .ok (.iaload, 1) := by decide +kernel
theorem dX2_weighFavourite_62 : decode cX2_weighFavourite 62 = .ok (.if_icmp .ne 14, 3) := by decide +kernel
theorem dX2_weighFavourite_65 : decode cX2_weighFavourite 65 = .ok (.aload_n 0, 1) := by decide +kernel
theorem dX2_weighFavourite_66 : decode cX2_weighFavourite 66 = .ok (.getfield 29, 3) := by decide +kernel
theorem dX2_weighFavourite_69 : decode cX2_weighFavourite 69 = .ok (.iload_n 1, 1) := by decide +kernel
theorem dX2_weighFavourite_70 : decode cX2_weighFavourite 70 = .ok (.iaload, 1) := by decide +kernel
theorem dX2_weighFavourite_71 : decode cX2_weighFavourite 71 = .ok (.iconst 1, 1) := by decide +kernel
theorem dX2_weighFavourite_72 : decode cX2_weighFavourite 72 = .ok (.iadd, 1) := by decide +kernel
theorem dX2_weighFavourite_73 : decode cX2_weighFavourite 73 = .ok (.goto 4, 3) := by decide +kernel
theorem dX2_weighFavourite_76 : decode cX2_weighFavourite 76 = .ok (.iconst 1, 1) := by decide +kernel
theorem dX2_weighFavourite_77 : decode cX2_weighFavourite 77 = .ok (.iastore, 1) := by decide +kernel
theorem dX2_weighFavourite_78 : decode cX2_weighFavourite 78 = .ok (.aload_n 0, 1) := by decide +kernel
theorem dX2_weighFavourite_79 : decode cX2_weighFavourite 79 = .ok (.getfield 25, 3) := by decide +kernel
theorem dX2_weighFavourite_82 : decode cX2_weighFavourite 82 = .ok (.iload_n 1, 1) := by decide +kernel
theorem dX2_weighFavourite_83 : decode cX2_weighFavourite 83 = .ok (.iload_n 3, 1) := by decide +kernel
theorem dX2_weighFavourite_84 : decode cX2_weighFavourite 84 = .ok (.iastore, 1) := by decide +kernel
theorem dX2_weighFavourite_85 : decode cX2_weighFavourite 85 = .ok (.aload_n 0, 1) := by decide +kernel
theorem dX2_weighFavourite_86 : decode cX2_weighFavourite 86 = .ok (.getfield 29, 3) := by decide +kernel
theorem dX2_weighFavourite_89 : decode cX2_weighFavourite 89 = .ok (.iload_n 1, 1) := by decide +kernel
theorem dX2_weighFavourite_90 : decode cX2_weighFavourite 90 = .ok (.iaload, 1) := by decide +kernel
theorem dX2_weighFavourite_91 : decode cX2_weighFavourite 91 = .ok (.aload_n 0, 1) := by decide +kernel
theorem dX2_weighFavourite_92 : decode cX2_weighFavourite 92 = .ok (.getfield 42, 3) := by decide +kernel
theorem dX2_weighFavourite_95 : decode cX2_weighFavourite 95 = .ok (.if_icmp .lt 10, 3) := by decide +kernel
theorem dX2_weighFavourite_98 : decode cX2_weighFavourite 98 = .ok (.aload_n 0, 1) := by decide +kernel
theorem dX2_weighFavourite_99 : decode cX2_weighFavourite 99 = .ok (.iload_n 1, 1) := by decide +kernel
theorem dX2_weighFavourite_100 : decode cX2_weighFavourite 100 = .ok (.iload_n 2, 1) := by decide +kernel
theorem dX2_weighFavourite_101 : decode cX2_weighFavourite 101 = .ok (.iload_n 3, 1) := by decide +kernel
theorem dX2_weighFavourite_102 : decode cX2_weighFavourite 102 = .ok (.invokevirtual 169, 3) := by decide +kernel
theorem dX2_weighFavourite_105 : decode cX2_weighFavourite 105 = .ok (.return_, 1) := by decide +kernel
set_option maxRecDepth 20000 in
theorem ggX2_handOver_X2_dropFavourite : GoodIn wsX2_handOver wsX2_dropFavourite := goodIn_r _ [12, 13, 14, 15, 16, 17, 18, 19, 20, 21, 22, 23, 24, 25, 26, 27] (by decide +kernel) (by decide +kernel)
set_option maxRecDepth 20000 in
theorem gX2_handOver_X2_dropFavourite : GoodIn wsX2_handOver (wsV RX2 89 RX2 yX2_dropFavourite wsX2_dropFavourite) := goodIn_app (goodIn_of _ (by decide +kernel)) ggX2_handOver_X2_dropFavourite
theorem dX2_handOver_0 : decode cX2_handOver 0 = .ok (.aload_n 0, 1) := by decide +kernel
theorem dX2_handOver_1 : decode cX2_handOver 1 = .ok (.dup, 1) := by decide +kernel
theorem dX2_handOver_2 : decode cX2_handOver 2 = .ok (.getfield 101, 3) := by decide +kernel
theorem dX2_handOver_5 : decode cX2_handOver 5 = .ok (.iconst 1, 1) := by decide +kernel
theorem dX2_handOver_6 : decode cX2_handOver 6 = .ok (.iadd, 1) := by decide +kernel
theorem dX2_handOver_7 : decode cX2_handOver 7 = .ok (.putfield 101, 3) := by decide +kernel
theorem dX2_handOver_10 : decode cX2_handOver 10 = .ok (.iload_n 3, 1) := by decide +kernel
theorem dX2_handOver_11 : decode cX2_handOver 11 = .ok (.aload_n 0, 1) := by decide +kernel
theorem dX2_handOver_12 : decode cX2_handOver 12 = .ok (.getfield 32, 3) := by decide +kernel
theorem dX2_handOver_15 : decode cX2_handOver 15 = .ok (.iload_n 1, 1) := by decide +kernel
theorem dX2_handOver_16 : decode cX2_handOver 16 = .ok (.iaload, 1) := by decide +kernel
theorem dX2_handOver_17 : decode cX2_handOver 17 = .ok (.if_icmp .ne 28, 3) := by decide +kernel
theorem dX2_handOver_20 : decode cX2_handOver 20 = .ok (.aload_n 0, 1) := by decide +kernel
theorem dX2_handOver_21 : decode cX2_handOver 21 = .ok (.getfield 107, 3) := by decide +kernel
theorem dX2_handOver_24 : decode cX2_handOver 24 = .ok (.aload_n 0, 1) := by decide +kernel
theorem dX2_handOver_25 : decode cX2_handOver 25 = .ok (.getfield 35, 3) := by decide +kernel
theorem dX2_handOver_28 : decode cX2_handOver 28 = .ok (.iload_n 1, 1) := by decide +kernel
theorem dX2_handOver_29 : decode cX2_handOver 29 = .ok (.iaload, 1) := by decide +kernel
theorem dX2_handOver_30 : decode cX2_handOver 30 = .ok (.isub, 1) := by decide +kernel
theorem dX2_handOver_31 : decode cX2_handOver 31 = .ok (.iconst 5, 1) := by decide +kernel
theorem dX2_handOver_32 : decode cX2_handOver 32 = .ok (.if_icmp .gt 13, 3) := by decide +kernel
theorem dX2_handOver_35 : decode cX2_handOver 35 = .ok (.aload_n 0, 1) := by decide +kernel
theorem dX2_handOver_36 : decode cX2_handOver 36 = .ok (.dup, 1) := by decide +kernel
theorem dX2_handOver_37 : decode cX2_handOver 37 = .ok (.getfield 131, 3) := by decide +kernel
theorem dX2_handOver_40 : decode cX2_handOver 40 = .ok (.iconst 1, 1) := by decide +kernel
theorem dX2_handOver_41 : decode cX2_handOver 41 = .ok (.iadd, 1) := by decide +kernel
theorem dX2_handOver_42 : decode cX2_handOver 42 = .ok (.putfield 131, 3) := by decide +kernel
theorem dX2_handOver_45 : decode cX2_handOver 45 = .ok (.aload_n 0, 1) := by decide +kernel
theorem dX2_handOver_46 : decode cX2_handOver 46 = .ok (.getfield 32, 3) := by decide +kernel
theorem dX2_handOver_49 : decode cX2_handOver 49 = .ok (.iload_n 1, 1) := by decide +kernel
theorem dX2_handOver_50 : decode cX2_handOver 50 = .ok (.iload_n 2, 1) := by decide +kernel
theorem dX2_handOver_51 : decode cX2_handOver 51 = .ok (.iastore, 1) := by decide +kernel
theorem dX2_handOver_52 : decode cX2_handOver 52 = .ok (.aload_n 0, 1) := by decide +kernel
theorem dX2_handOver_53 : decode cX2_handOver 53 = .ok (.getfield 35, 3) := by decide +kernel
theorem dX2_handOver_56 : decode cX2_handOver 56 = .ok (.iload_n 1, 1) := by decide +kernel
theorem dX2_handOver_57 : decode cX2_handOver 57 = .ok (.aload_n 0, 1) := by decide +kernel
theorem dX2_handOver_58 : decode cX2_handOver 58 = .ok (.getfield 107, 3) := by decide +kernel
theorem dX2_handOver_61 : decode cX2_handOver 61 = .ok (.iastore, 1) := by decide +kernel
theorem dX2_handOver_62 : decode cX2_handOver 62 = .ok (.aload_n 0, 1) := by decide +kernel
theorem dX2_handOver_63 : decode cX2_handOver 63 = .ok (.getfield 10, 3) := by decide +kernel
theorem dX2_handOver_66 : decode cX2_handOver 66 = .ok (.getfield 128, 3) := by decide +kernel
theorem dX2_handOver_69 : decode cX2_handOver 69 = .ok (.iload_n 1, 1) := by decide +kernel
theorem dX2_handOver_70 : decode cX2_handOver 70 = .ok (.iload_n 3, 1) := by decide +kernel
theorem dX2_handOver_71 : decode cX2_handOver 71 = .ok (.iastore, 1) := by decide +kernel
theorem dX2_handOver_72 : decode cX2_handOver 72 = .ok (.aload_n 0, 1) := by decide +kernel
theorem dX2_handOver_73 : decode cX2_handOver 73 = .ok (.iload_n 1, 1) := by decide +kernel
theorem dX2_handOver_74 : decode cX2_handOver 74 = .ok (.invokevirtual 89, 3) := by decide +kernel
theorem dX2_handOver_77 : decode cX2_handOver 77 = .ok (.return_, 1) := by decide +kernel
