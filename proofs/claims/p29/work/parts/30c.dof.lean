set_option maxRecDepth 20000 in
theorem ggL_built_X2_cell : GoodIn wsL_built wsX2_cell := goodIn_ca (goodIn_ca (goodIn_r _ [7, 8, 9, 10, 11, 12, 13, 6, 14, 15, 16, 17, 18, 19, 20, 21, 22, 23, 24, 25, 26, 27, 28, 29, 30, 31, 32, 33, 34, 35, 36, 37, 38, 39, 40, 41, 42, 43, 44, 45, 46, 47, 48, 49, 50, 51, 52, 53] (by decide +kernel) (by decide +kernel)) (goodIn_sub (fun _ h => List.mem_cons_of_mem _ (List.mem_append_left _ (List.mem_append_right _ h))) (by decide +kernel))) (goodIn_sub (fun _ h => List.mem_cons_of_mem _ (List.mem_append_right _ h)) (by decide +kernel))
set_option maxRecDepth 20000 in
theorem gL_built_X2_cell : GoodIn wsL_built (wsV RL 23 RX2 yX2_cell wsX2_cell) := goodIn_app (goodIn_of _ (by decide +kernel)) ggL_built_X2_cell
theorem dL_built_0 : decode cL_built 0 = .ok (.aload_n 0, 1) := by decide +kernel
theorem dL_built_1 : decode cL_built 1 = .ok (.iload_n 1, 1) := by decide +kernel
theorem dL_built_2 : decode cL_built 2 = .ok (.iload_n 2, 1) := by decide +kernel
theorem dL_built_3 : decode cL_built 3 = .ok (.iload_n 3, 1) := by decide +kernel
theorem dL_built_4 : decode cL_built 4 = .ok (.iload 4, 2) := by decide +kernel
theorem dL_built_6 : decode cL_built 6 = .ok (.invokevirtual 23, 3) := by decide +kernel
theorem dL_built_9 : decode cL_built 9 = .ok (.ireturn, 1) := by decide +kernel
theorem dL_built_10 : decode cL_built 10 = .ok (.astore 5, 2) := by decide +kernel
theorem dL_built_12 : decode cL_built 12 = .ok (.bipush (-101), 2) := by decide +kernel
theorem dL_built_14 : decode cL_built 14 = .ok (.ireturn, 1) := by decide +kernel
theorem dL_built_15 : decode cL_built 15 = .ok (.astore 5, 2) := by decide +kernel
theorem dL_built_17 : decode cL_built 17 = .ok (.bipush (-102), 2) := by decide +kernel
theorem dL_built_19 : decode cL_built 19 = .ok (.ireturn, 1) := by decide +kernel
set_option maxRecDepth 20000 in
theorem ggL_came_X2_walker : GoodIn wsL_came wsX2_walker := goodIn_ca (goodIn_ca (goodIn_r _ [7, 8, 9, 10, 11, 12, 13, 14, 6, 15, 16, 17, 18, 19, 20, 21, 22, 23, 24, 25, 26, 27, 28, 29, 30, 31, 32, 33, 34, 35, 36, 37, 38, 39, 40, 41, 42, 43, 44, 45, 46, 47, 48, 49, 50, 51, 52, 53, 54, 55, 56, 57, 58, 59] (by decide +kernel) (by decide +kernel)) (goodIn_sub (fun _ h => List.mem_cons_of_mem _ (List.mem_append_left _ (List.mem_append_right _ h))) (by decide +kernel))) (goodIn_sub (fun _ h => List.mem_cons_of_mem _ (List.mem_append_right _ h)) (by decide +kernel))
set_option maxRecDepth 20000 in
theorem gL_came_X2_walker : GoodIn wsL_came (wsV RL 33 RX2 yX2_walker wsX2_walker) := goodIn_app (goodIn_of _ (by decide +kernel)) ggL_came_X2_walker
theorem dL_came_0 : decode cL_came 0 = .ok (.aload_n 0, 1) := by decide +kernel
theorem dL_came_1 : decode cL_came 1 = .ok (.iload_n 1, 1) := by decide +kernel
theorem dL_came_2 : decode cL_came 2 = .ok (.iload_n 2, 1) := by decide +kernel
theorem dL_came_3 : decode cL_came 3 = .ok (.iload_n 3, 1) := by decide +kernel
theorem dL_came_4 : decode cL_came 4 = .ok (.invokevirtual 33, 3) := by decide +kernel
theorem dL_came_7 : decode cL_came 7 = .ok (.ireturn, 1) := by decide +kernel
theorem dL_came_8 : decode cL_came 8 = .ok (.astore 4, 2) := by decide +kernel
theorem dL_came_10 : decode cL_came 10 = .ok (.bipush (-101), 2) := by decide +kernel
theorem dL_came_12 : decode cL_came 12 = .ok (.ireturn, 1) := by decide +kernel
theorem dL_came_13 : decode cL_came 13 = .ok (.astore 4, 2) := by decide +kernel
theorem dL_came_15 : decode cL_came 15 = .ok (.bipush (-102), 2) := by decide +kernel
theorem dL_came_17 : decode cL_came 17 = .ok (.ireturn, 1) := by decide +kernel
set_option maxRecDepth 20000 in
theorem ggL_turned_X2_turn : GoodIn wsL_turned wsX2_turn := goodIn_ca (goodIn_r _ [6, 7, 8, 9, 10, 11, 5, 12, 13, 14, 15, 16, 17, 18, 19, 20, 21, 22, 23, 24, 25, 26, 27, 28, 29, 30, 31, 32, 33, 34, 35, 36, 37, 38, 39, 40, 41, 42, 43, 44, 45, 46, 47, 48, 49, 50, 51, 52, 53] (by decide +kernel) (by decide +kernel)) (goodIn_sub (fun _ h => List.mem_cons_of_mem _ (List.mem_append_right _ h)) (by decide +kernel))
set_option maxRecDepth 20000 in
theorem gL_turned_X2_turn : GoodIn wsL_turned (wsV RL 37 RX2 yX2_turn wsX2_turn) := goodIn_app (goodIn_of _ (by decide +kernel)) ggL_turned_X2_turn
theorem dL_turned_0 : decode cL_turned 0 = .ok (.aload_n 0, 1) := by decide +kernel
theorem dL_turned_1 : decode cL_turned 1 = .ok (.iload_n 1, 1) := by decide +kernel
theorem dL_turned_2 : decode cL_turned 2 = .ok (.invokevirtual 37, 3) := by decide +kernel
theorem dL_turned_5 : decode cL_turned 5 = .ok (.ifCond .eq 7, 3) := by decide +kernel
theorem dL_turned_8 : decode cL_turned 8 = .ok (.iconst 1, 1) := by decide +kernel
theorem dL_turned_9 : decode cL_turned 9 = .ok (.goto 4, 3) := by decide +kernel
theorem dL_turned_12 : decode cL_turned 12 = .ok (.iconst 0, 1) := by decide +kernel
theorem dL_turned_13 : decode cL_turned 13 = .ok (.ireturn, 1) := by decide +kernel
theorem dL_turned_14 : decode cL_turned 14 = .ok (.astore_n 2, 1) := by decide +kernel
theorem dL_turned_15 : decode cL_turned 15 = .ok (.bipush (-101), 2) := by decide +kernel
theorem dL_turned_17 : decode cL_turned 17 = .ok (.ireturn, 1) := by decide +kernel
set_option maxRecDepth 20000 in
theorem ggL_tuned_X2_tune : GoodIn wsL_tuned wsX2_tune := goodIn_ca (goodIn_ca (goodIn_r _ [7, 8, 9, 10, 11, 12, 6, 13, 14, 15, 16, 17, 18, 19, 20, 21, 22, 23, 24, 25, 26, 27, 28, 29, 30, 31, 32, 33, 34, 35, 36, 37, 38, 39, 40, 41, 42, 43, 44, 45, 46, 47] (by decide +kernel) (by decide +kernel)) (goodIn_sub (fun _ h => List.mem_cons_of_mem _ (List.mem_append_left _ (List.mem_append_right _ h))) (by decide +kernel))) (goodIn_sub (fun _ h => List.mem_cons_of_mem _ (List.mem_append_right _ h)) (by decide +kernel))
set_option maxRecDepth 20000 in
theorem gL_tuned_X2_tune : GoodIn wsL_tuned (wsV RL 43 RX2 yX2_tune wsX2_tune) := goodIn_app (goodIn_of _ (by decide +kernel)) ggL_tuned_X2_tune
theorem dL_tuned_0 : decode cL_tuned 0 = .ok (.aload_n 0, 1) := by decide +kernel
theorem dL_tuned_1 : decode cL_tuned 1 = .ok (.iload_n 1, 1) := by decide +kernel
theorem dL_tuned_2 : decode cL_tuned 2 = .ok (.iload_n 2, 1) := by decide +kernel
theorem dL_tuned_3 : decode cL_tuned 3 = .ok (.invokevirtual 43, 3) := by decide +kernel
theorem dL_tuned_6 : decode cL_tuned 6 = .ok (.ireturn, 1) := by decide +kernel
theorem dL_tuned_7 : decode cL_tuned 7 = .ok (.astore_n 3, 1) := by decide +kernel
theorem dL_tuned_8 : decode cL_tuned 8 = .ok (.bipush (-101), 2) := by decide +kernel
theorem dL_tuned_10 : decode cL_tuned 10 = .ok (.ireturn, 1) := by decide +kernel
theorem dL_tuned_11 : decode cL_tuned 11 = .ok (.astore_n 3, 1) := by decide +kernel
theorem dL_tuned_12 : decode cL_tuned 12 = .ok (.bipush (-102), 2) := by decide +kernel
theorem dL_tuned_14 : decode cL_tuned 14 = .ok (.ireturn, 1) := by decide +kernel
set_option maxRecDepth 20000 in
theorem ggL_moved_X2_move : GoodIn wsL_moved wsX2_move := goodIn_ca (goodIn_ca (goodIn_r _ [7, 8, 9, 10, 11, 12, 13, 6, 14, 15, 16, 17, 18, 19, 20, 21, 22, 23, 24, 25, 26, 27, 28, 29, 30, 31, 32, 33, 34, 35, 36, 37, 38, 39, 40, 41, 42, 43, 44, 45, 46, 47, 48] (by decide +kernel) (by decide +kernel)) (goodIn_sub (fun _ h => List.mem_cons_of_mem _ (List.mem_append_left _ (List.mem_append_right _ h))) (by decide +kernel))) (goodIn_sub (fun _ h => List.mem_cons_of_mem _ (List.mem_append_right _ h)) (by decide +kernel))
set_option maxRecDepth 20000 in
theorem gL_moved_X2_move : GoodIn wsL_moved (wsV RL 47 RX2 yX2_move wsX2_move) := goodIn_app (goodIn_of _ (by decide +kernel)) ggL_moved_X2_move
theorem dL_moved_0 : decode cL_moved 0 = .ok (.aload_n 0, 1) := by decide +kernel
theorem dL_moved_1 : decode cL_moved 1 = .ok (.iload_n 1, 1) := by decide +kernel
theorem dL_moved_2 : decode cL_moved 2 = .ok (.iload_n 2, 1) := by decide +kernel
theorem dL_moved_3 : decode cL_moved 3 = .ok (.iload_n 3, 1) := by decide +kernel
theorem dL_moved_4 : decode cL_moved 4 = .ok (.invokevirtual 47, 3) := by decide +kernel
theorem dL_moved_7 : decode cL_moved 7 = .ok (.iconst 0, 1) := by decide +kernel
theorem dL_moved_8 : decode cL_moved 8 = .ok (.ireturn, 1) := by decide +kernel
theorem dL_moved_9 : decode cL_moved 9 = .ok (.astore 4, 2) := by decide +kernel
theorem dL_moved_11 : decode cL_moved 11 = .ok (.bipush (-101), 2) := by decide +kernel
theorem dL_moved_13 : decode cL_moved 13 = .ok (.ireturn, 1) := by decide +kernel
theorem dL_moved_14 : decode cL_moved 14 = .ok (.astore 4, 2) := by decide +kernel
theorem dL_moved_16 : decode cL_moved 16 = .ok (.bipush (-102), 2) := by decide +kernel
theorem dL_moved_18 : decode cL_moved 18 = .ok (.ireturn, 1) := by decide +kernel
set_option maxRecDepth 20000 in
theorem ggL_set_X2_margin : GoodIn wsL_set wsX2_margin := goodIn_ca (goodIn_r _ [6, 7, 8, 9, 5, 10, 11, 12, 109, 110, 111, 112, 113, 114, 115, 116, 117, 118, 119, 120, 121] (by decide +kernel) (by decide +kernel)) (goodIn_sub (fun _ h => List.mem_cons_of_mem _ (List.mem_append_right _ h)) (by decide +kernel))
set_option maxRecDepth 20000 in
theorem gL_set_X2_margin : GoodIn wsL_set (wsV RL 51 RX2 yX2_margin wsX2_margin) := goodIn_app (goodIn_of _ (by decide +kernel)) ggL_set_X2_margin
set_option maxRecDepth 20000 in
theorem ggL_set_X2_patience : GoodIn wsL_set wsX2_patience := goodIn_ca (goodIn_r _ [16, 17, 8, 9, 5, 10, 11, 12, 109, 110, 111, 112, 113, 114, 115, 116, 117, 118, 119, 120, 121] (by decide +kernel) (by decide +kernel)) (goodIn_sub (fun _ h => List.mem_cons_of_mem _ (List.mem_append_right _ h)) (by decide +kernel))
set_option maxRecDepth 20000 in
theorem gL_set_X2_patience : GoodIn wsL_set (wsV RL 55 RX2 yX2_patience wsX2_patience) := goodIn_app (goodIn_of _ (by decide +kernel)) ggL_set_X2_patience
set_option maxRecDepth 20000 in
theorem ggL_set_X2_bound : GoodIn wsL_set wsX2_bound := goodIn_ca (goodIn_r _ [21, 22, 8, 9, 5, 10, 11, 12, 109, 110, 111, 112, 113, 114, 115, 116, 117, 118, 119, 120, 121] (by decide +kernel) (by decide +kernel)) (goodIn_sub (fun _ h => List.mem_cons_of_mem _ (List.mem_append_right _ h)) (by decide +kernel))
set_option maxRecDepth 20000 in
theorem gL_set_X2_bound : GoodIn wsL_set (wsV RL 58 RX2 yX2_bound wsX2_bound) := goodIn_app (goodIn_of _ (by decide +kernel)) ggL_set_X2_bound
set_option maxRecDepth 20000 in
theorem ggL_set_X2_tick : GoodIn wsL_set wsX2_tick := goodIn_ca (goodIn_r _ [26, 27, 8, 9, 5, 10, 11, 12, 28, 29, 30, 31, 32, 33, 34, 35, 36, 22, 37, 38, 39, 40, 41, 42, 43, 44, 45, 46, 47, 48, 49, 50, 51, 52, 53, 54, 55, 56, 57, 58, 59, 60, 61, 62, 63, 64, 65, 66, 67, 68, 69, 70, 71, 72, 73, 74, 75, 76, 77, 78, 79, 80, 81, 82, 83, 84, 85, 86, 87, 88, 89, 90, 91, 92, 93, 94, 95, 96, 97, 98, 99, 100, 101, 102, 7, 17, 103, 104, 105, 106, 107, 108, 109, 110, 111, 112, 113, 114, 115, 116, 117, 118, 119, 120, 121, 122, 123, 124, 125, 126, 127, 128, 129, 130, 131, 132, 133, 134] (by decide +kernel) (by decide +kernel)) (goodIn_sub (fun _ h => List.mem_cons_of_mem _ (List.mem_append_right _ h)) (by decide +kernel))
set_option maxRecDepth 20000 in
theorem gL_set_X2_tick : GoodIn wsL_set (wsV RL 61 RX2 yX2_tick wsX2_tick) := goodIn_app (goodIn_of _ (by decide +kernel)) ggL_set_X2_tick
theorem dL_set_0 : decode cL_set 0 = .ok (.iload_n 1, 1) := by decide +kernel
theorem dL_set_1 : decode cL_set 1 = .ok (.ifCond .ne 11, 3) := by decide +kernel
theorem dL_set_4 : decode cL_set 4 = .ok (.aload_n 0, 1) := by decide +kernel
theorem dL_set_5 : decode cL_set 5 = .ok (.iload_n 2, 1) := by decide +kernel
theorem dL_set_6 : decode cL_set 6 = .ok (.invokevirtual 51, 3) := by decide +kernel
theorem dL_set_9 : decode cL_set 9 = .ok (.goto 34, 3) := by decide +kernel
theorem dL_set_12 : decode cL_set 12 = .ok (.iload_n 1, 1) := by decide +kernel
theorem dL_set_13 : decode cL_set 13 = .ok (.iconst 1, 1) := by decide +kernel
theorem dL_set_14 : decode cL_set 14 = .ok (.if_icmp .ne 11, 3) := by decide +kernel
theorem dL_set_17 : decode cL_set 17 = .ok (.aload_n 0, 1) := by decide +kernel
theorem dL_set_18 : decode cL_set 18 = .ok (.iload_n 2, 1) := by decide +kernel
theorem dL_set_19 : decode cL_set 19 = .ok (.invokevirtual 55, 3) := by decide +kernel
theorem dL_set_22 : decode cL_set 22 = .ok (.goto 21, 3) := by decide +kernel
theorem dL_set_25 : decode cL_set 25 = .ok (.iload_n 1, 1) := by decide +kernel
theorem dL_set_26 : decode cL_set 26 = .ok (.iconst 2, 1) := by decide +kernel
theorem dL_set_27 : decode cL_set 27 = .ok (.if_icmp .ne 11, 3) := by decide +kernel
theorem dL_set_30 : decode cL_set 30 = .ok (.aload_n 0, 1) := by decide +kernel
theorem dL_set_31 : decode cL_set 31 = .ok (.iload_n 2, 1) := by decide +kernel
theorem dL_set_32 : decode cL_set 32 = .ok (.invokevirtual 58, 3) := by decide +kernel
theorem dL_set_35 : decode cL_set 35 = .ok (.goto 8, 3) := by decide +kernel
theorem dL_set_38 : decode cL_set 38 = .ok (.aload_n 0, 1) := by decide +kernel
theorem dL_set_39 : decode cL_set 39 = .ok (.iload_n 2, 1) := by decide +kernel
theorem dL_set_40 : decode cL_set 40 = .ok (.invokevirtual 61, 3) := by decide +kernel
theorem dL_set_43 : decode cL_set 43 = .ok (.ireturn, 1) := by decide +kernel
theorem dL_set_44 : decode cL_set 44 = .ok (.astore_n 3, 1) := by decide +kernel
theorem dL_set_45 : decode cL_set 45 = .ok (.bipush (-101), 2) := by decide +kernel
theorem dL_set_47 : decode cL_set 47 = .ok (.ireturn, 1) := by decide +kernel
set_option maxRecDepth 20000 in
theorem ggL_of_X2_signal : GoodIn wsL_of wsX2_signal := goodIn_ca (goodIn_r _ [6, 7, 8, 9, 10, 5, 11, 12, 13, 14, 15, 16, 17, 18, 19, 20, 21, 22, 23, 24, 25, 26, 27, 28, 29, 30, 31, 32, 134, 135, 136, 137, 138, 139, 140, 141, 142, 143, 144, 145, 146, 147, 148, 149, 150, 151, 152, 153, 154, 155, 156, 157, 158, 159] (by decide +kernel) (by decide +kernel)) (goodIn_sub (fun _ h => List.mem_cons_of_mem _ (List.mem_append_right _ h)) (by decide +kernel))
set_option maxRecDepth 20000 in
theorem gL_of_X2_signal : GoodIn wsL_of (wsV RL 64 RX2 yX2_signal wsX2_signal) := goodIn_app (goodIn_of _ (by decide +kernel)) ggL_of_X2_signal
set_option maxRecDepth 20000 in
theorem ggL_of_X2_quality : GoodIn wsL_of wsX2_quality := goodIn_ca (goodIn_r _ [36, 7, 37, 8, 9, 10, 5, 11, 12, 13, 14, 15, 16, 17, 18, 19, 38, 39, 40, 23, 41, 42, 43, 44, 45, 46, 47, 48, 49, 50, 51, 52, 53, 54, 55, 56, 57, 21, 22, 24, 25, 26, 27, 28, 29, 30, 31, 32, 58, 59, 60, 61, 62, 63, 134, 135, 136, 137, 138, 139, 140, 141, 142, 143, 144, 145, 146, 147, 148, 149, 150, 151, 152, 153, 154, 155, 156, 157, 158, 159] (by decide +kernel) (by decide +kernel)) (goodIn_sub (fun _ h => List.mem_cons_of_mem _ (List.mem_append_right _ h)) (by decide +kernel))
set_option maxRecDepth 20000 in
theorem gL_of_X2_quality : GoodIn wsL_of (wsV RL 66 RX2 yX2_quality wsX2_quality) := goodIn_app (goodIn_of _ (by decide +kernel)) ggL_of_X2_quality
set_option maxRecDepth 20000 in
theorem ggL_of_X2_load : GoodIn wsL_of wsX2_load := goodIn_ca (goodIn_r _ [67, 7, 8, 9, 10, 5, 11, 12, 13, 14, 68, 52, 53, 23, 54, 44, 55, 56, 134, 135, 136, 137, 138, 139, 140, 141, 142, 143, 144, 145, 146, 147, 148, 149, 150, 151, 152, 153, 154, 155, 156, 157, 158, 159] (by decide +kernel) (by decide +kernel)) (goodIn_sub (fun _ h => List.mem_cons_of_mem _ (List.mem_append_right _ h)) (by decide +kernel))
set_option maxRecDepth 20000 in
theorem gL_of_X2_load : GoodIn wsL_of (wsV RL 69 RX2 yX2_load wsX2_load) := goodIn_app (goodIn_of _ (by decide +kernel)) ggL_of_X2_load
set_option maxRecDepth 20000 in
theorem ggL_of_X2_use : GoodIn wsL_of wsX2_use := goodIn_ca (goodIn_r _ [72, 7, 8, 9, 10, 5, 11, 12, 13, 14, 73, 47, 48, 23, 49, 50, 51, 52, 53, 54, 44, 55, 56, 134, 135, 136, 137, 138, 139, 140, 141, 142, 143, 144, 145, 146, 147, 148, 149, 150, 151, 152, 153, 154, 155, 156, 157, 158, 159] (by decide +kernel) (by decide +kernel)) (goodIn_sub (fun _ h => List.mem_cons_of_mem _ (List.mem_append_right _ h)) (by decide +kernel))
set_option maxRecDepth 20000 in
theorem gL_of_X2_use : GoodIn wsL_of (wsV RL 71 RX2 yX2_use wsX2_use) := goodIn_app (goodIn_of _ (by decide +kernel)) ggL_of_X2_use
set_option maxRecDepth 20000 in
theorem ggL_of_X2_servedBy : GoodIn wsL_of wsX2_servedBy := goodIn_ca (goodIn_r _ [77, 7, 78, 15, 16, 17, 5, 18, 12, 13, 19, 134, 135, 136, 137, 138, 139, 140, 141, 142, 143, 144, 145, 146, 147, 148, 149, 150, 151, 152, 153, 154, 155, 156, 157, 158, 159] (by decide +kernel) (by decide +kernel)) (goodIn_sub (fun _ h => List.mem_cons_of_mem _ (List.mem_append_right _ h)) (by decide +kernel))
set_option maxRecDepth 20000 in
theorem gL_of_X2_servedBy : GoodIn wsL_of (wsV RL 74 RX2 yX2_servedBy wsX2_servedBy) := goodIn_app (goodIn_of _ (by decide +kernel)) ggL_of_X2_servedBy
set_option maxRecDepth 20000 in
theorem ggL_of_X2_favourite : GoodIn wsL_of wsX2_favourite := goodIn_ca (goodIn_r _ [82, 83, 15, 16, 17, 5, 18, 12, 13, 7, 19, 134, 135, 136, 137, 138, 139, 140, 141, 142, 143, 144, 145, 146, 147, 148, 149, 150, 151, 152, 153, 154, 155, 156, 157, 158, 159] (by decide +kernel) (by decide +kernel)) (goodIn_sub (fun _ h => List.mem_cons_of_mem _ (List.mem_append_right _ h)) (by decide +kernel))
set_option maxRecDepth 20000 in
theorem gL_of_X2_favourite : GoodIn wsL_of (wsV RL 77 RX2 yX2_favourite wsX2_favourite) := goodIn_app (goodIn_of _ (by decide +kernel)) ggL_of_X2_favourite
set_option maxRecDepth 20000 in
theorem ggL_of_X2_heldFor : GoodIn wsL_of wsX2_heldFor := goodIn_ca (goodIn_r _ [87, 88, 15, 16, 17, 5, 18, 12, 13, 7, 19, 134, 135, 136, 137, 138, 139, 140, 141, 142, 143, 144, 145, 146, 147, 148, 149, 150, 151, 152, 153, 154, 155, 156, 157, 158, 159] (by decide +kernel) (by decide +kernel)) (goodIn_sub (fun _ h => List.mem_cons_of_mem _ (List.mem_append_right _ h)) (by decide +kernel))
set_option maxRecDepth 20000 in
theorem gL_of_X2_heldFor : GoodIn wsL_of (wsV RL 80 RX2 yX2_heldFor wsX2_heldFor) := goodIn_app (goodIn_of _ (by decide +kernel)) ggL_of_X2_heldFor
set_option maxRecDepth 20000 in
theorem ggL_of_X2_bestCell : GoodIn wsL_of wsX2_bestCell := goodIn_ca (goodIn_r _ [92, 93, 94, 95, 96, 15, 16, 17, 5, 18, 12, 13, 7, 19, 97, 98, 99, 100, 101, 102, 103, 104, 105, 106, 107, 108, 109, 110, 111, 112, 113, 114, 39, 40, 23, 41, 42, 43, 44, 45, 46, 47, 48, 49, 50, 51, 52, 53, 54, 55, 56, 57, 21, 22, 24, 25, 26, 27, 28, 29, 30, 31, 32, 58, 59, 60, 61, 62, 63, 115, 116, 117, 118, 119, 120, 121, 122, 123, 124, 125, 126, 127, 128, 129, 130, 131, 132, 133, 134, 135, 136, 137, 138, 139, 140, 141, 142, 143, 144, 145, 146, 160, 161, 162, 163, 164, 165, 166, 147, 148, 149, 150, 151, 152, 153, 154, 155, 156, 157, 158, 159] (by decide +kernel) (by decide +kernel)) (goodIn_sub (fun _ h => List.mem_cons_of_mem _ (List.mem_append_right _ h)) (by decide +kernel))
set_option maxRecDepth 20000 in
theorem gL_of_X2_bestCell : GoodIn wsL_of (wsV RL 83 RX2 yX2_bestCell wsX2_bestCell) := goodIn_app (goodIn_of _ (by decide +kernel)) ggL_of_X2_bestCell
theorem dL_of_0 : decode cL_of 0 = .ok (.iload_n 1, 1) := by decide +kernel
theorem dL_of_1 : decode cL_of 1 = .ok (.ifCond .ne 12, 3) := by decide +kernel
theorem dL_of_4 : decode cL_of 4 = .ok (.aload_n 0, 1) := by decide +kernel
theorem dL_of_5 : decode cL_of 5 = .ok (.iload_n 2, 1) := by decide +kernel
theorem dL_of_6 : decode cL_of 6 = .ok (.iload_n 3, 1) := by decide +kernel
theorem dL_of_7 : decode cL_of 7 = .ok (.invokevirtual 64, 3) := by decide +kernel
theorem dL_of_10 : decode cL_of 10 = .ok (.goto 88, 3) := by decide +kernel
theorem dL_of_13 : decode cL_of 13 = .ok (.iload_n 1, 1) := by decide +kernel
theorem dL_of_14 : decode cL_of 14 = .ok (.iconst 1, 1) := by decide +kernel
theorem dL_of_15 : decode cL_of 15 = .ok (.if_icmp .ne 12, 3) := by decide +kernel
theorem dL_of_18 : decode cL_of 18 = .ok (.aload_n 0, 1) := by decide +kernel
theorem dL_of_19 : decode cL_of 19 = .ok (.iload_n 2, 1) := by decide +kernel
theorem dL_of_20 : decode cL_of 20 = .ok (.iload_n 3, 1) := by decide +kernel
theorem dL_of_21 : decode cL_of 21 = .ok (.invokevirtual 66, 3) := by decide +kernel
theorem dL_of_24 : decode cL_of 24 = .ok (.goto 74, 3) := by decide +kernel
theorem dL_of_27 : decode cL_of 27 = .ok (.iload_n 1, 1) := by decide +kernel
theorem dL_of_28 : decode cL_of 28 = .ok (.iconst 2, 1) := by decide +kernel
theorem dL_of_29 : decode cL_of 29 = .ok (.if_icmp .ne 11, 3) := by decide +kernel
theorem dL_of_32 : decode cL_of 32 = .ok (.aload_n 0, 1) := by decide +kernel
theorem dL_of_33 : decode cL_of 33 = .ok (.iload_n 2, 1) := by decide +kernel
theorem dL_of_34 : decode cL_of 34 = .ok (.invokevirtual 69, 3) := by decide +kernel
theorem dL_of_37 : decode cL_of 37 = .ok (.goto 61, 3) := by decide +kernel
theorem dL_of_40 : decode cL_of 40 = .ok (.iload_n 1, 1) := by decide +kernel
theorem dL_of_41 : decode cL_of 41 = .ok (.iconst 3, 1) := by decide +kernel
theorem dL_of_42 : decode cL_of 42 = .ok (.if_icmp .ne 11, 3) := by decide +kernel
theorem dL_of_45 : decode cL_of 45 = .ok (.aload_n 0, 1) := by decide +kernel
theorem dL_of_46 : decode cL_of 46 = .ok (.iload_n 2, 1) := by decide +kernel
theorem dL_of_47 : decode cL_of 47 = .ok (.invokevirtual 71, 3) := by decide +kernel
theorem dL_of_50 : decode cL_of 50 = .ok (.goto 48, 3) := by decide +kernel
theorem dL_of_53 : decode cL_of 53 = .ok (.iload_n 1, 1) := by decide +kernel
theorem dL_of_54 : decode cL_of 54 = .ok (.iconst 4, 1) := by decide +kernel
theorem dL_of_55 : decode cL_of 55 = .ok (.if_icmp .ne 11, 3) := by decide +kernel
theorem dL_of_58 : decode cL_of 58 = .ok (.aload_n 0, 1) := by decide +kernel
theorem dL_of_59 : decode cL_of 59 = .ok (.iload_n 2, 1) := by decide +kernel
theorem dL_of_60 : decode cL_of 60 = .ok (.invokevirtual 74, 3) := by decide +kernel
theorem dL_of_63 : decode cL_of 63 = .ok (.goto 35, 3) := by decide +kernel
theorem dL_of_66 : decode cL_of 66 = .ok (.iload_n 1, 1) := by decide +kernel
theorem dL_of_67 : decode cL_of 67 = .ok (.iconst 5, 1) := by decide +kernel
theorem dL_of_68 : decode cL_of 68 = .ok (.if_icmp .ne 11, 3) := by decide +kernel
theorem dL_of_71 : decode cL_of 71 = .ok (.aload_n 0, 1) := by decide +kernel
theorem dL_of_72 : decode cL_of 72 = .ok (.iload_n 2, 1) := by decide +kernel
theorem dL_of_73 : decode cL_of 73 = .ok (.invokevirtual 77, 3) := by decide +kernel
theorem dL_of_76 : decode cL_of 76 = .ok (.goto 22, 3) := by decide +kernel
theorem dL_of_79 : decode cL_of 79 = .ok (.iload_n 1, 1) := by decide +kernel
theorem dL_of_80 : decode cL_of 80 = .ok (.bipush 6, 2) := by decide +kernel
theorem dL_of_82 : decode cL_of 82 = .ok (.if_icmp .ne 11, 3) := by decide +kernel
theorem dL_of_85 : decode cL_of 85 = .ok (.aload_n 0, 1) := by decide +kernel
theorem dL_of_86 : decode cL_of 86 = .ok (.iload_n 2, 1) := by decide +kernel
theorem dL_of_87 : decode cL_of 87 = .ok (.invokevirtual 80, 3) := by decide +kernel
theorem dL_of_90 : decode cL_of 90 = .ok (.goto 8, 3) := by decide +kernel
theorem dL_of_93 : decode cL_of 93 = .ok (.aload_n 0, 1) := by decide +kernel
theorem dL_of_94 : decode cL_of 94 = .ok (.iload_n 2, 1) := by decide +kernel
theorem dL_of_95 : decode cL_of 95 = .ok (.invokevirtual 83, 3) := by decide +kernel
theorem dL_of_98 : decode cL_of 98 = .ok (.ireturn, 1) := by decide +kernel
theorem dL_of_99 : decode cL_of 99 = .ok (.astore 4, 2) := by decide +kernel
theorem dL_of_101 : decode cL_of 101 = .ok (.bipush (-101), 2) := by decide +kernel
theorem dL_of_103 : decode cL_of 103 = .ok (.ireturn, 1) := by decide +kernel
set_option maxRecDepth 20000 in
theorem ggL_place_L_some : GoodIn wsL_place wsL_some := goodIn_r _ [4] (by decide +kernel) (by decide +kernel)
set_option maxRecDepth 20000 in
theorem gL_place_L_some : GoodIn wsL_place (va_wsS RL 86 yL_some wsL_some) := goodIn_app (goodIn_of _ (by decide +kernel)) ggL_place_L_some
theorem dL_place_0 : decode cL_place 0 = .ok (.iload_n 0, 1) := by decide +kernel
theorem dL_place_1 : decode cL_place 1 = .ok (.bipush 60, 2) := by decide +kernel
theorem dL_place_3 : decode cL_place 3 = .ok (.invokestatic 86, 3) := by decide +kernel
theorem dL_place_6 : decode cL_place 6 = .ok (.ifCond .ne 8, 3) := by decide +kernel
theorem dL_place_9 : decode cL_place 9 = .ok (.bipush 64, 2) := by decide +kernel
theorem dL_place_11 : decode cL_place 11 = .ok (.goto 30, 3) := by decide +kernel
theorem dL_place_14 : decode cL_place 14 = .ok (.iload_n 0, 1) := by decide +kernel
theorem dL_place_15 : decode cL_place 15 = .ok (.iconst 3, 1) := by decide +kernel
theorem dL_place_16 : decode cL_place 16 = .ok (.ishr, 1) := by decide +kernel
theorem dL_place_17 : decode cL_place 17 = .ok (.iconst 4, 1) := by decide +kernel
theorem dL_place_18 : decode cL_place 18 = .ok (.invokestatic 86, 3) := by decide +kernel
theorem dL_place_21 : decode cL_place 21 = .ok (.ifCond .ne 12, 3) := by decide +kernel
theorem dL_place_24 : decode cL_place 24 = .ok (.iload_n 0, 1) := by decide +kernel
theorem dL_place_25 : decode cL_place 25 = .ok (.bipush 64, 2) := by decide +kernel
theorem dL_place_27 : decode cL_place 27 = .ok (.invokestatic 86, 3) := by decide +kernel
theorem dL_place_30 : decode cL_place 30 = .ok (.goto 11, 3) := by decide +kernel
theorem dL_place_33 : decode cL_place 33 = .ok (.iload_n 0, 1) := by decide +kernel
theorem dL_place_34 : decode cL_place 34 = .ok (.iconst 2, 1) := by decide +kernel
theorem dL_place_35 : decode cL_place 35 = .ok (.ishr, 1) := by decide +kernel
theorem dL_place_36 : decode cL_place 36 = .ok (.bipush 14, 2) := by decide +kernel
theorem dL_place_38 : decode cL_place 38 = .ok (.invokestatic 86, 3) := by decide +kernel
theorem dL_place_41 : decode cL_place 41 = .ok (.ireturn, 1) := by decide +kernel
