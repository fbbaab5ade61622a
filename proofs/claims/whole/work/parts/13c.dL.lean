theorem dJ9_abs_0f7a4_0 : decode cJ9_abs_0f7a4 0 = .ok (.iload_n 0, 1) := by decide +kernel
theorem dJ9_abs_0f7a4_1 : decode cJ9_abs_0f7a4 1 = .ok (.ifCond .ge 8, 3) := by decide +kernel
theorem dJ9_abs_0f7a4_4 : decode cJ9_abs_0f7a4 4 = .ok (.iload_n 0, 1) := by decide +kernel
theorem dJ9_abs_0f7a4_5 : decode cJ9_abs_0f7a4 5 = .ok (.ineg, 1) := by decide +kernel
theorem dJ9_abs_0f7a4_6 : decode cJ9_abs_0f7a4 6 = .ok (.goto 4, 3) := by decide +kernel
theorem dJ9_abs_0f7a4_9 : decode cJ9_abs_0f7a4 9 = .ok (.iload_n 0, 1) := by decide +kernel
theorem dJ9_abs_0f7a4_10 : decode cJ9_abs_0f7a4 10 = .ok (.ireturn, 1) := by decide +kernel
theorem dJ9_max_7cf53_0 : decode cJ9_max_7cf53 0 = .ok (.iload_n 0, 1) := by decide +kernel
theorem dJ9_max_7cf53_1 : decode cJ9_max_7cf53 1 = .ok (.iload_n 1, 1) := by decide +kernel
theorem dJ9_max_7cf53_2 : decode cJ9_max_7cf53 2 = .ok (.if_icmp .lt 7, 3) := by decide +kernel
theorem dJ9_max_7cf53_5 : decode cJ9_max_7cf53 5 = .ok (.iload_n 0, 1) := by decide +kernel
theorem dJ9_max_7cf53_6 : decode cJ9_max_7cf53 6 = .ok (.goto 4, 3) := by decide +kernel
theorem dJ9_max_7cf53_9 : decode cJ9_max_7cf53 9 = .ok (.iload_n 1, 1) := by decide +kernel
theorem dJ9_max_7cf53_10 : decode cJ9_max_7cf53 10 = .ok (.ireturn, 1) := by decide +kernel
set_option maxRecDepth 20000 in
theorem ggL_cell_X2_cell : GoodIn wsL_cell wsX2_cell := goodIn_ca (goodIn_ca (goodIn_r _ [7, 8, 9, 10, 11, 12, 13, 6, 14, 15, 16, 17, 18, 19, 20, 21, 22, 23, 24, 25, 26, 27, 28, 29, 30, 31, 32, 33, 34, 35, 36, 37, 38, 39, 40, 41, 42, 43, 44, 45, 46, 47, 48, 49, 50, 51, 52, 53] (by decide +kernel) (by decide +kernel)) (goodIn_sub (fun _ h => List.mem_cons_of_mem _ (List.mem_append_left _ (List.mem_append_right _ h))) (by decide +kernel))) (goodIn_sub (fun _ h => List.mem_cons_of_mem _ (List.mem_append_right _ h)) (by decide +kernel))
set_option maxRecDepth 20000 in
theorem gL_cell_X2_cell : GoodIn wsL_cell (wsV RL 7 RX2 yX2_cell wsX2_cell) := goodIn_app (goodIn_of _ (by decide +kernel)) ggL_cell_X2_cell
theorem dL_cell_0 : decode cL_cell 0 = .ok (.aload 5, 2) := by decide +kernel
theorem dL_cell_2 : decode cL_cell 2 = .ok (.iconst 0, 1) := by decide +kernel
theorem dL_cell_3 : decode cL_cell 3 = .ok (.aload_n 0, 1) := by decide +kernel
theorem dL_cell_4 : decode cL_cell 4 = .ok (.iload_n 1, 1) := by decide +kernel
theorem dL_cell_5 : decode cL_cell 5 = .ok (.iload_n 2, 1) := by decide +kernel
theorem dL_cell_6 : decode cL_cell 6 = .ok (.iload_n 3, 1) := by decide +kernel
theorem dL_cell_7 : decode cL_cell 7 = .ok (.iload 4, 2) := by decide +kernel
theorem dL_cell_9 : decode cL_cell 9 = .ok (.invokevirtual 7, 3) := by decide +kernel
theorem dL_cell_12 : decode cL_cell 12 = .ok (.i2l, 1) := by decide +kernel
theorem dL_cell_13 : decode cL_cell 13 = .ok (.lastore, 1) := by decide +kernel
theorem dL_cell_14 : decode cL_cell 14 = .ok (.goto 11, 3) := by decide +kernel
theorem dL_cell_17 : decode cL_cell 17 = .ok (.astore 6, 2) := by decide +kernel
theorem dL_cell_19 : decode cL_cell 19 = .ok (.iconst 1, 1) := by decide +kernel
theorem dL_cell_20 : decode cL_cell 20 = .ok (.ireturn, 1) := by decide +kernel
theorem dL_cell_21 : decode cL_cell 21 = .ok (.astore 6, 2) := by decide +kernel
theorem dL_cell_23 : decode cL_cell 23 = .ok (.iconst 2, 1) := by decide +kernel
theorem dL_cell_24 : decode cL_cell 24 = .ok (.ireturn, 1) := by decide +kernel
theorem dL_cell_25 : decode cL_cell 25 = .ok (.iconst 0, 1) := by decide +kernel
theorem dL_cell_26 : decode cL_cell 26 = .ok (.ireturn, 1) := by decide +kernel
set_option maxRecDepth 20000 in
theorem ggL_turn_X2_turn : GoodIn wsL_turn wsX2_turn := goodIn_ca (goodIn_r _ [6, 7, 8, 9, 10, 11, 5, 12, 13, 14, 15, 16, 17, 18, 19, 20, 21, 22, 23, 24, 25, 26, 27, 28, 29, 30, 31, 32, 33, 34, 35, 36, 37, 38, 39, 40, 41, 42, 43, 44, 45, 46, 47, 48, 49, 50, 51, 52, 53] (by decide +kernel) (by decide +kernel)) (goodIn_sub (fun _ h => List.mem_cons_of_mem _ (List.mem_append_right _ h)) (by decide +kernel))
set_option maxRecDepth 20000 in
theorem gL_turn_X2_turn : GoodIn wsL_turn (wsV RL 17 RX2 yX2_turn wsX2_turn) := goodIn_app (goodIn_of _ (by decide +kernel)) ggL_turn_X2_turn
theorem dL_turn_0 : decode cL_turn 0 = .ok (.aload_n 2, 1) := by decide +kernel
theorem dL_turn_1 : decode cL_turn 1 = .ok (.iconst 0, 1) := by decide +kernel
theorem dL_turn_2 : decode cL_turn 2 = .ok (.aload_n 0, 1) := by decide +kernel
theorem dL_turn_3 : decode cL_turn 3 = .ok (.iload_n 1, 1) := by decide +kernel
theorem dL_turn_4 : decode cL_turn 4 = .ok (.invokevirtual 17, 3) := by decide +kernel
theorem dL_turn_7 : decode cL_turn 7 = .ok (.ifCond .eq 7, 3) := by decide +kernel
theorem dL_turn_10 : decode cL_turn 10 = .ok (.lconst 1, 1) := by decide +kernel
theorem dL_turn_11 : decode cL_turn 11 = .ok (.goto 4, 3) := by decide +kernel
theorem dL_turn_14 : decode cL_turn 14 = .ok (.lconst 0, 1) := by decide +kernel
theorem dL_turn_15 : decode cL_turn 15 = .ok (.lastore, 1) := by decide +kernel
theorem dL_turn_16 : decode cL_turn 16 = .ok (.goto 6, 3) := by decide +kernel
theorem dL_turn_19 : decode cL_turn 19 = .ok (.astore_n 3, 1) := by decide +kernel
theorem dL_turn_20 : decode cL_turn 20 = .ok (.iconst 1, 1) := by decide +kernel
theorem dL_turn_21 : decode cL_turn 21 = .ok (.ireturn, 1) := by decide +kernel
theorem dL_turn_22 : decode cL_turn 22 = .ok (.iconst 0, 1) := by decide +kernel
theorem dL_turn_23 : decode cL_turn 23 = .ok (.ireturn, 1) := by decide +kernel
set_option maxRecDepth 20000 in
theorem ggL_tune_X2_tune : GoodIn wsL_tune wsX2_tune := goodIn_ca (goodIn_ca (goodIn_r _ [7, 8, 9, 10, 11, 12, 6, 13, 14, 15, 16, 17, 18, 19, 20, 21, 22, 23, 24, 25, 26, 27, 28, 29, 30, 31, 32, 33, 34, 35, 36, 37, 38, 39, 40, 41, 42, 43, 44, 45, 46, 47] (by decide +kernel) (by decide +kernel)) (goodIn_sub (fun _ h => List.mem_cons_of_mem _ (List.mem_append_left _ (List.mem_append_right _ h))) (by decide +kernel))) (goodIn_sub (fun _ h => List.mem_cons_of_mem _ (List.mem_append_right _ h)) (by decide +kernel))
set_option maxRecDepth 20000 in
theorem gL_tune_X2_tune : GoodIn wsL_tune (wsV RL 23 RX2 yX2_tune wsX2_tune) := goodIn_app (goodIn_of _ (by decide +kernel)) ggL_tune_X2_tune
theorem dL_tune_0 : decode cL_tune 0 = .ok (.aload_n 3, 1) := by decide +kernel
theorem dL_tune_1 : decode cL_tune 1 = .ok (.iconst 0, 1) := by decide +kernel
theorem dL_tune_2 : decode cL_tune 2 = .ok (.aload_n 0, 1) := by decide +kernel
theorem dL_tune_3 : decode cL_tune 3 = .ok (.iload_n 1, 1) := by decide +kernel
theorem dL_tune_4 : decode cL_tune 4 = .ok (.iload_n 2, 1) := by decide +kernel
theorem dL_tune_5 : decode cL_tune 5 = .ok (.invokevirtual 23, 3) := by decide +kernel
theorem dL_tune_8 : decode cL_tune 8 = .ok (.i2l, 1) := by decide +kernel
theorem dL_tune_9 : decode cL_tune 9 = .ok (.lastore, 1) := by decide +kernel
theorem dL_tune_10 : decode cL_tune 10 = .ok (.goto 11, 3) := by decide +kernel
theorem dL_tune_13 : decode cL_tune 13 = .ok (.astore 4, 2) := by decide +kernel
theorem dL_tune_15 : decode cL_tune 15 = .ok (.iconst 1, 1) := by decide +kernel
theorem dL_tune_16 : decode cL_tune 16 = .ok (.ireturn, 1) := by decide +kernel
theorem dL_tune_17 : decode cL_tune 17 = .ok (.astore 4, 2) := by decide +kernel
theorem dL_tune_19 : decode cL_tune 19 = .ok (.iconst 2, 1) := by decide +kernel
theorem dL_tune_20 : decode cL_tune 20 = .ok (.ireturn, 1) := by decide +kernel
theorem dL_tune_21 : decode cL_tune 21 = .ok (.iconst 0, 1) := by decide +kernel
theorem dL_tune_22 : decode cL_tune 22 = .ok (.ireturn, 1) := by decide +kernel
set_option maxRecDepth 20000 in
theorem ggL_walker_X2_walker : GoodIn wsL_walker wsX2_walker := goodIn_ca (goodIn_ca (goodIn_r _ [7, 8, 9, 10, 11, 12, 13, 14, 6, 15, 16, 17, 18, 19, 20, 21, 22, 23, 24, 25, 26, 27, 28, 29, 30, 31, 32, 33, 34, 35, 36, 37, 38, 39, 40, 41, 42, 43, 44, 45, 46, 47, 48, 49, 50, 51, 52, 53, 54, 55, 56, 57, 58, 59] (by decide +kernel) (by decide +kernel)) (goodIn_sub (fun _ h => List.mem_cons_of_mem _ (List.mem_append_left _ (List.mem_append_right _ h))) (by decide +kernel))) (goodIn_sub (fun _ h => List.mem_cons_of_mem _ (List.mem_append_right _ h)) (by decide +kernel))
set_option maxRecDepth 20000 in
theorem gL_walker_X2_walker : GoodIn wsL_walker (wsV RL 27 RX2 yX2_walker wsX2_walker) := goodIn_app (goodIn_of _ (by decide +kernel)) ggL_walker_X2_walker
theorem dL_walker_0 : decode cL_walker 0 = .ok (.aload 4, 2) := by decide +kernel
theorem dL_walker_2 : decode cL_walker 2 = .ok (.iconst 0, 1) := by decide +kernel
theorem dL_walker_3 : decode cL_walker 3 = .ok (.aload_n 0, 1) := by decide +kernel
theorem dL_walker_4 : decode cL_walker 4 = .ok (.iload_n 1, 1) := by decide +kernel
theorem dL_walker_5 : decode cL_walker 5 = .ok (.iload_n 2, 1) := by decide +kernel
theorem dL_walker_6 : decode cL_walker 6 = .ok (.iload_n 3, 1) := by decide +kernel
theorem dL_walker_7 : decode cL_walker 7 = .ok (.invokevirtual 27, 3) := by decide +kernel
theorem dL_walker_10 : decode cL_walker 10 = .ok (.i2l, 1) := by decide +kernel
theorem dL_walker_11 : decode cL_walker 11 = .ok (.lastore, 1) := by decide +kernel
theorem dL_walker_12 : decode cL_walker 12 = .ok (.goto 11, 3) := by decide +kernel
theorem dL_walker_15 : decode cL_walker 15 = .ok (.astore 5, 2) := by decide +kernel
theorem dL_walker_17 : decode cL_walker 17 = .ok (.iconst 1, 1) := by decide +kernel
theorem dL_walker_18 : decode cL_walker 18 = .ok (.ireturn, 1) := by decide +kernel
theorem dL_walker_19 : decode cL_walker 19 = .ok (.astore 5, 2) := by decide +kernel
theorem dL_walker_21 : decode cL_walker 21 = .ok (.iconst 2, 1) := by decide +kernel
theorem dL_walker_22 : decode cL_walker 22 = .ok (.ireturn, 1) := by decide +kernel
theorem dL_walker_23 : decode cL_walker 23 = .ok (.iconst 0, 1) := by decide +kernel
theorem dL_walker_24 : decode cL_walker 24 = .ok (.ireturn, 1) := by decide +kernel
set_option maxRecDepth 20000 in
theorem ggL_move_X2_move : GoodIn wsL_move wsX2_move := goodIn_ca (goodIn_ca (goodIn_r _ [7, 8, 9, 10, 11, 12, 13, 6, 14, 15, 16, 17, 18, 19, 20, 21, 22, 23, 24, 25, 26, 27, 28, 29, 30, 31, 32, 33, 34, 35, 36, 37, 38, 39, 40, 41, 42, 43, 44, 45, 46, 47, 48] (by decide +kernel) (by decide +kernel)) (goodIn_sub (fun _ h => List.mem_cons_of_mem _ (List.mem_append_left _ (List.mem_append_right _ h))) (by decide +kernel))) (goodIn_sub (fun _ h => List.mem_cons_of_mem _ (List.mem_append_right _ h)) (by decide +kernel))
set_option maxRecDepth 20000 in
theorem gL_move_X2_move : GoodIn wsL_move (wsV RL 31 RX2 yX2_move wsX2_move) := goodIn_app (goodIn_of _ (by decide +kernel)) ggL_move_X2_move
theorem dL_move_0 : decode cL_move 0 = .ok (.aload_n 0, 1) := by decide +kernel
theorem dL_move_1 : decode cL_move 1 = .ok (.iload_n 1, 1) := by decide +kernel
theorem dL_move_2 : decode cL_move 2 = .ok (.iload_n 2, 1) := by decide +kernel
theorem dL_move_3 : decode cL_move 3 = .ok (.iload_n 3, 1) := by decide +kernel
theorem dL_move_4 : decode cL_move 4 = .ok (.invokevirtual 31, 3) := by decide +kernel
theorem dL_move_7 : decode cL_move 7 = .ok (.goto 11, 3) := by decide +kernel
theorem dL_move_10 : decode cL_move 10 = .ok (.astore 4, 2) := by decide +kernel
theorem dL_move_12 : decode cL_move 12 = .ok (.iconst 1, 1) := by decide +kernel
theorem dL_move_13 : decode cL_move 13 = .ok (.ireturn, 1) := by decide +kernel
theorem dL_move_14 : decode cL_move 14 = .ok (.astore 4, 2) := by decide +kernel
theorem dL_move_16 : decode cL_move 16 = .ok (.iconst 2, 1) := by decide +kernel
theorem dL_move_17 : decode cL_move 17 = .ok (.ireturn, 1) := by decide +kernel
theorem dL_move_18 : decode cL_move 18 = .ok (.iconst 0, 1) := by decide +kernel
theorem dL_move_19 : decode cL_move 19 = .ok (.ireturn, 1) := by decide +kernel
set_option maxRecDepth 20000 in
theorem ggL_margin_X2_margin : GoodIn wsL_margin wsX2_margin := goodIn_ca (goodIn_r _ [6, 7, 8, 9, 5, 10, 11, 12, 13, 14, 15, 16, 17, 18, 19, 20, 21, 22, 23, 24, 25] (by decide +kernel) (by decide +kernel)) (goodIn_sub (fun _ h => List.mem_cons_of_mem _ (List.mem_append_right _ h)) (by decide +kernel))
set_option maxRecDepth 20000 in
theorem gL_margin_X2_margin : GoodIn wsL_margin (wsV RL 35 RX2 yX2_margin wsX2_margin) := goodIn_app (goodIn_of _ (by decide +kernel)) ggL_margin_X2_margin
theorem dL_margin_0 : decode cL_margin 0 = .ok (.aload_n 2, 1) := by decide +kernel
theorem dL_margin_1 : decode cL_margin 1 = .ok (.iconst 0, 1) := by decide +kernel
theorem dL_margin_2 : decode cL_margin 2 = .ok (.aload_n 0, 1) := by decide +kernel
theorem dL_margin_3 : decode cL_margin 3 = .ok (.iload_n 1, 1) := by decide +kernel
theorem dL_margin_4 : decode cL_margin 4 = .ok (.invokevirtual 35, 3) := by decide +kernel
theorem dL_margin_7 : decode cL_margin 7 = .ok (.i2l, 1) := by decide +kernel
theorem dL_margin_8 : decode cL_margin 8 = .ok (.lastore, 1) := by decide +kernel
theorem dL_margin_9 : decode cL_margin 9 = .ok (.goto 6, 3) := by decide +kernel
theorem dL_margin_12 : decode cL_margin 12 = .ok (.astore_n 3, 1) := by decide +kernel
theorem dL_margin_13 : decode cL_margin 13 = .ok (.iconst 1, 1) := by decide +kernel
theorem dL_margin_14 : decode cL_margin 14 = .ok (.ireturn, 1) := by decide +kernel
theorem dL_margin_15 : decode cL_margin 15 = .ok (.iconst 0, 1) := by decide +kernel
theorem dL_margin_16 : decode cL_margin 16 = .ok (.ireturn, 1) := by decide +kernel
set_option maxRecDepth 20000 in
theorem ggL_patience_X2_patience : GoodIn wsL_patience wsX2_patience := goodIn_ca (goodIn_r _ [6, 7, 8, 9, 5, 10, 11, 12, 13, 14, 15, 16, 17, 18, 19, 20, 21, 22, 23, 24, 25] (by decide +kernel) (by decide +kernel)) (goodIn_sub (fun _ h => List.mem_cons_of_mem _ (List.mem_append_right _ h)) (by decide +kernel))
set_option maxRecDepth 20000 in
theorem gL_patience_X2_patience : GoodIn wsL_patience (wsV RL 39 RX2 yX2_patience wsX2_patience) := goodIn_app (goodIn_of _ (by decide +kernel)) ggL_patience_X2_patience
theorem dL_patience_0 : decode cL_patience 0 = .ok (.aload_n 2, 1) := by decide +kernel
theorem dL_patience_1 : decode cL_patience 1 = .ok (.iconst 0, 1) := by decide +kernel
theorem dL_patience_2 : decode cL_patience 2 = .ok (.aload_n 0, 1) := by decide +kernel
theorem dL_patience_3 : decode cL_patience 3 = .ok (.iload_n 1, 1) := by decide +kernel
theorem dL_patience_4 : decode cL_patience 4 = .ok (.invokevirtual 39, 3) := by decide +kernel
theorem dL_patience_7 : decode cL_patience 7 = .ok (.i2l, 1) := by decide +kernel
theorem dL_patience_8 : decode cL_patience 8 = .ok (.lastore, 1) := by decide +kernel
theorem dL_patience_9 : decode cL_patience 9 = .ok (.goto 6, 3) := by decide +kernel
theorem dL_patience_12 : decode cL_patience 12 = .ok (.astore_n 3, 1) := by decide +kernel
theorem dL_patience_13 : decode cL_patience 13 = .ok (.iconst 1, 1) := by decide +kernel
theorem dL_patience_14 : decode cL_patience 14 = .ok (.ireturn, 1) := by decide +kernel
theorem dL_patience_15 : decode cL_patience 15 = .ok (.iconst 0, 1) := by decide +kernel
theorem dL_patience_16 : decode cL_patience 16 = .ok (.ireturn, 1) := by decide +kernel
set_option maxRecDepth 20000 in
theorem ggL_bound_X2_bound : GoodIn wsL_bound wsX2_bound := goodIn_ca (goodIn_r _ [6, 7, 8, 9, 5, 10, 11, 12, 13, 14, 15, 16, 17, 18, 19, 20, 21, 22, 23, 24, 25] (by decide +kernel) (by decide +kernel)) (goodIn_sub (fun _ h => List.mem_cons_of_mem _ (List.mem_append_right _ h)) (by decide +kernel))
set_option maxRecDepth 20000 in
theorem gL_bound_X2_bound : GoodIn wsL_bound (wsV RL 42 RX2 yX2_bound wsX2_bound) := goodIn_app (goodIn_of _ (by decide +kernel)) ggL_bound_X2_bound
theorem dL_bound_0 : decode cL_bound 0 = .ok (.aload_n 2, 1) := by decide +kernel
theorem dL_bound_1 : decode cL_bound 1 = .ok (.iconst 0, 1) := by decide +kernel
theorem dL_bound_2 : decode cL_bound 2 = .ok (.aload_n 0, 1) := by decide +kernel
theorem dL_bound_3 : decode cL_bound 3 = .ok (.iload_n 1, 1) := by decide +kernel
theorem dL_bound_4 : decode cL_bound 4 = .ok (.invokevirtual 42, 3) := by decide +kernel
theorem dL_bound_7 : decode cL_bound 7 = .ok (.i2l, 1) := by decide +kernel
theorem dL_bound_8 : decode cL_bound 8 = .ok (.lastore, 1) := by decide +kernel
theorem dL_bound_9 : decode cL_bound 9 = .ok (.goto 6, 3) := by decide +kernel
theorem dL_bound_12 : decode cL_bound 12 = .ok (.astore_n 3, 1) := by decide +kernel
theorem dL_bound_13 : decode cL_bound 13 = .ok (.iconst 1, 1) := by decide +kernel
theorem dL_bound_14 : decode cL_bound 14 = .ok (.ireturn, 1) := by decide +kernel
theorem dL_bound_15 : decode cL_bound 15 = .ok (.iconst 0, 1) := by decide +kernel
theorem dL_bound_16 : decode cL_bound 16 = .ok (.ireturn, 1) := by decide +kernel
set_option maxRecDepth 20000 in
theorem ggL_tick_X2_tick : GoodIn wsL_tick wsX2_tick := goodIn_ca (goodIn_r _ [6, 7, 8, 9, 5, 10, 11, 12, 13, 14, 15, 16, 17, 18, 19, 20, 21, 22, 23, 24, 25, 26, 27, 28, 29, 30, 31, 32, 33, 34, 35, 36, 37, 38, 39, 40, 41, 42, 43, 44, 45, 46, 47, 48, 49, 50, 51, 52, 53, 54, 55, 56, 57, 58, 59, 60, 61, 62, 63, 64, 65, 66, 67, 68, 69, 70, 71, 72, 73, 74, 75, 76, 77, 78, 79, 80, 81, 82, 83, 84, 85, 86, 87, 88, 89, 90, 91, 92, 93, 94, 95, 96, 97, 98, 99, 100, 101, 102, 103, 104, 105, 106, 107, 108, 109, 110, 111, 112, 113, 114, 115, 116, 117, 118, 119, 120, 121, 122] (by decide +kernel) (by decide +kernel)) (goodIn_sub (fun _ h => List.mem_cons_of_mem _ (List.mem_append_right _ h)) (by decide +kernel))
set_option maxRecDepth 20000 in
theorem gL_tick_X2_tick : GoodIn wsL_tick (wsV RL 45 RX2 yX2_tick wsX2_tick) := goodIn_app (goodIn_of _ (by decide +kernel)) ggL_tick_X2_tick
theorem dL_tick_0 : decode cL_tick 0 = .ok (.aload_n 2, 1) := by decide +kernel
theorem dL_tick_1 : decode cL_tick 1 = .ok (.iconst 0, 1) := by decide +kernel
theorem dL_tick_2 : decode cL_tick 2 = .ok (.aload_n 0, 1) := by decide +kernel
theorem dL_tick_3 : decode cL_tick 3 = .ok (.iload_n 1, 1) := by decide +kernel
theorem dL_tick_4 : decode cL_tick 4 = .ok (.invokevirtual 45, 3) := by decide +kernel
theorem dL_tick_7 : decode cL_tick 7 = .ok (.i2l, 1) := by decide +kernel
theorem dL_tick_8 : decode cL_tick 8 = .ok (.lastore, 1) := by decide +kernel
theorem dL_tick_9 : decode cL_tick 9 = .ok (.goto 6, 3) := by decide +kernel
theorem dL_tick_12 : decode cL_tick 12 = .ok (.astore_n 3, 1) := by decide +kernel
theorem dL_tick_13 : decode cL_tick 13 = .ok (.iconst 1, 1) := by decide +kernel
theorem dL_tick_14 : decode cL_tick 14 = .ok (.ireturn, 1) := by decide +kernel
theorem dL_tick_15 : decode cL_tick 15 = .ok (.iconst 0, 1) := by decide +kernel
theorem dL_tick_16 : decode cL_tick 16 = .ok (.ireturn, 1) := by decide +kernel
set_option maxRecDepth 20000 in
theorem ggL_signal_X2_signal : GoodIn wsL_signal wsX2_signal := goodIn_ca (goodIn_r _ [6, 7, 8, 9, 10, 5, 11, 12, 13, 14, 15, 16, 17, 18, 19, 20, 21, 22, 23, 24, 25, 26, 27, 28, 29, 30, 31, 32, 33, 34, 35, 36, 37, 38, 39, 40, 41, 42, 43, 44, 45, 46, 47, 48, 49, 50, 51, 52, 53, 54, 55, 56, 57, 58] (by decide +kernel) (by decide +kernel)) (goodIn_sub (fun _ h => List.mem_cons_of_mem _ (List.mem_append_right _ h)) (by decide +kernel))
set_option maxRecDepth 20000 in
theorem gL_signal_X2_signal : GoodIn wsL_signal (wsV RL 48 RX2 yX2_signal wsX2_signal) := goodIn_app (goodIn_of _ (by decide +kernel)) ggL_signal_X2_signal
theorem dL_signal_0 : decode cL_signal 0 = .ok (.aload_n 3, 1) := by decide +kernel
theorem dL_signal_1 : decode cL_signal 1 = .ok (.iconst 0, 1) := by decide +kernel
theorem dL_signal_2 : decode cL_signal 2 = .ok (.aload_n 0, 1) := by decide +kernel
theorem dL_signal_3 : decode cL_signal 3 = .ok (.iload_n 1, 1) := by decide +kernel
theorem dL_signal_4 : decode cL_signal 4 = .ok (.iload_n 2, 1) := by decide +kernel
theorem dL_signal_5 : decode cL_signal 5 = .ok (.invokevirtual 48, 3) := by decide +kernel
theorem dL_signal_8 : decode cL_signal 8 = .ok (.i2l, 1) := by decide +kernel
theorem dL_signal_9 : decode cL_signal 9 = .ok (.lastore, 1) := by decide +kernel
theorem dL_signal_10 : decode cL_signal 10 = .ok (.goto 7, 3) := by decide +kernel
theorem dL_signal_13 : decode cL_signal 13 = .ok (.astore 4, 2) := by decide +kernel
theorem dL_signal_15 : decode cL_signal 15 = .ok (.iconst 1, 1) := by decide +kernel
theorem dL_signal_16 : decode cL_signal 16 = .ok (.ireturn, 1) := by decide +kernel
theorem dL_signal_17 : decode cL_signal 17 = .ok (.iconst 0, 1) := by decide +kernel
theorem dL_signal_18 : decode cL_signal 18 = .ok (.ireturn, 1) := by decide +kernel
set_option maxRecDepth 20000 in
theorem ggL_quality_X2_quality : GoodIn wsL_quality wsX2_quality := goodIn_ca (goodIn_r _ [6, 7, 8, 9, 10, 11, 5, 12, 13, 14, 15, 16, 17, 18, 19, 20, 21, 22, 23, 24, 25, 26, 27, 28, 29, 30, 31, 32, 33, 34, 35, 36, 37, 38, 39, 40, 41, 42, 43, 44, 45, 46, 47, 48, 49, 50, 51, 52, 53, 54, 55, 56, 57, 58, 59, 60, 61, 62, 63, 64, 65, 66, 67, 68, 69, 70, 71, 72, 73, 74, 75, 76, 77, 78, 79, 80, 81, 82, 83, 84] (by decide +kernel) (by decide +kernel)) (goodIn_sub (fun _ h => List.mem_cons_of_mem _ (List.mem_append_right _ h)) (by decide +kernel))
set_option maxRecDepth 20000 in
theorem gL_quality_X2_quality : GoodIn wsL_quality (wsV RL 51 RX2 yX2_quality wsX2_quality) := goodIn_app (goodIn_of _ (by decide +kernel)) ggL_quality_X2_quality
theorem dL_quality_0 : decode cL_quality 0 = .ok (.aload_n 3, 1) := by decide +kernel
theorem dL_quality_1 : decode cL_quality 1 = .ok (.iconst 0, 1) := by decide +kernel
theorem dL_quality_2 : decode cL_quality 2 = .ok (.aload_n 0, 1) := by decide +kernel
theorem dL_quality_3 : decode cL_quality 3 = .ok (.iload_n 1, 1) := by decide +kernel
theorem dL_quality_4 : decode cL_quality 4 = .ok (.iload_n 2, 1) := by decide +kernel
theorem dL_quality_5 : decode cL_quality 5 = .ok (.invokevirtual 51, 3) := by decide +kernel
theorem dL_quality_8 : decode cL_quality 8 = .ok (.i2l, 1) := by decide +kernel
theorem dL_quality_9 : decode cL_quality 9 = .ok (.lastore, 1) := by decide +kernel
theorem dL_quality_10 : decode cL_quality 10 = .ok (.goto 7, 3) := by decide +kernel
theorem dL_quality_13 : decode cL_quality 13 = .ok (.astore 4, 2) := by decide +kernel
theorem dL_quality_15 : decode cL_quality 15 = .ok (.iconst 1, 1) := by decide +kernel
theorem dL_quality_16 : decode cL_quality 16 = .ok (.ireturn, 1) := by decide +kernel
theorem dL_quality_17 : decode cL_quality 17 = .ok (.iconst 0, 1) := by decide +kernel
theorem dL_quality_18 : decode cL_quality 18 = .ok (.ireturn, 1) := by decide +kernel
set_option maxRecDepth 20000 in
theorem ggL_load_X2_load : GoodIn wsL_load wsX2_load := goodIn_ca (goodIn_r _ [6, 7, 8, 9, 10, 5, 11, 12, 13, 14, 15, 16, 17, 18, 19, 20, 21, 22, 23, 24, 25, 26, 27, 28, 29, 30, 31, 32, 33, 34, 35, 36, 37, 38, 39, 40, 41, 42, 43, 44, 45, 46, 47, 48] (by decide +kernel) (by decide +kernel)) (goodIn_sub (fun _ h => List.mem_cons_of_mem _ (List.mem_append_right _ h)) (by decide +kernel))
set_option maxRecDepth 20000 in
theorem gL_load_X2_load : GoodIn wsL_load (wsV RL 54 RX2 yX2_load wsX2_load) := goodIn_app (goodIn_of _ (by decide +kernel)) ggL_load_X2_load
theorem dL_load_0 : decode cL_load 0 = .ok (.aload_n 2, 1) := by decide +kernel
theorem dL_load_1 : decode cL_load 1 = .ok (.iconst 0, 1) := by decide +kernel
theorem dL_load_2 : decode cL_load 2 = .ok (.aload_n 0, 1) := by decide +kernel
theorem dL_load_3 : decode cL_load 3 = .ok (.iload_n 1, 1) := by decide +kernel
theorem dL_load_4 : decode cL_load 4 = .ok (.invokevirtual 54, 3) := by decide +kernel
theorem dL_load_7 : decode cL_load 7 = .ok (.i2l, 1) := by decide +kernel
theorem dL_load_8 : decode cL_load 8 = .ok (.lastore, 1) := by decide +kernel
theorem dL_load_9 : decode cL_load 9 = .ok (.goto 6, 3) := by decide +kernel
theorem dL_load_12 : decode cL_load 12 = .ok (.astore_n 3, 1) := by decide +kernel
theorem dL_load_13 : decode cL_load 13 = .ok (.iconst 1, 1) := by decide +kernel
theorem dL_load_14 : decode cL_load 14 = .ok (.ireturn, 1) := by decide +kernel
theorem dL_load_15 : decode cL_load 15 = .ok (.iconst 0, 1) := by decide +kernel
theorem dL_load_16 : decode cL_load 16 = .ok (.ireturn, 1) := by decide +kernel
set_option maxRecDepth 20000 in
theorem ggL_use_X2_use : GoodIn wsL_use wsX2_use := goodIn_ca (goodIn_r _ [6, 7, 8, 9, 10, 5, 11, 12, 13, 14, 15, 16, 17, 18, 19, 20, 21, 22, 23, 24, 25, 26, 27, 28, 29, 30, 31, 32, 33, 34, 35, 36, 37, 38, 39, 40, 41, 42, 43, 44, 45, 46, 47, 48, 49, 50, 51, 52, 53] (by decide +kernel) (by decide +kernel)) (goodIn_sub (fun _ h => List.mem_cons_of_mem _ (List.mem_append_right _ h)) (by decide +kernel))
set_option maxRecDepth 20000 in
theorem gL_use_X2_use : GoodIn wsL_use (wsV RL 57 RX2 yX2_use wsX2_use) := goodIn_app (goodIn_of _ (by decide +kernel)) ggL_use_X2_use
theorem dL_use_0 : decode cL_use 0 = .ok (.aload_n 2, 1) := by decide +kernel
theorem dL_use_1 : decode cL_use 1 = .ok (.iconst 0, 1) := by decide +kernel
theorem dL_use_2 : decode cL_use 2 = .ok (.aload_n 0, 1) := by decide +kernel
theorem dL_use_3 : decode cL_use 3 = .ok (.iload_n 1, 1) := by decide +kernel
theorem dL_use_4 : decode cL_use 4 = .ok (.invokevirtual 57, 3) := by decide +kernel
theorem dL_use_7 : decode cL_use 7 = .ok (.i2l, 1) := by decide +kernel
theorem dL_use_8 : decode cL_use 8 = .ok (.lastore, 1) := by decide +kernel
theorem dL_use_9 : decode cL_use 9 = .ok (.goto 6, 3) := by decide +kernel
theorem dL_use_12 : decode cL_use 12 = .ok (.astore_n 3, 1) := by decide +kernel
theorem dL_use_13 : decode cL_use 13 = .ok (.iconst 1, 1) := by decide +kernel
theorem dL_use_14 : decode cL_use 14 = .ok (.ireturn, 1) := by decide +kernel
theorem dL_use_15 : decode cL_use 15 = .ok (.iconst 0, 1) := by decide +kernel
theorem dL_use_16 : decode cL_use 16 = .ok (.ireturn, 1) := by decide +kernel
set_option maxRecDepth 20000 in
theorem ggL_servedBy_X2_servedBy : GoodIn wsL_servedBy wsX2_servedBy := goodIn_ca (goodIn_r _ [6, 7, 8, 9, 10, 11, 5, 12, 13, 14, 15, 16, 17, 18, 19, 20, 21, 22, 23, 24, 25, 26, 27, 28, 29, 30, 31, 32, 33, 34, 35, 36, 37, 38, 39, 40, 41] (by decide +kernel) (by decide +kernel)) (goodIn_sub (fun _ h => List.mem_cons_of_mem _ (List.mem_append_right _ h)) (by decide +kernel))
set_option maxRecDepth 20000 in
theorem gL_servedBy_X2_servedBy : GoodIn wsL_servedBy (wsV RL 60 RX2 yX2_servedBy wsX2_servedBy) := goodIn_app (goodIn_of _ (by decide +kernel)) ggL_servedBy_X2_servedBy
theorem dL_servedBy_0 : decode cL_servedBy 0 = .ok (.aload_n 2, 1) := by decide +kernel
theorem dL_servedBy_1 : decode cL_servedBy 1 = .ok (.iconst 0, 1) := by decide +kernel
theorem dL_servedBy_2 : decode cL_servedBy 2 = .ok (.aload_n 0, 1) := by decide +kernel
theorem dL_servedBy_3 : decode cL_servedBy 3 = .ok (.iload_n 1, 1) := by decide +kernel
theorem dL_servedBy_4 : decode cL_servedBy 4 = .ok (.invokevirtual 60, 3) := by decide +kernel
theorem dL_servedBy_7 : decode cL_servedBy 7 = .ok (.i2l, 1) := by decide +kernel
theorem dL_servedBy_8 : decode cL_servedBy 8 = .ok (.lastore, 1) := by decide +kernel
theorem dL_servedBy_9 : decode cL_servedBy 9 = .ok (.goto 6, 3) := by decide +kernel
theorem dL_servedBy_12 : decode cL_servedBy 12 = .ok (.astore_n 3, 1) := by decide +kernel
theorem dL_servedBy_13 : decode cL_servedBy 13 = .ok (.iconst 1, 1) := by decide +kernel
theorem dL_servedBy_14 : decode cL_servedBy 14 = .ok (.ireturn, 1) := by decide +kernel
theorem dL_servedBy_15 : decode cL_servedBy 15 = .ok (.iconst 0, 1) := by decide +kernel
theorem dL_servedBy_16 : decode cL_servedBy 16 = .ok (.ireturn, 1) := by decide +kernel
set_option maxRecDepth 20000 in
theorem ggL_favourite_X2_favourite : GoodIn wsL_favourite wsX2_favourite := goodIn_ca (goodIn_r _ [6, 7, 8, 9, 10, 5, 11, 12, 13, 14, 15, 16, 17, 18, 19, 20, 21, 22, 23, 24, 25, 26, 27, 28, 29, 30, 31, 32, 33, 34, 35, 36, 37, 38, 39, 40, 41] (by decide +kernel) (by decide +kernel)) (goodIn_sub (fun _ h => List.mem_cons_of_mem _ (List.mem_append_right _ h)) (by decide +kernel))
set_option maxRecDepth 20000 in
theorem gL_favourite_X2_favourite : GoodIn wsL_favourite (wsV RL 63 RX2 yX2_favourite wsX2_favourite) := goodIn_app (goodIn_of _ (by decide +kernel)) ggL_favourite_X2_favourite
theorem dL_favourite_0 : decode cL_favourite 0 = .ok (.aload_n 2, 1) := by decide +kernel
theorem dL_favourite_1 : decode cL_favourite 1 = .ok (.iconst 0, 1) := by decide +kernel
theorem dL_favourite_2 : decode cL_favourite 2 = .ok (.aload_n 0, 1) := by decide +kernel
theorem dL_favourite_3 : decode cL_favourite 3 = .ok (.iload_n 1, 1) := by decide +kernel
theorem dL_favourite_4 : decode cL_favourite 4 = .ok (.invokevirtual 63, 3) := by decide +kernel
theorem dL_favourite_7 : decode cL_favourite 7 = .ok (.i2l, 1) := by decide +kernel
theorem dL_favourite_8 : decode cL_favourite 8 = .ok (.lastore, 1) := by decide +kernel
theorem dL_favourite_9 : decode cL_favourite 9 = .ok (.goto 6, 3) := by decide +kernel
theorem dL_favourite_12 : decode cL_favourite 12 = .ok (.astore_n 3, 1) := by decide +kernel
theorem dL_favourite_13 : decode cL_favourite 13 = .ok (.iconst 1, 1) := by decide +kernel
theorem dL_favourite_14 : decode cL_favourite 14 = .ok (.ireturn, 1) := by decide +kernel
theorem dL_favourite_15 : decode cL_favourite 15 = .ok (.iconst 0, 1) := by decide +kernel
theorem dL_favourite_16 : decode cL_favourite 16 = .ok (.ireturn, 1) := by decide +kernel
set_option maxRecDepth 20000 in
theorem ggL_heldFor_X2_heldFor : GoodIn wsL_heldFor wsX2_heldFor := goodIn_ca (goodIn_r _ [6, 7, 8, 9, 10, 5, 11, 12, 13, 14, 15, 16, 17, 18, 19, 20, 21, 22, 23, 24, 25, 26, 27, 28, 29, 30, 31, 32, 33, 34, 35, 36, 37, 38, 39, 40, 41] (by decide +kernel) (by decide +kernel)) (goodIn_sub (fun _ h => List.mem_cons_of_mem _ (List.mem_append_right _ h)) (by decide +kernel))
set_option maxRecDepth 20000 in
theorem gL_heldFor_X2_heldFor : GoodIn wsL_heldFor (wsV RL 66 RX2 yX2_heldFor wsX2_heldFor) := goodIn_app (goodIn_of _ (by decide +kernel)) ggL_heldFor_X2_heldFor
theorem dL_heldFor_0 : decode cL_heldFor 0 = .ok (.aload_n 2, 1) := by decide +kernel
theorem dL_heldFor_1 : decode cL_heldFor 1 = .ok (.iconst 0, 1) := by decide +kernel
theorem dL_heldFor_2 : decode cL_heldFor 2 = .ok (.aload_n 0, 1) := by decide +kernel
theorem dL_heldFor_3 : decode cL_heldFor 3 = .ok (.iload_n 1, 1) := by decide +kernel
theorem dL_heldFor_4 : decode cL_heldFor 4 = .ok (.invokevirtual 66, 3) := by decide +kernel
theorem dL_heldFor_7 : decode cL_heldFor 7 = .ok (.i2l, 1) := by decide +kernel
theorem dL_heldFor_8 : decode cL_heldFor 8 = .ok (.lastore, 1) := by decide +kernel
theorem dL_heldFor_9 : decode cL_heldFor 9 = .ok (.goto 6, 3) := by decide +kernel
theorem dL_heldFor_12 : decode cL_heldFor 12 = .ok (.astore_n 3, 1) := by decide +kernel
theorem dL_heldFor_13 : decode cL_heldFor 13 = .ok (.iconst 1, 1) := by decide +kernel
theorem dL_heldFor_14 : decode cL_heldFor 14 = .ok (.ireturn, 1) := by decide +kernel
theorem dL_heldFor_15 : decode cL_heldFor 15 = .ok (.iconst 0, 1) := by decide +kernel
theorem dL_heldFor_16 : decode cL_heldFor 16 = .ok (.ireturn, 1) := by decide +kernel
set_option maxRecDepth 20000 in
theorem ggL_bestCell_X2_bestCell : GoodIn wsL_bestCell wsX2_bestCell := goodIn_ca (goodIn_r _ [6, 7, 8, 9, 10, 11, 12, 13, 5, 14, 15, 16, 17, 18, 19, 20, 21, 22, 23, 24, 25, 26, 27, 28, 29, 30, 31, 32, 33, 34, 35, 36, 37, 38, 39, 40, 41, 42, 43, 44, 45, 46, 47, 48, 49, 50, 51, 52, 53, 54, 55, 56, 57, 58, 59, 60, 61, 62, 63, 64, 65, 66, 67, 68, 69, 70, 71, 72, 73, 74, 75, 76, 77, 78, 79, 80, 81, 82, 83, 84, 85, 86, 87, 88, 89, 90, 91, 92, 93, 94, 95, 96, 97, 98, 99, 100, 101, 102, 103, 104, 105, 106, 107, 108, 109, 110, 111, 112, 113, 114, 115, 116, 117, 118, 119, 120, 121, 122, 123, 124, 125] (by decide +kernel) (by decide +kernel)) (goodIn_sub (fun _ h => List.mem_cons_of_mem _ (List.mem_append_right _ h)) (by decide +kernel))
set_option maxRecDepth 20000 in
theorem gL_bestCell_X2_bestCell : GoodIn wsL_bestCell (wsV RL 69 RX2 yX2_bestCell wsX2_bestCell) := goodIn_app (goodIn_of _ (by decide +kernel)) ggL_bestCell_X2_bestCell
theorem dL_bestCell_0 : decode cL_bestCell 0 = .ok (.aload_n 2, 1) := by decide +kernel
theorem dL_bestCell_1 : decode cL_bestCell 1 = .ok (.iconst 0, 1) := by decide +kernel
theorem dL_bestCell_2 : decode cL_bestCell 2 = .ok (.aload_n 0, 1) := by decide +kernel
theorem dL_bestCell_3 : decode cL_bestCell 3 = .ok (.iload_n 1, 1) := by decide +kernel
theorem dL_bestCell_4 : decode cL_bestCell 4 = .ok (.invokevirtual 69, 3) := by decide +kernel
theorem dL_bestCell_7 : decode cL_bestCell 7 = .ok (.i2l, 1) := by decide +kernel
theorem dL_bestCell_8 : decode cL_bestCell 8 = .ok (.lastore, 1) := by decide +kernel
theorem dL_bestCell_9 : decode cL_bestCell 9 = .ok (.goto 6, 3) := by decide +kernel
theorem dL_bestCell_12 : decode cL_bestCell 12 = .ok (.astore_n 3, 1) := by decide +kernel
theorem dL_bestCell_13 : decode cL_bestCell 13 = .ok (.iconst 1, 1) := by decide +kernel
theorem dL_bestCell_14 : decode cL_bestCell 14 = .ok (.ireturn, 1) := by decide +kernel
theorem dL_bestCell_15 : decode cL_bestCell 15 = .ok (.iconst 0, 1) := by decide +kernel
theorem dL_bestCell_16 : decode cL_bestCell 16 = .ok (.ireturn, 1) := by decide +kernel
