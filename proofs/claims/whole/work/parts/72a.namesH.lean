set_option maxRecDepth 20000 in
theorem ggL_addRule_X6_addRule : GoodIn wsL_addRule wsX6_addRule := goodIn_ca (goodIn_ca (goodIn_ca (goodIn_r _ [8, 9, 10, 11, 12, 13, 14, 7, 15, 16, 17, 18, 19, 20, 21, 22, 23, 24, 25, 26, 27, 28, 29, 30, 31, 32, 33, 34, 35, 36, 37, 38, 39, 40, 41, 42, 43, 44, 45, 46, 47, 48, 49, 50, 51, 52, 53, 54, 55, 56, 57, 58, 59, 60, 61, 62, 63, 64, 65, 66, 67, 68, 69, 70, 71, 72, 73, 74, 75, 76, 77, 78, 79, 80, 81, 82] (by decide +kernel) (by decide +kernel)) (goodIn_sub (fun _ h => List.mem_cons_of_mem _ (List.mem_append_left _ (List.mem_append_left _ (List.mem_append_right _ h)))) (by decide +kernel))) (goodIn_sub (fun _ h => List.mem_cons_of_mem _ (List.mem_append_left _ (List.mem_append_right _ h))) (by decide +kernel))) (goodIn_sub (fun _ h => List.mem_cons_of_mem _ (List.mem_append_right _ h)) (by decide +kernel))
set_option maxRecDepth 20000 in
theorem gL_addRule_X6_addRule : GoodIn wsL_addRule (wsV RL 7 RX6 yX6_addRule wsX6_addRule) := goodIn_app (goodIn_of _ (by decide +kernel)) ggL_addRule_X6_addRule
theorem dL_addRule_0 : decode cL_addRule 0 = .ok (.aload 5, 2) := by decide +kernel
theorem dL_addRule_2 : decode cL_addRule 2 = .ok (.iconst 0, 1) := by decide +kernel
theorem dL_addRule_3 : decode cL_addRule 3 = .ok (.aload_n 0, 1) := by decide +kernel
theorem dL_addRule_4 : decode cL_addRule 4 = .ok (.iload_n 1, 1) := by decide +kernel
theorem dL_addRule_5 : decode cL_addRule 5 = .ok (.iload_n 2, 1) := by decide +kernel
theorem dL_addRule_6 : decode cL_addRule 6 = .ok (.iload_n 3, 1) := by decide +kernel
theorem dL_addRule_7 : decode cL_addRule 7 = .ok (.iload 4, 2) := by decide +kernel
theorem dL_addRule_9 : decode cL_addRule 9 = .ok (.invokevirtual 7, 3) := by decide +kernel
theorem dL_addRule_12 : decode cL_addRule 12 = .ok (.i2l, 1) := by decide +kernel
theorem dL_addRule_13 : decode cL_addRule 13 = .ok (.lastore, 1) := by decide +kernel
theorem dL_addRule_14 : decode cL_addRule 14 = .ok (.goto 15, 3) := by decide +kernel
theorem dL_addRule_17 : decode cL_addRule 17 = .ok (.astore 6, 2) := by decide +kernel
theorem dL_addRule_19 : decode cL_addRule 19 = .ok (.iconst 1, 1) := by decide +kernel
theorem dL_addRule_20 : decode cL_addRule 20 = .ok (.ireturn, 1) := by decide +kernel
theorem dL_addRule_21 : decode cL_addRule 21 = .ok (.astore 6, 2) := by decide +kernel
theorem dL_addRule_23 : decode cL_addRule 23 = .ok (.iconst 2, 1) := by decide +kernel
theorem dL_addRule_24 : decode cL_addRule 24 = .ok (.ireturn, 1) := by decide +kernel
theorem dL_addRule_25 : decode cL_addRule 25 = .ok (.astore 6, 2) := by decide +kernel
theorem dL_addRule_27 : decode cL_addRule 27 = .ok (.iconst 3, 1) := by decide +kernel
theorem dL_addRule_28 : decode cL_addRule 28 = .ok (.ireturn, 1) := by decide +kernel
theorem dL_addRule_29 : decode cL_addRule 29 = .ok (.iconst 0, 1) := by decide +kernel
theorem dL_addRule_30 : decode cL_addRule 30 = .ok (.ireturn, 1) := by decide +kernel
set_option maxRecDepth 20000 in
theorem ggL_addAction_X6_addAction : GoodIn wsL_addAction wsX6_addAction := goodIn_ca (goodIn_ca (goodIn_r _ [7, 8, 9, 10, 11, 12, 13, 14, 6, 15, 16, 17, 18, 19, 20, 21, 22, 23, 24, 25, 26, 27, 28, 29, 30, 31, 32, 33, 34, 35, 36, 37, 38, 39, 40, 41, 42, 43, 44, 45, 46, 47, 48, 49, 50, 51, 52, 53, 54, 55, 56, 57, 58, 59, 60, 61, 62, 63, 64, 65, 66, 67, 68, 69, 70, 71, 72, 73, 74, 75, 76, 77, 78, 79, 80] (by decide +kernel) (by decide +kernel)) (goodIn_sub (fun _ h => List.mem_cons_of_mem _ (List.mem_append_left _ (List.mem_append_right _ h))) (by decide +kernel))) (goodIn_sub (fun _ h => List.mem_cons_of_mem _ (List.mem_append_right _ h)) (by decide +kernel))
set_option maxRecDepth 20000 in
theorem gL_addAction_X6_addAction : GoodIn wsL_addAction (wsV RL 19 RX6 yX6_addAction wsX6_addAction) := goodIn_app (goodIn_of _ (by decide +kernel)) ggL_addAction_X6_addAction
theorem dL_addAction_0 : decode cL_addAction 0 = .ok (.aload 4, 2) := by decide +kernel
theorem dL_addAction_2 : decode cL_addAction 2 = .ok (.iconst 0, 1) := by decide +kernel
theorem dL_addAction_3 : decode cL_addAction 3 = .ok (.aload_n 0, 1) := by decide +kernel
theorem dL_addAction_4 : decode cL_addAction 4 = .ok (.iload_n 1, 1) := by decide +kernel
theorem dL_addAction_5 : decode cL_addAction 5 = .ok (.iload_n 2, 1) := by decide +kernel
theorem dL_addAction_6 : decode cL_addAction 6 = .ok (.iload_n 3, 1) := by decide +kernel
theorem dL_addAction_7 : decode cL_addAction 7 = .ok (.invokevirtual 19, 3) := by decide +kernel
theorem dL_addAction_10 : decode cL_addAction 10 = .ok (.i2l, 1) := by decide +kernel
theorem dL_addAction_11 : decode cL_addAction 11 = .ok (.lastore, 1) := by decide +kernel
theorem dL_addAction_12 : decode cL_addAction 12 = .ok (.goto 11, 3) := by decide +kernel
theorem dL_addAction_15 : decode cL_addAction 15 = .ok (.astore 5, 2) := by decide +kernel
theorem dL_addAction_17 : decode cL_addAction 17 = .ok (.iconst 1, 1) := by decide +kernel
theorem dL_addAction_18 : decode cL_addAction 18 = .ok (.ireturn, 1) := by decide +kernel
theorem dL_addAction_19 : decode cL_addAction 19 = .ok (.astore 5, 2) := by decide +kernel
theorem dL_addAction_21 : decode cL_addAction 21 = .ok (.iconst 2, 1) := by decide +kernel
theorem dL_addAction_22 : decode cL_addAction 22 = .ok (.ireturn, 1) := by decide +kernel
theorem dL_addAction_23 : decode cL_addAction 23 = .ok (.iconst 0, 1) := by decide +kernel
theorem dL_addAction_24 : decode cL_addAction 24 = .ok (.ireturn, 1) := by decide +kernel
set_option maxRecDepth 20000 in
theorem ggL_turn_X6_turn : GoodIn wsL_turn wsX6_turn := goodIn_ca (goodIn_r _ [6, 7, 8, 9, 10, 11, 12, 13, 14, 5, 15, 16, 17, 18, 19, 20, 21, 22, 23, 24, 25, 26, 27, 28, 29, 30, 31, 32, 33, 34, 35, 36, 37, 38, 39, 40, 41, 42, 43, 44, 45, 46, 47, 48, 49, 50, 51, 52, 53, 54, 55, 56, 57, 58, 59, 60, 61, 62, 63, 64, 65, 66, 67, 68, 69, 70, 71, 72, 73, 74, 75, 76, 77] (by decide +kernel) (by decide +kernel)) (goodIn_sub (fun _ h => List.mem_cons_of_mem _ (List.mem_append_right _ h)) (by decide +kernel))
set_option maxRecDepth 20000 in
theorem gL_turn_X6_turn : GoodIn wsL_turn (wsV RL 23 RX6 yX6_turn wsX6_turn) := goodIn_app (goodIn_of _ (by decide +kernel)) ggL_turn_X6_turn
theorem dL_turn_0 : decode cL_turn 0 = .ok (.aload_n 3, 1) := by decide +kernel
theorem dL_turn_1 : decode cL_turn 1 = .ok (.iconst 0, 1) := by decide +kernel
theorem dL_turn_2 : decode cL_turn 2 = .ok (.aload_n 0, 1) := by decide +kernel
theorem dL_turn_3 : decode cL_turn 3 = .ok (.iload_n 1, 1) := by decide +kernel
theorem dL_turn_4 : decode cL_turn 4 = .ok (.iload_n 2, 1) := by decide +kernel
theorem dL_turn_5 : decode cL_turn 5 = .ok (.invokevirtual 23, 3) := by decide +kernel
theorem dL_turn_8 : decode cL_turn 8 = .ok (.ifCond .eq 7, 3) := by decide +kernel
theorem dL_turn_11 : decode cL_turn 11 = .ok (.lconst 1, 1) := by decide +kernel
theorem dL_turn_12 : decode cL_turn 12 = .ok (.goto 4, 3) := by decide +kernel
theorem dL_turn_15 : decode cL_turn 15 = .ok (.lconst 0, 1) := by decide +kernel
theorem dL_turn_16 : decode cL_turn 16 = .ok (.lastore, 1) := by decide +kernel
theorem dL_turn_17 : decode cL_turn 17 = .ok (.goto 7, 3) := by decide +kernel
theorem dL_turn_20 : decode cL_turn 20 = .ok (.astore 4, 2) := by decide +kernel
theorem dL_turn_22 : decode cL_turn 22 = .ok (.iconst 1, 1) := by decide +kernel
theorem dL_turn_23 : decode cL_turn 23 = .ok (.ireturn, 1) := by decide +kernel
theorem dL_turn_24 : decode cL_turn 24 = .ok (.iconst 0, 1) := by decide +kernel
theorem dL_turn_25 : decode cL_turn 25 = .ok (.ireturn, 1) := by decide +kernel
set_option maxRecDepth 20000 in
theorem ggL_rank_X6_rank : GoodIn wsL_rank wsX6_rank := goodIn_ca (goodIn_ca (goodIn_r _ [7, 8, 9, 10, 11, 12, 13, 14, 6, 15, 16, 17, 18, 19, 20, 21, 22, 23, 24, 25, 26, 27, 28, 29, 30, 31, 32, 33, 34, 35, 36, 37, 38, 39, 40, 41, 42, 43, 44, 45, 46, 47, 48, 49, 50, 51, 52, 53, 54, 55, 56, 57, 58, 59, 60, 61, 62, 63, 64, 65, 66, 67, 68, 69, 70, 71, 72, 73, 74] (by decide +kernel) (by decide +kernel)) (goodIn_sub (fun _ h => List.mem_cons_of_mem _ (List.mem_append_left _ (List.mem_append_right _ h))) (by decide +kernel))) (goodIn_sub (fun _ h => List.mem_cons_of_mem _ (List.mem_append_right _ h)) (by decide +kernel))
set_option maxRecDepth 20000 in
theorem gL_rank_X6_rank : GoodIn wsL_rank (wsV RL 27 RX6 yX6_rank wsX6_rank) := goodIn_app (goodIn_of _ (by decide +kernel)) ggL_rank_X6_rank
theorem dL_rank_0 : decode cL_rank 0 = .ok (.aload_n 3, 1) := by decide +kernel
theorem dL_rank_1 : decode cL_rank 1 = .ok (.iconst 0, 1) := by decide +kernel
theorem dL_rank_2 : decode cL_rank 2 = .ok (.aload_n 0, 1) := by decide +kernel
theorem dL_rank_3 : decode cL_rank 3 = .ok (.iload_n 1, 1) := by decide +kernel
theorem dL_rank_4 : decode cL_rank 4 = .ok (.iload_n 2, 1) := by decide +kernel
theorem dL_rank_5 : decode cL_rank 5 = .ok (.invokevirtual 27, 3) := by decide +kernel
theorem dL_rank_8 : decode cL_rank 8 = .ok (.ifCond .eq 7, 3) := by decide +kernel
theorem dL_rank_11 : decode cL_rank 11 = .ok (.lconst 1, 1) := by decide +kernel
theorem dL_rank_12 : decode cL_rank 12 = .ok (.goto 4, 3) := by decide +kernel
theorem dL_rank_15 : decode cL_rank 15 = .ok (.lconst 0, 1) := by decide +kernel
theorem dL_rank_16 : decode cL_rank 16 = .ok (.lastore, 1) := by decide +kernel
theorem dL_rank_17 : decode cL_rank 17 = .ok (.goto 11, 3) := by decide +kernel
theorem dL_rank_20 : decode cL_rank 20 = .ok (.astore 4, 2) := by decide +kernel
theorem dL_rank_22 : decode cL_rank 22 = .ok (.iconst 1, 1) := by decide +kernel
theorem dL_rank_23 : decode cL_rank 23 = .ok (.ireturn, 1) := by decide +kernel
theorem dL_rank_24 : decode cL_rank 24 = .ok (.astore 4, 2) := by decide +kernel
theorem dL_rank_26 : decode cL_rank 26 = .ok (.iconst 2, 1) := by decide +kernel
theorem dL_rank_27 : decode cL_rank 27 = .ok (.ireturn, 1) := by decide +kernel
theorem dL_rank_28 : decode cL_rank 28 = .ok (.iconst 0, 1) := by decide +kernel
theorem dL_rank_29 : decode cL_rank 29 = .ok (.ireturn, 1) := by decide +kernel
set_option maxRecDepth 20000 in
theorem ggL_isAbove_X6_isAbove : GoodIn wsL_isAbove wsX6_isAbove := goodIn_ca (goodIn_r _ [6, 7, 8, 9, 5, 10, 11, 12, 13, 14, 15, 16, 17, 18, 19, 20, 21, 22, 23, 24, 25, 26, 27, 28, 29, 30, 31, 32, 33, 34, 35, 36, 37, 38, 39, 40, 41, 42, 43, 44, 45] (by decide +kernel) (by decide +kernel)) (goodIn_sub (fun _ h => List.mem_cons_of_mem _ (List.mem_append_right _ h)) (by decide +kernel))
set_option maxRecDepth 20000 in
theorem gL_isAbove_X6_isAbove : GoodIn wsL_isAbove (wsV RL 31 RX6 yX6_isAbove wsX6_isAbove) := goodIn_app (goodIn_of _ (by decide +kernel)) ggL_isAbove_X6_isAbove
theorem dL_isAbove_0 : decode cL_isAbove 0 = .ok (.aload_n 3, 1) := by decide +kernel
theorem dL_isAbove_1 : decode cL_isAbove 1 = .ok (.iconst 0, 1) := by decide +kernel
theorem dL_isAbove_2 : decode cL_isAbove 2 = .ok (.aload_n 0, 1) := by decide +kernel
theorem dL_isAbove_3 : decode cL_isAbove 3 = .ok (.iload_n 1, 1) := by decide +kernel
theorem dL_isAbove_4 : decode cL_isAbove 4 = .ok (.iload_n 2, 1) := by decide +kernel
theorem dL_isAbove_5 : decode cL_isAbove 5 = .ok (.invokevirtual 31, 3) := by decide +kernel
theorem dL_isAbove_8 : decode cL_isAbove 8 = .ok (.ifCond .eq 7, 3) := by decide +kernel
theorem dL_isAbove_11 : decode cL_isAbove 11 = .ok (.lconst 1, 1) := by decide +kernel
theorem dL_isAbove_12 : decode cL_isAbove 12 = .ok (.goto 4, 3) := by decide +kernel
theorem dL_isAbove_15 : decode cL_isAbove 15 = .ok (.lconst 0, 1) := by decide +kernel
theorem dL_isAbove_16 : decode cL_isAbove 16 = .ok (.lastore, 1) := by decide +kernel
theorem dL_isAbove_17 : decode cL_isAbove 17 = .ok (.goto 7, 3) := by decide +kernel
theorem dL_isAbove_20 : decode cL_isAbove 20 = .ok (.astore 4, 2) := by decide +kernel
theorem dL_isAbove_22 : decode cL_isAbove 22 = .ok (.iconst 1, 1) := by decide +kernel
theorem dL_isAbove_23 : decode cL_isAbove 23 = .ok (.ireturn, 1) := by decide +kernel
theorem dL_isAbove_24 : decode cL_isAbove 24 = .ok (.iconst 0, 1) := by decide +kernel
theorem dL_isAbove_25 : decode cL_isAbove 25 = .ok (.ireturn, 1) := by decide +kernel
set_option maxRecDepth 20000 in
theorem ggL_put_X6_put : GoodIn wsL_put wsX6_put := goodIn_ca (goodIn_r _ [6, 7, 8, 9, 10, 5, 11, 12, 13, 14, 15, 16, 17, 18, 19, 20, 21, 22, 23, 24, 25, 26, 27, 28, 29, 30, 31, 32, 33, 34, 35, 36, 37, 38, 39, 40, 41] (by decide +kernel) (by decide +kernel)) (goodIn_sub (fun _ h => List.mem_cons_of_mem _ (List.mem_append_right _ h)) (by decide +kernel))
set_option maxRecDepth 20000 in
theorem gL_put_X6_put : GoodIn wsL_put (wsV RL 34 RX6 yX6_put wsX6_put) := goodIn_app (goodIn_of _ (by decide +kernel)) ggL_put_X6_put
theorem dL_put_0 : decode cL_put 0 = .ok (.aload_n 2, 1) := by decide +kernel
theorem dL_put_1 : decode cL_put 1 = .ok (.iconst 0, 1) := by decide +kernel
theorem dL_put_2 : decode cL_put 2 = .ok (.aload_n 0, 1) := by decide +kernel
theorem dL_put_3 : decode cL_put 3 = .ok (.iload_n 1, 1) := by decide +kernel
theorem dL_put_4 : decode cL_put 4 = .ok (.invokevirtual 34, 3) := by decide +kernel
theorem dL_put_7 : decode cL_put 7 = .ok (.i2l, 1) := by decide +kernel
theorem dL_put_8 : decode cL_put 8 = .ok (.lastore, 1) := by decide +kernel
theorem dL_put_9 : decode cL_put 9 = .ok (.goto 6, 3) := by decide +kernel
theorem dL_put_12 : decode cL_put 12 = .ok (.astore_n 3, 1) := by decide +kernel
theorem dL_put_13 : decode cL_put 13 = .ok (.iconst 1, 1) := by decide +kernel
theorem dL_put_14 : decode cL_put 14 = .ok (.ireturn, 1) := by decide +kernel
theorem dL_put_15 : decode cL_put 15 = .ok (.iconst 0, 1) := by decide +kernel
theorem dL_put_16 : decode cL_put 16 = .ok (.ireturn, 1) := by decide +kernel
set_option maxRecDepth 20000 in
theorem ggL_change_X6_change : GoodIn wsL_change wsX6_change := goodIn_ca (goodIn_r _ [6, 7, 8, 9, 10, 11, 5, 12, 13, 14, 15, 16, 17, 18, 19, 20, 21, 22, 23, 24, 25, 26, 27, 28, 29, 30, 31, 32, 33, 34, 35, 36, 37, 38, 39, 40, 41, 42, 43, 44, 45, 46, 47, 48, 49, 50, 51, 52, 53, 54, 55, 56, 57, 58, 59] (by decide +kernel) (by decide +kernel)) (goodIn_sub (fun _ h => List.mem_cons_of_mem _ (List.mem_append_right _ h)) (by decide +kernel))
set_option maxRecDepth 20000 in
theorem gL_change_X6_change : GoodIn wsL_change (wsV RL 38 RX6 yX6_change wsX6_change) := goodIn_app (goodIn_of _ (by decide +kernel)) ggL_change_X6_change
theorem dL_change_0 : decode cL_change 0 = .ok (.aload_n 3, 1) := by decide +kernel
theorem dL_change_1 : decode cL_change 1 = .ok (.iconst 0, 1) := by decide +kernel
theorem dL_change_2 : decode cL_change 2 = .ok (.aload_n 0, 1) := by decide +kernel
theorem dL_change_3 : decode cL_change 3 = .ok (.iload_n 1, 1) := by decide +kernel
theorem dL_change_4 : decode cL_change 4 = .ok (.iload_n 2, 1) := by decide +kernel
theorem dL_change_5 : decode cL_change 5 = .ok (.invokevirtual 38, 3) := by decide +kernel
theorem dL_change_8 : decode cL_change 8 = .ok (.i2l, 1) := by decide +kernel
theorem dL_change_9 : decode cL_change 9 = .ok (.lastore, 1) := by decide +kernel
theorem dL_change_10 : decode cL_change 10 = .ok (.goto 7, 3) := by decide +kernel
theorem dL_change_13 : decode cL_change 13 = .ok (.astore 4, 2) := by decide +kernel
theorem dL_change_15 : decode cL_change 15 = .ok (.iconst 1, 1) := by decide +kernel
theorem dL_change_16 : decode cL_change 16 = .ok (.ireturn, 1) := by decide +kernel
theorem dL_change_17 : decode cL_change 17 = .ok (.iconst 0, 1) := by decide +kernel
theorem dL_change_18 : decode cL_change 18 = .ok (.ireturn, 1) := by decide +kernel
set_option maxRecDepth 20000 in
theorem ggL_play_X6_play : GoodIn wsL_play wsX6_play := goodIn_ca (goodIn_ca (goodIn_r _ [7, 8, 9, 10, 11, 12, 13, 14, 15, 6, 16, 17, 18, 19, 20, 21, 22, 23, 24, 25, 26, 27, 28, 29, 30, 31, 32, 33, 34, 35, 36, 37, 38, 39, 40, 41, 42, 43, 44, 45, 46, 47, 48, 49, 50, 51, 52, 53, 54, 55, 56, 57, 58, 59, 60, 61, 62, 63, 64, 65, 66, 67, 68, 69, 70, 71, 72, 73, 74, 75, 76, 77, 78, 79, 80, 81, 82, 83, 84, 85, 86, 87, 88, 89, 90, 91, 92, 93, 94, 95, 96, 97, 98, 99, 100, 101] (by decide +kernel) (by decide +kernel)) (goodIn_sub (fun _ h => List.mem_cons_of_mem _ (List.mem_append_left _ (List.mem_append_right _ h))) (by decide +kernel))) (goodIn_sub (fun _ h => List.mem_cons_of_mem _ (List.mem_append_right _ h)) (by decide +kernel))
set_option maxRecDepth 20000 in
theorem gL_play_X6_play : GoodIn wsL_play (wsV RL 42 RX6 yX6_play wsX6_play) := goodIn_app (goodIn_of _ (by decide +kernel)) ggL_play_X6_play
theorem dL_play_0 : decode cL_play 0 = .ok (.aload_n 2, 1) := by decide +kernel
theorem dL_play_1 : decode cL_play 1 = .ok (.iconst 0, 1) := by decide +kernel
theorem dL_play_2 : decode cL_play 2 = .ok (.aload_n 0, 1) := by decide +kernel
theorem dL_play_3 : decode cL_play 3 = .ok (.iload_n 1, 1) := by decide +kernel
theorem dL_play_4 : decode cL_play 4 = .ok (.invokevirtual 42, 3) := by decide +kernel
theorem dL_play_7 : decode cL_play 7 = .ok (.ifCond .eq 7, 3) := by decide +kernel
theorem dL_play_10 : decode cL_play 10 = .ok (.lconst 1, 1) := by decide +kernel
theorem dL_play_11 : decode cL_play 11 = .ok (.goto 4, 3) := by decide +kernel
theorem dL_play_14 : decode cL_play 14 = .ok (.lconst 0, 1) := by decide +kernel
theorem dL_play_15 : decode cL_play 15 = .ok (.lastore, 1) := by decide +kernel
theorem dL_play_16 : decode cL_play 16 = .ok (.goto 9, 3) := by decide +kernel
theorem dL_play_19 : decode cL_play 19 = .ok (.astore_n 3, 1) := by decide +kernel
theorem dL_play_20 : decode cL_play 20 = .ok (.iconst 1, 1) := by decide +kernel
theorem dL_play_21 : decode cL_play 21 = .ok (.ireturn, 1) := by decide +kernel
theorem dL_play_22 : decode cL_play 22 = .ok (.astore_n 3, 1) := by decide +kernel
theorem dL_play_23 : decode cL_play 23 = .ok (.iconst 2, 1) := by decide +kernel
theorem dL_play_24 : decode cL_play 24 = .ok (.ireturn, 1) := by decide +kernel
theorem dL_play_25 : decode cL_play 25 = .ok (.iconst 0, 1) := by decide +kernel
theorem dL_play_26 : decode cL_play 26 = .ok (.ireturn, 1) := by decide +kernel
set_option maxRecDepth 20000 in
theorem ggL_run_X6_run : GoodIn wsL_run wsX6_run := goodIn_ca (goodIn_r _ [6, 7, 8, 9, 10, 11, 12, 13, 14, 15, 16, 17, 18, 19, 20, 21, 22, 23, 24, 25, 26, 27, 28, 29, 30, 31, 5, 32, 33, 34, 35, 36, 37, 38, 39, 40, 41, 42, 43, 44, 45, 46, 47, 48, 49, 50, 51, 52, 53, 54, 55, 56, 57, 58, 59, 60, 61, 62, 63, 64, 65, 66, 67, 68, 69, 70, 71, 72, 73, 74, 75, 76, 77, 78, 79, 80, 81, 82, 83, 84, 85, 86, 87, 88, 89, 90, 91, 92] (by decide +kernel) (by decide +kernel)) (goodIn_sub (fun _ h => List.mem_cons_of_mem _ (List.mem_append_right _ h)) (by decide +kernel))
set_option maxRecDepth 20000 in
theorem gL_run_X6_run : GoodIn wsL_run (wsV RL 46 RX6 yX6_run wsX6_run) := goodIn_app (goodIn_of _ (by decide +kernel)) ggL_run_X6_run
theorem dL_run_0 : decode cL_run 0 = .ok (.aload_n 2, 1) := by decide +kernel
theorem dL_run_1 : decode cL_run 1 = .ok (.iconst 0, 1) := by decide +kernel
theorem dL_run_2 : decode cL_run 2 = .ok (.aload_n 0, 1) := by decide +kernel
theorem dL_run_3 : decode cL_run 3 = .ok (.iload_n 1, 1) := by decide +kernel
theorem dL_run_4 : decode cL_run 4 = .ok (.invokevirtual 46, 3) := by decide +kernel
theorem dL_run_7 : decode cL_run 7 = .ok (.i2l, 1) := by decide +kernel
theorem dL_run_8 : decode cL_run 8 = .ok (.lastore, 1) := by decide +kernel
theorem dL_run_9 : decode cL_run 9 = .ok (.goto 6, 3) := by decide +kernel
theorem dL_run_12 : decode cL_run 12 = .ok (.astore_n 3, 1) := by decide +kernel
theorem dL_run_13 : decode cL_run 13 = .ok (.iconst 1, 1) := by decide +kernel
theorem dL_run_14 : decode cL_run 14 = .ok (.ireturn, 1) := by decide +kernel
theorem dL_run_15 : decode cL_run 15 = .ok (.iconst 0, 1) := by decide +kernel
theorem dL_run_16 : decode cL_run 16 = .ok (.ireturn, 1) := by decide +kernel
set_option maxRecDepth 20000 in
theorem ggL_factsOf_X6_factsOf : GoodIn wsL_factsOf wsX6_factsOf := goodIn_ca (goodIn_ca (goodIn_r _ [7, 8, 9, 10, 6, 11, 12, 13, 14, 15, 16, 17, 18, 19, 20, 21, 22, 23, 24, 25, 26, 27, 28, 29, 30, 31, 32, 33, 34, 35, 36, 37, 38, 39, 40, 41, 42, 43, 44, 45, 46, 47, 48, 49, 50, 51, 52] (by decide +kernel) (by decide +kernel)) (goodIn_sub (fun _ h => List.mem_cons_of_mem _ (List.mem_append_left _ (List.mem_append_right _ h))) (by decide +kernel))) (goodIn_sub (fun _ h => List.mem_cons_of_mem _ (List.mem_append_right _ h)) (by decide +kernel))
set_option maxRecDepth 20000 in
theorem gL_factsOf_X6_factsOf : GoodIn wsL_factsOf (wsV RL 49 RX6 yX6_factsOf wsX6_factsOf) := goodIn_app (goodIn_of _ (by decide +kernel)) ggL_factsOf_X6_factsOf
theorem dL_factsOf_0 : decode cL_factsOf 0 = .ok (.aload_n 2, 1) := by decide +kernel
theorem dL_factsOf_1 : decode cL_factsOf 1 = .ok (.iconst 0, 1) := by decide +kernel
theorem dL_factsOf_2 : decode cL_factsOf 2 = .ok (.aload_n 0, 1) := by decide +kernel
theorem dL_factsOf_3 : decode cL_factsOf 3 = .ok (.iload_n 1, 1) := by decide +kernel
theorem dL_factsOf_4 : decode cL_factsOf 4 = .ok (.invokevirtual 49, 3) := by decide +kernel
theorem dL_factsOf_7 : decode cL_factsOf 7 = .ok (.i2l, 1) := by decide +kernel
theorem dL_factsOf_8 : decode cL_factsOf 8 = .ok (.lastore, 1) := by decide +kernel
theorem dL_factsOf_9 : decode cL_factsOf 9 = .ok (.goto 9, 3) := by decide +kernel
theorem dL_factsOf_12 : decode cL_factsOf 12 = .ok (.astore_n 3, 1) := by decide +kernel
theorem dL_factsOf_13 : decode cL_factsOf 13 = .ok (.iconst 1, 1) := by decide +kernel
theorem dL_factsOf_14 : decode cL_factsOf 14 = .ok (.ireturn, 1) := by decide +kernel
theorem dL_factsOf_15 : decode cL_factsOf 15 = .ok (.astore_n 3, 1) := by decide +kernel
theorem dL_factsOf_16 : decode cL_factsOf 16 = .ok (.iconst 2, 1) := by decide +kernel
theorem dL_factsOf_17 : decode cL_factsOf 17 = .ok (.ireturn, 1) := by decide +kernel
theorem dL_factsOf_18 : decode cL_factsOf 18 = .ok (.iconst 0, 1) := by decide +kernel
theorem dL_factsOf_19 : decode cL_factsOf 19 = .ok (.ireturn, 1) := by decide +kernel
set_option maxRecDepth 20000 in
theorem ggL_triggeredOf_X6_triggeredOf : GoodIn wsL_triggeredOf wsX6_triggeredOf := goodIn_ca (goodIn_ca (goodIn_r _ [7, 8, 9, 10, 6, 11, 12, 13, 14, 15, 16, 17, 18, 19, 20, 21, 22, 23, 24, 25, 26, 27, 28, 29, 30, 31, 32, 33, 34, 35, 36, 37, 38, 39, 40, 41, 42, 43, 44, 45, 46, 47, 48, 49, 50, 51, 52] (by decide +kernel) (by decide +kernel)) (goodIn_sub (fun _ h => List.mem_cons_of_mem _ (List.mem_append_left _ (List.mem_append_right _ h))) (by decide +kernel))) (goodIn_sub (fun _ h => List.mem_cons_of_mem _ (List.mem_append_right _ h)) (by decide +kernel))
set_option maxRecDepth 20000 in
theorem gL_triggeredOf_X6_triggeredOf : GoodIn wsL_triggeredOf (wsV RL 52 RX6 yX6_triggeredOf wsX6_triggeredOf) := goodIn_app (goodIn_of _ (by decide +kernel)) ggL_triggeredOf_X6_triggeredOf
theorem dL_triggeredOf_0 : decode cL_triggeredOf 0 = .ok (.aload_n 2, 1) := by decide +kernel
theorem dL_triggeredOf_1 : decode cL_triggeredOf 1 = .ok (.iconst 0, 1) := by decide +kernel
theorem dL_triggeredOf_2 : decode cL_triggeredOf 2 = .ok (.aload_n 0, 1) := by decide +kernel
theorem dL_triggeredOf_3 : decode cL_triggeredOf 3 = .ok (.iload_n 1, 1) := by decide +kernel
theorem dL_triggeredOf_4 : decode cL_triggeredOf 4 = .ok (.invokevirtual 52, 3) := by decide +kernel
theorem dL_triggeredOf_7 : decode cL_triggeredOf 7 = .ok (.i2l, 1) := by decide +kernel
theorem dL_triggeredOf_8 : decode cL_triggeredOf 8 = .ok (.lastore, 1) := by decide +kernel
theorem dL_triggeredOf_9 : decode cL_triggeredOf 9 = .ok (.goto 9, 3) := by decide +kernel
theorem dL_triggeredOf_12 : decode cL_triggeredOf 12 = .ok (.astore_n 3, 1) := by decide +kernel
theorem dL_triggeredOf_13 : decode cL_triggeredOf 13 = .ok (.iconst 1, 1) := by decide +kernel
theorem dL_triggeredOf_14 : decode cL_triggeredOf 14 = .ok (.ireturn, 1) := by decide +kernel
theorem dL_triggeredOf_15 : decode cL_triggeredOf 15 = .ok (.astore_n 3, 1) := by decide +kernel
theorem dL_triggeredOf_16 : decode cL_triggeredOf 16 = .ok (.iconst 2, 1) := by decide +kernel
theorem dL_triggeredOf_17 : decode cL_triggeredOf 17 = .ok (.ireturn, 1) := by decide +kernel
theorem dL_triggeredOf_18 : decode cL_triggeredOf 18 = .ok (.iconst 0, 1) := by decide +kernel
theorem dL_triggeredOf_19 : decode cL_triggeredOf 19 = .ok (.ireturn, 1) := by decide +kernel
set_option maxRecDepth 20000 in
theorem ggL_after_X6_after : GoodIn wsL_after wsX6_after := goodIn_ca (goodIn_ca (goodIn_r _ [7, 8, 9, 10, 11, 6, 12, 13, 14, 15, 16, 17, 18, 19, 20, 21, 22, 23, 24, 25, 26, 27, 28, 29, 30, 31, 32, 33, 34, 35, 36, 37, 38, 39, 40, 41, 42, 43, 44, 45, 46, 47, 48, 49, 50, 51, 52, 53, 54, 55, 56, 57, 58, 59, 60, 61, 62, 63, 64, 65, 66, 67, 68, 69] (by decide +kernel) (by decide +kernel)) (goodIn_sub (fun _ h => List.mem_cons_of_mem _ (List.mem_append_left _ (List.mem_append_right _ h))) (by decide +kernel))) (goodIn_sub (fun _ h => List.mem_cons_of_mem _ (List.mem_append_right _ h)) (by decide +kernel))
set_option maxRecDepth 20000 in
theorem gL_after_X6_after : GoodIn wsL_after (wsV RL 55 RX6 yX6_after wsX6_after) := goodIn_app (goodIn_of _ (by decide +kernel)) ggL_after_X6_after
theorem dL_after_0 : decode cL_after 0 = .ok (.aload_n 3, 1) := by decide +kernel
theorem dL_after_1 : decode cL_after 1 = .ok (.iconst 0, 1) := by decide +kernel
theorem dL_after_2 : decode cL_after 2 = .ok (.aload_n 0, 1) := by decide +kernel
theorem dL_after_3 : decode cL_after 3 = .ok (.iload_n 1, 1) := by decide +kernel
theorem dL_after_4 : decode cL_after 4 = .ok (.iload_n 2, 1) := by decide +kernel
theorem dL_after_5 : decode cL_after 5 = .ok (.invokevirtual 55, 3) := by decide +kernel
theorem dL_after_8 : decode cL_after 8 = .ok (.i2l, 1) := by decide +kernel
theorem dL_after_9 : decode cL_after 9 = .ok (.lastore, 1) := by decide +kernel
theorem dL_after_10 : decode cL_after 10 = .ok (.goto 11, 3) := by decide +kernel
theorem dL_after_13 : decode cL_after 13 = .ok (.astore 4, 2) := by decide +kernel
theorem dL_after_15 : decode cL_after 15 = .ok (.iconst 1, 1) := by decide +kernel
theorem dL_after_16 : decode cL_after 16 = .ok (.ireturn, 1) := by decide +kernel
theorem dL_after_17 : decode cL_after 17 = .ok (.astore 4, 2) := by decide +kernel
theorem dL_after_19 : decode cL_after 19 = .ok (.iconst 2, 1) := by decide +kernel
theorem dL_after_20 : decode cL_after 20 = .ok (.ireturn, 1) := by decide +kernel
theorem dL_after_21 : decode cL_after 21 = .ok (.iconst 0, 1) := by decide +kernel
theorem dL_after_22 : decode cL_after 22 = .ok (.ireturn, 1) := by decide +kernel
set_option maxRecDepth 20000 in
theorem ggL_terminates_X6_terminates : GoodIn wsL_terminates wsX6_terminates := goodIn_ca (goodIn_r _ [6, 7, 8, 9, 10, 11, 5, 12, 13, 14, 15, 16, 17, 18, 19, 20, 21, 22, 23, 24, 25, 26, 27, 28, 29, 30, 31, 32, 33, 34, 35, 36, 37, 38, 39, 40, 41, 42, 43, 44, 45, 46, 47, 48, 49, 50, 51] (by decide +kernel) (by decide +kernel)) (goodIn_sub (fun _ h => List.mem_cons_of_mem _ (List.mem_append_right _ h)) (by decide +kernel))
set_option maxRecDepth 20000 in
theorem gL_terminates_X6_terminates : GoodIn wsL_terminates (wsV RL 59 RX6 yX6_terminates wsX6_terminates) := goodIn_app (goodIn_of _ (by decide +kernel)) ggL_terminates_X6_terminates
theorem dL_terminates_0 : decode cL_terminates 0 = .ok (.aload_n 1, 1) := by decide +kernel
theorem dL_terminates_1 : decode cL_terminates 1 = .ok (.iconst 0, 1) := by decide +kernel
theorem dL_terminates_2 : decode cL_terminates 2 = .ok (.aload_n 0, 1) := by decide +kernel
theorem dL_terminates_3 : decode cL_terminates 3 = .ok (.invokevirtual 59, 3) := by decide +kernel
theorem dL_terminates_6 : decode cL_terminates 6 = .ok (.ifCond .eq 7, 3) := by decide +kernel
theorem dL_terminates_9 : decode cL_terminates 9 = .ok (.lconst 1, 1) := by decide +kernel
theorem dL_terminates_10 : decode cL_terminates 10 = .ok (.goto 4, 3) := by decide +kernel
theorem dL_terminates_13 : decode cL_terminates 13 = .ok (.lconst 0, 1) := by decide +kernel
theorem dL_terminates_14 : decode cL_terminates 14 = .ok (.lastore, 1) := by decide +kernel
theorem dL_terminates_15 : decode cL_terminates 15 = .ok (.goto 6, 3) := by decide +kernel
theorem dL_terminates_18 : decode cL_terminates 18 = .ok (.astore_n 2, 1) := by decide +kernel
theorem dL_terminates_19 : decode cL_terminates 19 = .ok (.iconst 1, 1) := by decide +kernel
theorem dL_terminates_20 : decode cL_terminates 20 = .ok (.ireturn, 1) := by decide +kernel
theorem dL_terminates_21 : decode cL_terminates 21 = .ok (.iconst 0, 1) := by decide +kernel
theorem dL_terminates_22 : decode cL_terminates 22 = .ok (.ireturn, 1) := by decide +kernel
set_option maxRecDepth 20000 in
theorem ggL_endCount_X6_endCount : GoodIn wsL_endCount wsX6_endCount := goodIn_ca (goodIn_r _ [6, 7, 8, 9, 10, 11, 5, 12, 13, 14, 15, 16, 17, 18, 19, 20, 21, 22, 23, 24, 25, 26, 27, 28, 29, 30, 31, 32, 33, 34, 35, 36, 37, 38, 39, 40, 41, 42, 43, 44, 45, 46] (by decide +kernel) (by decide +kernel)) (goodIn_sub (fun _ h => List.mem_cons_of_mem _ (List.mem_append_right _ h)) (by decide +kernel))
set_option maxRecDepth 20000 in
theorem gL_endCount_X6_endCount : GoodIn wsL_endCount (wsV RL 63 RX6 yX6_endCount wsX6_endCount) := goodIn_app (goodIn_of _ (by decide +kernel)) ggL_endCount_X6_endCount
theorem dL_endCount_0 : decode cL_endCount 0 = .ok (.aload_n 1, 1) := by decide +kernel
theorem dL_endCount_1 : decode cL_endCount 1 = .ok (.iconst 0, 1) := by decide +kernel
theorem dL_endCount_2 : decode cL_endCount 2 = .ok (.aload_n 0, 1) := by decide +kernel
theorem dL_endCount_3 : decode cL_endCount 3 = .ok (.invokevirtual 63, 3) := by decide +kernel
theorem dL_endCount_6 : decode cL_endCount 6 = .ok (.i2l, 1) := by decide +kernel
theorem dL_endCount_7 : decode cL_endCount 7 = .ok (.lastore, 1) := by decide +kernel
theorem dL_endCount_8 : decode cL_endCount 8 = .ok (.goto 6, 3) := by decide +kernel
theorem dL_endCount_11 : decode cL_endCount 11 = .ok (.astore_n 2, 1) := by decide +kernel
theorem dL_endCount_12 : decode cL_endCount 12 = .ok (.iconst 1, 1) := by decide +kernel
theorem dL_endCount_13 : decode cL_endCount 13 = .ok (.ireturn, 1) := by decide +kernel
theorem dL_endCount_14 : decode cL_endCount 14 = .ok (.iconst 0, 1) := by decide +kernel
theorem dL_endCount_15 : decode cL_endCount 15 = .ok (.ireturn, 1) := by decide +kernel
set_option maxRecDepth 20000 in
theorem ggL_end_X6_end : GoodIn wsL_end wsX6_end := goodIn_ca (goodIn_ca (goodIn_r _ [7, 8, 9, 10, 11, 12, 13, 14, 6, 15, 16, 17, 18, 19, 20, 21, 22, 23, 24, 25, 26, 27, 28, 29, 30, 31, 32, 33, 34, 35, 36, 37, 38, 39, 40, 41, 42, 43, 44, 45, 46, 47, 48, 49, 50] (by decide +kernel) (by decide +kernel)) (goodIn_sub (fun _ h => List.mem_cons_of_mem _ (List.mem_append_left _ (List.mem_append_right _ h))) (by decide +kernel))) (goodIn_sub (fun _ h => List.mem_cons_of_mem _ (List.mem_append_right _ h)) (by decide +kernel))
set_option maxRecDepth 20000 in
theorem gL_end_X6_end : GoodIn wsL_end (wsV RL 67 RX6 yX6_end wsX6_end) := goodIn_app (goodIn_of _ (by decide +kernel)) ggL_end_X6_end
theorem dL_end_0 : decode cL_end 0 = .ok (.aload_n 2, 1) := by decide +kernel
theorem dL_end_1 : decode cL_end 1 = .ok (.iconst 0, 1) := by decide +kernel
theorem dL_end_2 : decode cL_end 2 = .ok (.aload_n 0, 1) := by decide +kernel
theorem dL_end_3 : decode cL_end 3 = .ok (.iload_n 1, 1) := by decide +kernel
theorem dL_end_4 : decode cL_end 4 = .ok (.invokevirtual 67, 3) := by decide +kernel
theorem dL_end_7 : decode cL_end 7 = .ok (.i2l, 1) := by decide +kernel
theorem dL_end_8 : decode cL_end 8 = .ok (.lastore, 1) := by decide +kernel
theorem dL_end_9 : decode cL_end 9 = .ok (.goto 9, 3) := by decide +kernel
theorem dL_end_12 : decode cL_end 12 = .ok (.astore_n 3, 1) := by decide +kernel
theorem dL_end_13 : decode cL_end 13 = .ok (.iconst 1, 1) := by decide +kernel
theorem dL_end_14 : decode cL_end 14 = .ok (.ireturn, 1) := by decide +kernel
theorem dL_end_15 : decode cL_end 15 = .ok (.astore_n 3, 1) := by decide +kernel
theorem dL_end_16 : decode cL_end 16 = .ok (.iconst 2, 1) := by decide +kernel
theorem dL_end_17 : decode cL_end 17 = .ok (.ireturn, 1) := by decide +kernel
theorem dL_end_18 : decode cL_end 18 = .ok (.iconst 0, 1) := by decide +kernel
theorem dL_end_19 : decode cL_end 19 = .ok (.ireturn, 1) := by decide +kernel
set_option maxRecDepth 20000 in
theorem ggL_shortest_X6_shortest : GoodIn wsL_shortest wsX6_shortest := goodIn_ca (goodIn_r _ [6, 7, 8, 9, 10, 11, 5, 12, 13, 14, 15, 16, 17, 18, 19, 20, 21, 22, 23, 24, 25, 26, 27, 28, 29, 30, 31, 32, 33, 34, 35, 36, 37, 38, 39, 40, 41, 42, 43, 44, 45, 46] (by decide +kernel) (by decide +kernel)) (goodIn_sub (fun _ h => List.mem_cons_of_mem _ (List.mem_append_right _ h)) (by decide +kernel))
set_option maxRecDepth 20000 in
theorem gL_shortest_X6_shortest : GoodIn wsL_shortest (wsV RL 70 RX6 yX6_shortest wsX6_shortest) := goodIn_app (goodIn_of _ (by decide +kernel)) ggL_shortest_X6_shortest
theorem dL_shortest_0 : decode cL_shortest 0 = .ok (.aload_n 1, 1) := by decide +kernel
theorem dL_shortest_1 : decode cL_shortest 1 = .ok (.iconst 0, 1) := by decide +kernel
theorem dL_shortest_2 : decode cL_shortest 2 = .ok (.aload_n 0, 1) := by decide +kernel
theorem dL_shortest_3 : decode cL_shortest 3 = .ok (.invokevirtual 70, 3) := by decide +kernel
theorem dL_shortest_6 : decode cL_shortest 6 = .ok (.i2l, 1) := by decide +kernel
theorem dL_shortest_7 : decode cL_shortest 7 = .ok (.lastore, 1) := by decide +kernel
theorem dL_shortest_8 : decode cL_shortest 8 = .ok (.goto 6, 3) := by decide +kernel
theorem dL_shortest_11 : decode cL_shortest 11 = .ok (.astore_n 2, 1) := by decide +kernel
theorem dL_shortest_12 : decode cL_shortest 12 = .ok (.iconst 1, 1) := by decide +kernel
theorem dL_shortest_13 : decode cL_shortest 13 = .ok (.ireturn, 1) := by decide +kernel
theorem dL_shortest_14 : decode cL_shortest 14 = .ok (.iconst 0, 1) := by decide +kernel
theorem dL_shortest_15 : decode cL_shortest 15 = .ok (.ireturn, 1) := by decide +kernel
set_option maxRecDepth 20000 in
theorem ggL_longest_X6_longest : GoodIn wsL_longest wsX6_longest := goodIn_ca (goodIn_r _ [6, 7, 8, 9, 10, 11, 5, 12, 13, 14, 15, 16, 17, 18, 19, 20, 21, 22, 23, 24, 25, 26, 27, 28, 29, 30, 31, 32, 33, 34, 35, 36, 37, 38, 39, 40, 41, 42, 43, 44, 45, 46, 47, 48, 49, 50, 51, 52] (by decide +kernel) (by decide +kernel)) (goodIn_sub (fun _ h => List.mem_cons_of_mem _ (List.mem_append_right _ h)) (by decide +kernel))
set_option maxRecDepth 20000 in
theorem gL_longest_X6_longest : GoodIn wsL_longest (wsV RL 73 RX6 yX6_longest wsX6_longest) := goodIn_app (goodIn_of _ (by decide +kernel)) ggL_longest_X6_longest
theorem dL_longest_0 : decode cL_longest 0 = .ok (.aload_n 1, 1) := by decide +kernel
theorem dL_longest_1 : decode cL_longest 1 = .ok (.iconst 0, 1) := by decide +kernel
theorem dL_longest_2 : decode cL_longest 2 = .ok (.aload_n 0, 1) := by decide +kernel
theorem dL_longest_3 : decode cL_longest 3 = .ok (.invokevirtual 73, 3) := by decide +kernel
theorem dL_longest_6 : decode cL_longest 6 = .ok (.i2l, 1) := by decide +kernel
theorem dL_longest_7 : decode cL_longest 7 = .ok (.lastore, 1) := by decide +kernel
theorem dL_longest_8 : decode cL_longest 8 = .ok (.goto 6, 3) := by decide +kernel
theorem dL_longest_11 : decode cL_longest 11 = .ok (.astore_n 2, 1) := by decide +kernel
theorem dL_longest_12 : decode cL_longest 12 = .ok (.iconst 1, 1) := by decide +kernel
theorem dL_longest_13 : decode cL_longest 13 = .ok (.ireturn, 1) := by decide +kernel
theorem dL_longest_14 : decode cL_longest 14 = .ok (.iconst 0, 1) := by decide +kernel
theorem dL_longest_15 : decode cL_longest 15 = .ok (.ireturn, 1) := by decide +kernel
set_option maxRecDepth 20000 in
theorem ggL_ways_X6_ways : GoodIn wsL_ways wsX6_ways := goodIn_ca (goodIn_r _ [6, 7, 8, 9, 10, 11, 5, 12, 13, 14, 15, 16, 17, 18, 19, 20, 21, 22, 23, 24, 25, 26, 27, 28, 29, 30, 31, 32, 33, 34, 35, 36, 37, 38, 39, 40, 41, 42, 43, 44, 45, 46, 47, 48, 49, 50, 51, 52, 53] (by decide +kernel) (by decide +kernel)) (goodIn_sub (fun _ h => List.mem_cons_of_mem _ (List.mem_append_right _ h)) (by decide +kernel))
set_option maxRecDepth 20000 in
theorem gL_ways_X6_ways : GoodIn wsL_ways (wsV RL 76 RX6 yX6_ways wsX6_ways) := goodIn_app (goodIn_of _ (by decide +kernel)) ggL_ways_X6_ways
theorem dL_ways_0 : decode cL_ways 0 = .ok (.aload_n 1, 1) := by decide +kernel
theorem dL_ways_1 : decode cL_ways 1 = .ok (.iconst 0, 1) := by decide +kernel
theorem dL_ways_2 : decode cL_ways 2 = .ok (.aload_n 0, 1) := by decide +kernel
theorem dL_ways_3 : decode cL_ways 3 = .ok (.invokevirtual 76, 3) := by decide +kernel
theorem dL_ways_6 : decode cL_ways 6 = .ok (.lastore, 1) := by decide +kernel
theorem dL_ways_7 : decode cL_ways 7 = .ok (.goto 6, 3) := by decide +kernel
theorem dL_ways_10 : decode cL_ways 10 = .ok (.astore_n 2, 1) := by decide +kernel
theorem dL_ways_11 : decode cL_ways 11 = .ok (.iconst 1, 1) := by decide +kernel
theorem dL_ways_12 : decode cL_ways 12 = .ok (.ireturn, 1) := by decide +kernel
theorem dL_ways_13 : decode cL_ways 13 = .ok (.iconst 0, 1) := by decide +kernel
theorem dL_ways_14 : decode cL_ways 14 = .ok (.ireturn, 1) := by decide +kernel
set_option maxRecDepth 20000 in
theorem ggL_isPlayed_X6_isPlayed : GoodIn wsL_isPlayed wsX6_isPlayed := goodIn_ca (goodIn_ca (goodIn_r _ [7, 8, 9, 10, 11, 12, 6, 13, 14, 15, 16, 17, 18, 19, 20, 21, 22, 23, 24, 25, 26, 27, 28, 29, 30, 31, 32, 33, 34, 35, 36, 37, 38, 39, 40, 41, 42, 43, 44, 45, 46, 47, 48, 49, 50, 51, 52, 53, 54, 55, 56, 57, 58, 59, 60, 61, 62, 63, 64, 65, 66, 67, 68, 69, 70, 71] (by decide +kernel) (by decide +kernel)) (goodIn_sub (fun _ h => List.mem_cons_of_mem _ (List.mem_append_left _ (List.mem_append_right _ h))) (by decide +kernel))) (goodIn_sub (fun _ h => List.mem_cons_of_mem _ (List.mem_append_right _ h)) (by decide +kernel))
set_option maxRecDepth 20000 in
theorem gL_isPlayed_X6_isPlayed : GoodIn wsL_isPlayed (wsV RL 80 RX6 yX6_isPlayed wsX6_isPlayed) := goodIn_app (goodIn_of _ (by decide +kernel)) ggL_isPlayed_X6_isPlayed
theorem dL_isPlayed_0 : decode cL_isPlayed 0 = .ok (.aload_n 2, 1) := by decide +kernel
theorem dL_isPlayed_1 : decode cL_isPlayed 1 = .ok (.iconst 0, 1) := by decide +kernel
theorem dL_isPlayed_2 : decode cL_isPlayed 2 = .ok (.aload_n 0, 1) := by decide +kernel
theorem dL_isPlayed_3 : decode cL_isPlayed 3 = .ok (.iload_n 1, 1) := by decide +kernel
theorem dL_isPlayed_4 : decode cL_isPlayed 4 = .ok (.invokevirtual 80, 3) := by decide +kernel
theorem dL_isPlayed_7 : decode cL_isPlayed 7 = .ok (.ifCond .eq 7, 3) := by decide +kernel
theorem dL_isPlayed_10 : decode cL_isPlayed 10 = .ok (.lconst 1, 1) := by decide +kernel
theorem dL_isPlayed_11 : decode cL_isPlayed 11 = .ok (.goto 4, 3) := by decide +kernel
theorem dL_isPlayed_14 : decode cL_isPlayed 14 = .ok (.lconst 0, 1) := by decide +kernel
theorem dL_isPlayed_15 : decode cL_isPlayed 15 = .ok (.lastore, 1) := by decide +kernel
theorem dL_isPlayed_16 : decode cL_isPlayed 16 = .ok (.goto 9, 3) := by decide +kernel
theorem dL_isPlayed_19 : decode cL_isPlayed 19 = .ok (.astore_n 3, 1) := by decide +kernel
theorem dL_isPlayed_20 : decode cL_isPlayed 20 = .ok (.iconst 1, 1) := by decide +kernel
theorem dL_isPlayed_21 : decode cL_isPlayed 21 = .ok (.ireturn, 1) := by decide +kernel
theorem dL_isPlayed_22 : decode cL_isPlayed 22 = .ok (.astore_n 3, 1) := by decide +kernel
theorem dL_isPlayed_23 : decode cL_isPlayed 23 = .ok (.iconst 2, 1) := by decide +kernel
theorem dL_isPlayed_24 : decode cL_isPlayed 24 = .ok (.ireturn, 1) := by decide +kernel
theorem dL_isPlayed_25 : decode cL_isPlayed 25 = .ok (.iconst 0, 1) := by decide +kernel
theorem dL_isPlayed_26 : decode cL_isPlayed 26 = .ok (.ireturn, 1) := by decide +kernel
set_option maxRecDepth 20000 in
theorem ggL_choice_X6_choice : GoodIn wsL_choice wsX6_choice := goodIn_ca (goodIn_r _ [6, 7, 8, 9, 10, 5, 11, 12, 13, 14, 15, 16, 17, 18, 19, 20, 21, 22, 23, 24, 25, 26, 27, 28, 29, 30, 31, 32, 33, 34, 35, 36, 37, 38, 39, 40, 41, 42] (by decide +kernel) (by decide +kernel)) (goodIn_sub (fun _ h => List.mem_cons_of_mem _ (List.mem_append_right _ h)) (by decide +kernel))
set_option maxRecDepth 20000 in
theorem gL_choice_X6_choice : GoodIn wsL_choice (wsV RL 83 RX6 yX6_choice wsX6_choice) := goodIn_app (goodIn_of _ (by decide +kernel)) ggL_choice_X6_choice
theorem dL_choice_0 : decode cL_choice 0 = .ok (.aload_n 1, 1) := by decide +kernel
theorem dL_choice_1 : decode cL_choice 1 = .ok (.iconst 0, 1) := by decide +kernel
theorem dL_choice_2 : decode cL_choice 2 = .ok (.aload_n 0, 1) := by decide +kernel
theorem dL_choice_3 : decode cL_choice 3 = .ok (.invokevirtual 83, 3) := by decide +kernel
theorem dL_choice_6 : decode cL_choice 6 = .ok (.dastore, 1) := by decide +kernel
theorem dL_choice_7 : decode cL_choice 7 = .ok (.goto 6, 3) := by decide +kernel
theorem dL_choice_10 : decode cL_choice 10 = .ok (.astore_n 2, 1) := by decide +kernel
theorem dL_choice_11 : decode cL_choice 11 = .ok (.iconst 1, 1) := by decide +kernel
theorem dL_choice_12 : decode cL_choice 12 = .ok (.ireturn, 1) := by decide +kernel
theorem dL_choice_13 : decode cL_choice 13 = .ok (.iconst 0, 1) := by decide +kernel
theorem dL_choice_14 : decode cL_choice 14 = .ok (.ireturn, 1) := by decide +kernel
set_option maxRecDepth 20000 in
theorem ggL_canTrigger_X6_canTrigger : GoodIn wsL_canTrigger wsX6_canTrigger := goodIn_ca (goodIn_r _ [6, 7, 8, 9, 10, 5, 11, 12, 13, 14, 15, 16, 17, 18, 19, 20, 21, 22, 23, 24, 25, 26, 27, 28, 29, 30, 31, 32, 33, 34, 35, 36, 37, 38, 39, 40, 41, 42, 43, 44, 45, 46, 47, 48, 49, 50, 51, 52, 53, 54, 55] (by decide +kernel) (by decide +kernel)) (goodIn_sub (fun _ h => List.mem_cons_of_mem _ (List.mem_append_right _ h)) (by decide +kernel))
set_option maxRecDepth 20000 in
theorem gL_canTrigger_X6_canTrigger : GoodIn wsL_canTrigger (wsV RL 87 RX6 yX6_canTrigger wsX6_canTrigger) := goodIn_app (goodIn_of _ (by decide +kernel)) ggL_canTrigger_X6_canTrigger
theorem dL_canTrigger_0 : decode cL_canTrigger 0 = .ok (.aload_n 2, 1) := by decide +kernel
theorem dL_canTrigger_1 : decode cL_canTrigger 1 = .ok (.iconst 0, 1) := by decide +kernel
theorem dL_canTrigger_2 : decode cL_canTrigger 2 = .ok (.aload_n 0, 1) := by decide +kernel
theorem dL_canTrigger_3 : decode cL_canTrigger 3 = .ok (.iload_n 1, 1) := by decide +kernel
theorem dL_canTrigger_4 : decode cL_canTrigger 4 = .ok (.invokevirtual 87, 3) := by decide +kernel
theorem dL_canTrigger_7 : decode cL_canTrigger 7 = .ok (.i2l, 1) := by decide +kernel
theorem dL_canTrigger_8 : decode cL_canTrigger 8 = .ok (.lastore, 1) := by decide +kernel
theorem dL_canTrigger_9 : decode cL_canTrigger 9 = .ok (.goto 6, 3) := by decide +kernel
theorem dL_canTrigger_12 : decode cL_canTrigger 12 = .ok (.astore_n 3, 1) := by decide +kernel
theorem dL_canTrigger_13 : decode cL_canTrigger 13 = .ok (.iconst 1, 1) := by decide +kernel
theorem dL_canTrigger_14 : decode cL_canTrigger 14 = .ok (.ireturn, 1) := by decide +kernel
theorem dL_canTrigger_15 : decode cL_canTrigger 15 = .ok (.iconst 0, 1) := by decide +kernel
theorem dL_canTrigger_16 : decode cL_canTrigger 16 = .ok (.ireturn, 1) := by decide +kernel
set_option maxRecDepth 20000 in
theorem ggL_commute_X6_commute : GoodIn wsL_commute wsX6_commute := goodIn_ca (goodIn_ca (goodIn_r _ [7, 8, 9, 10, 11, 12, 13, 6, 14, 15, 16, 17, 18, 19, 20, 21, 22, 23, 24, 25, 26, 27, 28, 29, 30, 31, 32, 33, 34, 35, 36, 37, 38, 39, 40, 41, 42, 43, 44, 45, 46, 47, 48, 49, 50, 51, 52, 53, 54, 55, 56, 57, 58, 59, 60, 61, 62, 63, 64, 65, 66, 67, 68, 69, 70, 71, 72, 73, 74, 75, 76, 77, 78, 79, 80, 81, 82, 83] (by decide +kernel) (by decide +kernel)) (goodIn_sub (fun _ h => List.mem_cons_of_mem _ (List.mem_append_left _ (List.mem_append_right _ h))) (by decide +kernel))) (goodIn_sub (fun _ h => List.mem_cons_of_mem _ (List.mem_append_right _ h)) (by decide +kernel))
set_option maxRecDepth 20000 in
theorem gL_commute_X6_commute : GoodIn wsL_commute (wsV RL 90 RX6 yX6_commute wsX6_commute) := goodIn_app (goodIn_of _ (by decide +kernel)) ggL_commute_X6_commute
theorem dL_commute_0 : decode cL_commute 0 = .ok (.aload_n 3, 1) := by decide +kernel
theorem dL_commute_1 : decode cL_commute 1 = .ok (.iconst 0, 1) := by decide +kernel
theorem dL_commute_2 : decode cL_commute 2 = .ok (.aload_n 0, 1) := by decide +kernel
theorem dL_commute_3 : decode cL_commute 3 = .ok (.iload_n 1, 1) := by decide +kernel
theorem dL_commute_4 : decode cL_commute 4 = .ok (.iload_n 2, 1) := by decide +kernel
theorem dL_commute_5 : decode cL_commute 5 = .ok (.invokevirtual 90, 3) := by decide +kernel
theorem dL_commute_8 : decode cL_commute 8 = .ok (.ifCond .eq 7, 3) := by decide +kernel
theorem dL_commute_11 : decode cL_commute 11 = .ok (.lconst 1, 1) := by decide +kernel
theorem dL_commute_12 : decode cL_commute 12 = .ok (.goto 4, 3) := by decide +kernel
theorem dL_commute_15 : decode cL_commute 15 = .ok (.lconst 0, 1) := by decide +kernel
theorem dL_commute_16 : decode cL_commute 16 = .ok (.lastore, 1) := by decide +kernel
theorem dL_commute_17 : decode cL_commute 17 = .ok (.goto 11, 3) := by decide +kernel
theorem dL_commute_20 : decode cL_commute 20 = .ok (.astore 4, 2) := by decide +kernel
theorem dL_commute_22 : decode cL_commute 22 = .ok (.iconst 1, 1) := by decide +kernel
theorem dL_commute_23 : decode cL_commute 23 = .ok (.ireturn, 1) := by decide +kernel
theorem dL_commute_24 : decode cL_commute 24 = .ok (.astore 4, 2) := by decide +kernel
theorem dL_commute_26 : decode cL_commute 26 = .ok (.iconst 2, 1) := by decide +kernel
theorem dL_commute_27 : decode cL_commute 27 = .ok (.ireturn, 1) := by decide +kernel
theorem dL_commute_28 : decode cL_commute 28 = .ok (.iconst 0, 1) := by decide +kernel
theorem dL_commute_29 : decode cL_commute 29 = .ok (.ireturn, 1) := by decide +kernel
set_option maxRecDepth 20000 in
theorem ggL_conflict_X6_conflict : GoodIn wsL_conflict wsX6_conflict := goodIn_ca (goodIn_r _ [6, 7, 8, 9, 10, 11, 12, 13, 14, 15, 16, 17, 18, 19, 20, 21, 22, 23, 24, 25, 26, 27, 28, 29, 30, 31, 32, 33, 34, 35, 36, 37, 38, 39, 40, 41, 42, 43, 44, 45, 46, 47, 48, 49, 50, 51, 52, 53, 54, 55, 56, 57, 58, 59, 60, 61, 62, 63, 64, 65, 66, 67, 68, 69, 70, 71, 72, 73, 74, 75, 76, 77, 78, 79, 80, 81, 82, 83, 84, 85, 86, 87, 88, 89] (by decide +kernel) (by decide +kernel)) (goodIn_sub (fun _ h => List.mem_cons_of_mem _ (List.mem_append_right _ h)) (by decide +kernel))
set_option maxRecDepth 20000 in
theorem gL_conflict_X6_conflict : GoodIn wsL_conflict (wsV RL 93 RX6 yX6_conflict wsX6_conflict) := goodIn_app (goodIn_of _ (by decide +kernel)) ggL_conflict_X6_conflict
theorem dL_conflict_0 : decode cL_conflict 0 = .ok (.aload_n 2, 1) := by decide +kernel
theorem dL_conflict_1 : decode cL_conflict 1 = .ok (.iconst 0, 1) := by decide +kernel
theorem dL_conflict_2 : decode cL_conflict 2 = .ok (.aload_n 0, 1) := by decide +kernel
theorem dL_conflict_3 : decode cL_conflict 3 = .ok (.iload_n 1, 1) := by decide +kernel
theorem dL_conflict_4 : decode cL_conflict 4 = .ok (.invokevirtual 93, 3) := by decide +kernel
theorem dL_conflict_7 : decode cL_conflict 7 = .ok (.i2l, 1) := by decide +kernel
theorem dL_conflict_8 : decode cL_conflict 8 = .ok (.lastore, 1) := by decide +kernel
theorem dL_conflict_9 : decode cL_conflict 9 = .ok (.goto 6, 3) := by decide +kernel
theorem dL_conflict_12 : decode cL_conflict 12 = .ok (.astore_n 3, 1) := by decide +kernel
theorem dL_conflict_13 : decode cL_conflict 13 = .ok (.iconst 1, 1) := by decide +kernel
theorem dL_conflict_14 : decode cL_conflict 14 = .ok (.ireturn, 1) := by decide +kernel
theorem dL_conflict_15 : decode cL_conflict 15 = .ok (.iconst 0, 1) := by decide +kernel
theorem dL_conflict_16 : decode cL_conflict 16 = .ok (.ireturn, 1) := by decide +kernel
