theorem dX6_run_76 : decode cX6_run 76 = .ok (.ireturn, 1) := by decide +kernel
set_option maxRecDepth 20000 in
theorem ggX6_explore_X1_isDone : GoodIn wsX6_explore wsX1_isDone := goodIn_r _ [7, 8, 168, 169, 170, 171, 172, 173, 174, 175, 176, 177, 178, 179] (by decide +kernel) (by decide +kernel)
set_option maxRecDepth 20000 in
theorem gX6_explore_X1_isDone : GoodIn wsX6_explore (wsV RX6 142 RX1 yX1_isDone wsX1_isDone) := goodIn_app (goodIn_of _ (by decide +kernel)) ggX6_explore_X1_isDone
set_option maxRecDepth 20000 in
theorem ggX6_explore_X1_search : GoodIn wsX6_explore wsX1_search := goodIn_r _ [12, 13, 14, 15, 8, 16, 17, 18, 6, 19, 20, 21, 22, 23, 24, 25, 26, 27, 28, 29, 30, 31, 32, 33, 34, 35, 36, 37, 38, 39, 40, 41, 42, 43, 44, 45, 46, 47, 48, 49, 50, 51, 52, 53, 54, 55, 56, 57, 58, 59, 60, 61, 62, 63, 64, 65, 66, 67, 68, 69, 70, 71, 72, 73, 74, 75, 76, 77, 78, 79, 80, 81, 82, 83, 84, 85, 86, 87, 88, 89, 90, 91, 92, 93, 94, 95, 96, 97, 98, 99, 100, 101, 102, 103, 104, 105, 106, 107, 108, 109, 110, 111, 112, 113, 114, 115, 116, 117, 118, 119, 120, 121, 122, 123, 124, 125, 126, 127, 128, 129, 130, 131, 132, 133, 134, 135, 136, 137, 138, 139, 140, 141, 142, 143, 144, 145, 146, 147, 148, 149, 150, 151, 152, 153, 154, 155, 156, 157, 158, 159, 168, 169, 170, 171, 172, 173, 174, 175, 176, 177, 178, 179, 180, 181, 182, 183, 184, 185, 186, 187, 188, 189, 190, 191, 192, 193, 194, 195, 196, 197, 198, 199, 200, 201, 202, 203, 204] (by decide +kernel) (by decide +kernel)
set_option maxRecDepth 20000 in
theorem gX6_explore_X1_search : GoodIn wsX6_explore (wsV RX6 145 RX1 yX1_search wsX1_search) := goodIn_app (goodIn_of _ (by decide +kernel)) ggX6_explore_X1_search
set_option maxRecDepth 20000 in
theorem ggX6_explore_X1_answer : GoodIn wsX6_explore wsX1_answer := goodIn_r _ [163, 14, 13, 168, 169, 170, 171, 172, 173, 174, 175, 176, 177, 178, 179] (by decide +kernel) (by decide +kernel)
set_option maxRecDepth 20000 in
theorem gX6_explore_X1_answer : GoodIn wsX6_explore (wsV RX6 148 RX1 yX1_answer wsX1_answer) := goodIn_app (goodIn_of _ (by decide +kernel)) ggX6_explore_X1_answer
theorem dX6_explore_0 : decode cX6_explore 0 = .ok (.aload_n 0, 1) := by decide +kernel
theorem dX6_explore_1 : decode cX6_explore 1 = .ok (.getfield 28, 3) := by decide +kernel
theorem dX6_explore_4 : decode cX6_explore 4 = .ok (.invokevirtual 142, 3) := by decide +kernel
theorem dX6_explore_7 : decode cX6_explore 7 = .ok (.ifCond .ne 14, 3) := by decide +kernel
theorem dX6_explore_10 : decode cX6_explore 10 = .ok (.aload_n 0, 1) := by decide +kernel
theorem dX6_explore_11 : decode cX6_explore 11 = .ok (.getfield 28, 3) := by decide +kernel
theorem dX6_explore_14 : decode cX6_explore 14 = .ok (.aload_n 0, 1) := by decide +kernel
theorem dX6_explore_15 : decode cX6_explore 15 = .ok (.getfield 84, 3) := by decide +kernel
theorem dX6_explore_18 : decode cX6_explore 18 = .ok (.invokevirtual 145, 3) := by decide +kernel
theorem dX6_explore_21 : decode cX6_explore 21 = .ok (.aload_n 0, 1) := by decide +kernel
theorem dX6_explore_22 : decode cX6_explore 22 = .ok (.getfield 28, 3) := by decide +kernel
theorem dX6_explore_25 : decode cX6_explore 25 = .ok (.invokevirtual 148, 3) := by decide +kernel
theorem dX6_explore_28 : decode cX6_explore 28 = .ok (.ireturn, 1) := by decide +kernel
set_option maxRecDepth 20000 in
theorem ggX6_factsOf_X6_exploredAt : GoodIn wsX6_factsOf wsX6_exploredAt := goodIn_ca (goodIn_ca (goodIn_r _ [5, 6, 7, 8, 9, 10, 11, 4, 12, 13, 14, 15, 16, 17, 18, 19, 20, 21, 22, 23, 24, 25, 26, 27, 31, 32, 33, 34, 35, 36, 37, 38, 39, 40, 41, 42, 43, 44, 45, 46] (by decide +kernel) (by decide +kernel)) (goodIn_sub (fun _ h => List.mem_cons_of_mem _ (List.mem_append_left _ (List.mem_append_right _ h))) (by decide +kernel))) (goodIn_sub (fun _ h => List.mem_cons_of_mem _ (List.mem_append_right _ h)) (by decide +kernel))
set_option maxRecDepth 20000 in
theorem gX6_factsOf_X6_exploredAt : GoodIn wsX6_factsOf (wsV RX6 151 RX6 yX6_exploredAt wsX6_exploredAt) := goodIn_app (goodIn_of _ (by decide +kernel)) ggX6_factsOf_X6_exploredAt
set_option maxRecDepth 20000 in
theorem ggX6_factsOf_X6_factsIn : GoodIn wsX6_factsOf wsX6_factsIn := goodIn_r _ [30] (by decide +kernel) (by decide +kernel)
set_option maxRecDepth 20000 in
theorem gX6_factsOf_X6_factsIn : GoodIn wsX6_factsOf (va_wsS RX6 87 yX6_factsIn wsX6_factsIn) := goodIn_app (goodIn_of _ (by decide +kernel)) ggX6_factsOf_X6_factsIn
theorem dX6_factsOf_0 : decode cX6_factsOf 0 = .ok (.aload_n 0, 1) := by decide +kernel
theorem dX6_factsOf_1 : decode cX6_factsOf 1 = .ok (.iload_n 1, 1) := by decide +kernel
theorem dX6_factsOf_2 : decode cX6_factsOf 2 = .ok (.invokevirtual 151, 3) := by decide +kernel
theorem dX6_factsOf_5 : decode cX6_factsOf 5 = .ok (.invokestatic 87, 3) := by decide +kernel
theorem dX6_factsOf_8 : decode cX6_factsOf 8 = .ok (.ireturn, 1) := by decide +kernel
set_option maxRecDepth 20000 in
theorem ggX6_triggeredOf_X6_exploredAt : GoodIn wsX6_triggeredOf wsX6_exploredAt := goodIn_ca (goodIn_ca (goodIn_r _ [5, 6, 7, 8, 9, 10, 11, 4, 12, 13, 14, 15, 16, 17, 18, 19, 20, 21, 22, 23, 24, 25, 26, 27, 31, 32, 33, 34, 35, 36, 37, 38, 39, 40, 41, 42, 43, 44, 45, 46] (by decide +kernel) (by decide +kernel)) (goodIn_sub (fun _ h => List.mem_cons_of_mem _ (List.mem_append_left _ (List.mem_append_right _ h))) (by decide +kernel))) (goodIn_sub (fun _ h => List.mem_cons_of_mem _ (List.mem_append_right _ h)) (by decide +kernel))
set_option maxRecDepth 20000 in
theorem gX6_triggeredOf_X6_exploredAt : GoodIn wsX6_triggeredOf (wsV RX6 151 RX6 yX6_exploredAt wsX6_exploredAt) := goodIn_app (goodIn_of _ (by decide +kernel)) ggX6_triggeredOf_X6_exploredAt
set_option maxRecDepth 20000 in
theorem ggX6_triggeredOf_X6_triggeredIn : GoodIn wsX6_triggeredOf wsX6_triggeredIn := goodIn_r _ [30] (by decide +kernel) (by decide +kernel)
set_option maxRecDepth 20000 in
theorem gX6_triggeredOf_X6_triggeredIn : GoodIn wsX6_triggeredOf (va_wsS RX6 91 yX6_triggeredIn wsX6_triggeredIn) := goodIn_app (goodIn_of _ (by decide +kernel)) ggX6_triggeredOf_X6_triggeredIn
theorem dX6_triggeredOf_0 : decode cX6_triggeredOf 0 = .ok (.aload_n 0, 1) := by decide +kernel
theorem dX6_triggeredOf_1 : decode cX6_triggeredOf 1 = .ok (.iload_n 1, 1) := by decide +kernel
theorem dX6_triggeredOf_2 : decode cX6_triggeredOf 2 = .ok (.invokevirtual 151, 3) := by decide +kernel
theorem dX6_triggeredOf_5 : decode cX6_triggeredOf 5 = .ok (.invokestatic 91, 3) := by decide +kernel
theorem dX6_triggeredOf_8 : decode cX6_triggeredOf 8 = .ok (.ireturn, 1) := by decide +kernel
set_option maxRecDepth 20000 in
theorem ggX6_after_X6_exploredAt : GoodIn wsX6_after wsX6_exploredAt := goodIn_ca (goodIn_ca (goodIn_r _ [6, 7, 8, 1, 9, 10, 11, 5, 12, 13, 14, 15, 16, 17, 18, 19, 20, 21, 22, 23, 24, 25, 26, 27, 45, 46, 47, 48, 49, 50, 51, 52, 53, 54, 55, 56, 57, 58, 59, 60] (by decide +kernel) (by decide +kernel)) (goodIn_sub (fun _ h => List.mem_cons_of_mem _ (List.mem_append_left _ (List.mem_append_right _ h))) (by decide +kernel))) (goodIn_sub (fun _ h => List.mem_cons_of_mem _ (List.mem_append_right _ h)) (by decide +kernel))
set_option maxRecDepth 20000 in
theorem gX6_after_X6_exploredAt : GoodIn wsX6_after (wsV RX6 151 RX6 yX6_exploredAt wsX6_exploredAt) := goodIn_app (goodIn_of _ (by decide +kernel)) ggX6_after_X6_exploredAt
set_option maxRecDepth 20000 in
theorem ggX6_after_X6_ruleAt : GoodIn wsX6_after wsX6_ruleAt := goodIn_ca (goodIn_r _ [31, 7, 8, 32, 33, 34, 35, 36, 37, 38, 39, 45, 46, 47, 48, 61, 62, 63] (by decide +kernel) (by decide +kernel)) (goodIn_sub (fun _ h => List.mem_cons_of_mem _ (List.mem_append_left _ (List.mem_append_right _ h))) (by decide +kernel))
set_option maxRecDepth 20000 in
theorem gX6_after_X6_ruleAt : GoodIn wsX6_after (wsV RX6 61 RX6 yX6_ruleAt wsX6_ruleAt) := goodIn_app (goodIn_of _ (by decide +kernel)) ggX6_after_X6_ruleAt
set_option maxRecDepth 20000 in
theorem ggX6_after_X1_nextOf : GoodIn wsX6_after wsX1_nextOf := goodIn_r _ [43, 26, 44, 49, 50, 51, 52, 53, 54, 55, 56, 57, 58, 59, 60] (by decide +kernel) (by decide +kernel)
set_option maxRecDepth 20000 in
theorem gX6_after_X1_nextOf : GoodIn wsX6_after (wsV RX6 154 RX1 yX1_nextOf wsX1_nextOf) := goodIn_app (goodIn_of _ (by decide +kernel)) ggX6_after_X1_nextOf
theorem dX6_after_0 : decode cX6_after 0 = .ok (.aload_n 0, 1) := by decide +kernel
theorem dX6_after_1 : decode cX6_after 1 = .ok (.iload_n 1, 1) := by decide +kernel
theorem dX6_after_2 : decode cX6_after 2 = .ok (.invokevirtual 151, 3) := by decide +kernel
theorem dX6_after_5 : decode cX6_after 5 = .ok (.pop, 1) := by decide +kernel
theorem dX6_after_6 : decode cX6_after 6 = .ok (.aload_n 0, 1) := by decide +kernel
theorem dX6_after_7 : decode cX6_after 7 = .ok (.iload_n 2, 1) := by decide +kernel
theorem dX6_after_8 : decode cX6_after 8 = .ok (.invokevirtual 61, 3) := by decide +kernel
theorem dX6_after_11 : decode cX6_after 11 = .ok (.pop, 1) := by decide +kernel
theorem dX6_after_12 : decode cX6_after 12 = .ok (.aload_n 0, 1) := by decide +kernel
theorem dX6_after_13 : decode cX6_after 13 = .ok (.getfield 28, 3) := by decide +kernel
theorem dX6_after_16 : decode cX6_after 16 = .ok (.iload_n 1, 1) := by decide +kernel
theorem dX6_after_17 : decode cX6_after 17 = .ok (.iload_n 2, 1) := by decide +kernel
theorem dX6_after_18 : decode cX6_after 18 = .ok (.invokevirtual 154, 3) := by decide +kernel
theorem dX6_after_21 : decode cX6_after 21 = .ok (.ireturn, 1) := by decide +kernel
set_option maxRecDepth 20000 in
theorem ggX6_terminates_X6_needExplored : GoodIn wsX6_terminates wsX6_needExplored := goodIn_ca (goodIn_r _ [7, 8, 9, 1, 10, 11, 12, 13, 14, 15, 16, 23, 24, 25, 26, 27, 28, 29, 30, 31, 32, 33, 34, 35, 36, 37, 38] (by decide +kernel) (by decide +kernel)) (goodIn_sub (fun _ h => List.mem_cons_of_mem _ (List.mem_append_right _ h)) (by decide +kernel))
set_option maxRecDepth 20000 in
theorem gX6_terminates_X6_needExplored : GoodIn wsX6_terminates (wsV RX6 157 RX6 yX6_needExplored wsX6_needExplored) := goodIn_app (goodIn_of _ (by decide +kernel)) ggX6_terminates_X6_needExplored
set_option maxRecDepth 20000 in
theorem ggX6_terminates_X3_isFinite : GoodIn wsX6_terminates wsX3_isFinite := goodIn_r _ [21, 22, 39, 40, 41, 42, 43, 44, 45, 46] (by decide +kernel) (by decide +kernel)
set_option maxRecDepth 20000 in
theorem gX6_terminates_X3_isFinite : GoodIn wsX6_terminates (wsV RX6 164 RX3 yX3_isFinite wsX3_isFinite) := goodIn_app (goodIn_of _ (by decide +kernel)) ggX6_terminates_X3_isFinite
theorem dX6_terminates_0 : decode cX6_terminates 0 = .ok (.aload_n 0, 1) := by decide +kernel
theorem dX6_terminates_1 : decode cX6_terminates 1 = .ok (.invokevirtual 157, 3) := by decide +kernel
theorem dX6_terminates_4 : decode cX6_terminates 4 = .ok (.aload_n 0, 1) := by decide +kernel
theorem dX6_terminates_5 : decode cX6_terminates 5 = .ok (.getfield 28, 3) := by decide +kernel
theorem dX6_terminates_8 : decode cX6_terminates 8 = .ok (.getfield 160, 3) := by decide +kernel
theorem dX6_terminates_11 : decode cX6_terminates 11 = .ok (.invokevirtual 164, 3) := by decide +kernel
theorem dX6_terminates_14 : decode cX6_terminates 14 = .ok (.ireturn, 1) := by decide +kernel
set_option maxRecDepth 20000 in
theorem ggX6_endCount_X6_needExplored : GoodIn wsX6_endCount wsX6_needExplored := goodIn_ca (goodIn_r _ [7, 8, 9, 1, 10, 11, 12, 13, 14, 15, 16, 23, 24, 25, 26, 27, 28, 29, 30, 31, 32, 33, 34, 35, 36, 37, 38] (by decide +kernel) (by decide +kernel)) (goodIn_sub (fun _ h => List.mem_cons_of_mem _ (List.mem_append_right _ h)) (by decide +kernel))
set_option maxRecDepth 20000 in
theorem gX6_endCount_X6_needExplored : GoodIn wsX6_endCount (wsV RX6 157 RX6 yX6_needExplored wsX6_needExplored) := goodIn_app (goodIn_of _ (by decide +kernel)) ggX6_endCount_X6_needExplored
set_option maxRecDepth 20000 in
theorem ggX6_endCount_X0_size : GoodIn wsX6_endCount wsX0_size := goodIn_r _ [21, 22, 39, 40, 41] (by decide +kernel) (by decide +kernel)
set_option maxRecDepth 20000 in
theorem gX6_endCount_X0_size : GoodIn wsX6_endCount (wsV RX6 173 RX0 yX0_size wsX0_size) := goodIn_app (goodIn_of _ (by decide +kernel)) ggX6_endCount_X0_size
theorem dX6_endCount_0 : decode cX6_endCount 0 = .ok (.aload_n 0, 1) := by decide +kernel
theorem dX6_endCount_1 : decode cX6_endCount 1 = .ok (.invokevirtual 157, 3) := by decide +kernel
theorem dX6_endCount_4 : decode cX6_endCount 4 = .ok (.aload_n 0, 1) := by decide +kernel
theorem dX6_endCount_5 : decode cX6_endCount 5 = .ok (.getfield 28, 3) := by decide +kernel
theorem dX6_endCount_8 : decode cX6_endCount 8 = .ok (.getfield 169, 3) := by decide +kernel
theorem dX6_endCount_11 : decode cX6_endCount 11 = .ok (.invokevirtual 173, 3) := by decide +kernel
theorem dX6_endCount_14 : decode cX6_endCount 14 = .ok (.ireturn, 1) := by decide +kernel
set_option maxRecDepth 20000 in
theorem ggX6_end_X6_needExplored : GoodIn wsX6_end wsX6_needExplored := goodIn_ca (goodIn_r _ [9, 10, 11, 3, 12, 13, 14, 15, 16, 17, 18, 26, 27, 28, 29, 30, 31, 32, 33, 34, 35, 36, 37, 38, 39, 40, 41] (by decide +kernel) (by decide +kernel)) (goodIn_sub (fun _ h => List.mem_cons_of_mem _ (List.mem_append_right _ h)) (by decide +kernel))
set_option maxRecDepth 20000 in
theorem gX6_end_X6_needExplored : GoodIn wsX6_end (wsV RX6 157 RX6 yX6_needExplored wsX6_needExplored) := goodIn_app (goodIn_of _ (by decide +kernel)) ggX6_end_X6_needExplored
set_option maxRecDepth 20000 in
theorem ggX6_end_X0_factsAt : GoodIn wsX6_end wsX0_factsAt := goodIn_r _ [23, 24, 25, 42, 43, 44] (by decide +kernel) (by decide +kernel)
set_option maxRecDepth 20000 in
theorem gX6_end_X0_factsAt : GoodIn wsX6_end (wsV RX6 176 RX0 yX0_factsAt wsX0_factsAt) := goodIn_app (goodIn_of _ (by decide +kernel)) ggX6_end_X0_factsAt
theorem dX6_end_0 : decode cX6_end 0 = .ok (.aload_n 0, 1) := by decide +kernel
theorem dX6_end_1 : decode cX6_end 1 = .ok (.invokevirtual 157, 3) := by decide +kernel
theorem dX6_end_4 : decode cX6_end 4 = .ok (.aload_n 0, 1) := by decide +kernel
theorem dX6_end_5 : decode cX6_end 5 = .ok (.getfield 28, 3) := by decide +kernel
theorem dX6_end_8 : decode cX6_end 8 = .ok (.getfield 169, 3) := by decide +kernel
theorem dX6_end_11 : decode cX6_end 11 = .ok (.iload_n 1, 1) := by decide +kernel
theorem dX6_end_12 : decode cX6_end 12 = .ok (.invokevirtual 176, 3) := by decide +kernel
theorem dX6_end_15 : decode cX6_end 15 = .ok (.istore_n 2, 1) := by decide +kernel
theorem dX6_end_16 : decode cX6_end 16 = .ok (.iload_n 2, 1) := by decide +kernel
theorem dX6_end_17 : decode cX6_end 17 = .ok (.iconst (-1), 1) := by decide +kernel
theorem dX6_end_18 : decode cX6_end 18 = .ok (.if_icmp .ne 13, 3) := by decide +kernel
theorem dX6_end_21 : decode cX6_end 21 = .ok (.new 179, 3) := by decide +kernel
theorem dX6_end_24 : decode cX6_end 24 = .ok (.dup, 1) := by decide +kernel
theorem dX6_end_25 : decode cX6_end 25 = .ok (.ldc 181, 2) := by decide +kernel
theorem dX6_end_27 : decode cX6_end 27 = .ok (.invokespecial 183, 3) := by decide +kernel
theorem dX6_end_30 : decode cX6_end 30 = .ok (.athrow, 1) := by decide +kernel
theorem dX6_end_31 : decode cX6_end 31 = .ok (.iload_n 2, 1) := by decide +kernel
theorem dX6_end_32 : decode cX6_end 32 = .ok (.ireturn, 1) := by decide +kernel
set_option maxRecDepth 20000 in
theorem ggX6_shortest_X6_needExplored : GoodIn wsX6_shortest wsX6_needExplored := goodIn_ca (goodIn_r _ [7, 8, 9, 1, 10, 11, 12, 13, 14, 15, 16, 23, 24, 25, 26, 27, 28, 29, 30, 31, 32, 33, 34, 35, 36, 37, 38] (by decide +kernel) (by decide +kernel)) (goodIn_sub (fun _ h => List.mem_cons_of_mem _ (List.mem_append_right _ h)) (by decide +kernel))
set_option maxRecDepth 20000 in
theorem gX6_shortest_X6_needExplored : GoodIn wsX6_shortest (wsV RX6 157 RX6 yX6_needExplored wsX6_needExplored) := goodIn_app (goodIn_of _ (by decide +kernel)) ggX6_shortest_X6_needExplored
set_option maxRecDepth 20000 in
theorem ggX6_shortest_X0_firstDepth : GoodIn wsX6_shortest wsX0_firstDepth := goodIn_r _ [21, 22, 39, 40, 41] (by decide +kernel) (by decide +kernel)
set_option maxRecDepth 20000 in
theorem gX6_shortest_X0_firstDepth : GoodIn wsX6_shortest (wsV RX6 184 RX0 yX0_firstDepth wsX0_firstDepth) := goodIn_app (goodIn_of _ (by decide +kernel)) ggX6_shortest_X0_firstDepth
theorem dX6_shortest_0 : decode cX6_shortest 0 = .ok (.aload_n 0, 1) := by decide +kernel
theorem dX6_shortest_1 : decode cX6_shortest 1 = .ok (.invokevirtual 157, 3) := by decide +kernel
theorem dX6_shortest_4 : decode cX6_shortest 4 = .ok (.aload_n 0, 1) := by decide +kernel
theorem dX6_shortest_5 : decode cX6_shortest 5 = .ok (.getfield 28, 3) := by decide +kernel
theorem dX6_shortest_8 : decode cX6_shortest 8 = .ok (.getfield 169, 3) := by decide +kernel
theorem dX6_shortest_11 : decode cX6_shortest 11 = .ok (.invokevirtual 184, 3) := by decide +kernel
theorem dX6_shortest_14 : decode cX6_shortest 14 = .ok (.ireturn, 1) := by decide +kernel
set_option maxRecDepth 20000 in
theorem ggX6_longest_X6_needExplored : GoodIn wsX6_longest wsX6_needExplored := goodIn_ca (goodIn_r _ [7, 8, 9, 1, 10, 11, 12, 13, 14, 15, 16, 24, 25, 26, 27, 28, 29, 30, 31, 32, 33, 34, 35, 36, 37, 38, 39] (by decide +kernel) (by decide +kernel)) (goodIn_sub (fun _ h => List.mem_cons_of_mem _ (List.mem_append_right _ h)) (by decide +kernel))
set_option maxRecDepth 20000 in
theorem gX6_longest_X6_needExplored : GoodIn wsX6_longest (wsV RX6 157 RX6 yX6_needExplored wsX6_needExplored) := goodIn_app (goodIn_of _ (by decide +kernel)) ggX6_longest_X6_needExplored
set_option maxRecDepth 20000 in
theorem ggX6_longest_X3_mostPlays : GoodIn wsX6_longest wsX3_mostPlays := goodIn_r _ [21, 22, 23, 40, 41, 42, 43, 44, 45, 46, 47] (by decide +kernel) (by decide +kernel)
set_option maxRecDepth 20000 in
theorem gX6_longest_X3_mostPlays : GoodIn wsX6_longest (wsV RX6 187 RX3 yX3_mostPlays wsX3_mostPlays) := goodIn_app (goodIn_of _ (by decide +kernel)) ggX6_longest_X3_mostPlays
theorem dX6_longest_0 : decode cX6_longest 0 = .ok (.aload_n 0, 1) := by decide +kernel
theorem dX6_longest_1 : decode cX6_longest 1 = .ok (.invokevirtual 157, 3) := by decide +kernel
theorem dX6_longest_4 : decode cX6_longest 4 = .ok (.aload_n 0, 1) := by decide +kernel
theorem dX6_longest_5 : decode cX6_longest 5 = .ok (.getfield 28, 3) := by decide +kernel
theorem dX6_longest_8 : decode cX6_longest 8 = .ok (.getfield 160, 3) := by decide +kernel
theorem dX6_longest_11 : decode cX6_longest 11 = .ok (.invokevirtual 187, 3) := by decide +kernel
theorem dX6_longest_14 : decode cX6_longest 14 = .ok (.ireturn, 1) := by decide +kernel
set_option maxRecDepth 20000 in
theorem ggX6_ways_X6_needExplored : GoodIn wsX6_ways wsX6_needExplored := goodIn_ca (goodIn_r _ [7, 8, 9, 1, 10, 11, 12, 13, 14, 15, 16, 25, 26, 27, 28, 29, 30, 31, 32, 33, 34, 35, 36, 37, 38, 39, 40] (by decide +kernel) (by decide +kernel)) (goodIn_sub (fun _ h => List.mem_cons_of_mem _ (List.mem_append_right _ h)) (by decide +kernel))
set_option maxRecDepth 20000 in
theorem gX6_ways_X6_needExplored : GoodIn wsX6_ways (wsV RX6 157 RX6 yX6_needExplored wsX6_needExplored) := goodIn_app (goodIn_of _ (by decide +kernel)) ggX6_ways_X6_needExplored
set_option maxRecDepth 20000 in
theorem ggX6_ways_X3_wayCount : GoodIn wsX6_ways wsX3_wayCount := goodIn_r _ [21, 22, 23, 24, 41, 42, 43, 44, 45, 46, 47, 48] (by decide +kernel) (by decide +kernel)
set_option maxRecDepth 20000 in
theorem gX6_ways_X3_wayCount : GoodIn wsX6_ways (wsV RX6 190 RX3 yX3_wayCount wsX3_wayCount) := goodIn_app (goodIn_of _ (by decide +kernel)) ggX6_ways_X3_wayCount
theorem dX6_ways_0 : decode cX6_ways 0 = .ok (.aload_n 0, 1) := by decide +kernel
theorem dX6_ways_1 : decode cX6_ways 1 = .ok (.invokevirtual 157, 3) := by decide +kernel
theorem dX6_ways_4 : decode cX6_ways 4 = .ok (.aload_n 0, 1) := by decide +kernel
theorem dX6_ways_5 : decode cX6_ways 5 = .ok (.getfield 28, 3) := by decide +kernel
theorem dX6_ways_8 : decode cX6_ways 8 = .ok (.getfield 160, 3) := by decide +kernel
theorem dX6_ways_11 : decode cX6_ways 11 = .ok (.invokevirtual 190, 3) := by decide +kernel
theorem dX6_ways_14 : decode cX6_ways 14 = .ok (.lreturn, 1) := by decide +kernel
set_option maxRecDepth 20000 in
theorem ggX6_isPlayed_X6_needExplored : GoodIn wsX6_isPlayed wsX6_needExplored := goodIn_ca (goodIn_r _ [7, 8, 9, 1, 10, 11, 12, 13, 14, 15, 16, 36, 37, 38, 39, 51, 52, 53, 54, 55, 56, 57, 58, 59, 60, 61, 62] (by decide +kernel) (by decide +kernel)) (goodIn_sub (fun _ h => List.mem_cons_of_mem _ (List.mem_append_left _ (List.mem_append_right _ h))) (by decide +kernel))
set_option maxRecDepth 20000 in
theorem gX6_isPlayed_X6_needExplored : GoodIn wsX6_isPlayed (wsV RX6 157 RX6 yX6_needExplored wsX6_needExplored) := goodIn_app (goodIn_of _ (by decide +kernel)) ggX6_isPlayed_X6_needExplored
set_option maxRecDepth 20000 in
theorem ggX6_isPlayed_X1_everReady : GoodIn wsX6_isPlayed wsX1_everReady := goodIn_r _ [20, 21, 51, 52, 53, 54, 55, 56, 57, 58, 59, 60, 61, 62] (by decide +kernel) (by decide +kernel)
set_option maxRecDepth 20000 in
theorem gX6_isPlayed_X1_everReady : GoodIn wsX6_isPlayed (wsV RX6 194 RX1 yX1_everReady wsX1_everReady) := goodIn_app (goodIn_of _ (by decide +kernel)) ggX6_isPlayed_X1_everReady
set_option maxRecDepth 20000 in
theorem ggX6_isPlayed_X6_ruleAt : GoodIn wsX6_isPlayed wsX6_ruleAt := goodIn_ca (goodIn_r _ [25, 26, 27, 28, 29, 30, 31, 32, 33, 34, 35, 36, 37, 38, 39, 63, 64, 65] (by decide +kernel) (by decide +kernel)) (goodIn_sub (fun _ h => List.mem_cons_of_mem _ (List.mem_append_right _ h)) (by decide +kernel))
set_option maxRecDepth 20000 in
theorem gX6_isPlayed_X6_ruleAt : GoodIn wsX6_isPlayed (wsV RX6 61 RX6 yX6_ruleAt wsX6_ruleAt) := goodIn_app (goodIn_of _ (by decide +kernel)) ggX6_isPlayed_X6_ruleAt
theorem dX6_isPlayed_0 : decode cX6_isPlayed 0 = .ok (.aload_n 0, 1) := by decide +kernel
theorem dX6_isPlayed_1 : decode cX6_isPlayed 1 = .ok (.invokevirtual 157, 3) := by decide +kernel
theorem dX6_isPlayed_4 : decode cX6_isPlayed 4 = .ok (.aload_n 0, 1) := by decide +kernel
theorem dX6_isPlayed_5 : decode cX6_isPlayed 5 = .ok (.getfield 28, 3) := by decide +kernel
theorem dX6_isPlayed_8 : decode cX6_isPlayed 8 = .ok (.invokevirtual 194, 3) := by decide +kernel
theorem dX6_isPlayed_11 : decode cX6_isPlayed 11 = .ok (.aload_n 0, 1) := by decide +kernel
theorem dX6_isPlayed_12 : decode cX6_isPlayed 12 = .ok (.iload_n 1, 1) := by decide +kernel
theorem dX6_isPlayed_13 : decode cX6_isPlayed 13 = .ok (.invokevirtual 61, 3) := by decide +kernel
theorem dX6_isPlayed_16 : decode cX6_isPlayed 16 = .ok (.getfield 94, 3) := by decide +kernel
theorem dX6_isPlayed_19 : decode cX6_isPlayed 19 = .ok (.iand, 1) := by decide +kernel
theorem dX6_isPlayed_20 : decode cX6_isPlayed 20 = .ok (.ifCond .eq 7, 3) := by decide +kernel
theorem dX6_isPlayed_23 : decode cX6_isPlayed 23 = .ok (.iconst 1, 1) := by decide +kernel
theorem dX6_isPlayed_24 : decode cX6_isPlayed 24 = .ok (.goto 4, 3) := by decide +kernel
theorem dX6_isPlayed_27 : decode cX6_isPlayed 27 = .ok (.iconst 0, 1) := by decide +kernel
theorem dX6_isPlayed_28 : decode cX6_isPlayed 28 = .ok (.ireturn, 1) := by decide +kernel
set_option maxRecDepth 20000 in
theorem ggX6_choice_X6_needExplored : GoodIn wsX6_choice wsX6_needExplored := goodIn_ca (goodIn_r _ [6, 7, 8, 1, 9, 10, 11, 12, 13, 14, 15, 22, 23, 24, 25, 26, 27, 28, 29, 30, 31, 32, 33, 34, 35, 36, 37] (by decide +kernel) (by decide +kernel)) (goodIn_sub (fun _ h => List.mem_cons_of_mem _ (List.mem_append_right _ h)) (by decide +kernel))
set_option maxRecDepth 20000 in
theorem gX6_choice_X6_needExplored : GoodIn wsX6_choice (wsV RX6 157 RX6 yX6_needExplored wsX6_needExplored) := goodIn_app (goodIn_of _ (by decide +kernel)) ggX6_choice_X6_needExplored
set_option maxRecDepth 20000 in
theorem ggX6_choice_X1_choiceShare : GoodIn wsX6_choice wsX1_choiceShare := goodIn_r _ [19, 20, 21, 26, 27, 28, 29, 30, 31, 32, 33, 34, 35, 36, 37] (by decide +kernel) (by decide +kernel)
set_option maxRecDepth 20000 in
theorem gX6_choice_X1_choiceShare : GoodIn wsX6_choice (wsV RX6 197 RX1 yX1_choiceShare wsX1_choiceShare) := goodIn_app (goodIn_of _ (by decide +kernel)) ggX6_choice_X1_choiceShare
theorem dX6_choice_0 : decode cX6_choice 0 = .ok (.aload_n 0, 1) := by decide +kernel
theorem dX6_choice_1 : decode cX6_choice 1 = .ok (.invokevirtual 157, 3) := by decide +kernel
theorem dX6_choice_4 : decode cX6_choice 4 = .ok (.aload_n 0, 1) := by decide +kernel
theorem dX6_choice_5 : decode cX6_choice 5 = .ok (.getfield 28, 3) := by decide +kernel
theorem dX6_choice_8 : decode cX6_choice 8 = .ok (.invokevirtual 197, 3) := by decide +kernel
theorem dX6_choice_11 : decode cX6_choice 11 = .ok (.dreturn, 1) := by decide +kernel
set_option maxRecDepth 20000 in
theorem ggX6_canTrigger_X6_ruleAt : GoodIn wsX6_canTrigger wsX6_ruleAt := goodIn_ca (goodIn_r _ [6, 7, 8, 1, 9, 10, 11, 12, 13, 14, 15, 33, 34, 35, 36, 37, 38, 39] (by decide +kernel) (by decide +kernel)) (goodIn_sub (fun _ h => List.mem_cons_of_mem _ (List.mem_append_right _ h)) (by decide +kernel))
set_option maxRecDepth 20000 in
theorem gX6_canTrigger_X6_ruleAt : GoodIn wsX6_canTrigger (wsV RX6 61 RX6 yX6_ruleAt wsX6_ruleAt) := goodIn_app (goodIn_of _ (by decide +kernel)) ggX6_canTrigger_X6_ruleAt
set_option maxRecDepth 20000 in
theorem ggX6_canTrigger_X5_triggerableBy : GoodIn wsX6_canTrigger wsX5_triggerableBy := goodIn_r _ [19, 20, 21, 22, 23, 24, 25, 26, 27, 28, 29, 30, 12, 31, 32, 40, 41, 42, 43, 44, 45, 46, 47, 48, 49, 50, 37, 38, 39] (by decide +kernel) (by decide +kernel)
set_option maxRecDepth 20000 in
theorem gX6_canTrigger_X5_triggerableBy : GoodIn wsX6_canTrigger (wsV RX6 201 RX5 yX5_triggerableBy wsX5_triggerableBy) := goodIn_app (goodIn_of _ (by decide +kernel)) ggX6_canTrigger_X5_triggerableBy
theorem dX6_canTrigger_0 : decode cX6_canTrigger 0 = .ok (.aload_n 0, 1) := by decide +kernel
theorem dX6_canTrigger_1 : decode cX6_canTrigger 1 = .ok (.getfield 10, 3) := by decide +kernel
theorem dX6_canTrigger_4 : decode cX6_canTrigger 4 = .ok (.aload_n 0, 1) := by decide +kernel
theorem dX6_canTrigger_5 : decode cX6_canTrigger 5 = .ok (.iload_n 1, 1) := by decide +kernel
theorem dX6_canTrigger_6 : decode cX6_canTrigger 6 = .ok (.invokevirtual 61, 3) := by decide +kernel
theorem dX6_canTrigger_9 : decode cX6_canTrigger 9 = .ok (.invokevirtual 201, 3) := by decide +kernel
theorem dX6_canTrigger_12 : decode cX6_canTrigger 12 = .ok (.ireturn, 1) := by decide +kernel
set_option maxRecDepth 20000 in
theorem ggX6_circular_X2_inCircles : GoodIn wsX6_circular wsX2_inCircles := goodIn_r _ [6, 7, 8, 9, 10, 5, 11, 12, 13, 14, 15, 16, 17, 18, 19, 20, 21, 22, 23, 24, 25, 26, 27, 28, 29, 30, 31, 32, 33, 34, 35, 36, 41, 42, 43, 44, 45, 46, 47, 48, 49, 50, 51, 52, 53, 54, 55, 56] (by decide +kernel) (by decide +kernel)
set_option maxRecDepth 20000 in
theorem gX6_circular_X2_inCircles : GoodIn wsX6_circular (wsV RX6 205 RX2 yX2_inCircles wsX2_inCircles) := goodIn_app (goodIn_of _ (by decide +kernel)) ggX6_circular_X2_inCircles
theorem dX6_circular_0 : decode cX6_circular 0 = .ok (.aload_n 0, 1) := by decide +kernel
theorem dX6_circular_1 : decode cX6_circular 1 = .ok (.getfield 21, 3) := by decide +kernel
theorem dX6_circular_4 : decode cX6_circular 4 = .ok (.invokevirtual 205, 3) := by decide +kernel
theorem dX6_circular_7 : decode cX6_circular 7 = .ok (.ireturn, 1) := by decide +kernel
set_option maxRecDepth 20000 in
theorem ggX6_commute_X6_ruleAt : GoodIn wsX6_commute wsX6_ruleAt := goodIn_ca (goodIn_r _ [8, 9, 10, 11, 12, 13, 14, 15, 16, 17, 18, 58, 59, 60, 61, 62, 63, 64] (by decide +kernel) (by decide +kernel)) (goodIn_sub (fun _ h => List.mem_cons_of_mem _ (List.mem_append_right _ h)) (by decide +kernel))
set_option maxRecDepth 20000 in
theorem gX6_commute_X6_ruleAt : GoodIn wsX6_commute (wsV RX6 61 RX6 yX6_ruleAt wsX6_ruleAt) := goodIn_app (goodIn_of _ (by decide +kernel)) ggX6_commute_X6_ruleAt
set_option maxRecDepth 20000 in
theorem ggX6_commute_X2_areIndependent : GoodIn wsX6_commute wsX2_areIndependent := goodIn_r _ [23, 24, 25, 26, 27, 28, 29, 30, 31, 15, 32, 33, 34, 35, 36, 37, 38, 39, 40, 41, 42, 43, 44, 45, 46, 47, 48, 49, 50, 51, 52, 53, 54, 55, 56, 57, 65, 66, 67, 68, 69, 70, 71, 72, 73, 74, 75, 76, 77, 62, 63, 64] (by decide +kernel) (by decide +kernel)
set_option maxRecDepth 20000 in
theorem gX6_commute_X2_areIndependent : GoodIn wsX6_commute (wsV RX6 210 RX2 yX2_areIndependent wsX2_areIndependent) := goodIn_app (goodIn_of _ (by decide +kernel)) ggX6_commute_X2_areIndependent
theorem dX6_commute_0 : decode cX6_commute 0 = .ok (.aload_n 0, 1) := by decide +kernel
theorem dX6_commute_1 : decode cX6_commute 1 = .ok (.iload_n 1, 1) := by decide +kernel
theorem dX6_commute_2 : decode cX6_commute 2 = .ok (.invokevirtual 61, 3) := by decide +kernel
theorem dX6_commute_5 : decode cX6_commute 5 = .ok (.astore_n 3, 1) := by decide +kernel
theorem dX6_commute_6 : decode cX6_commute 6 = .ok (.aload_n 0, 1) := by decide +kernel
theorem dX6_commute_7 : decode cX6_commute 7 = .ok (.iload_n 2, 1) := by decide +kernel
theorem dX6_commute_8 : decode cX6_commute 8 = .ok (.invokevirtual 61, 3) := by decide +kernel
theorem dX6_commute_11 : decode cX6_commute 11 = .ok (.astore 4, 2) := by decide +kernel
theorem dX6_commute_13 : decode cX6_commute 13 = .ok (.iload_n 1, 1) := by decide +kernel
theorem dX6_commute_14 : decode cX6_commute 14 = .ok (.iload_n 2, 1) := by decide +kernel
theorem dX6_commute_15 : decode cX6_commute 15 = .ok (.if_icmp .ne 13, 3) := by decide +kernel
theorem dX6_commute_18 : decode cX6_commute 18 = .ok (.new 105, 3) := by decide +kernel
theorem dX6_commute_21 : decode cX6_commute 21 = .ok (.dup, 1) := by decide +kernel
theorem dX6_commute_22 : decode cX6_commute 22 = .ok (.ldc 208, 2) := by decide +kernel
theorem dX6_commute_24 : decode cX6_commute 24 = .ok (.invokespecial 109, 3) := by decide +kernel
theorem dX6_commute_27 : decode cX6_commute 27 = .ok (.athrow, 1) := by decide +kernel
theorem dX6_commute_28 : decode cX6_commute 28 = .ok (.aload_n 0, 1) := by decide +kernel
theorem dX6_commute_29 : decode cX6_commute 29 = .ok (.getfield 21, 3) := by decide +kernel
theorem dX6_commute_32 : decode cX6_commute 32 = .ok (.aload_n 3, 1) := by decide +kernel
theorem dX6_commute_33 : decode cX6_commute 33 = .ok (.aload 4, 2) := by decide +kernel
theorem dX6_commute_35 : decode cX6_commute 35 = .ok (.invokevirtual 210, 3) := by decide +kernel
theorem dX6_commute_38 : decode cX6_commute 38 = .ok (.ireturn, 1) := by decide +kernel
set_option maxRecDepth 20000 in
theorem ggX6_conflictCount_X2_countConflicts : GoodIn wsX6_conflictCount wsX2_countConflicts := goodIn_r _ [6, 7, 8, 9, 5, 10, 11, 12, 13, 14, 15, 16, 17, 18, 19, 20, 21, 22, 23, 24, 25, 26, 27, 28, 29, 30, 31, 32, 33, 34, 35, 36, 37, 38, 39, 40, 41, 42, 43, 44, 45, 46, 47, 48, 49, 50, 51, 52, 53, 54, 55, 56, 57, 58, 59, 60, 61, 66, 67, 68, 69, 70, 71, 72, 73, 74, 75, 76, 77, 78, 79, 80, 81] (by decide +kernel) (by decide +kernel)
set_option maxRecDepth 20000 in
theorem gX6_conflictCount_X2_countConflicts : GoodIn wsX6_conflictCount (wsV RX6 214 RX2 yX2_countConflicts wsX2_countConflicts) := goodIn_app (goodIn_of _ (by decide +kernel)) ggX6_conflictCount_X2_countConflicts
theorem dX6_conflictCount_0 : decode cX6_conflictCount 0 = .ok (.aload_n 0, 1) := by decide +kernel
theorem dX6_conflictCount_1 : decode cX6_conflictCount 1 = .ok (.getfield 21, 3) := by decide +kernel
theorem dX6_conflictCount_4 : decode cX6_conflictCount 4 = .ok (.invokevirtual 214, 3) := by decide +kernel
theorem dX6_conflictCount_7 : decode cX6_conflictCount 7 = .ok (.ireturn, 1) := by decide +kernel
set_option maxRecDepth 20000 in
theorem ggX6_conflict_X2_conflictAt : GoodIn wsX6_conflict wsX2_conflictAt := goodIn_r _ [8, 9, 10, 11, 7, 12, 13, 14, 15, 16, 17, 18, 19, 20, 21, 22, 23, 24, 25, 26, 27, 28, 29, 30, 31, 32, 33, 34, 35, 36, 37, 38, 39, 40, 41, 42, 43, 44, 45, 46, 47, 48, 49, 50, 51, 52, 53, 54, 55, 56, 57, 58, 59, 60, 61, 62, 63, 68, 69, 70, 71, 72, 73, 74, 75, 76, 77, 78, 79, 80, 81, 82, 83] (by decide +kernel) (by decide +kernel)
set_option maxRecDepth 20000 in
theorem gX6_conflict_X2_conflictAt : GoodIn wsX6_conflict (wsV RX6 217 RX2 yX2_conflictAt wsX2_conflictAt) := goodIn_app (goodIn_of _ (by decide +kernel)) ggX6_conflict_X2_conflictAt
theorem dX6_conflict_0 : decode cX6_conflict 0 = .ok (.aload_n 0, 1) := by decide +kernel
theorem dX6_conflict_1 : decode cX6_conflict 1 = .ok (.getfield 21, 3) := by decide +kernel
theorem dX6_conflict_4 : decode cX6_conflict 4 = .ok (.iload_n 1, 1) := by decide +kernel
theorem dX6_conflict_5 : decode cX6_conflict 5 = .ok (.invokevirtual 217, 3) := by decide +kernel
theorem dX6_conflict_8 : decode cX6_conflict 8 = .ok (.istore_n 2, 1) := by decide +kernel
theorem dX6_conflict_9 : decode cX6_conflict 9 = .ok (.iload_n 2, 1) := by decide +kernel
theorem dX6_conflict_10 : decode cX6_conflict 10 = .ok (.iconst (-1), 1) := by decide +kernel
theorem dX6_conflict_11 : decode cX6_conflict 11 = .ok (.if_icmp .ne 13, 3) := by decide +kernel
theorem dX6_conflict_14 : decode cX6_conflict 14 = .ok (.new 179, 3) := by decide +kernel
theorem dX6_conflict_17 : decode cX6_conflict 17 = .ok (.dup, 1) := by decide +kernel
theorem dX6_conflict_18 : decode cX6_conflict 18 = .ok (.ldc 220, 2) := by decide +kernel
theorem dX6_conflict_20 : decode cX6_conflict 20 = .ok (.invokespecial 183, 3) := by decide +kernel
theorem dX6_conflict_23 : decode cX6_conflict 23 = .ok (.athrow, 1) := by decide +kernel
theorem dX6_conflict_24 : decode cX6_conflict 24 = .ok (.iload_n 2, 1) := by decide +kernel
theorem dX6_conflict_25 : decode cX6_conflict 25 = .ok (.ireturn, 1) := by decide +kernel
set_option maxRecDepth 20000 in
theorem ggX6_digest_X5_addedTo : GoodIn wsX6_digest wsX5_addedTo := goodIn_r _ [10, 11, 12, 13, 14, 15, 16, 17, 18, 19, 20, 21, 22, 23, 24, 25, 26, 27, 28, 29, 30, 54, 55, 56, 57, 58, 59, 60, 61, 62, 63, 64, 65, 66, 67] (by decide +kernel) (by decide +kernel)
set_option maxRecDepth 20000 in
theorem gX6_digest_X5_addedTo : GoodIn wsX6_digest (wsV RX6 224 RX5 yX5_addedTo wsX5_addedTo) := goodIn_app (goodIn_of _ (by decide +kernel)) ggX6_digest_X5_addedTo
set_option maxRecDepth 20000 in
theorem ggX6_digest_X6_factsIn : GoodIn wsX6_digest wsX6_factsIn := goodIn_r _ [34] (by decide +kernel) (by decide +kernel)
set_option maxRecDepth 20000 in
theorem gX6_digest_X6_factsIn : GoodIn wsX6_digest (va_wsS RX6 87 yX6_factsIn wsX6_factsIn) := goodIn_app (goodIn_of _ (by decide +kernel)) ggX6_digest_X6_factsIn
set_option maxRecDepth 20000 in
theorem ggX6_digest_X6_triggeredIn : GoodIn wsX6_digest wsX6_triggeredIn := goodIn_r _ [37] (by decide +kernel) (by decide +kernel)
set_option maxRecDepth 20000 in
theorem gX6_digest_X6_triggeredIn : GoodIn wsX6_digest (va_wsS RX6 91 yX6_triggeredIn wsX6_triggeredIn) := goodIn_app (goodIn_of _ (by decide +kernel)) ggX6_digest_X6_triggeredIn
set_option maxRecDepth 20000 in
theorem ggX6_digest_X1_isDone : GoodIn wsX6_digest wsX1_isDone := goodIn_r _ [42, 43, 68, 69, 70, 71, 72, 73, 74, 75, 76, 77, 78, 79] (by decide +kernel) (by decide +kernel)
set_option maxRecDepth 20000 in
theorem gX6_digest_X1_isDone : GoodIn wsX6_digest (wsV RX6 142 RX1 yX1_isDone wsX1_isDone) := goodIn_app (goodIn_of _ (by decide +kernel)) ggX6_digest_X1_isDone
set_option maxRecDepth 20000 in
theorem ggX6_digest_X1_answer : GoodIn wsX6_digest wsX1_answer := goodIn_r _ [47, 48, 49, 68, 69, 70, 71, 72, 73, 74, 75, 76, 77, 78, 79] (by decide +kernel) (by decide +kernel)
set_option maxRecDepth 20000 in
theorem gX6_digest_X1_answer : GoodIn wsX6_digest (wsV RX6 148 RX1 yX1_answer wsX1_answer) := goodIn_app (goodIn_of _ (by decide +kernel)) ggX6_digest_X1_answer
theorem dX6_digest_0 : decode cX6_digest 0 = .ok (.aload_n 0, 1) := by decide +kernel
theorem dX6_digest_1 : decode cX6_digest 1 = .ok (.getfield 10, 3) := by decide +kernel
theorem dX6_digest_4 : decode cX6_digest 4 = .ok (.ldc2_w 222, 3) := by decide +kernel
theorem dX6_digest_7 : decode cX6_digest 7 = .ok (.invokevirtual 224, 3) := by decide +kernel
theorem dX6_digest_10 : decode cX6_digest 10 = .ok (.lstore_n 1, 1) := by decide +kernel
theorem dX6_digest_11 : decode cX6_digest 11 = .ok (.lload_n 1, 1) := by decide +kernel
theorem dX6_digest_12 : decode cX6_digest 12 = .ok (.ldc2_w 228, 3) := by decide +kernel
theorem dX6_digest_15 : decode cX6_digest 15 = .ok (.lmul, 1) := by decide +kernel
theorem dX6_digest_16 : decode cX6_digest 16 = .ok (.aload_n 0, 1) := by decide +kernel
theorem dX6_digest_17 : decode cX6_digest 17 = .ok (.getfield 84, 3) := by decide +kernel
theorem dX6_digest_20 : decode cX6_digest 20 = .ok (.invokestatic 87, 3) := by decide +kernel
theorem dX6_digest_23 : decode cX6_digest 23 = .ok (.i2l, 1) := by decide +kernel
theorem dX6_digest_24 : decode cX6_digest 24 = .ok (.ladd, 1) := by decide +kernel
theorem dX6_digest_25 : decode cX6_digest 25 = .ok (.lstore_n 1, 1) := by decide +kernel
theorem dX6_digest_26 : decode cX6_digest 26 = .ok (.lload_n 1, 1) := by decide +kernel
theorem dX6_digest_27 : decode cX6_digest 27 = .ok (.ldc2_w 228, 3) := by decide +kernel
theorem dX6_digest_30 : decode cX6_digest 30 = .ok (.lmul, 1) := by decide +kernel
theorem dX6_digest_31 : decode cX6_digest 31 = .ok (.aload_n 0, 1) := by decide +kernel
theorem dX6_digest_32 : decode cX6_digest 32 = .ok (.getfield 84, 3) := by decide +kernel
theorem dX6_digest_35 : decode cX6_digest 35 = .ok (.invokestatic 91, 3) := by decide +kernel
theorem dX6_digest_38 : decode cX6_digest 38 = .ok (.i2l, 1) := by decide +kernel
theorem dX6_digest_39 : decode cX6_digest 39 = .ok (.ladd, 1) := by decide +kernel
theorem dX6_digest_40 : decode cX6_digest 40 = .ok (.lstore_n 1, 1) := by decide +kernel
theorem dX6_digest_41 : decode cX6_digest 41 = .ok (.aload_n 0, 1) := by decide +kernel
theorem dX6_digest_42 : decode cX6_digest 42 = .ok (.getfield 28, 3) := by decide +kernel
theorem dX6_digest_45 : decode cX6_digest 45 = .ok (.invokevirtual 142, 3) := by decide +kernel
theorem dX6_digest_48 : decode cX6_digest 48 = .ok (.ifCond .eq 18, 3) := by decide +kernel
theorem dX6_digest_51 : decode cX6_digest 51 = .ok (.lload_n 1, 1) := by decide +kernel
theorem dX6_digest_52 : decode cX6_digest 52 = .ok (.ldc2_w 228, 3) := by decide +kernel
theorem dX6_digest_55 : decode cX6_digest 55 = .ok (.lmul, 1) := by decide +kernel
theorem dX6_digest_56 : decode cX6_digest 56 = .ok (.aload_n 0, 1) := by decide +kernel
theorem dX6_digest_57 : decode cX6_digest 57 = .ok (.getfield 28, 3) := by decide +kernel
theorem dX6_digest_60 : decode cX6_digest 60 = .ok (.invokevirtual 148, 3) := by decide +kernel
theorem dX6_digest_63 : decode cX6_digest 63 = .ok (.i2l, 1) := by decide +kernel
theorem dX6_digest_64 : decode cX6_digest 64 = .ok (.ladd, 1) := by decide +kernel
theorem dX6_digest_65 : decode cX6_digest 65 = .ok (.lstore_n 1, 1) := by decide +kernel
theorem dX6_digest_66 : decode cX6_digest 66 = .ok (.lload_n 1, 1) := by decide +kernel
theorem dX6_digest_67 : decode cX6_digest 67 = .ok (.lreturn, 1) := by decide +kernel
set_option maxRecDepth 20000 in
theorem ggX6_ruleAt_X5_ruleOrNull : GoodIn wsX6_ruleAt wsX5_ruleOrNull := goodIn_r _ [8, 9, 10, 15, 16, 17] (by decide +kernel) (by decide +kernel)
set_option maxRecDepth 20000 in
theorem gX6_ruleAt_X5_ruleOrNull : GoodIn wsX6_ruleAt (wsV RX6 230 RX5 yX5_ruleOrNull wsX5_ruleOrNull) := goodIn_app (goodIn_of _ (by decide +kernel)) ggX6_ruleAt_X5_ruleOrNull
theorem dX6_ruleAt_0 : decode cX6_ruleAt 0 = .ok (.aload_n 0, 1) := by decide +kernel
theorem dX6_ruleAt_1 : decode cX6_ruleAt 1 = .ok (.getfield 10, 3) := by decide +kernel
theorem dX6_ruleAt_4 : decode cX6_ruleAt 4 = .ok (.iload_n 1, 1) := by decide +kernel
theorem dX6_ruleAt_5 : decode cX6_ruleAt 5 = .ok (.invokevirtual 230, 3) := by decide +kernel
theorem dX6_ruleAt_8 : decode cX6_ruleAt 8 = .ok (.astore_n 2, 1) := by decide +kernel
theorem dX6_ruleAt_9 : decode cX6_ruleAt 9 = .ok (.aload_n 2, 1) := by decide +kernel
theorem dX6_ruleAt_10 : decode cX6_ruleAt 10 = .ok (.ifnonnull 13, 3) := by decide +kernel
theorem dX6_ruleAt_13 : decode cX6_ruleAt 13 = .ok (.new 179, 3) := by decide +kernel
theorem dX6_ruleAt_16 : decode cX6_ruleAt 16 = .ok (.dup, 1) := by decide +kernel
theorem dX6_ruleAt_17 : decode cX6_ruleAt 17 = .ok (.ldc 233, 2) := by decide +kernel
theorem dX6_ruleAt_19 : decode cX6_ruleAt 19 = .ok (.invokespecial 183, 3) := by decide +kernel
theorem dX6_ruleAt_22 : decode cX6_ruleAt 22 = .ok (.athrow, 1) := by decide +kernel
theorem dX6_ruleAt_23 : decode cX6_ruleAt 23 = .ok (.aload_n 2, 1) := by decide +kernel
theorem dX6_ruleAt_24 : decode cX6_ruleAt 24 = .ok (.areturn, 1) := by decide +kernel
set_option maxRecDepth 20000 in
theorem ggX6_exploredAt_X6_needExplored : GoodIn wsX6_exploredAt wsX6_needExplored := goodIn_ca (goodIn_r _ [8, 9, 10, 3, 11, 12, 13, 14, 15, 16, 17, 24, 25, 26, 27, 28, 29, 30, 31, 32, 33, 34, 35, 36, 37, 38, 39] (by decide +kernel) (by decide +kernel)) (goodIn_sub (fun _ h => List.mem_cons_of_mem _ (List.mem_append_right _ h)) (by decide +kernel))
set_option maxRecDepth 20000 in
theorem gX6_exploredAt_X6_needExplored : GoodIn wsX6_exploredAt (wsV RX6 157 RX6 yX6_needExplored wsX6_needExplored) := goodIn_app (goodIn_of _ (by decide +kernel)) ggX6_exploredAt_X6_needExplored
set_option maxRecDepth 20000 in
theorem ggX6_exploredAt_X1_situationAt : GoodIn wsX6_exploredAt wsX1_situationAt := goodIn_r _ [21, 22, 23, 28, 29, 30, 31, 32, 33, 34, 35, 36, 37, 38, 39] (by decide +kernel) (by decide +kernel)
set_option maxRecDepth 20000 in
theorem gX6_exploredAt_X1_situationAt : GoodIn wsX6_exploredAt (wsV RX6 235 RX1 yX1_situationAt wsX1_situationAt) := goodIn_app (goodIn_of _ (by decide +kernel)) ggX6_exploredAt_X1_situationAt
theorem dX6_exploredAt_0 : decode cX6_exploredAt 0 = .ok (.aload_n 0, 1) := by decide +kernel
theorem dX6_exploredAt_1 : decode cX6_exploredAt 1 = .ok (.invokevirtual 157, 3) := by decide +kernel
theorem dX6_exploredAt_4 : decode cX6_exploredAt 4 = .ok (.aload_n 0, 1) := by decide +kernel
theorem dX6_exploredAt_5 : decode cX6_exploredAt 5 = .ok (.getfield 28, 3) := by decide +kernel
theorem dX6_exploredAt_8 : decode cX6_exploredAt 8 = .ok (.iload_n 1, 1) := by decide +kernel
theorem dX6_exploredAt_9 : decode cX6_exploredAt 9 = .ok (.invokevirtual 235, 3) := by decide +kernel
theorem dX6_exploredAt_12 : decode cX6_exploredAt 12 = .ok (.istore_n 2, 1) := by decide +kernel
theorem dX6_exploredAt_13 : decode cX6_exploredAt 13 = .ok (.iload_n 2, 1) := by decide +kernel
theorem dX6_exploredAt_14 : decode cX6_exploredAt 14 = .ok (.iconst (-1), 1) := by decide +kernel
theorem dX6_exploredAt_15 : decode cX6_exploredAt 15 = .ok (.if_icmp .ne 13, 3) := by decide +kernel
theorem dX6_exploredAt_18 : decode cX6_exploredAt 18 = .ok (.new 179, 3) := by decide +kernel
theorem dX6_exploredAt_21 : decode cX6_exploredAt 21 = .ok (.dup, 1) := by decide +kernel
theorem dX6_exploredAt_22 : decode cX6_exploredAt 22 = .ok (.ldc 238, 2) := by decide +kernel
theorem dX6_exploredAt_24 : decode cX6_exploredAt 24 = .ok (.invokespecial 183, 3) := by decide +kernel
theorem dX6_exploredAt_27 : decode cX6_exploredAt 27 = .ok (.athrow, 1) := by decide +kernel
theorem dX6_exploredAt_28 : decode cX6_exploredAt 28 = .ok (.iload_n 2, 1) := by decide +kernel
theorem dX6_exploredAt_29 : decode cX6_exploredAt 29 = .ok (.ireturn, 1) := by decide +kernel
set_option maxRecDepth 20000 in
theorem ggX6_needExplored_X1_isUsable : GoodIn wsX6_needExplored wsX1_isUsable := goodIn_r _ [8, 9, 10, 15, 16, 17, 18, 19, 20, 21, 22, 23, 24, 25, 26] (by decide +kernel) (by decide +kernel)
set_option maxRecDepth 20000 in
theorem gX6_needExplored_X1_isUsable : GoodIn wsX6_needExplored (wsV RX6 240 RX1 yX1_isUsable wsX1_isUsable) := goodIn_app (goodIn_of _ (by decide +kernel)) ggX6_needExplored_X1_isUsable
theorem dX6_needExplored_0 : decode cX6_needExplored 0 = .ok (.aload_n 0, 1) := by decide +kernel
theorem dX6_needExplored_1 : decode cX6_needExplored 1 = .ok (.getfield 28, 3) := by decide +kernel
theorem dX6_needExplored_4 : decode cX6_needExplored 4 = .ok (.invokevirtual 240, 3) := by decide +kernel
theorem dX6_needExplored_7 : decode cX6_needExplored 7 = .ok (.ifCond .ne 13, 3) := by decide +kernel
theorem dX6_needExplored_10 : decode cX6_needExplored 10 = .ok (.new 43, 3) := by decide +kernel
theorem dX6_needExplored_13 : decode cX6_needExplored 13 = .ok (.dup, 1) := by decide +kernel
theorem dX6_needExplored_14 : decode cX6_needExplored 14 = .ok (.ldc 243, 2) := by decide +kernel
theorem dX6_needExplored_16 : decode cX6_needExplored 16 = .ok (.invokespecial 47, 3) := by decide +kernel
theorem dX6_needExplored_19 : decode cX6_needExplored 19 = .ok (.athrow, 1) := by decide +kernel
theorem dX6_needExplored_20 : decode cX6_needExplored 20 = .ok (.return_, 1) := by decide +kernel
theorem dX6_needFact_0 : decode cX6_needFact 0 = .ok (.iload_n 0, 1) := by decide +kernel
theorem dX6_needFact_1 : decode cX6_needFact 1 = .ok (.ifCond .lt 9, 3) := by decide +kernel
theorem dX6_needFact_4 : decode cX6_needFact 4 = .ok (.iload_n 0, 1) := by decide +kernel
theorem dX6_needFact_5 : decode cX6_needFact 5 = .ok (.bipush 6, 2) := by decide +kernel
theorem dX6_needFact_7 : decode cX6_needFact 7 = .ok (.if_icmp .lt 13, 3) := by decide +kernel
theorem dX6_needFact_10 : decode cX6_needFact 10 = .ok (.new 179, 3) := by decide +kernel
theorem dX6_needFact_13 : decode cX6_needFact 13 = .ok (.dup, 1) := by decide +kernel
theorem dX6_needFact_14 : decode cX6_needFact 14 = .ok (.ldc 245, 2) := by decide +kernel
theorem dX6_needFact_16 : decode cX6_needFact 16 = .ok (.invokespecial 183, 3) := by decide +kernel
theorem dX6_needFact_19 : decode cX6_needFact 19 = .ok (.athrow, 1) := by decide +kernel
theorem dX6_needFact_20 : decode cX6_needFact 20 = .ok (.return_, 1) := by decide +kernel
theorem dX6_needFactSet_0 : decode cX6_needFactSet 0 = .ok (.iload_n 0, 1) := by decide +kernel
theorem dX6_needFactSet_1 : decode cX6_needFactSet 1 = .ok (.ifCond .lt 9, 3) := by decide +kernel
theorem dX6_needFactSet_4 : decode cX6_needFactSet 4 = .ok (.iload_n 0, 1) := by decide +kernel
theorem dX6_needFactSet_5 : decode cX6_needFactSet 5 = .ok (.bipush 63, 2) := by decide +kernel
theorem dX6_needFactSet_7 : decode cX6_needFactSet 7 = .ok (.if_icmp .le 13, 3) := by decide +kernel
theorem dX6_needFactSet_10 : decode cX6_needFactSet 10 = .ok (.new 105, 3) := by decide +kernel
theorem dX6_needFactSet_13 : decode cX6_needFactSet 13 = .ok (.dup, 1) := by decide +kernel
theorem dX6_needFactSet_14 : decode cX6_needFactSet 14 = .ok (.ldc 247, 2) := by decide +kernel
theorem dX6_needFactSet_16 : decode cX6_needFactSet 16 = .ok (.invokespecial 109, 3) := by decide +kernel
theorem dX6_needFactSet_19 : decode cX6_needFactSet 19 = .ok (.athrow, 1) := by decide +kernel
theorem dX6_needFactSet_20 : decode cX6_needFactSet 20 = .ok (.return_, 1) := by decide +kernel
theorem dX6_changeCode_0 : decode cX6_changeCode 0 = .ok (.iconst 2, 1) := by decide +kernel
theorem dX6_changeCode_1 : decode cX6_changeCode 1 = .ok (.iload_n 0, 1) := by decide +kernel
theorem dX6_changeCode_2 : decode cX6_changeCode 2 = .ok (.imul, 1) := by decide +kernel
theorem dX6_changeCode_3 : decode cX6_changeCode 3 = .ok (.iload_n 1, 1) := by decide +kernel
theorem dX6_changeCode_4 : decode cX6_changeCode 4 = .ok (.ifCond .eq 7, 3) := by decide +kernel
theorem dX6_changeCode_7 : decode cX6_changeCode 7 = .ok (.iconst 1, 1) := by decide +kernel
theorem dX6_changeCode_8 : decode cX6_changeCode 8 = .ok (.goto 4, 3) := by decide +kernel
theorem dX6_changeCode_11 : decode cX6_changeCode 11 = .ok (.iconst 0, 1) := by decide +kernel
theorem dX6_changeCode_12 : decode cX6_changeCode 12 = .ok (.iadd, 1) := by decide +kernel
theorem dX6_changeCode_13 : decode cX6_changeCode 13 = .ok (.ireturn, 1) := by decide +kernel
theorem dX6_situationOf_0 : decode cX6_situationOf 0 = .ok (.iload_n 1, 1) := by decide +kernel
theorem dX6_situationOf_1 : decode cX6_situationOf 1 = .ok (.bipush 6, 2) := by decide +kernel
theorem dX6_situationOf_3 : decode cX6_situationOf 3 = .ok (.ishl, 1) := by decide +kernel
theorem dX6_situationOf_4 : decode cX6_situationOf 4 = .ok (.iload_n 0, 1) := by decide +kernel
theorem dX6_situationOf_5 : decode cX6_situationOf 5 = .ok (.ior, 1) := by decide +kernel
theorem dX6_situationOf_6 : decode cX6_situationOf 6 = .ok (.ireturn, 1) := by decide +kernel
theorem dX6_factsIn_0 : decode cX6_factsIn 0 = .ok (.iload_n 0, 1) := by decide +kernel
theorem dX6_factsIn_1 : decode cX6_factsIn 1 = .ok (.bipush 63, 2) := by decide +kernel
theorem dX6_factsIn_3 : decode cX6_factsIn 3 = .ok (.iand, 1) := by decide +kernel
theorem dX6_factsIn_4 : decode cX6_factsIn 4 = .ok (.ireturn, 1) := by decide +kernel
theorem dX6_triggeredIn_0 : decode cX6_triggeredIn 0 = .ok (.iload_n 0, 1) := by decide +kernel
theorem dX6_triggeredIn_1 : decode cX6_triggeredIn 1 = .ok (.bipush 6, 2) := by decide +kernel
theorem dX6_triggeredIn_3 : decode cX6_triggeredIn 3 = .ok (.ishr, 1) := by decide +kernel
theorem dX6_triggeredIn_4 : decode cX6_triggeredIn 4 = .ok (.ireturn, 1) := by decide +kernel
theorem dX7_init_0 : decode cX7_init 0 = .ok (.aload_n 0, 1) := by decide +kernel
theorem dX7_init_1 : decode cX7_init 1 = .ok (.invokespecial 3, 3) := by decide +kernel
theorem dX7_init_4 : decode cX7_init 4 = .ok (.aload_n 0, 1) := by decide +kernel
theorem dX7_init_5 : decode cX7_init 5 = .ok (.bipush 8, 2) := by decide +kernel
theorem dX7_init_7 : decode cX7_init 7 = .ok (.newarray .int, 2) := by decide +kernel
theorem dX7_init_9 : decode cX7_init 9 = .ok (.putfield 9, 3) := by decide +kernel
theorem dX7_init_12 : decode cX7_init 12 = .ok (.aload_n 0, 1) := by decide +kernel
theorem dX7_init_13 : decode cX7_init 13 = .ok (.bipush 8, 2) := by decide +kernel
theorem dX7_init_15 : decode cX7_init 15 = .ok (.newarray .int, 2) := by decide +kernel
theorem dX7_init_17 : decode cX7_init 17 = .ok (.putfield 13, 3) := by decide +kernel
theorem dX7_init_20 : decode cX7_init 20 = .ok (.aload_n 0, 1) := by decide +kernel
theorem dX7_init_21 : decode cX7_init 21 = .ok (.bipush 8, 2) := by decide +kernel
theorem dX7_init_23 : decode cX7_init 23 = .ok (.newarray .int, 2) := by decide +kernel
theorem dX7_init_25 : decode cX7_init 25 = .ok (.putfield 16, 3) := by decide +kernel
theorem dX7_init_28 : decode cX7_init 28 = .ok (.aload_n 0, 1) := by decide +kernel
theorem dX7_init_29 : decode cX7_init 29 = .ok (.bipush 8, 2) := by decide +kernel
theorem dX7_init_31 : decode cX7_init 31 = .ok (.newarray .int, 2) := by decide +kernel
theorem dX7_init_33 : decode cX7_init 33 = .ok (.putfield 19, 3) := by decide +kernel
theorem dX7_init_36 : decode cX7_init 36 = .ok (.aload_n 0, 1) := by decide +kernel
theorem dX7_init_37 : decode cX7_init 37 = .ok (.bipush 32, 2) := by decide +kernel
theorem dX7_init_39 : decode cX7_init 39 = .ok (.newarray .int, 2) := by decide +kernel
theorem dX7_init_41 : decode cX7_init 41 = .ok (.putfield 22, 3) := by decide +kernel
theorem dX7_init_44 : decode cX7_init 44 = .ok (.aload_n 0, 1) := by decide +kernel
theorem dX7_init_45 : decode cX7_init 45 = .ok (.bipush 8, 2) := by decide +kernel
theorem dX7_init_47 : decode cX7_init 47 = .ok (.newarray .boolean, 2) := by decide +kernel
theorem dX7_init_49 : decode cX7_init 49 = .ok (.putfield 25, 3) := by decide +kernel
theorem dX7_init_52 : decode cX7_init 52 = .ok (.aload_n 0, 1) := by decide +kernel
theorem dX7_init_53 : decode cX7_init 53 = .ok (.bipush 8, 2) := by decide +kernel
theorem dX7_init_55 : decode cX7_init 55 = .ok (.newarray .int, 2) := by decide +kernel
theorem dX7_init_57 : decode cX7_init 57 = .ok (.putfield 29, 3) := by decide +kernel
theorem dX7_init_60 : decode cX7_init 60 = .ok (.aload_n 0, 1) := by decide +kernel
theorem dX7_init_61 : decode cX7_init 61 = .ok (.sipush 1000, 3) := by decide +kernel
theorem dX7_init_64 : decode cX7_init 64 = .ok (.newarray .int, 2) := by decide +kernel
theorem dX7_init_66 : decode cX7_init 66 = .ok (.putfield 32, 3) := by decide +kernel
theorem dX7_init_69 : decode cX7_init 69 = .ok (.aload_n 0, 1) := by decide +kernel
theorem dX7_init_70 : decode cX7_init 70 = .ok (.sipush 8000, 3) := by decide +kernel
theorem dX7_init_73 : decode cX7_init 73 = .ok (.newarray .int, 2) := by decide +kernel
theorem dX7_init_75 : decode cX7_init 75 = .ok (.putfield 35, 3) := by decide +kernel
theorem dX7_init_78 : decode cX7_init 78 = .ok (.aload_n 0, 1) := by decide +kernel
theorem dX7_init_79 : decode cX7_init 79 = .ok (.sipush 1000, 3) := by decide +kernel
theorem dX7_init_82 : decode cX7_init 82 = .ok (.newarray .int, 2) := by decide +kernel
theorem dX7_init_84 : decode cX7_init 84 = .ok (.putfield 38, 3) := by decide +kernel
theorem dX7_init_87 : decode cX7_init 87 = .ok (.aload_n 0, 1) := by decide +kernel
theorem dX7_init_88 : decode cX7_init 88 = .ok (.sipush 1000, 3) := by decide +kernel
theorem dX7_init_91 : decode cX7_init 91 = .ok (.newarray .long, 2) := by decide +kernel
theorem dX7_init_93 : decode cX7_init 93 = .ok (.putfield 41, 3) := by decide +kernel
theorem dX7_init_96 : decode cX7_init 96 = .ok (.return_, 1) := by decide +kernel
theorem dX7_thrown_0 : decode cX7_thrown 0 = .ok (.aload_n 0, 1) := by decide +kernel
theorem dX7_thrown_1 : decode cX7_thrown 1 = .ok (.getfield 45, 3) := by decide +kernel
theorem dX7_thrown_4 : decode cX7_thrown 4 = .ok (.ireturn, 1) := by decide +kernel
theorem dX7_fail_0 : decode cX7_fail 0 = .ok (.aload_n 0, 1) := by decide +kernel
theorem dX7_fail_1 : decode cX7_fail 1 = .ok (.iload_n 1, 1) := by decide +kernel
theorem dX7_fail_2 : decode cX7_fail 2 = .ok (.putfield 45, 3) := by decide +kernel
theorem dX7_fail_5 : decode cX7_fail 5 = .ok (.iconst 0, 1) := by decide +kernel
theorem dX7_fail_6 : decode cX7_fail 6 = .ok (.ireturn, 1) := by decide +kernel
theorem dX7_isRule_0 : decode cX7_isRule 0 = .ok (.iload_n 1, 1) := by decide +kernel
theorem dX7_isRule_1 : decode cX7_isRule 1 = .ok (.ifCond .lt 15, 3) := by decide +kernel
theorem dX7_isRule_4 : decode cX7_isRule 4 = .ok (.iload_n 1, 1) := by decide +kernel
theorem dX7_isRule_5 : decode cX7_isRule 5 = .ok (.aload_n 0, 1) := by decide +kernel
theorem dX7_isRule_6 : decode cX7_isRule 6 = .ok (.getfield 49, 3) := by decide +kernel
theorem dX7_isRule_9 : decode cX7_isRule 9 = .ok (.if_icmp .ge 7, 3) := by decide +kernel
theorem dX7_isRule_12 : decode cX7_isRule 12 = .ok (.iconst 1, 1) := by decide +kernel
theorem dX7_isRule_13 : decode cX7_isRule 13 = .ok (.goto 4, 3) := by decide +kernel
theorem dX7_isRule_16 : decode cX7_isRule 16 = .ok (.iconst 0, 1) := by decide +kernel
theorem dX7_isRule_17 : decode cX7_isRule 17 = .ok (.ireturn, 1) := by decide +kernel
theorem dX7_isFact_0 : decode cX7_isFact 0 = .ok (.iload_n 0, 1) := by decide +kernel
theorem dX7_isFact_1 : decode cX7_isFact 1 = .ok (.ifCond .lt 13, 3) := by decide +kernel
theorem dX7_isFact_4 : decode cX7_isFact 4 = .ok (.iload_n 0, 1) := by decide +kernel
theorem dX7_isFact_5 : decode cX7_isFact 5 = .ok (.bipush 6, 2) := by decide +kernel
theorem dX7_isFact_7 : decode cX7_isFact 7 = .ok (.if_icmp .ge 7, 3) := by decide +kernel
theorem dX7_isFact_10 : decode cX7_isFact 10 = .ok (.iconst 1, 1) := by decide +kernel
theorem dX7_isFact_11 : decode cX7_isFact 11 = .ok (.goto 4, 3) := by decide +kernel
theorem dX7_isFact_14 : decode cX7_isFact 14 = .ok (.iconst 0, 1) := by decide +kernel
theorem dX7_isFact_15 : decode cX7_isFact 15 = .ok (.ireturn, 1) := by decide +kernel
theorem dX7_isSet_0 : decode cX7_isSet 0 = .ok (.iload_n 0, 1) := by decide +kernel
theorem dX7_isSet_1 : decode cX7_isSet 1 = .ok (.ifCond .lt 13, 3) := by decide +kernel
theorem dX7_isSet_4 : decode cX7_isSet 4 = .ok (.iload_n 0, 1) := by decide +kernel
theorem dX7_isSet_5 : decode cX7_isSet 5 = .ok (.bipush 64, 2) := by decide +kernel
theorem dX7_isSet_7 : decode cX7_isSet 7 = .ok (.if_icmp .ge 7, 3) := by decide +kernel
theorem dX7_isSet_10 : decode cX7_isSet 10 = .ok (.iconst 1, 1) := by decide +kernel
theorem dX7_isSet_11 : decode cX7_isSet 11 = .ok (.goto 4, 3) := by decide +kernel
theorem dX7_isSet_14 : decode cX7_isSet 14 = .ok (.iconst 0, 1) := by decide +kernel
theorem dX7_isSet_15 : decode cX7_isSet 15 = .ok (.ireturn, 1) := by decide +kernel
theorem dX7_has_0 : decode cX7_has 0 = .ok (.iload_n 0, 1) := by decide +kernel
theorem dX7_has_1 : decode cX7_has 1 = .ok (.iload_n 1, 1) := by decide +kernel
theorem dX7_has_2 : decode cX7_has 2 = .ok (.ishr, 1) := by decide +kernel
theorem dX7_has_3 : decode cX7_has 3 = .ok (.iconst 1, 1) := by decide +kernel
theorem dX7_has_4 : decode cX7_has 4 = .ok (.iand, 1) := by decide +kernel
theorem dX7_has_5 : decode cX7_has 5 = .ok (.iconst 1, 1) := by decide +kernel
theorem dX7_has_6 : decode cX7_has 6 = .ok (.if_icmp .ne 7, 3) := by decide +kernel
theorem dX7_has_9 : decode cX7_has 9 = .ok (.iconst 1, 1) := by decide +kernel
theorem dX7_has_10 : decode cX7_has 10 = .ok (.goto 4, 3) := by decide +kernel
theorem dX7_has_13 : decode cX7_has 13 = .ok (.iconst 0, 1) := by decide +kernel
theorem dX7_has_14 : decode cX7_has 14 = .ok (.ireturn, 1) := by decide +kernel
theorem dX7_literal_0 : decode cX7_literal 0 = .ok (.iconst 2, 1) := by decide +kernel
theorem dX7_literal_1 : decode cX7_literal 1 = .ok (.iload_n 0, 1) := by decide +kernel
theorem dX7_literal_2 : decode cX7_literal 2 = .ok (.imul, 1) := by decide +kernel
theorem dX7_literal_3 : decode cX7_literal 3 = .ok (.iload_n 1, 1) := by decide +kernel
theorem dX7_literal_4 : decode cX7_literal 4 = .ok (.ifCond .eq 7, 3) := by decide +kernel
theorem dX7_literal_7 : decode cX7_literal 7 = .ok (.iconst 1, 1) := by decide +kernel
theorem dX7_literal_8 : decode cX7_literal 8 = .ok (.goto 4, 3) := by decide +kernel
theorem dX7_literal_11 : decode cX7_literal 11 = .ok (.iconst 0, 1) := by decide +kernel
theorem dX7_literal_12 : decode cX7_literal 12 = .ok (.iadd, 1) := by decide +kernel
theorem dX7_literal_13 : decode cX7_literal 13 = .ok (.ireturn, 1) := by decide +kernel
set_option maxRecDepth 20000 in
theorem ggX7_addRule_X7_isFact : GoodIn wsX7_addRule wsX7_isFact := goodIn_r _ [13] (by decide +kernel) (by decide +kernel)
set_option maxRecDepth 20000 in
theorem gX7_addRule_X7_isFact : GoodIn wsX7_addRule (va_wsS RX7 52 yX7_isFact wsX7_isFact) := goodIn_app (goodIn_of _ (by decide +kernel)) ggX7_addRule_X7_isFact
set_option maxRecDepth 20000 in
theorem ggX7_addRule_X7_fail : GoodIn wsX7_addRule wsX7_fail := goodIn_r _ [17, 1, 24, 25, 26, 27, 28, 29, 30, 31, 32, 33, 34, 35, 36, 37, 38, 39, 40, 41] (by decide +kernel) (by decide +kernel)
set_option maxRecDepth 20000 in
theorem gX7_addRule_X7_fail : GoodIn wsX7_addRule (wsV RX7 56 RX7 yX7_fail wsX7_fail) := goodIn_app (goodIn_of _ (by decide +kernel)) ggX7_addRule_X7_fail
set_option maxRecDepth 20000 in
theorem ggX7_addRule_X7_isSet : GoodIn wsX7_addRule wsX7_isSet := goodIn_r _ [20] (by decide +kernel) (by decide +kernel)
set_option maxRecDepth 20000 in
theorem gX7_addRule_X7_isSet : GoodIn wsX7_addRule (va_wsS RX7 60 yX7_isSet wsX7_isSet) := goodIn_app (goodIn_of _ (by decide +kernel)) ggX7_addRule_X7_isSet
set_option maxRecDepth 20000 in
theorem ggX7_addRule_X7_literal : GoodIn wsX7_addRule wsX7_literal := goodIn_r _ [23] (by decide +kernel) (by decide +kernel)
set_option maxRecDepth 20000 in
theorem gX7_addRule_X7_literal : GoodIn wsX7_addRule (va_wsS RX7 63 yX7_literal wsX7_literal) := goodIn_app (goodIn_of _ (by decide +kernel)) ggX7_addRule_X7_literal
theorem dX7_addRule_0 : decode cX7_addRule 0 = .ok (.aload_n 0, 1) := by decide +kernel
theorem dX7_addRule_1 : decode cX7_addRule 1 = .ok (.iconst 0, 1) := by decide +kernel
theorem dX7_addRule_2 : decode cX7_addRule 2 = .ok (.putfield 45, 3) := by decide +kernel
theorem dX7_addRule_5 : decode cX7_addRule 5 = .ok (.iload_n 1, 1) := by decide +kernel
theorem dX7_addRule_6 : decode cX7_addRule 6 = .ok (.invokestatic 52, 3) := by decide +kernel
theorem dX7_addRule_9 : decode cX7_addRule 9 = .ok (.ifCond .ne 9, 3) := by decide +kernel
theorem dX7_addRule_12 : decode cX7_addRule 12 = .ok (.aload_n 0, 1) := by decide +kernel
theorem dX7_addRule_13 : decode cX7_addRule 13 = .ok (.iconst 1, 1) := by decide +kernel
theorem dX7_addRule_14 : decode cX7_addRule 14 = .ok (.invokevirtual 56, 3) := by decide +kernel
theorem dX7_addRule_17 : decode cX7_addRule 17 = .ok (.ireturn, 1) := by decide +kernel
theorem dX7_addRule_18 : decode cX7_addRule 18 = .ok (.iload_n 3, 1) := by decide +kernel
theorem dX7_addRule_19 : decode cX7_addRule 19 = .ok (.invokestatic 60, 3) := by decide +kernel
theorem dX7_addRule_22 : decode cX7_addRule 22 = .ok (.ifCond .eq 11, 3) := by decide +kernel
theorem dX7_addRule_25 : decode cX7_addRule 25 = .ok (.iload 4, 2) := by decide +kernel
theorem dX7_addRule_27 : decode cX7_addRule 27 = .ok (.invokestatic 60, 3) := by decide +kernel
theorem dX7_addRule_30 : decode cX7_addRule 30 = .ok (.ifCond .ne 9, 3) := by decide +kernel
theorem dX7_addRule_33 : decode cX7_addRule 33 = .ok (.aload_n 0, 1) := by decide +kernel
theorem dX7_addRule_34 : decode cX7_addRule 34 = .ok (.iconst 2, 1) := by decide +kernel
theorem dX7_addRule_35 : decode cX7_addRule 35 = .ok (.invokevirtual 56, 3) := by decide +kernel
theorem dX7_addRule_38 : decode cX7_addRule 38 = .ok (.ireturn, 1) := by decide +kernel
theorem dX7_addRule_39 : decode cX7_addRule 39 = .ok (.aload_n 0, 1) := by decide +kernel
theorem dX7_addRule_40 : decode cX7_addRule 40 = .ok (.getfield 49, 3) := by decide +kernel
theorem dX7_addRule_43 : decode cX7_addRule 43 = .ok (.bipush 8, 2) := by decide +kernel
theorem dX7_addRule_45 : decode cX7_addRule 45 = .ok (.if_icmp .ne 9, 3) := by decide +kernel
theorem dX7_addRule_48 : decode cX7_addRule 48 = .ok (.aload_n 0, 1) := by decide +kernel
theorem dX7_addRule_49 : decode cX7_addRule 49 = .ok (.iconst 3, 1) := by decide +kernel
theorem dX7_addRule_50 : decode cX7_addRule 50 = .ok (.invokevirtual 56, 3) := by decide +kernel
theorem dX7_addRule_53 : decode cX7_addRule 53 = .ok (.ireturn, 1) := by decide +kernel
theorem dX7_addRule_54 : decode cX7_addRule 54 = .ok (.aload_n 0, 1) := by decide +kernel
theorem dX7_addRule_55 : decode cX7_addRule 55 = .ok (.getfield 9, 3) := by decide +kernel
theorem dX7_addRule_58 : decode cX7_addRule 58 = .ok (.aload_n 0, 1) := by decide +kernel
theorem dX7_addRule_59 : decode cX7_addRule 59 = .ok (.getfield 49, 3) := by decide +kernel
theorem dX7_addRule_62 : decode cX7_addRule 62 = .ok (.iload_n 1, 1) := by decide +kernel
theorem dX7_addRule_63 : decode cX7_addRule 63 = .ok (.iload_n 2, 1) := by decide +kernel
theorem dX7_addRule_64 : decode cX7_addRule 64 = .ok (.invokestatic 63, 3) := by decide +kernel
theorem dX7_addRule_67 : decode cX7_addRule 67 = .ok (.iastore, 1) := by decide +kernel
theorem dX7_addRule_68 : decode cX7_addRule 68 = .ok (.aload_n 0, 1) := by decide +kernel
theorem dX7_addRule_69 : decode cX7_addRule 69 = .ok (.getfield 13, 3) := by decide +kernel
theorem dX7_addRule_72 : decode cX7_addRule 72 = .ok (.aload_n 0, 1) := by decide +kernel
theorem dX7_addRule_73 : decode cX7_addRule 73 = .ok (.getfield 49, 3) := by decide +kernel
theorem dX7_addRule_76 : decode cX7_addRule 76 = .ok (.iload_n 3, 1) := by decide +kernel
theorem dX7_addRule_77 : decode cX7_addRule 77 = .ok (.iastore, 1) := by decide +kernel
theorem dX7_addRule_78 : decode cX7_addRule 78 = .ok (.aload_n 0, 1) := by decide +kernel
theorem dX7_addRule_79 : decode cX7_addRule 79 = .ok (.getfield 16, 3) := by decide +kernel
theorem dX7_addRule_82 : decode cX7_addRule 82 = .ok (.aload_n 0, 1) := by decide +kernel
theorem dX7_addRule_83 : decode cX7_addRule 83 = .ok (.getfield 49, 3) := by decide +kernel
theorem dX7_addRule_86 : decode cX7_addRule 86 = .ok (.iload 4, 2) := by decide +kernel
theorem dX7_addRule_88 : decode cX7_addRule 88 = .ok (.iastore, 1) := by decide +kernel
theorem dX7_addRule_89 : decode cX7_addRule 89 = .ok (.aload_n 0, 1) := by decide +kernel
theorem dX7_addRule_90 : decode cX7_addRule 90 = .ok (.getfield 19, 3) := by decide +kernel
theorem dX7_addRule_93 : decode cX7_addRule 93 = .ok (.aload_n 0, 1) := by decide +kernel
theorem dX7_addRule_94 : decode cX7_addRule 94 = .ok (.getfield 49, 3) := by decide +kernel
theorem dX7_addRule_97 : decode cX7_addRule 97 = .ok (.iconst 0, 1) := by decide +kernel
theorem dX7_addRule_98 : decode cX7_addRule 98 = .ok (.iastore, 1) := by decide +kernel
theorem dX7_addRule_99 : decode cX7_addRule 99 = .ok (.aload_n 0, 1) := by decide +kernel
theorem dX7_addRule_100 : decode cX7_addRule 100 = .ok (.getfield 25, 3) := by decide +kernel
theorem dX7_addRule_103 : decode cX7_addRule 103 = .ok (.aload_n 0, 1) := by decide +kernel
theorem dX7_addRule_104 : decode cX7_addRule 104 = .ok (.getfield 49, 3) := by decide +kernel
theorem dX7_addRule_107 : decode cX7_addRule 107 = .ok (.iconst 1, 1) := by decide +kernel
theorem dX7_addRule_108 : decode cX7_addRule 108 = .ok (.bastore, 1) := by decide +kernel
theorem dX7_addRule_109 : decode cX7_addRule 109 = .ok (.aload_n 0, 1) := by decide +kernel
theorem dX7_addRule_110 : decode cX7_addRule 110 = .ok (.getfield 29, 3) := by decide +kernel
theorem dX7_addRule_113 : decode cX7_addRule 113 = .ok (.aload_n 0, 1) := by decide +kernel
theorem dX7_addRule_114 : decode cX7_addRule 114 = .ok (.getfield 49, 3) := by decide +kernel
theorem dX7_addRule_117 : decode cX7_addRule 117 = .ok (.iconst 0, 1) := by decide +kernel
theorem dX7_addRule_118 : decode cX7_addRule 118 = .ok (.iastore, 1) := by decide +kernel
theorem dX7_addRule_119 : decode cX7_addRule 119 = .ok (.aload_n 0, 1) := by decide +kernel
theorem dX7_addRule_120 : decode cX7_addRule 120 = .ok (.dup, 1) := by decide +kernel
theorem dX7_addRule_121 : decode cX7_addRule 121 = .ok (.getfield 49, 3) := by decide +kernel
theorem dX7_addRule_124 : decode cX7_addRule 124 = .ok (.iconst 1, 1) := by decide +kernel
theorem dX7_addRule_125 : decode cX7_addRule 125 = .ok (.iadd, 1) := by decide +kernel
theorem dX7_addRule_126 : decode cX7_addRule 126 = .ok (.putfield 49, 3) := by decide +kernel
theorem dX7_addRule_129 : decode cX7_addRule 129 = .ok (.aload_n 0, 1) := by decide +kernel
theorem dX7_addRule_130 : decode cX7_addRule 130 = .ok (.iconst 0, 1) := by decide +kernel
theorem dX7_addRule_131 : decode cX7_addRule 131 = .ok (.putfield 67, 3) := by decide +kernel
theorem dX7_addRule_134 : decode cX7_addRule 134 = .ok (.aload_n 0, 1) := by decide +kernel
theorem dX7_addRule_135 : decode cX7_addRule 135 = .ok (.getfield 49, 3) := by decide +kernel
theorem dX7_addRule_138 : decode cX7_addRule 138 = .ok (.iconst 1, 1) := by decide +kernel
theorem dX7_addRule_139 : decode cX7_addRule 139 = .ok (.isub, 1) := by decide +kernel
theorem dX7_addRule_140 : decode cX7_addRule 140 = .ok (.ireturn, 1) := by decide +kernel
set_option maxRecDepth 20000 in
theorem ggX7_addAction_X7_isRule : GoodIn wsX7_addAction wsX7_isRule := goodIn_r _ [9, 10, 21, 22, 23, 24, 25, 26, 27, 28, 29, 30, 31, 32, 33, 34, 35, 36, 37, 38] (by decide +kernel) (by decide +kernel)
set_option maxRecDepth 20000 in
theorem gX7_addAction_X7_isRule : GoodIn wsX7_addAction (wsV RX7 71 RX7 yX7_isRule wsX7_isRule) := goodIn_app (goodIn_of _ (by decide +kernel)) ggX7_addAction_X7_isRule
set_option maxRecDepth 20000 in
theorem ggX7_addAction_X7_isFact : GoodIn wsX7_addAction wsX7_isFact := goodIn_r _ [13] (by decide +kernel) (by decide +kernel)
set_option maxRecDepth 20000 in
theorem gX7_addAction_X7_isFact : GoodIn wsX7_addAction (va_wsS RX7 52 yX7_isFact wsX7_isFact) := goodIn_app (goodIn_of _ (by decide +kernel)) ggX7_addAction_X7_isFact
set_option maxRecDepth 20000 in
theorem ggX7_addAction_X7_fail : GoodIn wsX7_addAction wsX7_fail := goodIn_r _ [17, 1, 21, 22, 23, 24, 25, 26, 27, 28, 29, 30, 31, 32, 33, 34, 35, 36, 37, 38] (by decide +kernel) (by decide +kernel)
set_option maxRecDepth 20000 in
theorem gX7_addAction_X7_fail : GoodIn wsX7_addAction (wsV RX7 56 RX7 yX7_fail wsX7_fail) := goodIn_app (goodIn_of _ (by decide +kernel)) ggX7_addAction_X7_fail
set_option maxRecDepth 20000 in
theorem ggX7_addAction_X7_literal : GoodIn wsX7_addAction wsX7_literal := goodIn_r _ [20] (by decide +kernel) (by decide +kernel)
set_option maxRecDepth 20000 in
theorem gX7_addAction_X7_literal : GoodIn wsX7_addAction (va_wsS RX7 63 yX7_literal wsX7_literal) := goodIn_app (goodIn_of _ (by decide +kernel)) ggX7_addAction_X7_literal
theorem dX7_addAction_0 : decode cX7_addAction 0 = .ok (.aload_n 0, 1) := by decide +kernel
theorem dX7_addAction_1 : decode cX7_addAction 1 = .ok (.iconst 0, 1) := by decide +kernel
theorem dX7_addAction_2 : decode cX7_addAction 2 = .ok (.putfield 45, 3) := by decide +kernel
theorem dX7_addAction_5 : decode cX7_addAction 5 = .ok (.aload_n 0, 1) := by decide +kernel
theorem dX7_addAction_6 : decode cX7_addAction 6 = .ok (.iload_n 1, 1) := by decide +kernel
theorem dX7_addAction_7 : decode cX7_addAction 7 = .ok (.invokevirtual 71, 3) := by decide +kernel
theorem dX7_addAction_10 : decode cX7_addAction 10 = .ok (.ifCond .eq 10, 3) := by decide +kernel
theorem dX7_addAction_13 : decode cX7_addAction 13 = .ok (.iload_n 2, 1) := by decide +kernel
theorem dX7_addAction_14 : decode cX7_addAction 14 = .ok (.invokestatic 52, 3) := by decide +kernel
theorem dX7_addAction_17 : decode cX7_addAction 17 = .ok (.ifCond .ne 9, 3) := by decide +kernel
theorem dX7_addAction_20 : decode cX7_addAction 20 = .ok (.aload_n 0, 1) := by decide +kernel
theorem dX7_addAction_21 : decode cX7_addAction 21 = .ok (.iconst 1, 1) := by decide +kernel
theorem dX7_addAction_22 : decode cX7_addAction 22 = .ok (.invokevirtual 56, 3) := by decide +kernel
theorem dX7_addAction_25 : decode cX7_addAction 25 = .ok (.ireturn, 1) := by decide +kernel
theorem dX7_addAction_26 : decode cX7_addAction 26 = .ok (.aload_n 0, 1) := by decide +kernel
theorem dX7_addAction_27 : decode cX7_addAction 27 = .ok (.getfield 19, 3) := by decide +kernel
theorem dX7_addAction_30 : decode cX7_addAction 30 = .ok (.iload_n 1, 1) := by decide +kernel
theorem dX7_addAction_31 : decode cX7_addAction 31 = .ok (.iaload, 1) := by decide +kernel
theorem dX7_addAction_32 : decode cX7_addAction 32 = .ok (.iconst 4, 1) := by decide +kernel
theorem dX7_addAction_33 : decode cX7_addAction 33 = .ok (.if_icmp .ne 9, 3) := by decide +kernel
theorem dX7_addAction_36 : decode cX7_addAction 36 = .ok (.aload_n 0, 1) := by decide +kernel
theorem dX7_addAction_37 : decode cX7_addAction 37 = .ok (.iconst 2, 1) := by decide +kernel
theorem dX7_addAction_38 : decode cX7_addAction 38 = .ok (.invokevirtual 56, 3) := by decide +kernel
theorem dX7_addAction_41 : decode cX7_addAction 41 = .ok (.ireturn, 1) := by decide +kernel
theorem dX7_addAction_42 : decode cX7_addAction 42 = .ok (.aload_n 0, 1) := by decide +kernel
theorem dX7_addAction_43 : decode cX7_addAction 43 = .ok (.getfield 22, 3) := by decide +kernel
theorem dX7_addAction_46 : decode cX7_addAction 46 = .ok (.iconst 4, 1) := by decide +kernel
theorem dX7_addAction_47 : decode cX7_addAction 47 = .ok (.iload_n 1, 1) := by decide +kernel
theorem dX7_addAction_48 : decode cX7_addAction 48 = .ok (.imul, 1) := by decide +kernel
theorem dX7_addAction_49 : decode cX7_addAction 49 = .ok (.aload_n 0, 1) := by decide +kernel
theorem dX7_addAction_50 : decode cX7_addAction 50 = .ok (.getfield 19, 3) := by decide +kernel
theorem dX7_addAction_53 : decode cX7_addAction 53 = .ok (.iload_n 1, 1) := by decide +kernel
theorem dX7_addAction_54 : decode cX7_addAction 54 = .ok (.iaload, 1) := by decide +kernel
theorem dX7_addAction_55 : decode cX7_addAction 55 = .ok (.iadd, 1) := by decide +kernel
theorem dX7_addAction_56 : decode cX7_addAction 56 = .ok (.iload_n 2, 1) := by decide +kernel
theorem dX7_addAction_57 : decode cX7_addAction 57 = .ok (.iload_n 3, 1) := by decide +kernel
theorem dX7_addAction_58 : decode cX7_addAction 58 = .ok (.invokestatic 63, 3) := by decide +kernel
theorem dX7_addAction_61 : decode cX7_addAction 61 = .ok (.iastore, 1) := by decide +kernel
theorem dX7_addAction_62 : decode cX7_addAction 62 = .ok (.aload_n 0, 1) := by decide +kernel
theorem dX7_addAction_63 : decode cX7_addAction 63 = .ok (.getfield 19, 3) := by decide +kernel
theorem dX7_addAction_66 : decode cX7_addAction 66 = .ok (.iload_n 1, 1) := by decide +kernel
theorem dX7_addAction_67 : decode cX7_addAction 67 = .ok (.dup2, 1) := by decide +kernel
theorem dX7_addAction_68 : decode cX7_addAction 68 = .ok (.iaload, 1) := by decide +kernel
theorem dX7_addAction_69 : decode cX7_addAction 69 = .ok (.iconst 1, 1) := by decide +kernel
theorem dX7_addAction_70 : decode cX7_addAction 70 = .ok (.iadd, 1) := by decide +kernel
theorem dX7_addAction_71 : decode cX7_addAction 71 = .ok (.iastore, 1) := by decide +kernel
theorem dX7_addAction_72 : decode cX7_addAction 72 = .ok (.aload_n 0, 1) := by decide +kernel
theorem dX7_addAction_73 : decode cX7_addAction 73 = .ok (.iconst 0, 1) := by decide +kernel
theorem dX7_addAction_74 : decode cX7_addAction 74 = .ok (.putfield 67, 3) := by decide +kernel
theorem dX7_addAction_77 : decode cX7_addAction 77 = .ok (.aload_n 0, 1) := by decide +kernel
theorem dX7_addAction_78 : decode cX7_addAction 78 = .ok (.getfield 19, 3) := by decide +kernel
theorem dX7_addAction_81 : decode cX7_addAction 81 = .ok (.iload_n 1, 1) := by decide +kernel
theorem dX7_addAction_82 : decode cX7_addAction 82 = .ok (.iaload, 1) := by decide +kernel
theorem dX7_addAction_83 : decode cX7_addAction 83 = .ok (.ireturn, 1) := by decide +kernel
set_option maxRecDepth 20000 in
theorem ggX7_turn_X7_isRule : GoodIn wsX7_turn wsX7_isRule := goodIn_r _ [9, 10, 11, 12, 13, 14, 15, 16, 17, 18, 19, 20, 21, 22, 23, 24, 25, 26, 27, 28] (by decide +kernel) (by decide +kernel)
set_option maxRecDepth 20000 in
theorem gX7_turn_X7_isRule : GoodIn wsX7_turn (wsV RX7 71 RX7 yX7_isRule wsX7_isRule) := goodIn_app (goodIn_of _ (by decide +kernel)) ggX7_turn_X7_isRule
theorem dX7_turn_0 : decode cX7_turn 0 = .ok (.aload_n 0, 1) := by decide +kernel
theorem dX7_turn_1 : decode cX7_turn 1 = .ok (.aload_n 0, 1) := by decide +kernel
theorem dX7_turn_2 : decode cX7_turn 2 = .ok (.iload_n 1, 1) := by decide +kernel
theorem dX7_turn_3 : decode cX7_turn 3 = .ok (.invokevirtual 71, 3) := by decide +kernel
theorem dX7_turn_6 : decode cX7_turn 6 = .ok (.ifCond .eq 7, 3) := by decide +kernel
theorem dX7_turn_9 : decode cX7_turn 9 = .ok (.iconst 0, 1) := by decide +kernel
theorem dX7_turn_10 : decode cX7_turn 10 = .ok (.goto 4, 3) := by decide +kernel
theorem dX7_turn_13 : decode cX7_turn 13 = .ok (.iconst 1, 1) := by decide +kernel
theorem dX7_turn_14 : decode cX7_turn 14 = .ok (.putfield 45, 3) := by decide +kernel
theorem dX7_turn_17 : decode cX7_turn 17 = .ok (.aload_n 0, 1) := by decide +kernel
theorem dX7_turn_18 : decode cX7_turn 18 = .ok (.getfield 45, 3) := by decide +kernel
theorem dX7_turn_21 : decode cX7_turn 21 = .ok (.ifCond .eq 5, 3) := by decide +kernel
theorem dX7_turn_24 : decode cX7_turn 24 = .ok (.iconst 0, 1) := by decide +kernel
theorem dX7_turn_25 : decode cX7_turn 25 = .ok (.ireturn, 1) := by decide +kernel
theorem dX7_turn_26 : decode cX7_turn 26 = .ok (.aload_n 0, 1) := by decide +kernel
theorem dX7_turn_27 : decode cX7_turn 27 = .ok (.getfield 25, 3) := by decide +kernel
theorem dX7_turn_30 : decode cX7_turn 30 = .ok (.iload_n 1, 1) := by decide +kernel
theorem dX7_turn_31 : decode cX7_turn 31 = .ok (.baload, 1) := by decide +kernel
theorem dX7_turn_32 : decode cX7_turn 32 = .ok (.istore_n 3, 1) := by decide +kernel
theorem dX7_turn_33 : decode cX7_turn 33 = .ok (.aload_n 0, 1) := by decide +kernel
theorem dX7_turn_34 : decode cX7_turn 34 = .ok (.getfield 25, 3) := by decide +kernel
theorem dX7_turn_37 : decode cX7_turn 37 = .ok (.iload_n 1, 1) := by decide +kernel
theorem dX7_turn_38 : decode cX7_turn 38 = .ok (.iload_n 2, 1) := by decide +kernel
theorem dX7_turn_39 : decode cX7_turn 39 = .ok (.bastore, 1) := by decide +kernel
theorem dX7_turn_40 : decode cX7_turn 40 = .ok (.iload_n 2, 1) := by decide +kernel
theorem dX7_turn_41 : decode cX7_turn 41 = .ok (.ifCond .ne 17, 3) := by decide +kernel
theorem dX7_turn_44 : decode cX7_turn 44 = .ok (.aload_n 0, 1) := by decide +kernel
theorem dX7_turn_45 : decode cX7_turn 45 = .ok (.dup, 1) := by decide +kernel
theorem dX7_turn_46 : decode cX7_turn 46 = .ok (.getfield 74, 3) := by decide +kernel
theorem dX7_turn_49 : decode cX7_turn 49 = .ok (.iconst 1, 1) := by decide +kernel
theorem dX7_turn_50 : decode cX7_turn 50 = .ok (.iload_n 1, 1) := by decide +kernel
theorem dX7_turn_51 : decode cX7_turn 51 = .ok (.ishl, 1) := by decide +kernel
theorem dX7_turn_52 : decode cX7_turn 52 = .ok (.iconst (-1), 1) := by decide +kernel
theorem dX7_turn_53 : decode cX7_turn 53 = .ok (.ixor, 1) := by decide +kernel
theorem dX7_turn_54 : decode cX7_turn 54 = .ok (.iand, 1) := by decide +kernel
theorem dX7_turn_55 : decode cX7_turn 55 = .ok (.putfield 74, 3) := by decide +kernel
theorem dX7_turn_58 : decode cX7_turn 58 = .ok (.aload_n 0, 1) := by decide +kernel
theorem dX7_turn_59 : decode cX7_turn 59 = .ok (.iconst 0, 1) := by decide +kernel
theorem dX7_turn_60 : decode cX7_turn 60 = .ok (.putfield 67, 3) := by decide +kernel
theorem dX7_turn_63 : decode cX7_turn 63 = .ok (.iload_n 3, 1) := by decide +kernel
theorem dX7_turn_64 : decode cX7_turn 64 = .ok (.ireturn, 1) := by decide +kernel
set_option maxRecDepth 20000 in
theorem ggX7_rank_X7_isRule : GoodIn wsX7_rank wsX7_isRule := goodIn_r _ [9, 3, 13, 14, 15, 16, 17, 18, 19, 20, 21, 22, 23, 24, 25, 26, 27, 28, 29, 30] (by decide +kernel) (by decide +kernel)
set_option maxRecDepth 20000 in
theorem gX7_rank_X7_isRule : GoodIn wsX7_rank (wsV RX7 71 RX7 yX7_isRule wsX7_isRule) := goodIn_app (goodIn_of _ (by decide +kernel)) ggX7_rank_X7_isRule
set_option maxRecDepth 20000 in
theorem ggX7_rank_X7_has : GoodIn wsX7_rank wsX7_has := goodIn_r _ [12] (by decide +kernel) (by decide +kernel)
set_option maxRecDepth 20000 in
theorem gX7_rank_X7_has : GoodIn wsX7_rank (va_wsS RX7 77 yX7_has wsX7_has) := goodIn_app (goodIn_of _ (by decide +kernel)) ggX7_rank_X7_has
theorem dX7_rank_0 : decode cX7_rank 0 = .ok (.aload_n 0, 1) := by decide +kernel
theorem dX7_rank_1 : decode cX7_rank 1 = .ok (.aload_n 0, 1) := by decide +kernel
theorem dX7_rank_2 : decode cX7_rank 2 = .ok (.iload_n 1, 1) := by decide +kernel
theorem dX7_rank_3 : decode cX7_rank 3 = .ok (.invokevirtual 71, 3) := by decide +kernel
theorem dX7_rank_6 : decode cX7_rank 6 = .ok (.ifCond .eq 11, 3) := by decide +kernel
theorem dX7_rank_9 : decode cX7_rank 9 = .ok (.aload_n 0, 1) := by decide +kernel
theorem dX7_rank_10 : decode cX7_rank 10 = .ok (.iload_n 2, 1) := by decide +kernel
theorem dX7_rank_11 : decode cX7_rank 11 = .ok (.invokevirtual 71, 3) := by decide +kernel
theorem dX7_rank_14 : decode cX7_rank 14 = .ok (.ifCond .ne 7, 3) := by decide +kernel
theorem dX7_rank_17 : decode cX7_rank 17 = .ok (.iconst 1, 1) := by decide +kernel
theorem dX7_rank_18 : decode cX7_rank 18 = .ok (.goto 26, 3) := by decide +kernel
theorem dX7_rank_21 : decode cX7_rank 21 = .ok (.iload_n 1, 1) := by decide +kernel
theorem dX7_rank_22 : decode cX7_rank 22 = .ok (.iload_n 2, 1) := by decide +kernel
theorem dX7_rank_23 : decode cX7_rank 23 = .ok (.if_icmp .eq 16, 3) := by decide +kernel
theorem dX7_rank_26 : decode cX7_rank 26 = .ok (.aload_n 0, 1) := by decide +kernel
theorem dX7_rank_27 : decode cX7_rank 27 = .ok (.getfield 29, 3) := by decide +kernel
theorem dX7_rank_30 : decode cX7_rank 30 = .ok (.iload_n 2, 1) := by decide +kernel
theorem dX7_rank_31 : decode cX7_rank 31 = .ok (.iaload, 1) := by decide +kernel
theorem dX7_rank_32 : decode cX7_rank 32 = .ok (.iload_n 1, 1) := by decide +kernel
theorem dX7_rank_33 : decode cX7_rank 33 = .ok (.invokestatic 77, 3) := by decide +kernel
theorem dX7_rank_36 : decode cX7_rank 36 = .ok (.ifCond .eq 7, 3) := by decide +kernel
theorem dX7_rank_39 : decode cX7_rank 39 = .ok (.iconst 2, 1) := by decide +kernel
theorem dX7_rank_40 : decode cX7_rank 40 = .ok (.goto 4, 3) := by decide +kernel
theorem dX7_rank_43 : decode cX7_rank 43 = .ok (.iconst 0, 1) := by decide +kernel
theorem dX7_rank_44 : decode cX7_rank 44 = .ok (.putfield 45, 3) := by decide +kernel
theorem dX7_rank_47 : decode cX7_rank 47 = .ok (.aload_n 0, 1) := by decide +kernel
theorem dX7_rank_48 : decode cX7_rank 48 = .ok (.getfield 45, 3) := by decide +kernel
theorem dX7_rank_51 : decode cX7_rank 51 = .ok (.ifCond .eq 5, 3) := by decide +kernel
theorem dX7_rank_54 : decode cX7_rank 54 = .ok (.iconst 0, 1) := by decide +kernel
theorem dX7_rank_55 : decode cX7_rank 55 = .ok (.ireturn, 1) := by decide +kernel
theorem dX7_rank_56 : decode cX7_rank 56 = .ok (.aload_n 0, 1) := by decide +kernel
theorem dX7_rank_57 : decode cX7_rank 57 = .ok (.getfield 29, 3) := by decide +kernel
theorem dX7_rank_60 : decode cX7_rank 60 = .ok (.iload_n 1, 1) := by decide +kernel
theorem dX7_rank_61 : decode cX7_rank 61 = .ok (.iaload, 1) := by decide +kernel
theorem dX7_rank_62 : decode cX7_rank 62 = .ok (.iload_n 2, 1) := by decide +kernel
theorem dX7_rank_63 : decode cX7_rank 63 = .ok (.invokestatic 77, 3) := by decide +kernel
theorem dX7_rank_66 : decode cX7_rank 66 = .ok (.ifCond .ne 7, 3) := by decide +kernel
theorem dX7_rank_69 : decode cX7_rank 69 = .ok (.iconst 1, 1) := by decide +kernel
theorem dX7_rank_70 : decode cX7_rank 70 = .ok (.goto 4, 3) := by decide +kernel
theorem dX7_rank_73 : decode cX7_rank 73 = .ok (.iconst 0, 1) := by decide +kernel
theorem dX7_rank_74 : decode cX7_rank 74 = .ok (.istore_n 3, 1) := by decide +kernel
theorem dX7_rank_75 : decode cX7_rank 75 = .ok (.aload_n 0, 1) := by decide +kernel
theorem dX7_rank_76 : decode cX7_rank 76 = .ok (.getfield 29, 3) := by decide +kernel
theorem dX7_rank_79 : decode cX7_rank 79 = .ok (.iload_n 2, 1) := by decide +kernel
theorem dX7_rank_80 : decode cX7_rank 80 = .ok (.iaload, 1) := by decide +kernel
theorem dX7_rank_81 : decode cX7_rank 81 = .ok (.iconst 1, 1) := by decide +kernel
theorem dX7_rank_82 : decode cX7_rank 82 = .ok (.iload_n 2, 1) := by decide +kernel
theorem dX7_rank_83 : decode cX7_rank 83 = .ok (.ishl, 1) := by decide +kernel
theorem dX7_rank_84 : decode cX7_rank 84 = .ok (.ior, 1) := by decide +kernel
theorem dX7_rank_85 : decode cX7_rank 85 = .ok (.istore 4, 2) := by decide +kernel
theorem dX7_rank_87 : decode cX7_rank 87 = .ok (.iconst 0, 1) := by decide +kernel
theorem dX7_rank_88 : decode cX7_rank 88 = .ok (.istore 5, 2) := by decide +kernel
theorem dX7_rank_90 : decode cX7_rank 90 = .ok (.iload 5, 2) := by decide +kernel
theorem dX7_rank_92 : decode cX7_rank 92 = .ok (.aload_n 0, 1) := by decide +kernel
theorem dX7_rank_93 : decode cX7_rank 93 = .ok (.getfield 49, 3) := by decide +kernel
theorem dX7_rank_96 : decode cX7_rank 96 = .ok (.if_icmp .ge 41, 3) := by decide +kernel
theorem dX7_rank_99 : decode cX7_rank 99 = .ok (.iload 5, 2) := by decide +kernel
theorem dX7_rank_101 : decode cX7_rank 101 = .ok (.iload_n 1, 1) := by decide +kernel
theorem dX7_rank_102 : decode cX7_rank 102 = .ok (.if_icmp .eq 17, 3) := by decide +kernel
theorem dX7_rank_105 : decode cX7_rank 105 = .ok (.aload_n 0, 1) := by decide +kernel
theorem dX7_rank_106 : decode cX7_rank 106 = .ok (.getfield 29, 3) := by decide +kernel
theorem dX7_rank_109 : decode cX7_rank 109 = .ok (.iload 5, 2) := by decide +kernel
theorem dX7_rank_111 : decode cX7_rank 111 = .ok (.iaload, 1) := by decide +kernel
theorem dX7_rank_112 : decode cX7_rank 112 = .ok (.iload_n 1, 1) := by decide +kernel
theorem dX7_rank_113 : decode cX7_rank 113 = .ok (.invokestatic 77, 3) := by decide +kernel
theorem dX7_rank_116 : decode cX7_rank 116 = .ok (.ifCond .eq 15, 3) := by decide +kernel
theorem dX7_rank_119 : decode cX7_rank 119 = .ok (.aload_n 0, 1) := by decide +kernel
theorem dX7_rank_120 : decode cX7_rank 120 = .ok (.getfield 29, 3) := by decide +kernel
theorem dX7_rank_123 : decode cX7_rank 123 = .ok (.iload 5, 2) := by decide +kernel
theorem dX7_rank_125 : decode cX7_rank 125 = .ok (.dup2, 1) := by decide +kernel
theorem dX7_rank_126 : decode cX7_rank 126 = .ok (.iaload, 1) := by decide +kernel
theorem dX7_rank_127 : decode cX7_rank 127 = .ok (.iload 4, 2) := by decide +kernel
theorem dX7_rank_129 : decode cX7_rank 129 = .ok (.ior, 1) := by decide +kernel
theorem dX7_rank_130 : decode cX7_rank 130 = .ok (.iastore, 1) := by decide +kernel
theorem dX7_rank_131 : decode cX7_rank 131 = .ok (.iinc 5 1, 3) := by decide +kernel
theorem dX7_rank_134 : decode cX7_rank 134 = .ok (.goto (-44), 3) := by decide +kernel
theorem dX7_rank_137 : decode cX7_rank 137 = .ok (.aload_n 0, 1) := by decide +kernel
theorem dX7_rank_138 : decode cX7_rank 138 = .ok (.iconst 0, 1) := by decide +kernel
theorem dX7_rank_139 : decode cX7_rank 139 = .ok (.putfield 67, 3) := by decide +kernel
theorem dX7_rank_142 : decode cX7_rank 142 = .ok (.iload_n 3, 1) := by decide +kernel
theorem dX7_rank_143 : decode cX7_rank 143 = .ok (.ireturn, 1) := by decide +kernel
set_option maxRecDepth 20000 in
theorem ggX7_isAbove_X7_isRule : GoodIn wsX7_isAbove wsX7_isRule := goodIn_r _ [7, 8, 12, 13, 14, 15, 16, 17, 18, 19, 20, 21, 22, 23, 24, 25, 26, 27, 28, 29] (by decide +kernel) (by decide +kernel)
set_option maxRecDepth 20000 in
theorem gX7_isAbove_X7_isRule : GoodIn wsX7_isAbove (wsV RX7 71 RX7 yX7_isRule wsX7_isRule) := goodIn_app (goodIn_of _ (by decide +kernel)) ggX7_isAbove_X7_isRule
set_option maxRecDepth 20000 in
theorem ggX7_isAbove_X7_has : GoodIn wsX7_isAbove wsX7_has := goodIn_r _ [11] (by decide +kernel) (by decide +kernel)
set_option maxRecDepth 20000 in
theorem gX7_isAbove_X7_has : GoodIn wsX7_isAbove (va_wsS RX7 77 yX7_has wsX7_has) := goodIn_app (goodIn_of _ (by decide +kernel)) ggX7_isAbove_X7_has
theorem dX7_isAbove_0 : decode cX7_isAbove 0 = .ok (.aload_n 0, 1) := by decide +kernel
theorem dX7_isAbove_1 : decode cX7_isAbove 1 = .ok (.aload_n 0, 1) := by decide +kernel
theorem dX7_isAbove_2 : decode cX7_isAbove 2 = .ok (.iload_n 1, 1) := by decide +kernel
theorem dX7_isAbove_3 : decode cX7_isAbove 3 = .ok (.invokevirtual 71, 3) := by decide +kernel
theorem dX7_isAbove_6 : decode cX7_isAbove 6 = .ok (.ifCond .eq 15, 3) := by decide +kernel
theorem dX7_isAbove_9 : decode cX7_isAbove 9 = .ok (.aload_n 0, 1) := by decide +kernel
theorem dX7_isAbove_10 : decode cX7_isAbove 10 = .ok (.iload_n 2, 1) := by decide +kernel
theorem dX7_isAbove_11 : decode cX7_isAbove 11 = .ok (.invokevirtual 71, 3) := by decide +kernel
theorem dX7_isAbove_14 : decode cX7_isAbove 14 = .ok (.ifCond .eq 7, 3) := by decide +kernel
theorem dX7_isAbove_17 : decode cX7_isAbove 17 = .ok (.iconst 0, 1) := by decide +kernel
theorem dX7_isAbove_18 : decode cX7_isAbove 18 = .ok (.goto 4, 3) := by decide +kernel
theorem dX7_isAbove_21 : decode cX7_isAbove 21 = .ok (.iconst 1, 1) := by decide +kernel
theorem dX7_isAbove_22 : decode cX7_isAbove 22 = .ok (.putfield 45, 3) := by decide +kernel
theorem dX7_isAbove_25 : decode cX7_isAbove 25 = .ok (.aload_n 0, 1) := by decide +kernel
theorem dX7_isAbove_26 : decode cX7_isAbove 26 = .ok (.getfield 45, 3) := by decide +kernel
theorem dX7_isAbove_29 : decode cX7_isAbove 29 = .ok (.ifCond .ne 20, 3) := by decide +kernel
theorem dX7_isAbove_32 : decode cX7_isAbove 32 = .ok (.aload_n 0, 1) := by decide +kernel
theorem dX7_isAbove_33 : decode cX7_isAbove 33 = .ok (.getfield 29, 3) := by decide +kernel
theorem dX7_isAbove_36 : decode cX7_isAbove 36 = .ok (.iload_n 1, 1) := by decide +kernel
theorem dX7_isAbove_37 : decode cX7_isAbove 37 = .ok (.iaload, 1) := by decide +kernel
theorem dX7_isAbove_38 : decode cX7_isAbove 38 = .ok (.iload_n 2, 1) := by decide +kernel
theorem dX7_isAbove_39 : decode cX7_isAbove 39 = .ok (.invokestatic 77, 3) := by decide +kernel
theorem dX7_isAbove_42 : decode cX7_isAbove 42 = .ok (.ifCond .eq 7, 3) := by decide +kernel
theorem dX7_isAbove_45 : decode cX7_isAbove 45 = .ok (.iconst 1, 1) := by decide +kernel
theorem dX7_isAbove_46 : decode cX7_isAbove 46 = .ok (.goto 4, 3) := by decide +kernel
theorem dX7_isAbove_49 : decode cX7_isAbove 49 = .ok (.iconst 0, 1) := by decide +kernel
theorem dX7_isAbove_50 : decode cX7_isAbove 50 = .ok (.ireturn, 1) := by decide +kernel
theorem dX7_ruleCount_0 : decode cX7_ruleCount 0 = .ok (.aload_n 0, 1) := by decide +kernel
theorem dX7_ruleCount_1 : decode cX7_ruleCount 1 = .ok (.iconst 0, 1) := by decide +kernel
theorem dX7_ruleCount_2 : decode cX7_ruleCount 2 = .ok (.putfield 45, 3) := by decide +kernel
theorem dX7_ruleCount_5 : decode cX7_ruleCount 5 = .ok (.aload_n 0, 1) := by decide +kernel
theorem dX7_ruleCount_6 : decode cX7_ruleCount 6 = .ok (.getfield 49, 3) := by decide +kernel
theorem dX7_ruleCount_9 : decode cX7_ruleCount 9 = .ok (.ireturn, 1) := by decide +kernel
theorem dX7_behind_0 : decode cX7_behind 0 = .ok (.sipush 256, 3) := by decide +kernel
theorem dX7_behind_3 : decode cX7_behind 3 = .ok (.iload_n 2, 1) := by decide +kernel
theorem dX7_behind_4 : decode cX7_behind 4 = .ok (.iconst 2, 1) := by decide +kernel
theorem dX7_behind_5 : decode cX7_behind 5 = .ok (.idiv, 1) := by decide +kernel
theorem dX7_behind_6 : decode cX7_behind 6 = .ok (.ishl, 1) := by decide +kernel
theorem dX7_behind_7 : decode cX7_behind 7 = .ok (.istore_n 3, 1) := by decide +kernel
theorem dX7_behind_8 : decode cX7_behind 8 = .ok (.iload_n 2, 1) := by decide +kernel
theorem dX7_behind_9 : decode cX7_behind 9 = .ok (.iconst 2, 1) := by decide +kernel
theorem dX7_behind_10 : decode cX7_behind 10 = .ok (.irem, 1) := by decide +kernel
theorem dX7_behind_11 : decode cX7_behind 11 = .ok (.iconst 1, 1) := by decide +kernel
theorem dX7_behind_12 : decode cX7_behind 12 = .ok (.if_icmp .ne 7, 3) := by decide +kernel
theorem dX7_behind_15 : decode cX7_behind 15 = .ok (.iconst 1, 1) := by decide +kernel
theorem dX7_behind_16 : decode cX7_behind 16 = .ok (.goto 4, 3) := by decide +kernel
theorem dX7_behind_19 : decode cX7_behind 19 = .ok (.iconst 0, 1) := by decide +kernel
theorem dX7_behind_20 : decode cX7_behind 20 = .ok (.istore 4, 2) := by decide +kernel
theorem dX7_behind_22 : decode cX7_behind 22 = .ok (.iload_n 1, 1) := by decide +kernel
theorem dX7_behind_23 : decode cX7_behind 23 = .ok (.iload_n 3, 1) := by decide +kernel
theorem dX7_behind_24 : decode cX7_behind 24 = .ok (.iand, 1) := by decide +kernel
theorem dX7_behind_25 : decode cX7_behind 25 = .ok (.ifCond .eq 7, 3) := by decide +kernel
theorem dX7_behind_28 : decode cX7_behind 28 = .ok (.iconst 1, 1) := by decide +kernel
theorem dX7_behind_29 : decode cX7_behind 29 = .ok (.goto 4, 3) := by decide +kernel
theorem dX7_behind_32 : decode cX7_behind 32 = .ok (.iconst 0, 1) := by decide +kernel
theorem dX7_behind_33 : decode cX7_behind 33 = .ok (.iload 4, 2) := by decide +kernel
theorem dX7_behind_35 : decode cX7_behind 35 = .ok (.if_icmp .ne 5, 3) := by decide +kernel
theorem dX7_behind_38 : decode cX7_behind 38 = .ok (.iload_n 1, 1) := by decide +kernel
theorem dX7_behind_39 : decode cX7_behind 39 = .ok (.ireturn, 1) := by decide +kernel
theorem dX7_behind_40 : decode cX7_behind 40 = .ok (.iload_n 1, 1) := by decide +kernel
theorem dX7_behind_41 : decode cX7_behind 41 = .ok (.iload_n 3, 1) := by decide +kernel
theorem dX7_behind_42 : decode cX7_behind 42 = .ok (.ixor, 1) := by decide +kernel
theorem dX7_behind_43 : decode cX7_behind 43 = .ok (.istore 5, 2) := by decide +kernel
theorem dX7_behind_45 : decode cX7_behind 45 = .ok (.iconst 0, 1) := by decide +kernel
theorem dX7_behind_46 : decode cX7_behind 46 = .ok (.istore 6, 2) := by decide +kernel
theorem dX7_behind_48 : decode cX7_behind 48 = .ok (.iload 6, 2) := by decide +kernel
theorem dX7_behind_50 : decode cX7_behind 50 = .ok (.aload_n 0, 1) := by decide +kernel
theorem dX7_behind_51 : decode cX7_behind 51 = .ok (.getfield 49, 3) := by decide +kernel
theorem dX7_behind_54 : decode cX7_behind 54 = .ok (.if_icmp .ge 39, 3) := by decide +kernel
theorem dX7_behind_57 : decode cX7_behind 57 = .ok (.aload_n 0, 1) := by decide +kernel
theorem dX7_behind_58 : decode cX7_behind 58 = .ok (.getfield 25, 3) := by decide +kernel
theorem dX7_behind_61 : decode cX7_behind 61 = .ok (.iload 6, 2) := by decide +kernel
theorem dX7_behind_63 : decode cX7_behind 63 = .ok (.baload, 1) := by decide +kernel
theorem dX7_behind_64 : decode cX7_behind 64 = .ok (.ifCond .eq 23, 3) := by decide +kernel
theorem dX7_behind_67 : decode cX7_behind 67 = .ok (.aload_n 0, 1) := by decide +kernel
theorem dX7_behind_68 : decode cX7_behind 68 = .ok (.getfield 9, 3) := by decide +kernel
theorem dX7_behind_71 : decode cX7_behind 71 = .ok (.iload 6, 2) := by decide +kernel
theorem dX7_behind_73 : decode cX7_behind 73 = .ok (.iaload, 1) := by decide +kernel
theorem dX7_behind_74 : decode cX7_behind 74 = .ok (.iload_n 2, 1) := by decide +kernel
theorem dX7_behind_75 : decode cX7_behind 75 = .ok (.if_icmp .ne 12, 3) := by decide +kernel
theorem dX7_behind_78 : decode cX7_behind 78 = .ok (.iload 5, 2) := by decide +kernel
theorem dX7_behind_80 : decode cX7_behind 80 = .ok (.iconst 1, 1) := by decide +kernel
theorem dX7_behind_81 : decode cX7_behind 81 = .ok (.iload 6, 2) := by decide +kernel
theorem dX7_behind_83 : decode cX7_behind 83 = .ok (.ishl, 1) := by decide +kernel
theorem dX7_behind_84 : decode cX7_behind 84 = .ok (.ior, 1) := by decide +kernel
theorem dX7_behind_85 : decode cX7_behind 85 = .ok (.istore 5, 2) := by decide +kernel
theorem dX7_behind_87 : decode cX7_behind 87 = .ok (.iinc 6 1, 3) := by decide +kernel
theorem dX7_behind_90 : decode cX7_behind 90 = .ok (.goto (-42), 3) := by decide +kernel
theorem dX7_behind_93 : decode cX7_behind 93 = .ok (.iload 5, 2) := by decide +kernel
theorem dX7_behind_95 : decode cX7_behind 95 = .ok (.ireturn, 1) := by decide +kernel
theorem dX7_triggeredIn_0 : decode cX7_triggeredIn 0 = .ok (.iload_n 0, 1) := by decide +kernel
theorem dX7_triggeredIn_1 : decode cX7_triggeredIn 1 = .ok (.sipush 255, 3) := by decide +kernel
theorem dX7_triggeredIn_4 : decode cX7_triggeredIn 4 = .ok (.iand, 1) := by decide +kernel
theorem dX7_triggeredIn_5 : decode cX7_triggeredIn 5 = .ok (.ireturn, 1) := by decide +kernel
set_option maxRecDepth 20000 in
theorem ggX7_readyIn_X7_triggeredIn : GoodIn wsX7_readyIn wsX7_triggeredIn := goodIn_r _ [6] (by decide +kernel) (by decide +kernel)
set_option maxRecDepth 20000 in
theorem gX7_readyIn_X7_triggeredIn : GoodIn wsX7_readyIn (va_wsS RX7 81 yX7_triggeredIn wsX7_triggeredIn) := goodIn_app (goodIn_of _ (by decide +kernel)) ggX7_readyIn_X7_triggeredIn
set_option maxRecDepth 20000 in
theorem ggX7_readyIn_X7_has : GoodIn wsX7_readyIn wsX7_has := goodIn_r _ [9] (by decide +kernel) (by decide +kernel)
set_option maxRecDepth 20000 in
theorem gX7_readyIn_X7_has : GoodIn wsX7_readyIn (va_wsS RX7 77 yX7_has wsX7_has) := goodIn_app (goodIn_of _ (by decide +kernel)) ggX7_readyIn_X7_has
theorem dX7_readyIn_0 : decode cX7_readyIn 0 = .ok (.iload_n 1, 1) := by decide +kernel
theorem dX7_readyIn_1 : decode cX7_readyIn 1 = .ok (.invokestatic 81, 3) := by decide +kernel
theorem dX7_readyIn_4 : decode cX7_readyIn 4 = .ok (.istore_n 2, 1) := by decide +kernel
theorem dX7_readyIn_5 : decode cX7_readyIn 5 = .ok (.iload_n 2, 1) := by decide +kernel
theorem dX7_readyIn_6 : decode cX7_readyIn 6 = .ok (.istore_n 3, 1) := by decide +kernel
theorem dX7_readyIn_7 : decode cX7_readyIn 7 = .ok (.iconst 0, 1) := by decide +kernel
theorem dX7_readyIn_8 : decode cX7_readyIn 8 = .ok (.istore 4, 2) := by decide +kernel
theorem dX7_readyIn_10 : decode cX7_readyIn 10 = .ok (.iload 4, 2) := by decide +kernel
theorem dX7_readyIn_12 : decode cX7_readyIn 12 = .ok (.aload_n 0, 1) := by decide +kernel
theorem dX7_readyIn_13 : decode cX7_readyIn 13 = .ok (.getfield 49, 3) := by decide +kernel
theorem dX7_readyIn_16 : decode cX7_readyIn 16 = .ok (.if_icmp .ge 30, 3) := by decide +kernel
theorem dX7_readyIn_19 : decode cX7_readyIn 19 = .ok (.iload_n 2, 1) := by decide +kernel
theorem dX7_readyIn_20 : decode cX7_readyIn 20 = .ok (.iload 4, 2) := by decide +kernel
theorem dX7_readyIn_22 : decode cX7_readyIn 22 = .ok (.invokestatic 77, 3) := by decide +kernel
theorem dX7_readyIn_25 : decode cX7_readyIn 25 = .ok (.ifCond .eq 15, 3) := by decide +kernel
theorem dX7_readyIn_28 : decode cX7_readyIn 28 = .ok (.iload_n 3, 1) := by decide +kernel
theorem dX7_readyIn_29 : decode cX7_readyIn 29 = .ok (.aload_n 0, 1) := by decide +kernel
theorem dX7_readyIn_30 : decode cX7_readyIn 30 = .ok (.getfield 29, 3) := by decide +kernel
theorem dX7_readyIn_33 : decode cX7_readyIn 33 = .ok (.iload 4, 2) := by decide +kernel
theorem dX7_readyIn_35 : decode cX7_readyIn 35 = .ok (.iaload, 1) := by decide +kernel
theorem dX7_readyIn_36 : decode cX7_readyIn 36 = .ok (.iconst (-1), 1) := by decide +kernel
theorem dX7_readyIn_37 : decode cX7_readyIn 37 = .ok (.ixor, 1) := by decide +kernel
theorem dX7_readyIn_38 : decode cX7_readyIn 38 = .ok (.iand, 1) := by decide +kernel
theorem dX7_readyIn_39 : decode cX7_readyIn 39 = .ok (.istore_n 3, 1) := by decide +kernel
theorem dX7_readyIn_40 : decode cX7_readyIn 40 = .ok (.iinc 4 1, 3) := by decide +kernel
theorem dX7_readyIn_43 : decode cX7_readyIn 43 = .ok (.goto (-33), 3) := by decide +kernel
theorem dX7_readyIn_46 : decode cX7_readyIn 46 = .ok (.iload_n 3, 1) := by decide +kernel
theorem dX7_readyIn_47 : decode cX7_readyIn 47 = .ok (.ireturn, 1) := by decide +kernel
theorem dX7_isTrue_0 : decode cX7_isTrue 0 = .ok (.iload_n 2, 1) := by decide +kernel
theorem dX7_isTrue_1 : decode cX7_isTrue 1 = .ok (.bipush 8, 2) := by decide +kernel
theorem dX7_isTrue_3 : decode cX7_isTrue 3 = .ok (.ishr, 1) := by decide +kernel
theorem dX7_isTrue_4 : decode cX7_isTrue 4 = .ok (.istore_n 3, 1) := by decide +kernel
theorem dX7_isTrue_5 : decode cX7_isTrue 5 = .ok (.aload_n 0, 1) := by decide +kernel
theorem dX7_isTrue_6 : decode cX7_isTrue 6 = .ok (.getfield 13, 3) := by decide +kernel
theorem dX7_isTrue_9 : decode cX7_isTrue 9 = .ok (.iload_n 1, 1) := by decide +kernel
theorem dX7_isTrue_10 : decode cX7_isTrue 10 = .ok (.iaload, 1) := by decide +kernel
theorem dX7_isTrue_11 : decode cX7_isTrue 11 = .ok (.iload_n 3, 1) := by decide +kernel
theorem dX7_isTrue_12 : decode cX7_isTrue 12 = .ok (.iconst (-1), 1) := by decide +kernel
theorem dX7_isTrue_13 : decode cX7_isTrue 13 = .ok (.ixor, 1) := by decide +kernel
theorem dX7_isTrue_14 : decode cX7_isTrue 14 = .ok (.iand, 1) := by decide +kernel
theorem dX7_isTrue_15 : decode cX7_isTrue 15 = .ok (.ifCond .ne 18, 3) := by decide +kernel
theorem dX7_isTrue_18 : decode cX7_isTrue 18 = .ok (.aload_n 0, 1) := by decide +kernel
theorem dX7_isTrue_19 : decode cX7_isTrue 19 = .ok (.getfield 16, 3) := by decide +kernel
theorem dX7_isTrue_22 : decode cX7_isTrue 22 = .ok (.iload_n 1, 1) := by decide +kernel
theorem dX7_isTrue_23 : decode cX7_isTrue 23 = .ok (.iaload, 1) := by decide +kernel
theorem dX7_isTrue_24 : decode cX7_isTrue 24 = .ok (.iload_n 3, 1) := by decide +kernel
theorem dX7_isTrue_25 : decode cX7_isTrue 25 = .ok (.iand, 1) := by decide +kernel
theorem dX7_isTrue_26 : decode cX7_isTrue 26 = .ok (.ifCond .ne 7, 3) := by decide +kernel
theorem dX7_isTrue_29 : decode cX7_isTrue 29 = .ok (.iconst 1, 1) := by decide +kernel
theorem dX7_isTrue_30 : decode cX7_isTrue 30 = .ok (.goto 4, 3) := by decide +kernel
theorem dX7_isTrue_33 : decode cX7_isTrue 33 = .ok (.iconst 0, 1) := by decide +kernel
theorem dX7_isTrue_34 : decode cX7_isTrue 34 = .ok (.ireturn, 1) := by decide +kernel
set_option maxRecDepth 20000 in
theorem ggX7_playIn_X7_isTrue : GoodIn wsX7_playIn wsX7_isTrue := goodIn_r _ [7, 8, 9, 17, 18, 19, 20, 21, 22, 23, 24, 25, 26, 27, 28, 29, 30, 31, 32, 33, 34] (by decide +kernel) (by decide +kernel)
set_option maxRecDepth 20000 in
theorem gX7_playIn_X7_isTrue : GoodIn wsX7_playIn (wsV RX7 84 RX7 yX7_isTrue wsX7_isTrue) := goodIn_app (goodIn_of _ (by decide +kernel)) ggX7_playIn_X7_isTrue
set_option maxRecDepth 20000 in
theorem ggX7_playIn_X7_behind : GoodIn wsX7_playIn wsX7_behind := goodIn_r _ [13, 14, 15, 16, 17, 18, 19, 20, 21, 22, 23, 24, 25, 26, 27, 28, 29, 30, 31, 32, 33, 34] (by decide +kernel) (by decide +kernel)
set_option maxRecDepth 20000 in
theorem gX7_playIn_X7_behind : GoodIn wsX7_playIn (wsV RX7 87 RX7 yX7_behind wsX7_behind) := goodIn_app (goodIn_of _ (by decide +kernel)) ggX7_playIn_X7_behind
theorem dX7_playIn_0 : decode cX7_playIn 0 = .ok (.iload_n 1, 1) := by decide +kernel
theorem dX7_playIn_1 : decode cX7_playIn 1 = .ok (.iconst 1, 1) := by decide +kernel
theorem dX7_playIn_2 : decode cX7_playIn 2 = .ok (.iload_n 2, 1) := by decide +kernel
theorem dX7_playIn_3 : decode cX7_playIn 3 = .ok (.ishl, 1) := by decide +kernel
theorem dX7_playIn_4 : decode cX7_playIn 4 = .ok (.iconst (-1), 1) := by decide +kernel
theorem dX7_playIn_5 : decode cX7_playIn 5 = .ok (.ixor, 1) := by decide +kernel
theorem dX7_playIn_6 : decode cX7_playIn 6 = .ok (.iand, 1) := by decide +kernel
theorem dX7_playIn_7 : decode cX7_playIn 7 = .ok (.istore_n 3, 1) := by decide +kernel
theorem dX7_playIn_8 : decode cX7_playIn 8 = .ok (.aload_n 0, 1) := by decide +kernel
theorem dX7_playIn_9 : decode cX7_playIn 9 = .ok (.iload_n 2, 1) := by decide +kernel
theorem dX7_playIn_10 : decode cX7_playIn 10 = .ok (.iload_n 1, 1) := by decide +kernel
theorem dX7_playIn_11 : decode cX7_playIn 11 = .ok (.invokevirtual 84, 3) := by decide +kernel
theorem dX7_playIn_14 : decode cX7_playIn 14 = .ok (.ifCond .ne 5, 3) := by decide +kernel
theorem dX7_playIn_17 : decode cX7_playIn 17 = .ok (.iload_n 3, 1) := by decide +kernel
theorem dX7_playIn_18 : decode cX7_playIn 18 = .ok (.ireturn, 1) := by decide +kernel
theorem dX7_playIn_19 : decode cX7_playIn 19 = .ok (.iconst 0, 1) := by decide +kernel
theorem dX7_playIn_20 : decode cX7_playIn 20 = .ok (.istore 4, 2) := by decide +kernel
theorem dX7_playIn_22 : decode cX7_playIn 22 = .ok (.iload 4, 2) := by decide +kernel
theorem dX7_playIn_24 : decode cX7_playIn 24 = .ok (.aload_n 0, 1) := by decide +kernel
theorem dX7_playIn_25 : decode cX7_playIn 25 = .ok (.getfield 19, 3) := by decide +kernel
theorem dX7_playIn_28 : decode cX7_playIn 28 = .ok (.iload_n 2, 1) := by decide +kernel
theorem dX7_playIn_29 : decode cX7_playIn 29 = .ok (.iaload, 1) := by decide +kernel
theorem dX7_playIn_30 : decode cX7_playIn 30 = .ok (.if_icmp .ge 26, 3) := by decide +kernel
theorem dX7_playIn_33 : decode cX7_playIn 33 = .ok (.aload_n 0, 1) := by decide +kernel
theorem dX7_playIn_34 : decode cX7_playIn 34 = .ok (.iload_n 3, 1) := by decide +kernel
theorem dX7_playIn_35 : decode cX7_playIn 35 = .ok (.aload_n 0, 1) := by decide +kernel
theorem dX7_playIn_36 : decode cX7_playIn 36 = .ok (.getfield 22, 3) := by decide +kernel
theorem dX7_playIn_39 : decode cX7_playIn 39 = .ok (.iconst 4, 1) := by decide +kernel
theorem dX7_playIn_40 : decode cX7_playIn 40 = .ok (.iload_n 2, 1) := by decide +kernel
theorem dX7_playIn_41 : decode cX7_playIn 41 = .ok (.imul, 1) := by decide +kernel
theorem dX7_playIn_42 : decode cX7_playIn 42 = .ok (.iload 4, 2) := by decide +kernel
theorem dX7_playIn_44 : decode cX7_playIn 44 = .ok (.iadd, 1) := by decide +kernel
theorem dX7_playIn_45 : decode cX7_playIn 45 = .ok (.iaload, 1) := by decide +kernel
theorem dX7_playIn_46 : decode cX7_playIn 46 = .ok (.invokevirtual 87, 3) := by decide +kernel
theorem dX7_playIn_49 : decode cX7_playIn 49 = .ok (.istore_n 3, 1) := by decide +kernel
theorem dX7_playIn_50 : decode cX7_playIn 50 = .ok (.iinc 4 1, 3) := by decide +kernel
theorem dX7_playIn_53 : decode cX7_playIn 53 = .ok (.goto (-31), 3) := by decide +kernel
theorem dX7_playIn_56 : decode cX7_playIn 56 = .ok (.iload_n 3, 1) := by decide +kernel
theorem dX7_playIn_57 : decode cX7_playIn 57 = .ok (.ireturn, 1) := by decide +kernel
theorem dX7_now_0 : decode cX7_now 0 = .ok (.sipush 256, 3) := by decide +kernel
theorem dX7_now_3 : decode cX7_now 3 = .ok (.aload_n 0, 1) := by decide +kernel
theorem dX7_now_4 : decode cX7_now 4 = .ok (.getfield 91, 3) := by decide +kernel
theorem dX7_now_7 : decode cX7_now 7 = .ok (.imul, 1) := by decide +kernel
theorem dX7_now_8 : decode cX7_now 8 = .ok (.aload_n 0, 1) := by decide +kernel
theorem dX7_now_9 : decode cX7_now 9 = .ok (.getfield 74, 3) := by decide +kernel
theorem dX7_now_12 : decode cX7_now 12 = .ok (.iadd, 1) := by decide +kernel
theorem dX7_now_13 : decode cX7_now 13 = .ok (.ireturn, 1) := by decide +kernel
set_option maxRecDepth 20000 in
theorem ggX7_become_X7_triggeredIn : GoodIn wsX7_become wsX7_triggeredIn := goodIn_r _ [6] (by decide +kernel) (by decide +kernel)
set_option maxRecDepth 20000 in
theorem gX7_become_X7_triggeredIn : GoodIn wsX7_become (va_wsS RX7 81 yX7_triggeredIn wsX7_triggeredIn) := goodIn_app (goodIn_of _ (by decide +kernel)) ggX7_become_X7_triggeredIn
theorem dX7_become_0 : decode cX7_become 0 = .ok (.aload_n 0, 1) := by decide +kernel
theorem dX7_become_1 : decode cX7_become 1 = .ok (.iload_n 1, 1) := by decide +kernel
theorem dX7_become_2 : decode cX7_become 2 = .ok (.bipush 8, 2) := by decide +kernel
theorem dX7_become_4 : decode cX7_become 4 = .ok (.ishr, 1) := by decide +kernel
theorem dX7_become_5 : decode cX7_become 5 = .ok (.putfield 91, 3) := by decide +kernel
theorem dX7_become_8 : decode cX7_become 8 = .ok (.aload_n 0, 1) := by decide +kernel
theorem dX7_become_9 : decode cX7_become 9 = .ok (.iload_n 1, 1) := by decide +kernel
theorem dX7_become_10 : decode cX7_become 10 = .ok (.invokestatic 81, 3) := by decide +kernel
theorem dX7_become_13 : decode cX7_become 13 = .ok (.putfield 74, 3) := by decide +kernel
theorem dX7_become_16 : decode cX7_become 16 = .ok (.return_, 1) := by decide +kernel
set_option maxRecDepth 20000 in
theorem ggX7_put_X7_isSet : GoodIn wsX7_put wsX7_isSet := goodIn_r _ [8] (by decide +kernel) (by decide +kernel)
set_option maxRecDepth 20000 in
theorem gX7_put_X7_isSet : GoodIn wsX7_put (va_wsS RX7 60 yX7_isSet wsX7_isSet) := goodIn_app (goodIn_of _ (by decide +kernel)) ggX7_put_X7_isSet
set_option maxRecDepth 20000 in
theorem ggX7_put_X7_fail : GoodIn wsX7_put wsX7_fail := goodIn_r _ [12, 1, 13, 14, 15, 16, 17, 18, 19, 20, 21, 22, 23, 24, 25, 26, 27, 28, 29, 30] (by decide +kernel) (by decide +kernel)
set_option maxRecDepth 20000 in
theorem gX7_put_X7_fail : GoodIn wsX7_put (wsV RX7 56 RX7 yX7_fail wsX7_fail) := goodIn_app (goodIn_of _ (by decide +kernel)) ggX7_put_X7_fail
theorem dX7_put_0 : decode cX7_put 0 = .ok (.aload_n 0, 1) := by decide +kernel
theorem dX7_put_1 : decode cX7_put 1 = .ok (.iconst 0, 1) := by decide +kernel
theorem dX7_put_2 : decode cX7_put 2 = .ok (.putfield 45, 3) := by decide +kernel
theorem dX7_put_5 : decode cX7_put 5 = .ok (.iload_n 1, 1) := by decide +kernel
theorem dX7_put_6 : decode cX7_put 6 = .ok (.invokestatic 60, 3) := by decide +kernel
theorem dX7_put_9 : decode cX7_put 9 = .ok (.ifCond .ne 9, 3) := by decide +kernel
theorem dX7_put_12 : decode cX7_put 12 = .ok (.aload_n 0, 1) := by decide +kernel
theorem dX7_put_13 : decode cX7_put 13 = .ok (.iconst 1, 1) := by decide +kernel
theorem dX7_put_14 : decode cX7_put 14 = .ok (.invokevirtual 56, 3) := by decide +kernel
theorem dX7_put_17 : decode cX7_put 17 = .ok (.ireturn, 1) := by decide +kernel
theorem dX7_put_18 : decode cX7_put 18 = .ok (.aload_n 0, 1) := by decide +kernel
theorem dX7_put_19 : decode cX7_put 19 = .ok (.getfield 91, 3) := by decide +kernel
theorem dX7_put_22 : decode cX7_put 22 = .ok (.istore_n 2, 1) := by decide +kernel
theorem dX7_put_23 : decode cX7_put 23 = .ok (.aload_n 0, 1) := by decide +kernel
theorem dX7_put_24 : decode cX7_put 24 = .ok (.iload_n 1, 1) := by decide +kernel
theorem dX7_put_25 : decode cX7_put 25 = .ok (.putfield 91, 3) := by decide +kernel
theorem dX7_put_28 : decode cX7_put 28 = .ok (.aload_n 0, 1) := by decide +kernel
theorem dX7_put_29 : decode cX7_put 29 = .ok (.iconst 0, 1) := by decide +kernel
theorem dX7_put_30 : decode cX7_put 30 = .ok (.putfield 74, 3) := by decide +kernel
theorem dX7_put_33 : decode cX7_put 33 = .ok (.aload_n 0, 1) := by decide +kernel
theorem dX7_put_34 : decode cX7_put 34 = .ok (.iconst 0, 1) := by decide +kernel
theorem dX7_put_35 : decode cX7_put 35 = .ok (.putfield 67, 3) := by decide +kernel
theorem dX7_put_38 : decode cX7_put 38 = .ok (.iload_n 2, 1) := by decide +kernel
theorem dX7_put_39 : decode cX7_put 39 = .ok (.ireturn, 1) := by decide +kernel
set_option maxRecDepth 20000 in
theorem ggX7_change_X7_isFact : GoodIn wsX7_change wsX7_isFact := goodIn_r _ [7] (by decide +kernel) (by decide +kernel)
