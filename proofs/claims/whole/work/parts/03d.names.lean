theorem dX6_explore_25 : decode cX6_explore 25 = .ok (.invokevirtual 148, 3) := by decide +kernel
theorem dX6_explore_28 : decode cX6_explore 28 = .ok (.ireturn, 1) := by decide +kernel
set_option maxRecDepth 20000 in
theorem ggX6_factsOf_X6_exploredAt : GoodIn wsX6_factsOf wsX6_exploredAt := goodIn_ca (goodIn_ca (goodIn_r _ [5, 6, 7, 8, 9, 10, 11, 4, 12, 13, 14, 15, 16, 17, 18, 19, 20, 21, 22, 23, 24, 25, 26, 27, 31, 32, 33, 34, 35, 36, 37, 38, 39, 40, 41, 42, 43, 44, 45, 46] (by decide +kernel) (by decide +kernel)) (goodIn_sub (fun _ h => List.mem_cons_of_mem _ (List.mem_append_left _ (List.mem_append_right _ h))) (by decide +kernel))) (goodIn_sub (fun _ h => List.mem_cons_of_mem _ (List.mem_append_right _ h)) (by decide +kernel))
set_option maxRecDepth 20000 in
theorem gX6_factsOf_X6_exploredAt : GoodIn wsX6_factsOf (wsV RX6 151 RX6 yX6_exploredAt wsX6_exploredAt) := goodIn_app (goodIn_of _ (by decide +kernel)) ggX6_factsOf_X6_exploredAt
set_option maxRecDepth 20000 in
theorem ggX6_factsOf_X6_factsIn : GoodIn wsX6_factsOf wsX6_factsIn := goodIn_r _ [30] (by decide +kernel) (by decide +kernel)
set_option maxRecDepth 20000 in
theorem gX6_factsOf_X6_factsIn : GoodIn wsX6_factsOf (va_wsS RX6 87 yX6_factsIn wsX6_factsIn) := goodIn_app (goodIn_of _ (by decide +kernel)) ggX6_factsOf_X6_factsIn
theorem dX6_factsOf_0 : decode cX6_factsOf 0 = .ok (.aload_n 0, 1) := by decide +kernel
theorem dX6_factsOf_1 : decode cX6_factsOf 1 = .ok (.iload_n 1, 1) := by decide +kernel
theorem dX6_factsOf_2 : decode cX6_factsOf 2 = .ok (.invokevirtual 151, 3) := by decide +kernel
theorem dX6_factsOf_5 : decode cX6_factsOf 5 = .ok (.invokestatic 87, 3) := by decide +kernel
theorem dX6_factsOf_8 : decode cX6_factsOf 8 = .ok (.ireturn, 1) := by decide +kernel
set_option maxRecDepth 20000 in
theorem ggX6_triggeredOf_X6_exploredAt : GoodIn wsX6_triggeredOf wsX6_exploredAt := goodIn_ca (goodIn_ca (goodIn_r _ [5, 6, 7, 8, 9, 10, 11, 4, 12, 13, 14, 15, 16, 17, 18, 19, 20, 21, 22, 23, 24, 25, 26, 27, 31, 32, 33, 34, 35, 36, 37, 38, 39, 40, 41, 42, 43, 44, 45, 46] (by decide +kernel) (by decide +kernel)) (goodIn_sub (fun _ h => List.mem_cons_of_mem _ (List.mem_append_left _ (List.mem_append_right _ h))) (by decide +kernel))) (goodIn_sub (fun _ h => List.mem_cons_of_mem _ (List.mem_append_right _ h)) (by decide +kernel))
set_option maxRecDepth 20000 in
theorem gX6_triggeredOf_X6_exploredAt : GoodIn wsX6_triggeredOf (wsV RX6 151 RX6 yX6_exploredAt wsX6_exploredAt) := goodIn_app (goodIn_of _ (by decide +kernel)) ggX6_triggeredOf_X6_exploredAt
set_option maxRecDepth 20000 in
theorem ggX6_triggeredOf_X6_triggeredIn : GoodIn wsX6_triggeredOf wsX6_triggeredIn := goodIn_r _ [30] (by decide +kernel) (by decide +kernel)
set_option maxRecDepth 20000 in
theorem gX6_triggeredOf_X6_triggeredIn : GoodIn wsX6_triggeredOf (va_wsS RX6 91 yX6_triggeredIn wsX6_triggeredIn) := goodIn_app (goodIn_of _ (by decide +kernel)) ggX6_triggeredOf_X6_triggeredIn
theorem dX6_triggeredOf_0 : decode cX6_triggeredOf 0 = .ok (.aload_n 0, 1) := by decide +kernel
theorem dX6_triggeredOf_1 : decode cX6_triggeredOf 1 = .ok (.iload_n 1, 1) := by decide +kernel
theorem dX6_triggeredOf_2 : decode cX6_triggeredOf 2 = .ok (.invokevirtual 151, 3) := by decide +kernel
theorem dX6_triggeredOf_5 : decode cX6_triggeredOf 5 = .ok (.invokestatic 91, 3) := by decide +kernel
theorem dX6_triggeredOf_8 : decode cX6_triggeredOf 8 = .ok (.ireturn, 1) := by decide +kernel
set_option maxRecDepth 20000 in
theorem ggX6_after_X6_exploredAt : GoodIn wsX6_after wsX6_exploredAt := goodIn_ca (goodIn_ca (goodIn_r _ [6, 7, 8, 1, 9, 10, 11, 5, 12, 13, 14, 15, 16, 17, 18, 19, 20, 21, 22, 23, 24, 25, 26, 27, 45, 46, 47, 48, 49, 50, 51, 52, 53, 54, 55, 56, 57, 58, 59, 60] (by decide +kernel) (by decide +kernel)) (goodIn_sub (fun _ h => List.mem_cons_of_mem _ (List.mem_append_left _ (List.mem_append_right _ h))) (by decide +kernel))) (goodIn_sub (fun _ h => List.mem_cons_of_mem _ (List.mem_append_right _ h)) (by decide +kernel))
set_option maxRecDepth 20000 in
theorem gX6_after_X6_exploredAt : GoodIn wsX6_after (wsV RX6 151 RX6 yX6_exploredAt wsX6_exploredAt) := goodIn_app (goodIn_of _ (by decide +kernel)) ggX6_after_X6_exploredAt
set_option maxRecDepth 20000 in
theorem ggX6_after_X6_ruleAt : GoodIn wsX6_after wsX6_ruleAt := goodIn_ca (goodIn_r _ [31, 7, 8, 32, 33, 34, 35, 36, 37, 38, 39, 45, 46, 47, 48, 61, 62, 63] (by decide +kernel) (by decide +kernel)) (goodIn_sub (fun _ h => List.mem_cons_of_mem _ (List.mem_append_left _ (List.mem_append_right _ h))) (by decide +kernel))
set_option maxRecDepth 20000 in
theorem gX6_after_X6_ruleAt : GoodIn wsX6_after (wsV RX6 61 RX6 yX6_ruleAt wsX6_ruleAt) := goodIn_app (goodIn_of _ (by decide +kernel)) ggX6_after_X6_ruleAt
set_option maxRecDepth 20000 in
theorem ggX6_after_X1_nextOf : GoodIn wsX6_after wsX1_nextOf := goodIn_r _ [43, 26, 44, 49, 50, 51, 52, 53, 54, 55, 56, 57, 58, 59, 60] (by decide +kernel) (by decide +kernel)
set_option maxRecDepth 20000 in
theorem gX6_after_X1_nextOf : GoodIn wsX6_after (wsV RX6 154 RX1 yX1_nextOf wsX1_nextOf) := goodIn_app (goodIn_of _ (by decide +kernel)) ggX6_after_X1_nextOf
theorem dX6_after_0 : decode cX6_after 0 = .ok (.aload_n 0, 1) := by decide +kernel
theorem dX6_after_1 : decode cX6_after 1 = .ok (.iload_n 1, 1) := by decide +kernel
theorem dX6_after_2 : decode cX6_after 2 = .ok (.invokevirtual 151, 3) := by decide +kernel
theorem dX6_after_5 : decode cX6_after 5 = .ok (.pop, 1) := by decide +kernel
theorem dX6_after_6 : decode cX6_after 6 = .ok (.aload_n 0, 1) := by decide +kernel
theorem dX6_after_7 : decode cX6_after 7 = .ok (.iload_n 2, 1) := by decide +kernel
theorem dX6_after_8 : decode cX6_after 8 = .ok (.invokevirtual 61, 3) := by decide +kernel
theorem dX6_after_11 : decode cX6_after 11 = .ok (.pop, 1) := by decide +kernel
theorem dX6_after_12 : decode cX6_after 12 = .ok (.aload_n 0, 1) := by decide +kernel
theorem dX6_after_13 : decode cX6_after 13 = .ok (.getfield 28, 3) := by decide +kernel
theorem dX6_after_16 : decode cX6_after 16 = .ok (.iload_n 1, 1) := by decide +kernel
theorem dX6_after_17 : decode cX6_after 17 = .ok (.iload_n 2, 1) := by decide +kernel
theorem dX6_after_18 : decode cX6_after 18 = .ok (.invokevirtual 154, 3) := by decide +kernel
theorem dX6_after_21 : decode cX6_after 21 = .ok (.ireturn, 1) := by decide +kernel
set_option maxRecDepth 20000 in
theorem ggX6_terminates_X6_needExplored : GoodIn wsX6_terminates wsX6_needExplored := goodIn_ca (goodIn_r _ [7, 8, 9, 1, 10, 11, 12, 13, 14, 15, 16, 23, 24, 25, 26, 27, 28, 29, 30, 31, 32, 33, 34, 35, 36, 37, 38] (by decide +kernel) (by decide +kernel)) (goodIn_sub (fun _ h => List.mem_cons_of_mem _ (List.mem_append_right _ h)) (by decide +kernel))
set_option maxRecDepth 20000 in
theorem gX6_terminates_X6_needExplored : GoodIn wsX6_terminates (wsV RX6 157 RX6 yX6_needExplored wsX6_needExplored) := goodIn_app (goodIn_of _ (by decide +kernel)) ggX6_terminates_X6_needExplored
set_option maxRecDepth 20000 in
theorem ggX6_terminates_X3_isFinite : GoodIn wsX6_terminates wsX3_isFinite := goodIn_r _ [21, 22, 39, 40, 41, 42, 43, 44, 45, 46] (by decide +kernel) (by decide +kernel)
set_option maxRecDepth 20000 in
theorem gX6_terminates_X3_isFinite : GoodIn wsX6_terminates (wsV RX6 164 RX3 yX3_isFinite wsX3_isFinite) := goodIn_app (goodIn_of _ (by decide +kernel)) ggX6_terminates_X3_isFinite
theorem dX6_terminates_0 : decode cX6_terminates 0 = .ok (.aload_n 0, 1) := by decide +kernel
theorem dX6_terminates_1 : decode cX6_terminates 1 = .ok (.invokevirtual 157, 3) := by decide +kernel
theorem dX6_terminates_4 : decode cX6_terminates 4 = .ok (.aload_n 0, 1) := by decide +kernel
theorem dX6_terminates_5 : decode cX6_terminates 5 = .ok (.getfield 28, 3) := by decide +kernel
theorem dX6_terminates_8 : decode cX6_terminates 8 = .ok (.getfield 160, 3) := by decide +kernel
theorem dX6_terminates_11 : decode cX6_terminates 11 = .ok (.invokevirtual 164, 3) := by decide +kernel
theorem dX6_terminates_14 : decode cX6_terminates 14 = .ok (.ireturn, 1) := by decide +kernel
set_option maxRecDepth 20000 in
theorem ggX6_endCount_X6_needExplored : GoodIn wsX6_endCount wsX6_needExplored := goodIn_ca (goodIn_r _ [7, 8, 9, 1, 10, 11, 12, 13, 14, 15, 16, 23, 24, 25, 26, 27, 28, 29, 30, 31, 32, 33, 34, 35, 36, 37, 38] (by decide +kernel) (by decide +kernel)) (goodIn_sub (fun _ h => List.mem_cons_of_mem _ (List.mem_append_right _ h)) (by decide +kernel))
set_option maxRecDepth 20000 in
theorem gX6_endCount_X6_needExplored : GoodIn wsX6_endCount (wsV RX6 157 RX6 yX6_needExplored wsX6_needExplored) := goodIn_app (goodIn_of _ (by decide +kernel)) ggX6_endCount_X6_needExplored
set_option maxRecDepth 20000 in
theorem ggX6_endCount_X0_size : GoodIn wsX6_endCount wsX0_size := goodIn_r _ [21, 22, 39, 40, 41] (by decide +kernel) (by decide +kernel)
set_option maxRecDepth 20000 in
theorem gX6_endCount_X0_size : GoodIn wsX6_endCount (wsV RX6 173 RX0 yX0_size wsX0_size) := goodIn_app (goodIn_of _ (by decide +kernel)) ggX6_endCount_X0_size
theorem dX6_endCount_0 : decode cX6_endCount 0 = .ok (.aload_n 0, 1) := by decide +kernel
theorem dX6_endCount_1 : decode cX6_endCount 1 = .ok (.invokevirtual 157, 3) := by decide +kernel
theorem dX6_endCount_4 : decode cX6_endCount 4 = .ok (.aload_n 0, 1) := by decide +kernel
theorem dX6_endCount_5 : decode cX6_endCount 5 = .ok (.getfield 28, 3) := by decide +kernel
theorem dX6_endCount_8 : decode cX6_endCount 8 = .ok (.getfield 169, 3) := by decide +kernel
theorem dX6_endCount_11 : decode cX6_endCount 11 = .ok (.invokevirtual 173, 3) := by decide +kernel
theorem dX6_endCount_14 : decode cX6_endCount 14 = .ok (.ireturn, 1) := by decide +kernel
set_option maxRecDepth 20000 in
theorem ggX6_end_X6_needExplored : GoodIn wsX6_end wsX6_needExplored := goodIn_ca (goodIn_r _ [9, 10, 11, 3, 12, 13, 14, 15, 16, 17, 18, 26, 27, 28, 29, 30, 31, 32, 33, 34, 35, 36, 37, 38, 39, 40, 41] (by decide +kernel) (by decide +kernel)) (goodIn_sub (fun _ h => List.mem_cons_of_mem _ (List.mem_append_right _ h)) (by decide +kernel))
set_option maxRecDepth 20000 in
theorem gX6_end_X6_needExplored : GoodIn wsX6_end (wsV RX6 157 RX6 yX6_needExplored wsX6_needExplored) := goodIn_app (goodIn_of _ (by decide +kernel)) ggX6_end_X6_needExplored
set_option maxRecDepth 20000 in
theorem ggX6_end_X0_factsAt : GoodIn wsX6_end wsX0_factsAt := goodIn_r _ [23, 24, 25, 42, 43, 44] (by decide +kernel) (by decide +kernel)
set_option maxRecDepth 20000 in
theorem gX6_end_X0_factsAt : GoodIn wsX6_end (wsV RX6 176 RX0 yX0_factsAt wsX0_factsAt) := goodIn_app (goodIn_of _ (by decide +kernel)) ggX6_end_X0_factsAt
theorem dX6_end_0 : decode cX6_end 0 = .ok (.aload_n 0, 1) := by decide +kernel
theorem dX6_end_1 : decode cX6_end 1 = .ok (.invokevirtual 157, 3) := by decide +kernel
theorem dX6_end_4 : decode cX6_end 4 = .ok (.aload_n 0, 1) := by decide +kernel
theorem dX6_end_5 : decode cX6_end 5 = .ok (.getfield 28, 3) := by decide +kernel
theorem dX6_end_8 : decode cX6_end 8 = .ok (.getfield 169, 3) := by decide +kernel
theorem dX6_end_11 : decode cX6_end 11 = .ok (.iload_n 1, 1) := by decide +kernel
theorem dX6_end_12 : decode cX6_end 12 = .ok (.invokevirtual 176, 3) := by decide +kernel
theorem dX6_end_15 : decode cX6_end 15 = .ok (.istore_n 2, 1) := by decide +kernel
theorem dX6_end_16 : decode cX6_end 16 = .ok (.iload_n 2, 1) := by decide +kernel
theorem dX6_end_17 : decode cX6_end 17 = .ok (.iconst (-1), 1) := by decide +kernel
theorem dX6_end_18 : decode cX6_end 18 = .ok (.if_icmp .ne 13, 3) := by decide +kernel
theorem dX6_end_21 : decode cX6_end 21 = .ok (.new 179, 3) := by decide +kernel
theorem dX6_end_24 : decode cX6_end 24 = .ok (.dup, 1) := by decide +kernel
theorem dX6_end_25 : decode cX6_end 25 = .ok (.ldc 181, 2) := by decide +kernel
theorem dX6_end_27 : decode cX6_end 27 = .ok (.invokespecial 183, 3) := by decide +kernel
theorem dX6_end_30 : decode cX6_end 30 = .ok (.athrow, 1) := by decide +kernel
theorem dX6_end_31 : decode cX6_end 31 = .ok (.iload_n 2, 1) := by decide +kernel
theorem dX6_end_32 : decode cX6_end 32 = .ok (.ireturn, 1) := by decide +kernel
set_option maxRecDepth 20000 in
theorem ggX6_shortest_X6_needExplored : GoodIn wsX6_shortest wsX6_needExplored := goodIn_ca (goodIn_r _ [7, 8, 9, 1, 10, 11, 12, 13, 14, 15, 16, 23, 24, 25, 26, 27, 28, 29, 30, 31, 32, 33, 34, 35, 36, 37, 38] (by decide +kernel) (by decide +kernel)) (goodIn_sub (fun _ h => List.mem_cons_of_mem _ (List.mem_append_right _ h)) (by decide +kernel))
set_option maxRecDepth 20000 in
theorem gX6_shortest_X6_needExplored : GoodIn wsX6_shortest (wsV RX6 157 RX6 yX6_needExplored wsX6_needExplored) := goodIn_app (goodIn_of _ (by decide +kernel)) ggX6_shortest_X6_needExplored
set_option maxRecDepth 20000 in
theorem ggX6_shortest_X0_firstDepth : GoodIn wsX6_shortest wsX0_firstDepth := goodIn_r _ [21, 22, 39, 40, 41] (by decide +kernel) (by decide +kernel)
set_option maxRecDepth 20000 in
theorem gX6_shortest_X0_firstDepth : GoodIn wsX6_shortest (wsV RX6 184 RX0 yX0_firstDepth wsX0_firstDepth) := goodIn_app (goodIn_of _ (by decide +kernel)) ggX6_shortest_X0_firstDepth
theorem dX6_shortest_0 : decode cX6_shortest 0 = .ok (.aload_n 0, 1) := by decide +kernel
theorem dX6_shortest_1 : decode cX6_shortest 1 = .ok (.invokevirtual 157, 3) := by decide +kernel
theorem dX6_shortest_4 : decode cX6_shortest 4 = .ok (.aload_n 0, 1) := by decide +kernel
theorem dX6_shortest_5 : decode cX6_shortest 5 = .ok (.getfield 28, 3) := by decide +kernel
theorem dX6_shortest_8 : decode cX6_shortest 8 = .ok (.getfield 169, 3) := by decide +kernel
theorem dX6_shortest_11 : decode cX6_shortest 11 = .ok (.invokevirtual 184, 3) := by decide +kernel
theorem dX6_shortest_14 : decode cX6_shortest 14 = .ok (.ireturn, 1) := by decide +kernel
set_option maxRecDepth 20000 in
theorem ggX6_longest_X6_needExplored : GoodIn wsX6_longest wsX6_needExplored := goodIn_ca (goodIn_r _ [7, 8, 9, 1, 10, 11, 12, 13, 14, 15, 16, 24, 25, 26, 27, 28, 29, 30, 31, 32, 33, 34, 35, 36, 37, 38, 39] (by decide +kernel) (by decide +kernel)) (goodIn_sub (fun _ h => List.mem_cons_of_mem _ (List.mem_append_right _ h)) (by decide +kernel))
set_option maxRecDepth 20000 in
theorem gX6_longest_X6_needExplored : GoodIn wsX6_longest (wsV RX6 157 RX6 yX6_needExplored wsX6_needExplored) := goodIn_app (goodIn_of _ (by decide +kernel)) ggX6_longest_X6_needExplored
set_option maxRecDepth 20000 in
theorem ggX6_longest_X3_mostPlays : GoodIn wsX6_longest wsX3_mostPlays := goodIn_r _ [21, 22, 23, 40, 41, 42, 43, 44, 45, 46, 47] (by decide +kernel) (by decide +kernel)
set_option maxRecDepth 20000 in
theorem gX6_longest_X3_mostPlays : GoodIn wsX6_longest (wsV RX6 187 RX3 yX3_mostPlays wsX3_mostPlays) := goodIn_app (goodIn_of _ (by decide +kernel)) ggX6_longest_X3_mostPlays
theorem dX6_longest_0 : decode cX6_longest 0 = .ok (.aload_n 0, 1) := by decide +kernel
theorem dX6_longest_1 : decode cX6_longest 1 = .ok (.invokevirtual 157, 3) := by decide +kernel
theorem dX6_longest_4 : decode cX6_longest 4 = .ok (.aload_n 0, 1) := by decide +kernel
theorem dX6_longest_5 : decode cX6_longest 5 = .ok (.getfield 28, 3) := by decide +kernel
theorem dX6_longest_8 : decode cX6_longest 8 = .ok (.getfield 160, 3) := by decide +kernel
theorem dX6_longest_11 : decode cX6_longest 11 = .ok (.invokevirtual 187, 3) := by decide +kernel
theorem dX6_longest_14 : decode cX6_longest 14 = .ok (.ireturn, 1) := by decide +kernel
set_option maxRecDepth 20000 in
theorem ggX6_ways_X6_needExplored : GoodIn wsX6_ways wsX6_needExplored := goodIn_ca (goodIn_r _ [7, 8, 9, 1, 10, 11, 12, 13, 14, 15, 16, 25, 26, 27, 28, 29, 30, 31, 32, 33, 34, 35, 36, 37, 38, 39, 40] (by decide +kernel) (by decide +kernel)) (goodIn_sub (fun _ h => List.mem_cons_of_mem _ (List.mem_append_right _ h)) (by decide +kernel))
set_option maxRecDepth 20000 in
theorem gX6_ways_X6_needExplored : GoodIn wsX6_ways (wsV RX6 157 RX6 yX6_needExplored wsX6_needExplored) := goodIn_app (goodIn_of _ (by decide +kernel)) ggX6_ways_X6_needExplored
set_option maxRecDepth 20000 in
theorem ggX6_ways_X3_wayCount : GoodIn wsX6_ways wsX3_wayCount := goodIn_r _ [21, 22, 23, 24, 41, 42, 43, 44, 45, 46, 47, 48] (by decide +kernel) (by decide +kernel)
set_option maxRecDepth 20000 in
theorem gX6_ways_X3_wayCount : GoodIn wsX6_ways (wsV RX6 190 RX3 yX3_wayCount wsX3_wayCount) := goodIn_app (goodIn_of _ (by decide +kernel)) ggX6_ways_X3_wayCount
theorem dX6_ways_0 : decode cX6_ways 0 = .ok (.aload_n 0, 1) := by decide +kernel
theorem dX6_ways_1 : decode cX6_ways 1 = .ok (.invokevirtual 157, 3) := by decide +kernel
theorem dX6_ways_4 : decode cX6_ways 4 = .ok (.aload_n 0, 1) := by decide +kernel
theorem dX6_ways_5 : decode cX6_ways 5 = .ok (.getfield 28, 3) := by decide +kernel
theorem dX6_ways_8 : decode cX6_ways 8 = .ok (.getfield 160, 3) := by decide +kernel
theorem dX6_ways_11 : decode cX6_ways 11 = .ok (.invokevirtual 190, 3) := by decide +kernel
theorem dX6_ways_14 : decode cX6_ways 14 = .ok (.lreturn, 1) := by decide +kernel
set_option maxRecDepth 20000 in
theorem ggX6_isPlayed_X6_needExplored : GoodIn wsX6_isPlayed wsX6_needExplored := goodIn_ca (goodIn_r _ [7, 8, 9, 1, 10, 11, 12, 13, 14, 15, 16, 36, 37, 38, 39, 51, 52, 53, 54, 55, 56, 57, 58, 59, 60, 61, 62] (by decide +kernel) (by decide +kernel)) (goodIn_sub (fun _ h => List.mem_cons_of_mem _ (List.mem_append_left _ (List.mem_append_right _ h))) (by decide +kernel))
set_option maxRecDepth 20000 in
theorem gX6_isPlayed_X6_needExplored : GoodIn wsX6_isPlayed (wsV RX6 157 RX6 yX6_needExplored wsX6_needExplored) := goodIn_app (goodIn_of _ (by decide +kernel)) ggX6_isPlayed_X6_needExplored
set_option maxRecDepth 20000 in
theorem ggX6_isPlayed_X1_everReady : GoodIn wsX6_isPlayed wsX1_everReady := goodIn_r _ [20, 21, 51, 52, 53, 54, 55, 56, 57, 58, 59, 60, 61, 62] (by decide +kernel) (by decide +kernel)
set_option maxRecDepth 20000 in
theorem gX6_isPlayed_X1_everReady : GoodIn wsX6_isPlayed (wsV RX6 194 RX1 yX1_everReady wsX1_everReady) := goodIn_app (goodIn_of _ (by decide +kernel)) ggX6_isPlayed_X1_everReady
set_option maxRecDepth 20000 in
theorem ggX6_isPlayed_X6_ruleAt : GoodIn wsX6_isPlayed wsX6_ruleAt := goodIn_ca (goodIn_r _ [25, 26, 27, 28, 29, 30, 31, 32, 33, 34, 35, 36, 37, 38, 39, 63, 64, 65] (by decide +kernel) (by decide +kernel)) (goodIn_sub (fun _ h => List.mem_cons_of_mem _ (List.mem_append_right _ h)) (by decide +kernel))
set_option maxRecDepth 20000 in
theorem gX6_isPlayed_X6_ruleAt : GoodIn wsX6_isPlayed (wsV RX6 61 RX6 yX6_ruleAt wsX6_ruleAt) := goodIn_app (goodIn_of _ (by decide +kernel)) ggX6_isPlayed_X6_ruleAt
theorem dX6_isPlayed_0 : decode cX6_isPlayed 0 = .ok (.aload_n 0, 1) := by decide +kernel
theorem dX6_isPlayed_1 : decode cX6_isPlayed 1 = .ok (.invokevirtual 157, 3) := by decide +kernel
theorem dX6_isPlayed_4 : decode cX6_isPlayed 4 = .ok (.aload_n 0, 1) := by decide +kernel
theorem dX6_isPlayed_5 : decode cX6_isPlayed 5 = .ok (.getfield 28, 3) := by decide +kernel
theorem dX6_isPlayed_8 : decode cX6_isPlayed 8 = .ok (.invokevirtual 194, 3) := by decide +kernel
theorem dX6_isPlayed_11 : decode cX6_isPlayed 11 = .ok (.aload_n 0, 1) := by decide +kernel
theorem dX6_isPlayed_12 : decode cX6_isPlayed 12 = .ok (.iload_n 1, 1) := by decide +kernel
theorem dX6_isPlayed_13 : decode cX6_isPlayed 13 = .ok (.invokevirtual 61, 3) := by decide +kernel
theorem dX6_isPlayed_16 : decode cX6_isPlayed 16 = .ok (.getfield 94, 3) := by decide +kernel
theorem dX6_isPlayed_19 : decode cX6_isPlayed 19 = .ok (.iand, 1) := by decide +kernel
theorem dX6_isPlayed_20 : decode cX6_isPlayed 20 = .ok (.ifCond .eq 7, 3) := by decide +kernel
theorem dX6_isPlayed_23 : decode cX6_isPlayed 23 = .ok (.iconst 1, 1) := by decide +kernel
theorem dX6_isPlayed_24 : decode cX6_isPlayed 24 = .ok (.goto 4, 3) := by decide +kernel
theorem dX6_isPlayed_27 : decode cX6_isPlayed 27 = .ok (.iconst 0, 1) := by decide +kernel
theorem dX6_isPlayed_28 : decode cX6_isPlayed 28 = .ok (.ireturn, 1) := by decide +kernel
set_option maxRecDepth 20000 in
theorem ggX6_choice_X6_needExplored : GoodIn wsX6_choice wsX6_needExplored := goodIn_ca (goodIn_r _ [6, 7, 8, 1, 9, 10, 11, 12, 13, 14, 15, 22, 23, 24, 25, 26, 27, 28, 29, 30, 31, 32, 33, 34, 35, 36, 37] (by decide +kernel) (by decide +kernel)) (goodIn_sub (fun _ h => List.mem_cons_of_mem _ (List.mem_append_right _ h)) (by decide +kernel))
set_option maxRecDepth 20000 in
theorem gX6_choice_X6_needExplored : GoodIn wsX6_choice (wsV RX6 157 RX6 yX6_needExplored wsX6_needExplored) := goodIn_app (goodIn_of _ (by decide +kernel)) ggX6_choice_X6_needExplored
set_option maxRecDepth 20000 in
theorem ggX6_choice_X1_choiceShare : GoodIn wsX6_choice wsX1_choiceShare := goodIn_r _ [19, 20, 21, 26, 27, 28, 29, 30, 31, 32, 33, 34, 35, 36, 37] (by decide +kernel) (by decide +kernel)
set_option maxRecDepth 20000 in
theorem gX6_choice_X1_choiceShare : GoodIn wsX6_choice (wsV RX6 197 RX1 yX1_choiceShare wsX1_choiceShare) := goodIn_app (goodIn_of _ (by decide +kernel)) ggX6_choice_X1_choiceShare
theorem dX6_choice_0 : decode cX6_choice 0 = .ok (.aload_n 0, 1) := by decide +kernel
theorem dX6_choice_1 : decode cX6_choice 1 = .ok (.invokevirtual 157, 3) := by decide +kernel
theorem dX6_choice_4 : decode cX6_choice 4 = .ok (.aload_n 0, 1) := by decide +kernel
theorem dX6_choice_5 : decode cX6_choice 5 = .ok (.getfield 28, 3) := by decide +kernel
theorem dX6_choice_8 : decode cX6_choice 8 = .ok (.invokevirtual 197, 3) := by decide +kernel
theorem dX6_choice_11 : decode cX6_choice 11 = .ok (.dreturn, 1) := by decide +kernel
set_option maxRecDepth 20000 in
theorem ggX6_canTrigger_X6_ruleAt : GoodIn wsX6_canTrigger wsX6_ruleAt := goodIn_ca (goodIn_r _ [6, 7, 8, 1, 9, 10, 11, 12, 13, 14, 15, 33, 34, 35, 36, 37, 38, 39] (by decide +kernel) (by decide +kernel)) (goodIn_sub (fun _ h => List.mem_cons_of_mem _ (List.mem_append_right _ h)) (by decide +kernel))
set_option maxRecDepth 20000 in
theorem gX6_canTrigger_X6_ruleAt : GoodIn wsX6_canTrigger (wsV RX6 61 RX6 yX6_ruleAt wsX6_ruleAt) := goodIn_app (goodIn_of _ (by decide +kernel)) ggX6_canTrigger_X6_ruleAt
set_option maxRecDepth 20000 in
theorem ggX6_canTrigger_X5_triggerableBy : GoodIn wsX6_canTrigger wsX5_triggerableBy := goodIn_r _ [19, 20, 21, 22, 23, 24, 25, 26, 27, 28, 29, 30, 12, 31, 32, 40, 41, 42, 43, 44, 45, 46, 47, 48, 49, 50, 37, 38, 39] (by decide +kernel) (by decide +kernel)
set_option maxRecDepth 20000 in
theorem gX6_canTrigger_X5_triggerableBy : GoodIn wsX6_canTrigger (wsV RX6 201 RX5 yX5_triggerableBy wsX5_triggerableBy) := goodIn_app (goodIn_of _ (by decide +kernel)) ggX6_canTrigger_X5_triggerableBy
theorem dX6_canTrigger_0 : decode cX6_canTrigger 0 = .ok (.aload_n 0, 1) := by decide +kernel
theorem dX6_canTrigger_1 : decode cX6_canTrigger 1 = .ok (.getfield 10, 3) := by decide +kernel
theorem dX6_canTrigger_4 : decode cX6_canTrigger 4 = .ok (.aload_n 0, 1) := by decide +kernel
theorem dX6_canTrigger_5 : decode cX6_canTrigger 5 = .ok (.iload_n 1, 1) := by decide +kernel
theorem dX6_canTrigger_6 : decode cX6_canTrigger 6 = .ok (.invokevirtual 61, 3) := by decide +kernel
theorem dX6_canTrigger_9 : decode cX6_canTrigger 9 = .ok (.invokevirtual 201, 3) := by decide +kernel
theorem dX6_canTrigger_12 : decode cX6_canTrigger 12 = .ok (.ireturn, 1) := by decide +kernel
set_option maxRecDepth 20000 in
theorem ggX6_circular_X2_inCircles : GoodIn wsX6_circular wsX2_inCircles := goodIn_r _ [6, 7, 8, 9, 10, 5, 11, 12, 13, 14, 15, 16, 17, 18, 19, 20, 21, 22, 23, 24, 25, 26, 27, 28, 29, 30, 31, 32, 33, 34, 35, 36, 41, 42, 43, 44, 45, 46, 47, 48, 49, 50, 51, 52, 53, 54, 55, 56] (by decide +kernel) (by decide +kernel)
set_option maxRecDepth 20000 in
theorem gX6_circular_X2_inCircles : GoodIn wsX6_circular (wsV RX6 205 RX2 yX2_inCircles wsX2_inCircles) := goodIn_app (goodIn_of _ (by decide +kernel)) ggX6_circular_X2_inCircles
theorem dX6_circular_0 : decode cX6_circular 0 = .ok (.aload_n 0, 1) := by decide +kernel
theorem dX6_circular_1 : decode cX6_circular 1 = .ok (.getfield 21, 3) := by decide +kernel
theorem dX6_circular_4 : decode cX6_circular 4 = .ok (.invokevirtual 205, 3) := by decide +kernel
theorem dX6_circular_7 : decode cX6_circular 7 = .ok (.ireturn, 1) := by decide +kernel
set_option maxRecDepth 20000 in
theorem ggX6_commute_X6_ruleAt : GoodIn wsX6_commute wsX6_ruleAt := goodIn_ca (goodIn_r _ [8, 9, 10, 11, 12, 13, 14, 15, 16, 17, 18, 58, 59, 60, 61, 62, 63, 64] (by decide +kernel) (by decide +kernel)) (goodIn_sub (fun _ h => List.mem_cons_of_mem _ (List.mem_append_right _ h)) (by decide +kernel))
set_option maxRecDepth 20000 in
theorem gX6_commute_X6_ruleAt : GoodIn wsX6_commute (wsV RX6 61 RX6 yX6_ruleAt wsX6_ruleAt) := goodIn_app (goodIn_of _ (by decide +kernel)) ggX6_commute_X6_ruleAt
set_option maxRecDepth 20000 in
theorem ggX6_commute_X2_areIndependent : GoodIn wsX6_commute wsX2_areIndependent := goodIn_r _ [23, 24, 25, 26, 27, 28, 29, 30, 31, 15, 32, 33, 34, 35, 36, 37, 38, 39, 40, 41, 42, 43, 44, 45, 46, 47, 48, 49, 50, 51, 52, 53, 54, 55, 56, 57, 65, 66, 67, 68, 69, 70, 71, 72, 73, 74, 75, 76, 77, 62, 63, 64] (by decide +kernel) (by decide +kernel)
set_option maxRecDepth 20000 in
theorem gX6_commute_X2_areIndependent : GoodIn wsX6_commute (wsV RX6 210 RX2 yX2_areIndependent wsX2_areIndependent) := goodIn_app (goodIn_of _ (by decide +kernel)) ggX6_commute_X2_areIndependent
theorem dX6_commute_0 : decode cX6_commute 0 = .ok (.aload_n 0, 1) := by decide +kernel
theorem dX6_commute_1 : decode cX6_commute 1 = .ok (.iload_n 1, 1) := by decide +kernel
theorem dX6_commute_2 : decode cX6_commute 2 = .ok (.invokevirtual 61, 3) := by decide +kernel
theorem dX6_commute_5 : decode cX6_commute 5 = .ok (.astore_n 3, 1) := by decide +kernel
theorem dX6_commute_6 : decode cX6_commute 6 = .ok (.aload_n 0, 1) := by decide +kernel
theorem dX6_commute_7 : decode cX6_commute 7 = .ok (.iload_n 2, 1) := by decide +kernel
theorem dX6_commute_8 : decode cX6_commute 8 = .ok (.invokevirtual 61, 3) := by decide +kernel
theorem dX6_commute_11 : decode cX6_commute 11 = .ok (.astore 4, 2) := by decide +kernel
theorem dX6_commute_13 : decode cX6_commute 13 = .ok (.iload_n 1, 1) := by decide +kernel
theorem dX6_commute_14 : decode cX6_commute 14 = .ok (.iload_n 2, 1) := by decide +kernel
theorem dX6_commute_15 : decode cX6_commute 15 = .ok (.if_icmp .ne 13, 3) := by decide +kernel
theorem dX6_commute_18 : decode cX6_commute 18 = .ok (.new 105, 3) := by decide +kernel
theorem dX6_commute_21 : decode cX6_commute 21 = .ok (.dup, 1) := by decide +kernel
theorem dX6_commute_22 : decode cX6_commute 22 = .ok (.ldc 208, 2) := by decide +kernel
theorem dX6_commute_24 : decode cX6_commute 24 = .ok (.invokespecial 109, 3) := by decide +kernel
theorem dX6_commute_27 : decode cX6_commute 27 = .ok (.athrow, 1) := by decide +kernel
theorem dX6_commute_28 : decode cX6_commute 28 = .ok (.aload_n 0, 1) := by decide +kernel
theorem dX6_commute_29 : decode cX6_commute 29 = .ok (.getfield 21, 3) := by decide +kernel
theorem dX6_commute_32 : decode cX6_commute 32 = .ok (.aload_n 3, 1) := by decide +kernel
theorem dX6_commute_33 : decode cX6_commute 33 = .ok (.aload 4, 2) := by decide +kernel
theorem dX6_commute_35 : decode cX6_commute 35 = .ok (.invokevirtual 210, 3) := by decide +kernel
theorem dX6_commute_38 : decode cX6_commute 38 = .ok (.ireturn, 1) := by decide +kernel
set_option maxRecDepth 20000 in
theorem ggX6_conflictCount_X2_countConflicts : GoodIn wsX6_conflictCount wsX2_countConflicts := goodIn_r _ [6, 7, 8, 9, 5, 10, 11, 12, 13, 14, 15, 16, 17, 18, 19, 20, 21, 22, 23, 24, 25, 26, 27, 28, 29, 30, 31, 32, 33, 34, 35, 36, 37, 38, 39, 40, 41, 42, 43, 44, 45, 46, 47, 48, 49, 50, 51, 52, 53, 54, 55, 56, 57, 58, 59, 60, 61, 66, 67, 68, 69, 70, 71, 72, 73, 74, 75, 76, 77, 78, 79, 80, 81] (by decide +kernel) (by decide +kernel)
set_option maxRecDepth 20000 in
theorem gX6_conflictCount_X2_countConflicts : GoodIn wsX6_conflictCount (wsV RX6 214 RX2 yX2_countConflicts wsX2_countConflicts) := goodIn_app (goodIn_of _ (by decide +kernel)) ggX6_conflictCount_X2_countConflicts
theorem dX6_conflictCount_0 : decode cX6_conflictCount 0 = .ok (.aload_n 0, 1) := by decide +kernel
theorem dX6_conflictCount_1 : decode cX6_conflictCount 1 = .ok (.getfield 21, 3) := by decide +kernel
theorem dX6_conflictCount_4 : decode cX6_conflictCount 4 = .ok (.invokevirtual 214, 3) := by decide +kernel
theorem dX6_conflictCount_7 : decode cX6_conflictCount 7 = .ok (.ireturn, 1) := by decide +kernel
set_option maxRecDepth 20000 in
theorem ggX6_conflict_X2_conflictAt : GoodIn wsX6_conflict wsX2_conflictAt := goodIn_r _ [8, 9, 10, 11, 7, 12, 13, 14, 15, 16, 17, 18, 19, 20, 21, 22, 23, 24, 25, 26, 27, 28, 29, 30, 31, 32, 33, 34, 35, 36, 37, 38, 39, 40, 41, 42, 43, 44, 45, 46, 47, 48, 49, 50, 51, 52, 53, 54, 55, 56, 57, 58, 59, 60, 61, 62, 63, 68, 69, 70, 71, 72, 73, 74, 75, 76, 77, 78, 79, 80, 81, 82, 83] (by decide +kernel) (by decide +kernel)
set_option maxRecDepth 20000 in
theorem gX6_conflict_X2_conflictAt : GoodIn wsX6_conflict (wsV RX6 217 RX2 yX2_conflictAt wsX2_conflictAt) := goodIn_app (goodIn_of _ (by decide +kernel)) ggX6_conflict_X2_conflictAt
theorem dX6_conflict_0 : decode cX6_conflict 0 = .ok (.aload_n 0, 1) := by decide +kernel
theorem dX6_conflict_1 : decode cX6_conflict 1 = .ok (.getfield 21, 3) := by decide +kernel
theorem dX6_conflict_4 : decode cX6_conflict 4 = .ok (.iload_n 1, 1) := by decide +kernel
theorem dX6_conflict_5 : decode cX6_conflict 5 = .ok (.invokevirtual 217, 3) := by decide +kernel
theorem dX6_conflict_8 : decode cX6_conflict 8 = .ok (.istore_n 2, 1) := by decide +kernel
theorem dX6_conflict_9 : decode cX6_conflict 9 = .ok (.iload_n 2, 1) := by decide +kernel
theorem dX6_conflict_10 : decode cX6_conflict 10 = .ok (.iconst (-1), 1) := by decide +kernel
theorem dX6_conflict_11 : decode cX6_conflict 11 = .ok (.if_icmp .ne 13, 3) := by decide +kernel
theorem dX6_conflict_14 : decode cX6_conflict 14 = .ok (.new 179, 3) := by decide +kernel
theorem dX6_conflict_17 : decode cX6_conflict 17 = .ok (.dup, 1) := by decide +kernel
theorem dX6_conflict_18 : decode cX6_conflict 18 = .ok (.ldc 220, 2) := by decide +kernel
theorem dX6_conflict_20 : decode cX6_conflict 20 = .ok (.invokespecial 183, 3) := by decide +kernel
theorem dX6_conflict_23 : decode cX6_conflict 23 = .ok (.athrow, 1) := by decide +kernel
theorem dX6_conflict_24 : decode cX6_conflict 24 = .ok (.iload_n 2, 1) := by decide +kernel
theorem dX6_conflict_25 : decode cX6_conflict 25 = .ok (.ireturn, 1) := by decide +kernel
set_option maxRecDepth 20000 in
theorem ggX6_digest_X5_addedTo : GoodIn wsX6_digest wsX5_addedTo := goodIn_r _ [10, 11, 12, 13, 14, 15, 16, 17, 18, 19, 20, 21, 22, 23, 24, 25, 26, 27, 28, 29, 30, 54, 55, 56, 57, 58, 59, 60, 61, 62, 63, 64, 65, 66, 67] (by decide +kernel) (by decide +kernel)
set_option maxRecDepth 20000 in
theorem gX6_digest_X5_addedTo : GoodIn wsX6_digest (wsV RX6 224 RX5 yX5_addedTo wsX5_addedTo) := goodIn_app (goodIn_of _ (by decide +kernel)) ggX6_digest_X5_addedTo
set_option maxRecDepth 20000 in
theorem ggX6_digest_X6_factsIn : GoodIn wsX6_digest wsX6_factsIn := goodIn_r _ [34] (by decide +kernel) (by decide +kernel)
set_option maxRecDepth 20000 in
theorem gX6_digest_X6_factsIn : GoodIn wsX6_digest (va_wsS RX6 87 yX6_factsIn wsX6_factsIn) := goodIn_app (goodIn_of _ (by decide +kernel)) ggX6_digest_X6_factsIn
set_option maxRecDepth 20000 in
theorem ggX6_digest_X6_triggeredIn : GoodIn wsX6_digest wsX6_triggeredIn := goodIn_r _ [37] (by decide +kernel) (by decide +kernel)
set_option maxRecDepth 20000 in
theorem gX6_digest_X6_triggeredIn : GoodIn wsX6_digest (va_wsS RX6 91 yX6_triggeredIn wsX6_triggeredIn) := goodIn_app (goodIn_of _ (by decide +kernel)) ggX6_digest_X6_triggeredIn
set_option maxRecDepth 20000 in
theorem ggX6_digest_X1_isDone : GoodIn wsX6_digest wsX1_isDone := goodIn_r _ [42, 43, 68, 69, 70, 71, 72, 73, 74, 75, 76, 77, 78, 79] (by decide +kernel) (by decide +kernel)
set_option maxRecDepth 20000 in
theorem gX6_digest_X1_isDone : GoodIn wsX6_digest (wsV RX6 142 RX1 yX1_isDone wsX1_isDone) := goodIn_app (goodIn_of _ (by decide +kernel)) ggX6_digest_X1_isDone
set_option maxRecDepth 20000 in
theorem ggX6_digest_X1_answer : GoodIn wsX6_digest wsX1_answer := goodIn_r _ [47, 48, 49, 68, 69, 70, 71, 72, 73, 74, 75, 76, 77, 78, 79] (by decide +kernel) (by decide +kernel)
set_option maxRecDepth 20000 in
theorem gX6_digest_X1_answer : GoodIn wsX6_digest (wsV RX6 148 RX1 yX1_answer wsX1_answer) := goodIn_app (goodIn_of _ (by decide +kernel)) ggX6_digest_X1_answer
theorem dX6_digest_0 : decode cX6_digest 0 = .ok (.aload_n 0, 1) := by decide +kernel
theorem dX6_digest_1 : decode cX6_digest 1 = .ok (.getfield 10, 3) := by decide +kernel
theorem dX6_digest_4 : decode cX6_digest 4 = .ok (.ldc2_w 222, 3) := by decide +kernel
theorem dX6_digest_7 : decode cX6_digest 7 = .ok (.invokevirtual 224, 3) := by decide +kernel
theorem dX6_digest_10 : decode cX6_digest 10 = .ok (.lstore_n 1, 1) := by decide +kernel
theorem dX6_digest_11 : decode cX6_digest 11 = .ok (.lload_n 1, 1) := by decide +kernel
theorem dX6_digest_12 : decode cX6_digest 12 = .ok (.ldc2_w 228, 3) := by decide +kernel
theorem dX6_digest_15 : decode cX6_digest 15 = .ok (.lmul, 1) := by decide +kernel
theorem dX6_digest_16 : decode cX6_digest 16 = .ok (.aload_n 0, 1) := by decide +kernel
theorem dX6_digest_17 : decode cX6_digest 17 = .ok (.getfield 84, 3) := by decide +kernel
theorem dX6_digest_20 : decode cX6_digest 20 = .ok (.invokestatic 87, 3) := by decide +kernel
theorem dX6_digest_23 : decode cX6_digest 23 = .ok (.i2l, 1) := by decide +kernel
theorem dX6_digest_24 : decode cX6_digest 24 = .ok (.ladd, 1) := by decide +kernel
theorem dX6_digest_25 : decode cX6_digest 25 = .ok (.lstore_n 1, 1) := by decide +kernel
theorem dX6_digest_26 : decode cX6_digest 26 = .ok (.lload_n 1, 1) := by decide +kernel
theorem dX6_digest_27 : decode cX6_digest 27 = .ok (.ldc2_w 228, 3) := by decide +kernel
theorem dX6_digest_30 : decode cX6_digest 30 = .ok (.lmul, 1) := by decide +kernel
theorem dX6_digest_31 : decode cX6_digest 31 = .ok (.aload_n 0, 1) := by decide +kernel
theorem dX6_digest_32 : decode cX6_digest 32 = .ok (.getfield 84, 3) := by decide +kernel
theorem dX6_digest_35 : decode cX6_digest 35 = .ok (.invokestatic 91, 3) := by decide +kernel
theorem dX6_digest_38 : decode cX6_digest 38 = .ok (.i2l, 1) := by decide +kernel
theorem dX6_digest_39 : decode cX6_digest 39 = .ok (.ladd, 1) := by decide +kernel
theorem dX6_digest_40 : decode cX6_digest 40 = .ok (.lstore_n 1, 1) := by decide +kernel
theorem dX6_digest_41 : decode cX6_digest 41 = .ok (.aload_n 0, 1) := by decide +kernel
theorem dX6_digest_42 : decode cX6_digest 42 = .ok (.getfield 28, 3) := by decide +kernel
theorem dX6_digest_45 : decode cX6_digest 45 = .ok (.invokevirtual 142, 3) := by decide +kernel
theorem dX6_digest_48 : decode cX6_digest 48 = .ok (.ifCond .eq 18, 3) := by decide +kernel
theorem dX6_digest_51 : decode cX6_digest 51 = .ok (.lload_n 1, 1) := by decide +kernel
theorem dX6_digest_52 : decode cX6_digest 52 = .ok (.ldc2_w 228, 3) := by decide +kernel
theorem dX6_digest_55 : decode cX6_digest 55 = .ok (.lmul, 1) := by decide +kernel
theorem dX6_digest_56 : decode cX6_digest 56 = .ok (.aload_n 0, 1) := by decide +kernel
theorem dX6_digest_57 : decode cX6_digest 57 = .ok (.getfield 28, 3) := by decide +kernel
theorem dX6_digest_60 : decode cX6_digest 60 = .ok (.invokevirtual 148, 3) := by decide +kernel
theorem dX6_digest_63 : decode cX6_digest 63 = .ok (.i2l, 1) := by decide +kernel
theorem dX6_digest_64 : decode cX6_digest 64 = .ok (.ladd, 1) := by decide +kernel
theorem dX6_digest_65 : decode cX6_digest 65 = .ok (.lstore_n 1, 1) := by decide +kernel
theorem dX6_digest_66 : decode cX6_digest 66 = .ok (.lload_n 1, 1) := by decide +kernel
theorem dX6_digest_67 : decode cX6_digest 67 = .ok (.lreturn, 1) := by decide +kernel
set_option maxRecDepth 20000 in
theorem ggX6_ruleAt_X5_ruleOrNull : GoodIn wsX6_ruleAt wsX5_ruleOrNull := goodIn_r _ [8, 9, 10, 15, 16, 17] (by decide +kernel) (by decide +kernel)
set_option maxRecDepth 20000 in
theorem gX6_ruleAt_X5_ruleOrNull : GoodIn wsX6_ruleAt (wsV RX6 230 RX5 yX5_ruleOrNull wsX5_ruleOrNull) := goodIn_app (goodIn_of _ (by decide +kernel)) ggX6_ruleAt_X5_ruleOrNull
theorem dX6_ruleAt_0 : decode cX6_ruleAt 0 = .ok (.aload_n 0, 1) := by decide +kernel
theorem dX6_ruleAt_1 : decode cX6_ruleAt 1 = .ok (.getfield 10, 3) := by decide +kernel
theorem dX6_ruleAt_4 : decode cX6_ruleAt 4 = .ok (.iload_n 1, 1) := by decide +kernel
theorem dX6_ruleAt_5 : decode cX6_ruleAt 5 = .ok (.invokevirtual 230, 3) := by decide +kernel
theorem dX6_ruleAt_8 : decode cX6_ruleAt 8 = .ok (.astore_n 2, 1) := by decide +kernel
theorem dX6_ruleAt_9 : decode cX6_ruleAt 9 = .ok (.aload_n 2, 1) := by decide +kernel
theorem dX6_ruleAt_10 : decode cX6_ruleAt 10 = .ok (.ifnonnull 13, 3) := by decide +kernel
theorem dX6_ruleAt_13 : decode cX6_ruleAt 13 = .ok (.new 179, 3) := by decide +kernel
theorem dX6_ruleAt_16 : decode cX6_ruleAt 16 = .ok (.dup, 1) := by decide +kernel
theorem dX6_ruleAt_17 : decode cX6_ruleAt 17 = .ok (.ldc 233, 2) := by decide +kernel
theorem dX6_ruleAt_19 : decode cX6_ruleAt 19 = .ok (.invokespecial 183, 3) := by decide +kernel
theorem dX6_ruleAt_22 : decode cX6_ruleAt 22 = .ok (.athrow, 1) := by decide +kernel
theorem dX6_ruleAt_23 : decode cX6_ruleAt 23 = .ok (.aload_n 2, 1) := by decide +kernel
theorem dX6_ruleAt_24 : decode cX6_ruleAt 24 = .ok (.areturn, 1) := by decide +kernel
set_option maxRecDepth 20000 in
theorem ggX6_exploredAt_X6_needExplored : GoodIn wsX6_exploredAt wsX6_needExplored := goodIn_ca (goodIn_r _ [8, 9, 10, 3, 11, 12, 13, 14, 15, 16, 17, 24, 25, 26, 27, 28, 29, 30, 31, 32, 33, 34, 35, 36, 37, 38, 39] (by decide +kernel) (by decide +kernel)) (goodIn_sub (fun _ h => List.mem_cons_of_mem _ (List.mem_append_right _ h)) (by decide +kernel))
set_option maxRecDepth 20000 in
theorem gX6_exploredAt_X6_needExplored : GoodIn wsX6_exploredAt (wsV RX6 157 RX6 yX6_needExplored wsX6_needExplored) := goodIn_app (goodIn_of _ (by decide +kernel)) ggX6_exploredAt_X6_needExplored
set_option maxRecDepth 20000 in
theorem ggX6_exploredAt_X1_situationAt : GoodIn wsX6_exploredAt wsX1_situationAt := goodIn_r _ [21, 22, 23, 28, 29, 30, 31, 32, 33, 34, 35, 36, 37, 38, 39] (by decide +kernel) (by decide +kernel)
set_option maxRecDepth 20000 in
theorem gX6_exploredAt_X1_situationAt : GoodIn wsX6_exploredAt (wsV RX6 235 RX1 yX1_situationAt wsX1_situationAt) := goodIn_app (goodIn_of _ (by decide +kernel)) ggX6_exploredAt_X1_situationAt
theorem dX6_exploredAt_0 : decode cX6_exploredAt 0 = .ok (.aload_n 0, 1) := by decide +kernel
theorem dX6_exploredAt_1 : decode cX6_exploredAt 1 = .ok (.invokevirtual 157, 3) := by decide +kernel
theorem dX6_exploredAt_4 : decode cX6_exploredAt 4 = .ok (.aload_n 0, 1) := by decide +kernel
theorem dX6_exploredAt_5 : decode cX6_exploredAt 5 = .ok (.getfield 28, 3) := by decide +kernel
theorem dX6_exploredAt_8 : decode cX6_exploredAt 8 = .ok (.iload_n 1, 1) := by decide +kernel
theorem dX6_exploredAt_9 : decode cX6_exploredAt 9 = .ok (.invokevirtual 235, 3) := by decide +kernel
theorem dX6_exploredAt_12 : decode cX6_exploredAt 12 = .ok (.istore_n 2, 1) := by decide +kernel
theorem dX6_exploredAt_13 : decode cX6_exploredAt 13 = .ok (.iload_n 2, 1) := by decide +kernel
theorem dX6_exploredAt_14 : decode cX6_exploredAt 14 = .ok (.iconst (-1), 1) := by decide +kernel
theorem dX6_exploredAt_15 : decode cX6_exploredAt 15 = .ok (.if_icmp .ne 13, 3) := by decide +kernel
theorem dX6_exploredAt_18 : decode cX6_exploredAt 18 = .ok (.new 179, 3) := by decide +kernel
theorem dX6_exploredAt_21 : decode cX6_exploredAt 21 = .ok (.dup, 1) := by decide +kernel
theorem dX6_exploredAt_22 : decode cX6_exploredAt 22 = .ok (.ldc 238, 2) := by decide +kernel
theorem dX6_exploredAt_24 : decode cX6_exploredAt 24 = .ok (.invokespecial 183, 3) := by decide +kernel
theorem dX6_exploredAt_27 : decode cX6_exploredAt 27 = .ok (.athrow, 1) := by decide +kernel
theorem dX6_exploredAt_28 : decode cX6_exploredAt 28 = .ok (.iload_n 2, 1) := by decide +kernel
theorem dX6_exploredAt_29 : decode cX6_exploredAt 29 = .ok (.ireturn, 1) := by decide +kernel
set_option maxRecDepth 20000 in
theorem ggX6_needExplored_X1_isUsable : GoodIn wsX6_needExplored wsX1_isUsable := goodIn_r _ [8, 9, 10, 15, 16, 17, 18, 19, 20, 21, 22, 23, 24, 25, 26] (by decide +kernel) (by decide +kernel)
set_option maxRecDepth 20000 in
theorem gX6_needExplored_X1_isUsable : GoodIn wsX6_needExplored (wsV RX6 240 RX1 yX1_isUsable wsX1_isUsable) := goodIn_app (goodIn_of _ (by decide +kernel)) ggX6_needExplored_X1_isUsable
theorem dX6_needExplored_0 : decode cX6_needExplored 0 = .ok (.aload_n 0, 1) := by decide +kernel
theorem dX6_needExplored_1 : decode cX6_needExplored 1 = .ok (.getfield 28, 3) := by decide +kernel
theorem dX6_needExplored_4 : decode cX6_needExplored 4 = .ok (.invokevirtual 240, 3) := by decide +kernel
theorem dX6_needExplored_7 : decode cX6_needExplored 7 = .ok (.ifCond .ne 13, 3) := by decide +kernel
theorem dX6_needExplored_10 : decode cX6_needExplored 10 = .ok (.new 43, 3) := by decide +kernel
theorem dX6_needExplored_13 : decode cX6_needExplored 13 = .ok (.dup, 1) := by decide +kernel
theorem dX6_needExplored_14 : decode cX6_needExplored 14 = .ok (.ldc 243, 2) := by decide +kernel
theorem dX6_needExplored_16 : decode cX6_needExplored 16 = .ok (.invokespecial 47, 3) := by decide +kernel
theorem dX6_needExplored_19 : decode cX6_needExplored 19 = .ok (.athrow, 1) := by decide +kernel
theorem dX6_needExplored_20 : decode cX6_needExplored 20 = .ok (.return_, 1) := by decide +kernel
theorem dX6_needFact_0 : decode cX6_needFact 0 = .ok (.iload_n 0, 1) := by decide +kernel
theorem dX6_needFact_1 : decode cX6_needFact 1 = .ok (.ifCond .lt 9, 3) := by decide +kernel
theorem dX6_needFact_4 : decode cX6_needFact 4 = .ok (.iload_n 0, 1) := by decide +kernel
theorem dX6_needFact_5 : decode cX6_needFact 5 = .ok (.bipush 6, 2) := by decide +kernel
theorem dX6_needFact_7 : decode cX6_needFact 7 = .ok (.if_icmp .lt 13, 3) := by decide +kernel
theorem dX6_needFact_10 : decode cX6_needFact 10 = .ok (.new 179, 3) := by decide +kernel
theorem dX6_needFact_13 : decode cX6_needFact 13 = .ok (.dup, 1) := by decide +kernel
theorem dX6_needFact_14 : decode cX6_needFact 14 = .ok (.ldc 245, 2) := by decide +kernel
theorem dX6_needFact_16 : decode cX6_needFact 16 = .ok (.invokespecial 183, 3) := by decide +kernel
theorem dX6_needFact_19 : decode cX6_needFact 19 = .ok (.athrow, 1) := by decide +kernel
theorem dX6_needFact_20 : decode cX6_needFact 20 = .ok (.return_, 1) := by decide +kernel
theorem dX6_needFactSet_0 : decode cX6_needFactSet 0 = .ok (.iload_n 0, 1) := by decide +kernel
theorem dX6_needFactSet_1 : decode cX6_needFactSet 1 = .ok (.ifCond .lt 9, 3) := by decide +kernel
theorem dX6_needFactSet_4 : decode cX6_needFactSet 4 = .ok (.iload_n 0, 1) := by decide +kernel
theorem dX6_needFactSet_5 : decode cX6_needFactSet 5 = .ok (.bipush 63, 2) := by decide +kernel
theorem dX6_needFactSet_7 : decode cX6_needFactSet 7 = .ok (.if_icmp .le 13, 3) := by decide +kernel
theorem dX6_needFactSet_10 : decode cX6_needFactSet 10 = .ok (.new 105, 3) := by decide +kernel
theorem dX6_needFactSet_13 : decode cX6_needFactSet 13 = .ok (.dup, 1) := by decide +kernel
theorem dX6_needFactSet_14 : decode cX6_needFactSet 14 = .ok (.ldc 247, 2) := by decide +kernel
theorem dX6_needFactSet_16 : decode cX6_needFactSet 16 = .ok (.invokespecial 109, 3) := by decide +kernel
theorem dX6_needFactSet_19 : decode cX6_needFactSet 19 = .ok (.athrow, 1) := by decide +kernel
theorem dX6_needFactSet_20 : decode cX6_needFactSet 20 = .ok (.return_, 1) := by decide +kernel
theorem dX6_changeCode_0 : decode cX6_changeCode 0 = .ok (.iconst 2, 1) := by decide +kernel
theorem dX6_changeCode_1 : decode cX6_changeCode 1 = .ok (.iload_n 0, 1) := by decide +kernel
theorem dX6_changeCode_2 : decode cX6_changeCode 2 = .ok (.imul, 1) := by decide +kernel
theorem dX6_changeCode_3 : decode cX6_changeCode 3 = .ok (.iload_n 1, 1) := by decide +kernel
theorem dX6_changeCode_4 : decode cX6_changeCode 4 = .ok (.ifCond .eq 7, 3) := by decide +kernel
theorem dX6_changeCode_7 : decode cX6_changeCode 7 = .ok (.iconst 1, 1) := by decide +kernel
theorem dX6_changeCode_8 : decode cX6_changeCode 8 = .ok (.goto 4, 3) := by decide +kernel
theorem dX6_changeCode_11 : decode cX6_changeCode 11 = .ok (.iconst 0, 1) := by decide +kernel
theorem dX6_changeCode_12 : decode cX6_changeCode 12 = .ok (.iadd, 1) := by decide +kernel
theorem dX6_changeCode_13 : decode cX6_changeCode 13 = .ok (.ireturn, 1) := by decide +kernel
theorem dX6_situationOf_0 : decode cX6_situationOf 0 = .ok (.iload_n 1, 1) := by decide +kernel
theorem dX6_situationOf_1 : decode cX6_situationOf 1 = .ok (.bipush 6, 2) := by decide +kernel
theorem dX6_situationOf_3 : decode cX6_situationOf 3 = .ok (.ishl, 1) := by decide +kernel
theorem dX6_situationOf_4 : decode cX6_situationOf 4 = .ok (.iload_n 0, 1) := by decide +kernel
theorem dX6_situationOf_5 : decode cX6_situationOf 5 = .ok (.ior, 1) := by decide +kernel
theorem dX6_situationOf_6 : decode cX6_situationOf 6 = .ok (.ireturn, 1) := by decide +kernel
theorem dX6_factsIn_0 : decode cX6_factsIn 0 = .ok (.iload_n 0, 1) := by decide +kernel
theorem dX6_factsIn_1 : decode cX6_factsIn 1 = .ok (.bipush 63, 2) := by decide +kernel
theorem dX6_factsIn_3 : decode cX6_factsIn 3 = .ok (.iand, 1) := by decide +kernel
theorem dX6_factsIn_4 : decode cX6_factsIn 4 = .ok (.ireturn, 1) := by decide +kernel
theorem dX6_triggeredIn_0 : decode cX6_triggeredIn 0 = .ok (.iload_n 0, 1) := by decide +kernel
theorem dX6_triggeredIn_1 : decode cX6_triggeredIn 1 = .ok (.bipush 6, 2) := by decide +kernel
theorem dX6_triggeredIn_3 : decode cX6_triggeredIn 3 = .ok (.ishr, 1) := by decide +kernel
theorem dX6_triggeredIn_4 : decode cX6_triggeredIn 4 = .ok (.ireturn, 1) := by decide +kernel
theorem dJ6_numberOfTrailingZeros_0f7a4_0 : decode cJ6_numberOfTrailingZeros_0f7a4 0 = .ok (.iload_n 0, 1) := by decide +kernel
theorem dJ6_numberOfTrailingZeros_0f7a4_1 : decode cJ6_numberOfTrailingZeros_0f7a4 1 = .ok (.iconst (-1), 1) := by decide +kernel
theorem dJ6_numberOfTrailingZeros_0f7a4_2 : decode cJ6_numberOfTrailingZeros_0f7a4 2 = .ok (.ixor, 1) := by decide +kernel
theorem dJ6_numberOfTrailingZeros_0f7a4_3 : decode cJ6_numberOfTrailingZeros_0f7a4 3 = .ok (.iload_n 0, 1) := by decide +kernel
theorem dJ6_numberOfTrailingZeros_0f7a4_4 : decode cJ6_numberOfTrailingZeros_0f7a4 4 = .ok (.iconst 1, 1) := by decide +kernel
theorem dJ6_numberOfTrailingZeros_0f7a4_5 : decode cJ6_numberOfTrailingZeros_0f7a4 5 = .ok (.isub, 1) := by decide +kernel
theorem dJ6_numberOfTrailingZeros_0f7a4_6 : decode cJ6_numberOfTrailingZeros_0f7a4 6 = .ok (.iand, 1) := by decide +kernel
theorem dJ6_numberOfTrailingZeros_0f7a4_7 : decode cJ6_numberOfTrailingZeros_0f7a4 7 = .ok (.istore_n 0, 1) := by decide +kernel
theorem dJ6_numberOfTrailingZeros_0f7a4_8 : decode cJ6_numberOfTrailingZeros_0f7a4 8 = .ok (.iload_n 0, 1) := by decide +kernel
theorem dJ6_numberOfTrailingZeros_0f7a4_9 : decode cJ6_numberOfTrailingZeros_0f7a4 9 = .ok (.ifCond .gt 8, 3) := by decide +kernel
theorem dJ6_numberOfTrailingZeros_0f7a4_12 : decode cJ6_numberOfTrailingZeros_0f7a4 12 = .ok (.iload_n 0, 1) := by decide +kernel
theorem dJ6_numberOfTrailingZeros_0f7a4_13 : decode cJ6_numberOfTrailingZeros_0f7a4 13 = .ok (.bipush 32, 2) := by decide +kernel
theorem dJ6_numberOfTrailingZeros_0f7a4_15 : decode cJ6_numberOfTrailingZeros_0f7a4 15 = .ok (.iand, 1) := by decide +kernel
theorem dJ6_numberOfTrailingZeros_0f7a4_16 : decode cJ6_numberOfTrailingZeros_0f7a4 16 = .ok (.ireturn, 1) := by decide +kernel
theorem dJ6_numberOfTrailingZeros_0f7a4_17 : decode cJ6_numberOfTrailingZeros_0f7a4 17 = .ok (.iconst 1, 1) := by decide +kernel
theorem dJ6_numberOfTrailingZeros_0f7a4_18 : decode cJ6_numberOfTrailingZeros_0f7a4 18 = .ok (.istore_n 1, 1) := by decide +kernel
theorem dJ6_numberOfTrailingZeros_0f7a4_19 : decode cJ6_numberOfTrailingZeros_0f7a4 19 = .ok (.iload_n 0, 1) := by decide +kernel
theorem dJ6_numberOfTrailingZeros_0f7a4_20 : decode cJ6_numberOfTrailingZeros_0f7a4 20 = .ok (.ldc_w 264, 3) := by decide +kernel
theorem dJ6_numberOfTrailingZeros_0f7a4_23 : decode cJ6_numberOfTrailingZeros_0f7a4 23 = .ok (.if_icmp .le 11, 3) := by decide +kernel
theorem dJ6_numberOfTrailingZeros_0f7a4_26 : decode cJ6_numberOfTrailingZeros_0f7a4 26 = .ok (.iinc 1 16, 3) := by decide +kernel
theorem dJ6_numberOfTrailingZeros_0f7a4_29 : decode cJ6_numberOfTrailingZeros_0f7a4 29 = .ok (.iload_n 0, 1) := by decide +kernel
theorem dJ6_numberOfTrailingZeros_0f7a4_30 : decode cJ6_numberOfTrailingZeros_0f7a4 30 = .ok (.bipush 16, 2) := by decide +kernel
theorem dJ6_numberOfTrailingZeros_0f7a4_32 : decode cJ6_numberOfTrailingZeros_0f7a4 32 = .ok (.iushr, 1) := by decide +kernel
theorem dJ6_numberOfTrailingZeros_0f7a4_33 : decode cJ6_numberOfTrailingZeros_0f7a4 33 = .ok (.istore_n 0, 1) := by decide +kernel
theorem dJ6_numberOfTrailingZeros_0f7a4_34 : decode cJ6_numberOfTrailingZeros_0f7a4 34 = .ok (.iload_n 0, 1) := by decide +kernel
theorem dJ6_numberOfTrailingZeros_0f7a4_35 : decode cJ6_numberOfTrailingZeros_0f7a4 35 = .ok (.sipush 256, 3) := by decide +kernel
theorem dJ6_numberOfTrailingZeros_0f7a4_38 : decode cJ6_numberOfTrailingZeros_0f7a4 38 = .ok (.if_icmp .le 11, 3) := by decide +kernel
theorem dJ6_numberOfTrailingZeros_0f7a4_41 : decode cJ6_numberOfTrailingZeros_0f7a4 41 = .ok (.iinc 1 8, 3) := by decide +kernel
theorem dJ6_numberOfTrailingZeros_0f7a4_44 : decode cJ6_numberOfTrailingZeros_0f7a4 44 = .ok (.iload_n 0, 1) := by decide +kernel
theorem dJ6_numberOfTrailingZeros_0f7a4_45 : decode cJ6_numberOfTrailingZeros_0f7a4 45 = .ok (.bipush 8, 2) := by decide +kernel
theorem dJ6_numberOfTrailingZeros_0f7a4_47 : decode cJ6_numberOfTrailingZeros_0f7a4 47 = .ok (.iushr, 1) := by decide +kernel
theorem dJ6_numberOfTrailingZeros_0f7a4_48 : decode cJ6_numberOfTrailingZeros_0f7a4 48 = .ok (.istore_n 0, 1) := by decide +kernel
theorem dJ6_numberOfTrailingZeros_0f7a4_49 : decode cJ6_numberOfTrailingZeros_0f7a4 49 = .ok (.iload_n 0, 1) := by decide +kernel
theorem dJ6_numberOfTrailingZeros_0f7a4_50 : decode cJ6_numberOfTrailingZeros_0f7a4 50 = .ok (.bipush 16, 2) := by decide +kernel
theorem dJ6_numberOfTrailingZeros_0f7a4_52 : decode cJ6_numberOfTrailingZeros_0f7a4 52 = .ok (.if_icmp .le 10, 3) := by decide +kernel
theorem dJ6_numberOfTrailingZeros_0f7a4_55 : decode cJ6_numberOfTrailingZeros_0f7a4 55 = .ok (.iinc 1 4, 3) := by decide +kernel
theorem dJ6_numberOfTrailingZeros_0f7a4_58 : decode cJ6_numberOfTrailingZeros_0f7a4 58 = .ok (.iload_n 0, 1) := by decide +kernel
theorem dJ6_numberOfTrailingZeros_0f7a4_59 : decode cJ6_numberOfTrailingZeros_0f7a4 59 = .ok (.iconst 4, 1) := by decide +kernel
theorem dJ6_numberOfTrailingZeros_0f7a4_60 : decode cJ6_numberOfTrailingZeros_0f7a4 60 = .ok (.iushr, 1) := by decide +kernel
theorem dJ6_numberOfTrailingZeros_0f7a4_61 : decode cJ6_numberOfTrailingZeros_0f7a4 61 = .ok (.istore_n 0, 1) := by decide +kernel
theorem dJ6_numberOfTrailingZeros_0f7a4_62 : decode cJ6_numberOfTrailingZeros_0f7a4 62 = .ok (.iload_n 0, 1) := by decide +kernel
theorem dJ6_numberOfTrailingZeros_0f7a4_63 : decode cJ6_numberOfTrailingZeros_0f7a4 63 = .ok (.iconst 4, 1) := by decide +kernel
theorem dJ6_numberOfTrailingZeros_0f7a4_64 : decode cJ6_numberOfTrailingZeros_0f7a4 64 = .ok (.if_icmp .le 10, 3) := by decide +kernel
theorem dJ6_numberOfTrailingZeros_0f7a4_67 : decode cJ6_numberOfTrailingZeros_0f7a4 67 = .ok (.iinc 1 2, 3) := by decide +kernel
theorem dJ6_numberOfTrailingZeros_0f7a4_70 : decode cJ6_numberOfTrailingZeros_0f7a4 70 = .ok (.iload_n 0, 1) := by decide +kernel
theorem dJ6_numberOfTrailingZeros_0f7a4_71 : decode cJ6_numberOfTrailingZeros_0f7a4 71 = .ok (.iconst 2, 1) := by decide +kernel
theorem dJ6_numberOfTrailingZeros_0f7a4_72 : decode cJ6_numberOfTrailingZeros_0f7a4 72 = .ok (.iushr, 1) := by decide +kernel
theorem dJ6_numberOfTrailingZeros_0f7a4_73 : decode cJ6_numberOfTrailingZeros_0f7a4 73 = .ok (.istore_n 0, 1) := by decide +kernel
theorem dJ6_numberOfTrailingZeros_0f7a4_74 : decode cJ6_numberOfTrailingZeros_0f7a4 74 = .ok (.iload_n 1, 1) := by decide +kernel
theorem dJ6_numberOfTrailingZeros_0f7a4_75 : decode cJ6_numberOfTrailingZeros_0f7a4 75 = .ok (.iload_n 0, 1) := by decide +kernel
theorem dJ6_numberOfTrailingZeros_0f7a4_76 : decode cJ6_numberOfTrailingZeros_0f7a4 76 = .ok (.iconst 1, 1) := by decide +kernel
theorem dJ6_numberOfTrailingZeros_0f7a4_77 : decode cJ6_numberOfTrailingZeros_0f7a4 77 = .ok (.iushr, 1) := by decide +kernel
theorem dJ6_numberOfTrailingZeros_0f7a4_78 : decode cJ6_numberOfTrailingZeros_0f7a4 78 = .ok (.iadd, 1) := by decide +kernel
theorem dJ6_numberOfTrailingZeros_0f7a4_79 : decode cJ6_numberOfTrailingZeros_0f7a4 79 = .ok (.ireturn, 1) := by decide +kernel
theorem dJ6_bitCount_0f7a4_0 : decode cJ6_bitCount_0f7a4 0 = .ok (.iload_n 0, 1) := by decide +kernel
theorem dJ6_bitCount_0f7a4_1 : decode cJ6_bitCount_0f7a4 1 = .ok (.iload_n 0, 1) := by decide +kernel
theorem dJ6_bitCount_0f7a4_2 : decode cJ6_bitCount_0f7a4 2 = .ok (.iconst 1, 1) := by decide +kernel
theorem dJ6_bitCount_0f7a4_3 : decode cJ6_bitCount_0f7a4 3 = .ok (.iushr, 1) := by decide +kernel
theorem dJ6_bitCount_0f7a4_4 : decode cJ6_bitCount_0f7a4 4 = .ok (.ldc_w 265, 3) := by decide +kernel
theorem dJ6_bitCount_0f7a4_7 : decode cJ6_bitCount_0f7a4 7 = .ok (.iand, 1) := by decide +kernel
theorem dJ6_bitCount_0f7a4_8 : decode cJ6_bitCount_0f7a4 8 = .ok (.isub, 1) := by decide +kernel
theorem dJ6_bitCount_0f7a4_9 : decode cJ6_bitCount_0f7a4 9 = .ok (.istore_n 0, 1) := by decide +kernel
theorem dJ6_bitCount_0f7a4_10 : decode cJ6_bitCount_0f7a4 10 = .ok (.iload_n 0, 1) := by decide +kernel
theorem dJ6_bitCount_0f7a4_11 : decode cJ6_bitCount_0f7a4 11 = .ok (.ldc_w 266, 3) := by decide +kernel
theorem dJ6_bitCount_0f7a4_14 : decode cJ6_bitCount_0f7a4 14 = .ok (.iand, 1) := by decide +kernel
theorem dJ6_bitCount_0f7a4_15 : decode cJ6_bitCount_0f7a4 15 = .ok (.iload_n 0, 1) := by decide +kernel
theorem dJ6_bitCount_0f7a4_16 : decode cJ6_bitCount_0f7a4 16 = .ok (.iconst 2, 1) := by decide +kernel
theorem dJ6_bitCount_0f7a4_17 : decode cJ6_bitCount_0f7a4 17 = .ok (.iushr, 1) := by decide +kernel
theorem dJ6_bitCount_0f7a4_18 : decode cJ6_bitCount_0f7a4 18 = .ok (.ldc_w 266, 3) := by decide +kernel
theorem dJ6_bitCount_0f7a4_21 : decode cJ6_bitCount_0f7a4 21 = .ok (.iand, 1) := by decide +kernel
theorem dJ6_bitCount_0f7a4_22 : decode cJ6_bitCount_0f7a4 22 = .ok (.iadd, 1) := by decide +kernel
theorem dJ6_bitCount_0f7a4_23 : decode cJ6_bitCount_0f7a4 23 = .ok (.istore_n 0, 1) := by decide +kernel
theorem dJ6_bitCount_0f7a4_24 : decode cJ6_bitCount_0f7a4 24 = .ok (.iload_n 0, 1) := by decide +kernel
theorem dJ6_bitCount_0f7a4_25 : decode cJ6_bitCount_0f7a4 25 = .ok (.iload_n 0, 1) := by decide +kernel
theorem dJ6_bitCount_0f7a4_26 : decode cJ6_bitCount_0f7a4 26 = .ok (.iconst 4, 1) := by decide +kernel
theorem dJ6_bitCount_0f7a4_27 : decode cJ6_bitCount_0f7a4 27 = .ok (.iushr, 1) := by decide +kernel
theorem dJ6_bitCount_0f7a4_28 : decode cJ6_bitCount_0f7a4 28 = .ok (.iadd, 1) := by decide +kernel
theorem dJ6_bitCount_0f7a4_29 : decode cJ6_bitCount_0f7a4 29 = .ok (.ldc_w 267, 3) := by decide +kernel
theorem dJ6_bitCount_0f7a4_32 : decode cJ6_bitCount_0f7a4 32 = .ok (.iand, 1) := by decide +kernel
theorem dJ6_bitCount_0f7a4_33 : decode cJ6_bitCount_0f7a4 33 = .ok (.istore_n 0, 1) := by decide +kernel
theorem dJ6_bitCount_0f7a4_34 : decode cJ6_bitCount_0f7a4 34 = .ok (.iload_n 0, 1) := by decide +kernel
theorem dJ6_bitCount_0f7a4_35 : decode cJ6_bitCount_0f7a4 35 = .ok (.iload_n 0, 1) := by decide +kernel
theorem dJ6_bitCount_0f7a4_36 : decode cJ6_bitCount_0f7a4 36 = .ok (.bipush 8, 2) := by decide +kernel
theorem dJ6_bitCount_0f7a4_38 : decode cJ6_bitCount_0f7a4 38 = .ok (.iushr, 1) := by decide +kernel
theorem dJ6_bitCount_0f7a4_39 : decode cJ6_bitCount_0f7a4 39 = .ok (.iadd, 1) := by decide +kernel
theorem dJ6_bitCount_0f7a4_40 : decode cJ6_bitCount_0f7a4 40 = .ok (.istore_n 0, 1) := by decide +kernel
theorem dJ6_bitCount_0f7a4_41 : decode cJ6_bitCount_0f7a4 41 = .ok (.iload_n 0, 1) := by decide +kernel
theorem dJ6_bitCount_0f7a4_42 : decode cJ6_bitCount_0f7a4 42 = .ok (.iload_n 0, 1) := by decide +kernel
theorem dJ6_bitCount_0f7a4_43 : decode cJ6_bitCount_0f7a4 43 = .ok (.bipush 16, 2) := by decide +kernel
theorem dJ6_bitCount_0f7a4_45 : decode cJ6_bitCount_0f7a4 45 = .ok (.iushr, 1) := by decide +kernel
theorem dJ6_bitCount_0f7a4_46 : decode cJ6_bitCount_0f7a4 46 = .ok (.iadd, 1) := by decide +kernel
theorem dJ6_bitCount_0f7a4_47 : decode cJ6_bitCount_0f7a4 47 = .ok (.istore_n 0, 1) := by decide +kernel
theorem dJ6_bitCount_0f7a4_48 : decode cJ6_bitCount_0f7a4 48 = .ok (.iload_n 0, 1) := by decide +kernel
theorem dJ6_bitCount_0f7a4_49 : decode cJ6_bitCount_0f7a4 49 = .ok (.bipush 63, 2) := by decide +kernel
theorem dJ6_bitCount_0f7a4_51 : decode cJ6_bitCount_0f7a4 51 = .ok (.iand, 1) := by decide +kernel
theorem dJ6_bitCount_0f7a4_52 : decode cJ6_bitCount_0f7a4 52 = .ok (.ireturn, 1) := by decide +kernel
theorem dJ9_max_7cf53_0 : decode cJ9_max_7cf53 0 = .ok (.iload_n 0, 1) := by decide +kernel
theorem dJ9_max_7cf53_1 : decode cJ9_max_7cf53 1 = .ok (.iload_n 1, 1) := by decide +kernel
theorem dJ9_max_7cf53_2 : decode cJ9_max_7cf53 2 = .ok (.if_icmp .lt 7, 3) := by decide +kernel
theorem dJ9_max_7cf53_5 : decode cJ9_max_7cf53 5 = .ok (.iload_n 0, 1) := by decide +kernel
theorem dJ9_max_7cf53_6 : decode cJ9_max_7cf53 6 = .ok (.goto 4, 3) := by decide +kernel
theorem dJ9_max_7cf53_9 : decode cJ9_max_7cf53 9 = .ok (.iload_n 1, 1) := by decide +kernel
theorem dJ9_max_7cf53_10 : decode cJ9_max_7cf53 10 = .ok (.ireturn, 1) := by decide +kernel
abbrev vwCl : List vw_C := [(RX0, TX0, 3), (RX1, TX1, 12), (RX2, TX2, 2), (RX3, TX3, 8), (RX4, TX4, 11), (RX5, TX5, 3), (RX6, TX6, 4), (RX7, TX7, 18)]
