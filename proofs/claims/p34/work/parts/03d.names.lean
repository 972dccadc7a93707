theorem dX6_ruleAt_17 : decode cX6_ruleAt 17 = .ok (.ldc 233, 2) := by decide +kernel
theorem dX6_ruleAt_19 : decode cX6_ruleAt 19 = .ok (.invokespecial 183, 3) := by decide +kernel
theorem dX6_ruleAt_22 : decode cX6_ruleAt 22 = .ok (.athrow, 1) := by decide +kernel
theorem dX6_ruleAt_23 : decode cX6_ruleAt 23 = .ok (.aload_n 2, 1) := by decide +kernel
theorem dX6_ruleAt_24 : decode cX6_ruleAt 24 = .ok (.areturn, 1) := by decide +kernel
set_option maxRecDepth 20000 in
theorem ggX6_exploredAt_X6_needExplored : GoodIn wsX6_exploredAt wsX6_needExplored := goodIn_ca (goodIn_r _ [8, 9, 10, 3, 11, 12, 13, 14, 15, 16, 17, 24, 25, 26, 27, 28, 29, 30, 31, 32, 33, 34, 35, 36, 37, 38, 39] (by decide +kernel) (by decide +kernel)) (goodIn_sub (fun _ h => List.mem_cons_of_mem _ (List.mem_append_right _ h)) (by decide +kernel))
set_option maxRecDepth 20000 in
theorem gX6_exploredAt_X6_needExplored : GoodIn wsX6_exploredAt (wsV RX6 157 RX6 yX6_needExplored wsX6_needExplored) := goodIn_app (goodIn_of _ (by decide +kernel)) ggX6_exploredAt_X6_needExplored
set_option maxRecDepth 20000 in
theorem ggX6_exploredAt_X1_situationAt : GoodIn wsX6_exploredAt wsX1_situationAt := goodIn_r _ [21, 22, 23, 28, 29, 30, 31, 32, 33, 34, 35, 36, 37, 38, 39] (by decide +kernel) (by decide +kernel)
set_option maxRecDepth 20000 in
theorem gX6_exploredAt_X1_situationAt : GoodIn wsX6_exploredAt (wsV RX6 235 RX1 yX1_situationAt wsX1_situationAt) := goodIn_app (goodIn_of _ (by decide +kernel)) ggX6_exploredAt_X1_situationAt
theorem dX6_exploredAt_0 : decode cX6_exploredAt 0 = .ok (.aload_n 0, 1) := by decide +kernel
theorem dX6_exploredAt_1 : decode cX6_exploredAt 1 = .ok (.invokevirtual 157, 3) := by decide +kernel
theorem dX6_exploredAt_4 : decode cX6_exploredAt 4 = .ok (.aload_n 0, 1) := by decide +kernel
theorem dX6_exploredAt_5 : decode cX6_exploredAt 5 = .ok (.getfield 28, 3) := by decide +kernel
theorem dX6_exploredAt_8 : decode cX6_exploredAt 8 = .ok (.iload_n 1, 1) := by decide +kernel
theorem dX6_exploredAt_9 : decode cX6_exploredAt 9 = .ok (.invokevirtual 235, 3) := by decide +kernel
theorem dX6_exploredAt_12 : decode cX6_exploredAt 12 = .ok (.istore_n 2, 1) := by decide +kernel
theorem dX6_exploredAt_13 : decode cX6_exploredAt 13 = .ok (.iload_n 2, 1) := by decide +kernel
theorem dX6_exploredAt_14 : decode cX6_exploredAt 14 = .ok (.iconst (-1), 1) := by decide +kernel
theorem dX6_exploredAt_15 : decode cX6_exploredAt 15 = .ok (.if_icmp .ne 13, 3) := by decide +kernel
theorem dX6_exploredAt_18 : decode cX6_exploredAt 18 = .ok (.new 179, 3) := by decide +kernel
theorem dX6_exploredAt_21 : decode cX6_exploredAt 21 = .ok (.dup, 1) := by decide +kernel
theorem dX6_exploredAt_22 : decode cX6_exploredAt 22 = .ok (.ldc 238, 2) := by decide +kernel
theorem dX6_exploredAt_24 : decode cX6_exploredAt 24 = .ok (.invokespecial 183, 3) := by decide +kernel
theorem dX6_exploredAt_27 : decode cX6_exploredAt 27 = .ok (.athrow, 1) := by decide +kernel
theorem dX6_exploredAt_28 : decode cX6_exploredAt 28 = .ok (.iload_n 2, 1) := by decide +kernel
theorem dX6_exploredAt_29 : decode cX6_exploredAt 29 = .ok (.ireturn, 1) := by decide +kernel
set_option maxRecDepth 20000 in
theorem ggX6_needExplored_X1_isUsable : GoodIn wsX6_needExplored wsX1_isUsable := goodIn_r _ [8, 9, 10, 15, 16, 17, 18, 19, 20, 21, 22, 23, 24, 25, 26] (by decide +kernel) (by decide +kernel)
set_option maxRecDepth 20000 in
theorem gX6_needExplored_X1_isUsable : GoodIn wsX6_needExplored (wsV RX6 240 RX1 yX1_isUsable wsX1_isUsable) := goodIn_app (goodIn_of _ (by decide +kernel)) ggX6_needExplored_X1_isUsable
theorem dX6_needExplored_0 : decode cX6_needExplored 0 = .ok (.aload_n 0, 1) := by decide +kernel
theorem dX6_needExplored_1 : decode cX6_needExplored 1 = .ok (.getfield 28, 3) := by decide +kernel
theorem dX6_needExplored_4 : decode cX6_needExplored 4 = .ok (.invokevirtual 240, 3) := by decide +kernel
theorem dX6_needExplored_7 : decode cX6_needExplored 7 = .ok (.ifCond .ne 13, 3) := by decide +kernel
theorem dX6_needExplored_10 : decode cX6_needExplored 10 = .ok (.new 43, 3) := by decide +kernel
theorem dX6_needExplored_13 : decode cX6_needExplored 13 = .ok (.dup, 1) := by decide +kernel
theorem dX6_needExplored_14 : decode cX6_needExplored 14 = .ok (.ldc 243, 2) := by decide +kernel
theorem dX6_needExplored_16 : decode cX6_needExplored 16 = .ok (.invokespecial 47, 3) := by decide +kernel
theorem dX6_needExplored_19 : decode cX6_needExplored 19 = .ok (.athrow, 1) := by decide +kernel
theorem dX6_needExplored_20 : decode cX6_needExplored 20 = .ok (.return_, 1) := by decide +kernel
theorem dX6_needFact_0 : decode cX6_needFact 0 = .ok (.iload_n 0, 1) := by decide +kernel
theorem dX6_needFact_1 : decode cX6_needFact 1 = .ok (.ifCond .lt 9, 3) := by decide +kernel
theorem dX6_needFact_4 : decode cX6_needFact 4 = .ok (.iload_n 0, 1) := by decide +kernel
theorem dX6_needFact_5 : decode cX6_needFact 5 = .ok (.bipush 6, 2) := by decide +kernel
theorem dX6_needFact_7 : decode cX6_needFact 7 = .ok (.if_icmp .lt 13, 3) := by decide +kernel
theorem dX6_needFact_10 : decode cX6_needFact 10 = .ok (.new 179, 3) := by decide +kernel
theorem dX6_needFact_13 : decode cX6_needFact 13 = .ok (.dup, 1) := by decide +kernel
theorem dX6_needFact_14 : decode cX6_needFact 14 = .ok (.ldc 245, 2) := by decide +kernel
theorem dX6_needFact_16 : decode cX6_needFact 16 = .ok (.invokespecial 183, 3) := by decide +kernel
theorem dX6_needFact_19 : decode cX6_needFact 19 = .ok (.athrow, 1) := by decide +kernel
theorem dX6_needFact_20 : decode cX6_needFact 20 = .ok (.return_, 1) := by decide +kernel
theorem dX6_needFactSet_0 : decode cX6_needFactSet 0 = .ok (.iload_n 0, 1) := by decide +kernel
theorem dX6_needFactSet_1 : decode cX6_needFactSet 1 = .ok (.ifCond .lt 9, 3) := by decide +kernel
theorem dX6_needFactSet_4 : decode cX6_needFactSet 4 = .ok (.iload_n 0, 1) := by decide +kernel
theorem dX6_needFactSet_5 : decode cX6_needFactSet 5 = .ok (.bipush 63, 2) := by decide +kernel
theorem dX6_needFactSet_7 : decode cX6_needFactSet 7 = .ok (.if_icmp .le 13, 3) := by decide +kernel
theorem dX6_needFactSet_10 : decode cX6_needFactSet 10 = .ok (.new 105, 3) := by decide +kernel
theorem dX6_needFactSet_13 : decode cX6_needFactSet 13 = .ok (.dup, 1) := by decide +kernel
theorem dX6_needFactSet_14 : decode cX6_needFactSet 14 = .ok (.ldc 247, 2) := by decide +kernel
theorem dX6_needFactSet_16 : decode cX6_needFactSet 16 = .ok (.invokespecial 109, 3) := by decide +kernel
theorem dX6_needFactSet_19 : decode cX6_needFactSet 19 = .ok (.athrow, 1) := by decide +kernel
theorem dX6_needFactSet_20 : decode cX6_needFactSet 20 = .ok (.return_, 1) := by decide +kernel
theorem dX6_changeCode_0 : decode cX6_changeCode 0 = .ok (.iconst 2, 1) := by decide +kernel
theorem dX6_changeCode_1 : decode cX6_changeCode 1 = .ok (.iload_n 0, 1) := by decide +kernel
theorem dX6_changeCode_2 : decode cX6_changeCode 2 = .ok (.imul, 1) := by decide +kernel
theorem dX6_changeCode_3 : decode cX6_changeCode 3 = .ok (.iload_n 1, 1) := by decide +kernel
theorem dX6_changeCode_4 : decode cX6_changeCode 4 = .ok (.ifCond .eq 7, 3) := by decide +kernel
theorem dX6_changeCode_7 : decode cX6_changeCode 7 = .ok (.iconst 1, 1) := by decide +kernel
theorem dX6_changeCode_8 : decode cX6_changeCode 8 = .ok (.goto 4, 3) := by decide +kernel
theorem dX6_changeCode_11 : decode cX6_changeCode 11 = .ok (.iconst 0, 1) := by decide +kernel
theorem dX6_changeCode_12 : decode cX6_changeCode 12 = .ok (.iadd, 1) := by decide +kernel
theorem dX6_changeCode_13 : decode cX6_changeCode 13 = .ok (.ireturn, 1) := by decide +kernel
theorem dX6_situationOf_0 : decode cX6_situationOf 0 = .ok (.iload_n 1, 1) := by decide +kernel
theorem dX6_situationOf_1 : decode cX6_situationOf 1 = .ok (.bipush 6, 2) := by decide +kernel
theorem dX6_situationOf_3 : decode cX6_situationOf 3 = .ok (.ishl, 1) := by decide +kernel
theorem dX6_situationOf_4 : decode cX6_situationOf 4 = .ok (.iload_n 0, 1) := by decide +kernel
theorem dX6_situationOf_5 : decode cX6_situationOf 5 = .ok (.ior, 1) := by decide +kernel
theorem dX6_situationOf_6 : decode cX6_situationOf 6 = .ok (.ireturn, 1) := by decide +kernel
theorem dX6_factsIn_0 : decode cX6_factsIn 0 = .ok (.iload_n 0, 1) := by decide +kernel
theorem dX6_factsIn_1 : decode cX6_factsIn 1 = .ok (.bipush 63, 2) := by decide +kernel
theorem dX6_factsIn_3 : decode cX6_factsIn 3 = .ok (.iand, 1) := by decide +kernel
theorem dX6_factsIn_4 : decode cX6_factsIn 4 = .ok (.ireturn, 1) := by decide +kernel
theorem dX6_triggeredIn_0 : decode cX6_triggeredIn 0 = .ok (.iload_n 0, 1) := by decide +kernel
theorem dX6_triggeredIn_1 : decode cX6_triggeredIn 1 = .ok (.bipush 6, 2) := by decide +kernel
theorem dX6_triggeredIn_3 : decode cX6_triggeredIn 3 = .ok (.ishr, 1) := by decide +kernel
theorem dX6_triggeredIn_4 : decode cX6_triggeredIn 4 = .ok (.ireturn, 1) := by decide +kernel
theorem dJ6_bitCount_0f7a4_0 : decode cJ6_bitCount_0f7a4 0 = .ok (.iload_n 0, 1) := by decide +kernel
theorem dJ6_bitCount_0f7a4_1 : decode cJ6_bitCount_0f7a4 1 = .ok (.iload_n 0, 1) := by decide +kernel
theorem dJ6_bitCount_0f7a4_2 : decode cJ6_bitCount_0f7a4 2 = .ok (.iconst 1, 1) := by decide +kernel
theorem dJ6_bitCount_0f7a4_3 : decode cJ6_bitCount_0f7a4 3 = .ok (.iushr, 1) := by decide +kernel
theorem dJ6_bitCount_0f7a4_4 : decode cJ6_bitCount_0f7a4 4 = .ok (.ldc_w 265, 3) := by decide +kernel
theorem dJ6_bitCount_0f7a4_7 : decode cJ6_bitCount_0f7a4 7 = .ok (.iand, 1) := by decide +kernel
theorem dJ6_bitCount_0f7a4_8 : decode cJ6_bitCount_0f7a4 8 = .ok (.isub, 1) := by decide +kernel
theorem dJ6_bitCount_0f7a4_9 : decode cJ6_bitCount_0f7a4 9 = .ok (.istore_n 0, 1) := by decide +kernel
theorem dJ6_bitCount_0f7a4_10 : decode cJ6_bitCount_0f7a4 10 = .ok (.iload_n 0, 1) := by decide +kernel
theorem dJ6_bitCount_0f7a4_11 : decode cJ6_bitCount_0f7a4 11 = .ok (.ldc_w 266, 3) := by decide +kernel
theorem dJ6_bitCount_0f7a4_14 : decode cJ6_bitCount_0f7a4 14 = .ok (.iand, 1) := by decide +kernel
theorem dJ6_bitCount_0f7a4_15 : decode cJ6_bitCount_0f7a4 15 = .ok (.iload_n 0, 1) := by decide +kernel
theorem dJ6_bitCount_0f7a4_16 : decode cJ6_bitCount_0f7a4 16 = .ok (.iconst 2, 1) := by decide +kernel
theorem dJ6_bitCount_0f7a4_17 : decode cJ6_bitCount_0f7a4 17 = .ok (.iushr, 1) := by decide +kernel
theorem dJ6_bitCount_0f7a4_18 : decode cJ6_bitCount_0f7a4 18 = .ok (.ldc_w 266, 3) := by decide +kernel
theorem dJ6_bitCount_0f7a4_21 : decode cJ6_bitCount_0f7a4 21 = .ok (.iand, 1) := by decide +kernel
theorem dJ6_bitCount_0f7a4_22 : decode cJ6_bitCount_0f7a4 22 = .ok (.iadd, 1) := by decide +kernel
theorem dJ6_bitCount_0f7a4_23 : decode cJ6_bitCount_0f7a4 23 = .ok (.istore_n 0, 1) := by decide +kernel
theorem dJ6_bitCount_0f7a4_24 : decode cJ6_bitCount_0f7a4 24 = .ok (.iload_n 0, 1) := by decide +kernel
theorem dJ6_bitCount_0f7a4_25 : decode cJ6_bitCount_0f7a4 25 = .ok (.iload_n 0, 1) := by decide +kernel
theorem dJ6_bitCount_0f7a4_26 : decode cJ6_bitCount_0f7a4 26 = .ok (.iconst 4, 1) := by decide +kernel
theorem dJ6_bitCount_0f7a4_27 : decode cJ6_bitCount_0f7a4 27 = .ok (.iushr, 1) := by decide +kernel
theorem dJ6_bitCount_0f7a4_28 : decode cJ6_bitCount_0f7a4 28 = .ok (.iadd, 1) := by decide +kernel
theorem dJ6_bitCount_0f7a4_29 : decode cJ6_bitCount_0f7a4 29 = .ok (.ldc_w 267, 3) := by decide +kernel
theorem dJ6_bitCount_0f7a4_32 : decode cJ6_bitCount_0f7a4 32 = .ok (.iand, 1) := by decide +kernel
theorem dJ6_bitCount_0f7a4_33 : decode cJ6_bitCount_0f7a4 33 = .ok (.istore_n 0, 1) := by decide +kernel
theorem dJ6_bitCount_0f7a4_34 : decode cJ6_bitCount_0f7a4 34 = .ok (.iload_n 0, 1) := by decide +kernel
theorem dJ6_bitCount_0f7a4_35 : decode cJ6_bitCount_0f7a4 35 = .ok (.iload_n 0, 1) := by decide +kernel
theorem dJ6_bitCount_0f7a4_36 : decode cJ6_bitCount_0f7a4 36 = .ok (.bipush 8, 2) := by decide +kernel
theorem dJ6_bitCount_0f7a4_38 : decode cJ6_bitCount_0f7a4 38 = .ok (.iushr, 1) := by decide +kernel
theorem dJ6_bitCount_0f7a4_39 : decode cJ6_bitCount_0f7a4 39 = .ok (.iadd, 1) := by decide +kernel
theorem dJ6_bitCount_0f7a4_40 : decode cJ6_bitCount_0f7a4 40 = .ok (.istore_n 0, 1) := by decide +kernel
theorem dJ6_bitCount_0f7a4_41 : decode cJ6_bitCount_0f7a4 41 = .ok (.iload_n 0, 1) := by decide +kernel
theorem dJ6_bitCount_0f7a4_42 : decode cJ6_bitCount_0f7a4 42 = .ok (.iload_n 0, 1) := by decide +kernel
theorem dJ6_bitCount_0f7a4_43 : decode cJ6_bitCount_0f7a4 43 = .ok (.bipush 16, 2) := by decide +kernel
theorem dJ6_bitCount_0f7a4_45 : decode cJ6_bitCount_0f7a4 45 = .ok (.iushr, 1) := by decide +kernel
theorem dJ6_bitCount_0f7a4_46 : decode cJ6_bitCount_0f7a4 46 = .ok (.iadd, 1) := by decide +kernel
theorem dJ6_bitCount_0f7a4_47 : decode cJ6_bitCount_0f7a4 47 = .ok (.istore_n 0, 1) := by decide +kernel
theorem dJ6_bitCount_0f7a4_48 : decode cJ6_bitCount_0f7a4 48 = .ok (.iload_n 0, 1) := by decide +kernel
theorem dJ6_bitCount_0f7a4_49 : decode cJ6_bitCount_0f7a4 49 = .ok (.bipush 63, 2) := by decide +kernel
theorem dJ6_bitCount_0f7a4_51 : decode cJ6_bitCount_0f7a4 51 = .ok (.iand, 1) := by decide +kernel
theorem dJ6_bitCount_0f7a4_52 : decode cJ6_bitCount_0f7a4 52 = .ok (.ireturn, 1) := by decide +kernel
theorem dJ9_max_7cf53_0 : decode cJ9_max_7cf53 0 = .ok (.iload_n 0, 1) := by decide +kernel
theorem dJ9_max_7cf53_1 : decode cJ9_max_7cf53 1 = .ok (.iload_n 1, 1) := by decide +kernel
theorem dJ9_max_7cf53_2 : decode cJ9_max_7cf53 2 = .ok (.if_icmp .lt 7, 3) := by decide +kernel
theorem dJ9_max_7cf53_5 : decode cJ9_max_7cf53 5 = .ok (.iload_n 0, 1) := by decide +kernel
theorem dJ9_max_7cf53_6 : decode cJ9_max_7cf53 6 = .ok (.goto 4, 3) := by decide +kernel
theorem dJ9_max_7cf53_9 : decode cJ9_max_7cf53 9 = .ok (.iload_n 1, 1) := by decide +kernel
theorem dJ9_max_7cf53_10 : decode cJ9_max_7cf53 10 = .ok (.ireturn, 1) := by decide +kernel
theorem dL_below_0 : decode cL_below 0 = .ok (.iload_n 0, 1) := by decide +kernel
theorem dL_below_1 : decode cL_below 1 = .ok (.ldc 7, 2) := by decide +kernel
theorem dL_below_3 : decode cL_below 3 = .ok (.iand, 1) := by decide +kernel
theorem dL_below_4 : decode cL_below 4 = .ok (.iload_n 1, 1) := by decide +kernel
theorem dL_below_5 : decode cL_below 5 = .ok (.irem, 1) := by decide +kernel
theorem dL_below_6 : decode cL_below 6 = .ok (.ireturn, 1) := by decide +kernel
theorem dL_cell_0 : decode cL_cell 0 = .ok (.iload_n 1, 1) := by decide +kernel
theorem dL_cell_1 : decode cL_cell 1 = .ok (.aload_n 0, 1) := by decide +kernel
theorem dL_cell_2 : decode cL_cell 2 = .ok (.arraylength, 1) := by decide +kernel
theorem dL_cell_3 : decode cL_cell 3 = .ok (.if_icmp .ge 9, 3) := by decide +kernel
theorem dL_cell_6 : decode cL_cell 6 = .ok (.aload_n 0, 1) := by decide +kernel
theorem dL_cell_7 : decode cL_cell 7 = .ok (.iload_n 1, 1) := by decide +kernel
theorem dL_cell_8 : decode cL_cell 8 = .ok (.iaload, 1) := by decide +kernel
theorem dL_cell_9 : decode cL_cell 9 = .ok (.goto 9, 3) := by decide +kernel
theorem dL_cell_12 : decode cL_cell 12 = .ok (.ldc 8, 2) := by decide +kernel
theorem dL_cell_14 : decode cL_cell 14 = .ok (.iload_n 1, 1) := by decide +kernel
theorem dL_cell_15 : decode cL_cell 15 = .ok (.iconst 3, 1) := by decide +kernel
theorem dL_cell_16 : decode cL_cell 16 = .ok (.iadd, 1) := by decide +kernel
theorem dL_cell_17 : decode cL_cell 17 = .ok (.imul, 1) := by decide +kernel
theorem dL_cell_18 : decode cL_cell 18 = .ok (.ireturn, 1) := by decide +kernel
set_option maxRecDepth 20000 in
theorem ggL_build_L_cell : GoodIn wsL_build wsL_cell := goodIn_r _ [4, 5] (by decide +kernel) (by decide +kernel)
set_option maxRecDepth 20000 in
theorem gL_build_L_cell : GoodIn wsL_build (va_wsS RL 9 yL_cell wsL_cell) := goodIn_app (goodIn_of _ (by decide +kernel)) ggL_build_L_cell
set_option maxRecDepth 20000 in
theorem ggL_build_L_below : GoodIn wsL_build wsL_below := goodIn_r _ [8, 9] (by decide +kernel) (by decide +kernel)
set_option maxRecDepth 20000 in
theorem gL_build_L_below : GoodIn wsL_build (va_wsS RL 15 yL_below wsL_below) := goodIn_app (goodIn_of _ (by decide +kernel)) ggL_build_L_below
set_option maxRecDepth 20000 in
theorem ggL_build_X6_addRule : GoodIn wsL_build wsX6_addRule := goodIn_ca (goodIn_ca (goodIn_ca (goodIn_r _ [14, 15, 16, 17, 18, 19, 20, 13, 21, 22, 23, 24, 25, 26, 27, 28, 29, 30, 31, 32, 33, 34, 35, 36, 37, 38, 39, 40, 41, 42, 43, 44, 45, 46, 47, 48, 49, 50, 51, 52, 53, 54, 55, 56, 57, 58, 110, 111, 112, 113, 114, 115, 116, 117, 118, 119, 120, 121, 122, 123, 124, 125, 126, 127, 128, 129, 130, 131, 132, 133, 134, 135, 136, 137, 138, 139] (by decide +kernel) (by decide +kernel)) (goodIn_sub (fun _ h => List.mem_cons_of_mem _ (List.mem_append_left _ (List.mem_append_left _ (List.mem_append_right _ h)))) (by decide +kernel))) (goodIn_sub (fun _ h => List.mem_cons_of_mem _ (List.mem_append_left _ (List.mem_append_right _ h))) (by decide +kernel))) (goodIn_sub (fun _ h => List.mem_cons_of_mem _ (List.mem_append_right _ h)) (by decide +kernel))
set_option maxRecDepth 20000 in
theorem gL_build_X6_addRule : GoodIn wsL_build (wsV RL 19 RX6 yX6_addRule wsX6_addRule) := goodIn_app (goodIn_of _ (by decide +kernel)) ggL_build_X6_addRule
set_option maxRecDepth 20000 in
theorem ggL_build_X6_addAction : GoodIn wsL_build wsX6_addAction := goodIn_ca (goodIn_ca (goodIn_r _ [62, 15, 16, 18, 63, 64, 65, 66, 13, 67, 22, 23, 17, 68, 69, 70, 32, 71, 34, 35, 19, 20, 21, 72, 73, 74, 75, 76, 77, 78, 36, 37, 38, 39, 40, 41, 42, 43, 44, 79, 80, 81, 82, 83, 84, 110, 111, 112, 113, 129, 130, 131, 132, 133, 134, 135, 136, 137, 138, 139, 114, 115, 116, 117, 118, 119, 120, 121, 122, 123, 124, 125, 126, 127, 128] (by decide +kernel) (by decide +kernel)) (goodIn_sub (fun _ h => List.mem_cons_of_mem _ (List.mem_append_left _ (List.mem_append_left _ (List.mem_append_right _ h)))) (by decide +kernel))) (goodIn_sub (fun _ h => List.mem_cons_of_mem _ (List.mem_append_left _ (List.mem_append_right _ h))) (by decide +kernel))
set_option maxRecDepth 20000 in
theorem gL_build_X6_addAction : GoodIn wsL_build (wsV RL 25 RX6 yX6_addAction wsX6_addAction) := goodIn_app (goodIn_of _ (by decide +kernel)) ggL_build_X6_addAction
set_option maxRecDepth 20000 in
theorem ggL_build_X6_turn : GoodIn wsL_build wsX6_turn := goodIn_ca (goodIn_r _ [88, 89, 18, 17, 90, 91, 64, 65, 66, 13, 67, 22, 23, 68, 69, 70, 32, 71, 34, 35, 36, 37, 38, 39, 40, 41, 92, 53, 54, 55, 56, 49, 57, 58, 93, 94, 95, 96, 97, 98, 99, 100, 101, 129, 130, 131, 132, 133, 134, 135, 136, 137, 138, 139, 110, 111, 112, 113, 114, 115, 116, 117, 118, 119, 120, 121, 122, 123, 124, 125, 126, 127, 128] (by decide +kernel) (by decide +kernel)) (goodIn_sub (fun _ h => List.mem_cons_of_mem _ (List.mem_append_left _ (List.mem_append_right _ h))) (by decide +kernel))
set_option maxRecDepth 20000 in
theorem gL_build_X6_turn : GoodIn wsL_build (wsV RL 29 RX6 yX6_turn wsX6_turn) := goodIn_app (goodIn_of _ (by decide +kernel)) ggL_build_X6_turn
set_option maxRecDepth 20000 in
theorem ggL_build_X6_ruleCount : GoodIn wsL_build wsX6_ruleCount := goodIn_r _ [105, 17, 106, 107, 108, 32, 109, 34, 110, 111, 112, 113, 114, 115, 116] (by decide +kernel) (by decide +kernel)
set_option maxRecDepth 20000 in
theorem gL_build_X6_ruleCount : GoodIn wsL_build (wsV RL 33 RX6 yX6_ruleCount wsX6_ruleCount) := goodIn_app (goodIn_of _ (by decide +kernel)) ggL_build_X6_ruleCount
theorem dL_build_0 : decode cL_build 0 = .ok (.iconst 1, 1) := by decide +kernel
theorem dL_build_1 : decode cL_build 1 = .ok (.aload_n 1, 1) := by decide +kernel
theorem dL_build_2 : decode cL_build 2 = .ok (.iload_n 2, 1) := by decide +kernel
theorem dL_build_3 : decode cL_build 3 = .ok (.invokestatic 9, 3) := by decide +kernel
theorem dL_build_6 : decode cL_build 6 = .ok (.iload_n 3, 1) := by decide +kernel
theorem dL_build_7 : decode cL_build 7 = .ok (.invokestatic 15, 3) := by decide +kernel
theorem dL_build_10 : decode cL_build 10 = .ok (.iadd, 1) := by decide +kernel
theorem dL_build_11 : decode cL_build 11 = .ok (.istore 5, 2) := by decide +kernel
theorem dL_build_13 : decode cL_build 13 = .ok (.iconst 0, 1) := by decide +kernel
theorem dL_build_14 : decode cL_build 14 = .ok (.istore 6, 2) := by decide +kernel
theorem dL_build_16 : decode cL_build 16 = .ok (.iload 6, 2) := by decide +kernel
theorem dL_build_18 : decode cL_build 18 = .ok (.iload 5, 2) := by decide +kernel
theorem dL_build_20 : decode cL_build 20 = .ok (.if_icmp .ge 381, 3) := by decide +kernel
theorem dL_build_23 : decode cL_build 23 = .ok (.aload_n 1, 1) := by decide +kernel
theorem dL_build_24 : decode cL_build 24 = .ok (.iload_n 2, 1) := by decide +kernel
theorem dL_build_25 : decode cL_build 25 = .ok (.iconst 1, 1) := by decide +kernel
theorem dL_build_26 : decode cL_build 26 = .ok (.iadd, 1) := by decide +kernel
theorem dL_build_27 : decode cL_build 27 = .ok (.iload 6, 2) := by decide +kernel
theorem dL_build_29 : decode cL_build 29 = .ok (.iadd, 1) := by decide +kernel
theorem dL_build_30 : decode cL_build 30 = .ok (.invokestatic 9, 3) := by decide +kernel
theorem dL_build_33 : decode cL_build 33 = .ok (.istore 7, 2) := by decide +kernel
theorem dL_build_35 : decode cL_build 35 = .ok (.bipush 9, 2) := by decide +kernel
theorem dL_build_37 : decode cL_build 37 = .ok (.iload 6, 2) := by decide +kernel
theorem dL_build_39 : decode cL_build 39 = .ok (.imul, 1) := by decide +kernel
theorem dL_build_40 : decode cL_build 40 = .ok (.istore 8, 2) := by decide +kernel
theorem dL_build_42 : decode cL_build 42 = .ok (.aload 4, 2) := by decide +kernel
theorem dL_build_44 : decode cL_build 44 = .ok (.iload 8, 2) := by decide +kernel
theorem dL_build_46 : decode cL_build 46 = .ok (.iload 7, 2) := by decide +kernel
theorem dL_build_48 : decode cL_build 48 = .ok (.iconst 2, 1) := by decide +kernel
theorem dL_build_49 : decode cL_build 49 = .ok (.invokestatic 15, 3) := by decide +kernel
theorem dL_build_52 : decode cL_build 52 = .ok (.ifCond .ne 18, 3) := by decide +kernel
theorem dL_build_55 : decode cL_build 55 = .ok (.iconst 1, 1) := by decide +kernel
theorem dL_build_56 : decode cL_build 56 = .ok (.iconst 2, 1) := by decide +kernel
theorem dL_build_57 : decode cL_build 57 = .ok (.iload 7, 2) := by decide +kernel
theorem dL_build_59 : decode cL_build 59 = .ok (.iconst 1, 1) := by decide +kernel
theorem dL_build_60 : decode cL_build 60 = .ok (.ishr, 1) := by decide +kernel
theorem dL_build_61 : decode cL_build 61 = .ok (.iconst 4, 1) := by decide +kernel
theorem dL_build_62 : decode cL_build 62 = .ok (.invokestatic 15, 3) := by decide +kernel
theorem dL_build_65 : decode cL_build 65 = .ok (.imul, 1) := by decide +kernel
theorem dL_build_66 : decode cL_build 66 = .ok (.iadd, 1) := by decide +kernel
theorem dL_build_67 : decode cL_build 67 = .ok (.goto 12, 3) := by decide +kernel
theorem dL_build_70 : decode cL_build 70 = .ok (.iload 7, 2) := by decide +kernel
theorem dL_build_72 : decode cL_build 72 = .ok (.iconst 1, 1) := by decide +kernel
theorem dL_build_73 : decode cL_build 73 = .ok (.ishr, 1) := by decide +kernel
theorem dL_build_74 : decode cL_build 74 = .ok (.bipush 12, 2) := by decide +kernel
theorem dL_build_76 : decode cL_build 76 = .ok (.invokestatic 15, 3) := by decide +kernel
theorem dL_build_79 : decode cL_build 79 = .ok (.iastore, 1) := by decide +kernel
theorem dL_build_80 : decode cL_build 80 = .ok (.aload 4, 2) := by decide +kernel
theorem dL_build_82 : decode cL_build 82 = .ok (.iload 8, 2) := by decide +kernel
theorem dL_build_84 : decode cL_build 84 = .ok (.iconst 1, 1) := by decide +kernel
theorem dL_build_85 : decode cL_build 85 = .ok (.iadd, 1) := by decide +kernel
theorem dL_build_86 : decode cL_build 86 = .ok (.iload 7, 2) := by decide +kernel
theorem dL_build_88 : decode cL_build 88 = .ok (.iconst 5, 1) := by decide +kernel
theorem dL_build_89 : decode cL_build 89 = .ok (.ishr, 1) := by decide +kernel
theorem dL_build_90 : decode cL_build 90 = .ok (.iconst 3, 1) := by decide +kernel
theorem dL_build_91 : decode cL_build 91 = .ok (.invokestatic 15, 3) := by decide +kernel
theorem dL_build_94 : decode cL_build 94 = .ok (.ifCond .ne 18, 3) := by decide +kernel
theorem dL_build_97 : decode cL_build 97 = .ok (.iconst 1, 1) := by decide +kernel
theorem dL_build_98 : decode cL_build 98 = .ok (.iload 7, 2) := by decide +kernel
theorem dL_build_100 : decode cL_build 100 = .ok (.bipush 7, 2) := by decide +kernel
theorem dL_build_102 : decode cL_build 102 = .ok (.ishr, 1) := by decide +kernel
theorem dL_build_103 : decode cL_build 103 = .ok (.bipush 6, 2) := by decide +kernel
theorem dL_build_105 : decode cL_build 105 = .ok (.invokestatic 15, 3) := by decide +kernel
theorem dL_build_108 : decode cL_build 108 = .ok (.ishl, 1) := by decide +kernel
theorem dL_build_109 : decode cL_build 109 = .ok (.goto 4, 3) := by decide +kernel
theorem dL_build_112 : decode cL_build 112 = .ok (.iconst 0, 1) := by decide +kernel
theorem dL_build_113 : decode cL_build 113 = .ok (.iastore, 1) := by decide +kernel
theorem dL_build_114 : decode cL_build 114 = .ok (.aload 4, 2) := by decide +kernel
theorem dL_build_116 : decode cL_build 116 = .ok (.iload 8, 2) := by decide +kernel
theorem dL_build_118 : decode cL_build 118 = .ok (.iconst 2, 1) := by decide +kernel
theorem dL_build_119 : decode cL_build 119 = .ok (.iadd, 1) := by decide +kernel
theorem dL_build_120 : decode cL_build 120 = .ok (.iload 7, 2) := by decide +kernel
theorem dL_build_122 : decode cL_build 122 = .ok (.bipush 9, 2) := by decide +kernel
theorem dL_build_124 : decode cL_build 124 = .ok (.ishr, 1) := by decide +kernel
theorem dL_build_125 : decode cL_build 125 = .ok (.iconst 3, 1) := by decide +kernel
theorem dL_build_126 : decode cL_build 126 = .ok (.invokestatic 15, 3) := by decide +kernel
theorem dL_build_129 : decode cL_build 129 = .ok (.ifCond .ne 18, 3) := by decide +kernel
theorem dL_build_132 : decode cL_build 132 = .ok (.iconst 1, 1) := by decide +kernel
theorem dL_build_133 : decode cL_build 133 = .ok (.iload 7, 2) := by decide +kernel
theorem dL_build_135 : decode cL_build 135 = .ok (.bipush 11, 2) := by decide +kernel
theorem dL_build_137 : decode cL_build 137 = .ok (.ishr, 1) := by decide +kernel
theorem dL_build_138 : decode cL_build 138 = .ok (.bipush 6, 2) := by decide +kernel
theorem dL_build_140 : decode cL_build 140 = .ok (.invokestatic 15, 3) := by decide +kernel
theorem dL_build_143 : decode cL_build 143 = .ok (.ishl, 1) := by decide +kernel
theorem dL_build_144 : decode cL_build 144 = .ok (.goto 4, 3) := by decide +kernel
theorem dL_build_147 : decode cL_build 147 = .ok (.iconst 0, 1) := by decide +kernel
theorem dL_build_148 : decode cL_build 148 = .ok (.iastore, 1) := by decide +kernel
theorem dL_build_149 : decode cL_build 149 = .ok (.aload 4, 2) := by decide +kernel
theorem dL_build_151 : decode cL_build 151 = .ok (.iload 8, 2) := by decide +kernel
theorem dL_build_153 : decode cL_build 153 = .ok (.iconst 3, 1) := by decide +kernel
theorem dL_build_154 : decode cL_build 154 = .ok (.iadd, 1) := by decide +kernel
theorem dL_build_155 : decode cL_build 155 = .ok (.iload 7, 2) := by decide +kernel
theorem dL_build_157 : decode cL_build 157 = .ok (.bipush 13, 2) := by decide +kernel
theorem dL_build_159 : decode cL_build 159 = .ok (.ishr, 1) := by decide +kernel
theorem dL_build_160 : decode cL_build 160 = .ok (.bipush 8, 2) := by decide +kernel
theorem dL_build_162 : decode cL_build 162 = .ok (.invokestatic 15, 3) := by decide +kernel
theorem dL_build_165 : decode cL_build 165 = .ok (.ifCond .ne 7, 3) := by decide +kernel
theorem dL_build_168 : decode cL_build 168 = .ok (.iconst 0, 1) := by decide +kernel
theorem dL_build_169 : decode cL_build 169 = .ok (.goto 4, 3) := by decide +kernel
theorem dL_build_172 : decode cL_build 172 = .ok (.iconst 1, 1) := by decide +kernel
theorem dL_build_173 : decode cL_build 173 = .ok (.iastore, 1) := by decide +kernel
theorem dL_build_174 : decode cL_build 174 = .ok (.aload 4, 2) := by decide +kernel
theorem dL_build_176 : decode cL_build 176 = .ok (.iload 8, 2) := by decide +kernel
theorem dL_build_178 : decode cL_build 178 = .ok (.iconst 4, 1) := by decide +kernel
theorem dL_build_179 : decode cL_build 179 = .ok (.iadd, 1) := by decide +kernel
theorem dL_build_180 : decode cL_build 180 = .ok (.iload 7, 2) := by decide +kernel
theorem dL_build_182 : decode cL_build 182 = .ok (.bipush 15, 2) := by decide +kernel
theorem dL_build_184 : decode cL_build 184 = .ok (.ishr, 1) := by decide +kernel
theorem dL_build_185 : decode cL_build 185 = .ok (.iconst 4, 1) := by decide +kernel
theorem dL_build_186 : decode cL_build 186 = .ok (.invokestatic 15, 3) := by decide +kernel
theorem dL_build_189 : decode cL_build 189 = .ok (.iastore, 1) := by decide +kernel
theorem dL_build_190 : decode cL_build 190 = .ok (.aload_n 0, 1) := by decide +kernel
theorem dL_build_191 : decode cL_build 191 = .ok (.aload 4, 2) := by decide +kernel
theorem dL_build_193 : decode cL_build 193 = .ok (.iload 8, 2) := by decide +kernel
theorem dL_build_195 : decode cL_build 195 = .ok (.iaload, 1) := by decide +kernel
theorem dL_build_196 : decode cL_build 196 = .ok (.iconst 2, 1) := by decide +kernel
theorem dL_build_197 : decode cL_build 197 = .ok (.idiv, 1) := by decide +kernel
theorem dL_build_198 : decode cL_build 198 = .ok (.aload 4, 2) := by decide +kernel
theorem dL_build_200 : decode cL_build 200 = .ok (.iload 8, 2) := by decide +kernel
theorem dL_build_202 : decode cL_build 202 = .ok (.iaload, 1) := by decide +kernel
theorem dL_build_203 : decode cL_build 203 = .ok (.iconst 2, 1) := by decide +kernel
theorem dL_build_204 : decode cL_build 204 = .ok (.irem, 1) := by decide +kernel
theorem dL_build_205 : decode cL_build 205 = .ok (.iconst 1, 1) := by decide +kernel
theorem dL_build_206 : decode cL_build 206 = .ok (.if_icmp .ne 7, 3) := by decide +kernel
theorem dL_build_209 : decode cL_build 209 = .ok (.iconst 1, 1) := by decide +kernel
theorem dL_build_210 : decode cL_build 210 = .ok (.goto 4, 3) := by decide +kernel
theorem dL_build_213 : decode cL_build 213 = .ok (.iconst 0, 1) := by decide +kernel
theorem dL_build_214 : decode cL_build 214 = .ok (.aload 4, 2) := by decide +kernel
theorem dL_build_216 : decode cL_build 216 = .ok (.iload 8, 2) := by decide +kernel
theorem dL_build_218 : decode cL_build 218 = .ok (.iconst 1, 1) := by decide +kernel
theorem dL_build_219 : decode cL_build 219 = .ok (.iadd, 1) := by decide +kernel
theorem dL_build_220 : decode cL_build 220 = .ok (.iaload, 1) := by decide +kernel
theorem dL_build_221 : decode cL_build 221 = .ok (.aload 4, 2) := by decide +kernel
theorem dL_build_223 : decode cL_build 223 = .ok (.iload 8, 2) := by decide +kernel
theorem dL_build_225 : decode cL_build 225 = .ok (.iconst 2, 1) := by decide +kernel
theorem dL_build_226 : decode cL_build 226 = .ok (.iadd, 1) := by decide +kernel
theorem dL_build_227 : decode cL_build 227 = .ok (.iaload, 1) := by decide +kernel
theorem dL_build_228 : decode cL_build 228 = .ok (.invokevirtual 19, 3) := by decide +kernel
theorem dL_build_231 : decode cL_build 231 = .ok (.iload 6, 2) := by decide +kernel
theorem dL_build_233 : decode cL_build 233 = .ok (.if_icmp .eq 5, 3) := by decide +kernel
theorem dL_build_236 : decode cL_build 236 = .ok (.iconst (-1), 1) := by decide +kernel
theorem dL_build_237 : decode cL_build 237 = .ok (.ireturn, 1) := by decide +kernel
theorem dL_build_238 : decode cL_build 238 = .ok (.iconst 0, 1) := by decide +kernel
theorem dL_build_239 : decode cL_build 239 = .ok (.istore 9, 2) := by decide +kernel
theorem dL_build_241 : decode cL_build 241 = .ok (.iload 9, 2) := by decide +kernel
theorem dL_build_243 : decode cL_build 243 = .ok (.aload 4, 2) := by decide +kernel
theorem dL_build_245 : decode cL_build 245 = .ok (.iload 8, 2) := by decide +kernel
theorem dL_build_247 : decode cL_build 247 = .ok (.iconst 4, 1) := by decide +kernel
theorem dL_build_248 : decode cL_build 248 = .ok (.iadd, 1) := by decide +kernel
theorem dL_build_249 : decode cL_build 249 = .ok (.iaload, 1) := by decide +kernel
theorem dL_build_250 : decode cL_build 250 = .ok (.if_icmp .ge 123, 3) := by decide +kernel
theorem dL_build_253 : decode cL_build 253 = .ok (.aload 4, 2) := by decide +kernel
theorem dL_build_255 : decode cL_build 255 = .ok (.iload 8, 2) := by decide +kernel
theorem dL_build_257 : decode cL_build 257 = .ok (.iconst 5, 1) := by decide +kernel
theorem dL_build_258 : decode cL_build 258 = .ok (.iadd, 1) := by decide +kernel
theorem dL_build_259 : decode cL_build 259 = .ok (.iload 9, 2) := by decide +kernel
theorem dL_build_261 : decode cL_build 261 = .ok (.iadd, 1) := by decide +kernel
theorem dL_build_262 : decode cL_build 262 = .ok (.iload 7, 2) := by decide +kernel
theorem dL_build_264 : decode cL_build 264 = .ok (.bipush 16, 2) := by decide +kernel
theorem dL_build_266 : decode cL_build 266 = .ok (.iconst 4, 1) := by decide +kernel
theorem dL_build_267 : decode cL_build 267 = .ok (.iload 9, 2) := by decide +kernel
theorem dL_build_269 : decode cL_build 269 = .ok (.imul, 1) := by decide +kernel
theorem dL_build_270 : decode cL_build 270 = .ok (.iadd, 1) := by decide +kernel
theorem dL_build_271 : decode cL_build 271 = .ok (.ishr, 1) := by decide +kernel
theorem dL_build_272 : decode cL_build 272 = .ok (.iconst 3, 1) := by decide +kernel
theorem dL_build_273 : decode cL_build 273 = .ok (.invokestatic 15, 3) := by decide +kernel
theorem dL_build_276 : decode cL_build 276 = .ok (.ifCond .ne 23, 3) := by decide +kernel
theorem dL_build_279 : decode cL_build 279 = .ok (.iconst 2, 1) := by decide +kernel
theorem dL_build_280 : decode cL_build 280 = .ok (.iload 7, 2) := by decide +kernel
theorem dL_build_282 : decode cL_build 282 = .ok (.bipush 17, 2) := by decide +kernel
theorem dL_build_284 : decode cL_build 284 = .ok (.iconst 4, 1) := by decide +kernel
theorem dL_build_285 : decode cL_build 285 = .ok (.iload 9, 2) := by decide +kernel
theorem dL_build_287 : decode cL_build 287 = .ok (.imul, 1) := by decide +kernel
theorem dL_build_288 : decode cL_build 288 = .ok (.iadd, 1) := by decide +kernel
theorem dL_build_289 : decode cL_build 289 = .ok (.ishr, 1) := by decide +kernel
theorem dL_build_290 : decode cL_build 290 = .ok (.bipush 6, 2) := by decide +kernel
theorem dL_build_292 : decode cL_build 292 = .ok (.invokestatic 15, 3) := by decide +kernel
theorem dL_build_295 : decode cL_build 295 = .ok (.imul, 1) := by decide +kernel
theorem dL_build_296 : decode cL_build 296 = .ok (.goto 22, 3) := by decide +kernel
theorem dL_build_299 : decode cL_build 299 = .ok (.iconst 1, 1) := by decide +kernel
theorem dL_build_300 : decode cL_build 300 = .ok (.iconst 2, 1) := by decide +kernel
theorem dL_build_301 : decode cL_build 301 = .ok (.iload 7, 2) := by decide +kernel
theorem dL_build_303 : decode cL_build 303 = .ok (.bipush 17, 2) := by decide +kernel
theorem dL_build_305 : decode cL_build 305 = .ok (.iconst 4, 1) := by decide +kernel
theorem dL_build_306 : decode cL_build 306 = .ok (.iload 9, 2) := by decide +kernel
theorem dL_build_308 : decode cL_build 308 = .ok (.imul, 1) := by decide +kernel
theorem dL_build_309 : decode cL_build 309 = .ok (.iadd, 1) := by decide +kernel
theorem dL_build_310 : decode cL_build 310 = .ok (.ishr, 1) := by decide +kernel
theorem dL_build_311 : decode cL_build 311 = .ok (.bipush 6, 2) := by decide +kernel
theorem dL_build_313 : decode cL_build 313 = .ok (.invokestatic 15, 3) := by decide +kernel
theorem dL_build_316 : decode cL_build 316 = .ok (.imul, 1) := by decide +kernel
theorem dL_build_317 : decode cL_build 317 = .ok (.iadd, 1) := by decide +kernel
theorem dL_build_318 : decode cL_build 318 = .ok (.iastore, 1) := by decide +kernel
theorem dL_build_319 : decode cL_build 319 = .ok (.aload_n 0, 1) := by decide +kernel
theorem dL_build_320 : decode cL_build 320 = .ok (.iload 6, 2) := by decide +kernel
theorem dL_build_322 : decode cL_build 322 = .ok (.aload 4, 2) := by decide +kernel
theorem dL_build_324 : decode cL_build 324 = .ok (.iload 8, 2) := by decide +kernel
theorem dL_build_326 : decode cL_build 326 = .ok (.iconst 5, 1) := by decide +kernel
theorem dL_build_327 : decode cL_build 327 = .ok (.iadd, 1) := by decide +kernel
theorem dL_build_328 : decode cL_build 328 = .ok (.iload 9, 2) := by decide +kernel
theorem dL_build_330 : decode cL_build 330 = .ok (.iadd, 1) := by decide +kernel
theorem dL_build_331 : decode cL_build 331 = .ok (.iaload, 1) := by decide +kernel
theorem dL_build_332 : decode cL_build 332 = .ok (.iconst 2, 1) := by decide +kernel
theorem dL_build_333 : decode cL_build 333 = .ok (.idiv, 1) := by decide +kernel
theorem dL_build_334 : decode cL_build 334 = .ok (.aload 4, 2) := by decide +kernel
theorem dL_build_336 : decode cL_build 336 = .ok (.iload 8, 2) := by decide +kernel
theorem dL_build_338 : decode cL_build 338 = .ok (.iconst 5, 1) := by decide +kernel
theorem dL_build_339 : decode cL_build 339 = .ok (.iadd, 1) := by decide +kernel
theorem dL_build_340 : decode cL_build 340 = .ok (.iload 9, 2) := by decide +kernel
theorem dL_build_342 : decode cL_build 342 = .ok (.iadd, 1) := by decide +kernel
theorem dL_build_343 : decode cL_build 343 = .ok (.iaload, 1) := by decide +kernel
theorem dL_build_344 : decode cL_build 344 = .ok (.iconst 2, 1) := by decide +kernel
theorem dL_build_345 : decode cL_build 345 = .ok (.irem, 1) := by decide +kernel
theorem dL_build_346 : decode cL_build 346 = .ok (.iconst 1, 1) := by decide +kernel
theorem dL_build_347 : decode cL_build 347 = .ok (.if_icmp .ne 7, 3) := by decide +kernel
theorem dL_build_350 : decode cL_build 350 = .ok (.iconst 1, 1) := by decide +kernel
theorem dL_build_351 : decode cL_build 351 = .ok (.goto 4, 3) := by decide +kernel
theorem dL_build_354 : decode cL_build 354 = .ok (.iconst 0, 1) := by decide +kernel
theorem dL_build_355 : decode cL_build 355 = .ok (.invokevirtual 25, 3) := by decide +kernel
theorem dL_build_358 : decode cL_build 358 = .ok (.iload 9, 2) := by decide +kernel
theorem dL_build_360 : decode cL_build 360 = .ok (.iconst 1, 1) := by decide +kernel
theorem dL_build_361 : decode cL_build 361 = .ok (.iadd, 1) := by decide +kernel
theorem dL_build_362 : decode cL_build 362 = .ok (.if_icmp .eq 5, 3) := by decide +kernel
theorem dL_build_365 : decode cL_build 365 = .ok (.iconst (-1), 1) := by decide +kernel
theorem dL_build_366 : decode cL_build 366 = .ok (.ireturn, 1) := by decide +kernel
theorem dL_build_367 : decode cL_build 367 = .ok (.iinc 9 1, 3) := by decide +kernel
theorem dL_build_370 : decode cL_build 370 = .ok (.goto (-129), 3) := by decide +kernel
theorem dL_build_373 : decode cL_build 373 = .ok (.aload 4, 2) := by decide +kernel
theorem dL_build_375 : decode cL_build 375 = .ok (.iload 8, 2) := by decide +kernel
theorem dL_build_377 : decode cL_build 377 = .ok (.iconst 3, 1) := by decide +kernel
theorem dL_build_378 : decode cL_build 378 = .ok (.iadd, 1) := by decide +kernel
theorem dL_build_379 : decode cL_build 379 = .ok (.iaload, 1) := by decide +kernel
theorem dL_build_380 : decode cL_build 380 = .ok (.ifCond .ne 15, 3) := by decide +kernel
theorem dL_build_383 : decode cL_build 383 = .ok (.aload_n 0, 1) := by decide +kernel
theorem dL_build_384 : decode cL_build 384 = .ok (.iload 6, 2) := by decide +kernel
theorem dL_build_386 : decode cL_build 386 = .ok (.iconst 0, 1) := by decide +kernel
theorem dL_build_387 : decode cL_build 387 = .ok (.invokevirtual 29, 3) := by decide +kernel
theorem dL_build_390 : decode cL_build 390 = .ok (.ifCond .ne 5, 3) := by decide +kernel
theorem dL_build_393 : decode cL_build 393 = .ok (.iconst (-1), 1) := by decide +kernel
theorem dL_build_394 : decode cL_build 394 = .ok (.ireturn, 1) := by decide +kernel
theorem dL_build_395 : decode cL_build 395 = .ok (.iinc 6 1, 3) := by decide +kernel
theorem dL_build_398 : decode cL_build 398 = .ok (.goto (-382), 3) := by decide +kernel
theorem dL_build_401 : decode cL_build 401 = .ok (.aload_n 0, 1) := by decide +kernel
theorem dL_build_402 : decode cL_build 402 = .ok (.invokevirtual 33, 3) := by decide +kernel
theorem dL_build_405 : decode cL_build 405 = .ok (.iload 5, 2) := by decide +kernel
theorem dL_build_407 : decode cL_build 407 = .ok (.if_icmp .ne 8, 3) := by decide +kernel
theorem dL_build_410 : decode cL_build 410 = .ok (.iload 5, 2) := by decide +kernel
theorem dL_build_412 : decode cL_build 412 = .ok (.goto 4, 3) := by decide +kernel
theorem dL_build_415 : decode cL_build 415 = .ok (.iconst (-1), 1) := by decide +kernel
theorem dL_build_416 : decode cL_build 416 = .ok (.ireturn, 1) := by decide +kernel
set_option maxRecDepth 20000 in
theorem ggL_rank_L_below : GoodIn wsL_rank wsL_below := goodIn_r _ [5, 6] (by decide +kernel) (by decide +kernel)
set_option maxRecDepth 20000 in
theorem gL_rank_L_below : GoodIn wsL_rank (va_wsS RL 15 yL_below wsL_below) := goodIn_app (goodIn_of _ (by decide +kernel)) ggL_rank_L_below
set_option maxRecDepth 20000 in
theorem ggL_rank_X6_rank : GoodIn wsL_rank wsX6_rank := goodIn_ca (goodIn_ca (goodIn_r _ [11, 12, 13, 14, 15, 16, 17, 18, 10, 19, 20, 21, 22, 23, 24, 25, 26, 27, 28, 29, 30, 31, 32, 33, 34, 35, 36, 37, 38, 39, 40, 41, 42, 43, 44, 45, 46, 47, 48, 49, 50, 51, 52, 53, 54, 55, 56, 57, 58, 59, 60, 61, 62, 63, 64, 65, 66, 67, 68, 69, 70, 71, 72, 73, 74, 75, 76, 77, 78] (by decide +kernel) (by decide +kernel)) (goodIn_sub (fun _ h => List.mem_cons_of_mem _ (List.mem_append_left _ (List.mem_append_right _ h))) (by decide +kernel))) (goodIn_sub (fun _ h => List.mem_cons_of_mem _ (List.mem_append_right _ h)) (by decide +kernel))
set_option maxRecDepth 20000 in
theorem gL_rank_X6_rank : GoodIn wsL_rank (wsV RL 37 RX6 yX6_rank wsX6_rank) := goodIn_app (goodIn_of _ (by decide +kernel)) ggL_rank_X6_rank
theorem dL_rank_0 : decode cL_rank 0 = .ok (.iload_n 1, 1) := by decide +kernel
theorem dL_rank_1 : decode cL_rank 1 = .ok (.iconst 4, 1) := by decide +kernel
theorem dL_rank_2 : decode cL_rank 2 = .ok (.invokestatic 15, 3) := by decide +kernel
theorem dL_rank_5 : decode cL_rank 5 = .ok (.istore 4, 2) := by decide +kernel
theorem dL_rank_7 : decode cL_rank 7 = .ok (.iconst 0, 1) := by decide +kernel
theorem dL_rank_8 : decode cL_rank 8 = .ok (.istore 5, 2) := by decide +kernel
theorem dL_rank_10 : decode cL_rank 10 = .ok (.iload 5, 2) := by decide +kernel
theorem dL_rank_12 : decode cL_rank 12 = .ok (.iload 4, 2) := by decide +kernel
theorem dL_rank_14 : decode cL_rank 14 = .ok (.if_icmp .ge 189, 3) := by decide +kernel
theorem dL_rank_17 : decode cL_rank 17 = .ok (.iload_n 1, 1) := by decide +kernel
theorem dL_rank_18 : decode cL_rank 18 = .ok (.iconst 2, 1) := by decide +kernel
theorem dL_rank_19 : decode cL_rank 19 = .ok (.bipush 6, 2) := by decide +kernel
theorem dL_rank_21 : decode cL_rank 21 = .ok (.iload 5, 2) := by decide +kernel
theorem dL_rank_23 : decode cL_rank 23 = .ok (.imul, 1) := by decide +kernel
theorem dL_rank_24 : decode cL_rank 24 = .ok (.iadd, 1) := by decide +kernel
theorem dL_rank_25 : decode cL_rank 25 = .ok (.ishr, 1) := by decide +kernel
theorem dL_rank_26 : decode cL_rank 26 = .ok (.iload_n 2, 1) := by decide +kernel
theorem dL_rank_27 : decode cL_rank 27 = .ok (.invokestatic 15, 3) := by decide +kernel
theorem dL_rank_30 : decode cL_rank 30 = .ok (.istore 6, 2) := by decide +kernel
theorem dL_rank_32 : decode cL_rank 32 = .ok (.iload_n 1, 1) := by decide +kernel
theorem dL_rank_33 : decode cL_rank 33 = .ok (.iconst 5, 1) := by decide +kernel
theorem dL_rank_34 : decode cL_rank 34 = .ok (.bipush 6, 2) := by decide +kernel
theorem dL_rank_36 : decode cL_rank 36 = .ok (.iload 5, 2) := by decide +kernel
theorem dL_rank_38 : decode cL_rank 38 = .ok (.imul, 1) := by decide +kernel
theorem dL_rank_39 : decode cL_rank 39 = .ok (.iadd, 1) := by decide +kernel
theorem dL_rank_40 : decode cL_rank 40 = .ok (.ishr, 1) := by decide +kernel
theorem dL_rank_41 : decode cL_rank 41 = .ok (.iload_n 2, 1) := by decide +kernel
theorem dL_rank_42 : decode cL_rank 42 = .ok (.invokestatic 15, 3) := by decide +kernel
theorem dL_rank_45 : decode cL_rank 45 = .ok (.istore 7, 2) := by decide +kernel
theorem dL_rank_47 : decode cL_rank 47 = .ok (.iload 6, 2) := by decide +kernel
theorem dL_rank_49 : decode cL_rank 49 = .ok (.iload 7, 2) := by decide +kernel
theorem dL_rank_51 : decode cL_rank 51 = .ok (.if_icmp .eq 16, 3) := by decide +kernel
theorem dL_rank_54 : decode cL_rank 54 = .ok (.aload_n 3, 1) := by decide +kernel
theorem dL_rank_55 : decode cL_rank 55 = .ok (.iload 7, 2) := by decide +kernel
theorem dL_rank_57 : decode cL_rank 57 = .ok (.iaload, 1) := by decide +kernel
theorem dL_rank_58 : decode cL_rank 58 = .ok (.iload 6, 2) := by decide +kernel
theorem dL_rank_60 : decode cL_rank 60 = .ok (.ishr, 1) := by decide +kernel
theorem dL_rank_61 : decode cL_rank 61 = .ok (.iconst 1, 1) := by decide +kernel
theorem dL_rank_62 : decode cL_rank 62 = .ok (.iand, 1) := by decide +kernel
theorem dL_rank_63 : decode cL_rank 63 = .ok (.iconst 1, 1) := by decide +kernel
theorem dL_rank_64 : decode cL_rank 64 = .ok (.if_icmp .ne 7, 3) := by decide +kernel
theorem dL_rank_67 : decode cL_rank 67 = .ok (.iconst 1, 1) := by decide +kernel
theorem dL_rank_68 : decode cL_rank 68 = .ok (.goto 4, 3) := by decide +kernel
theorem dL_rank_71 : decode cL_rank 71 = .ok (.iconst 0, 1) := by decide +kernel
theorem dL_rank_72 : decode cL_rank 72 = .ok (.istore 8, 2) := by decide +kernel
theorem dL_rank_74 : decode cL_rank 74 = .ok (.aload_n 3, 1) := by decide +kernel
theorem dL_rank_75 : decode cL_rank 75 = .ok (.iload 6, 2) := by decide +kernel
theorem dL_rank_77 : decode cL_rank 77 = .ok (.iaload, 1) := by decide +kernel
theorem dL_rank_78 : decode cL_rank 78 = .ok (.iload 7, 2) := by decide +kernel
theorem dL_rank_80 : decode cL_rank 80 = .ok (.ishr, 1) := by decide +kernel
theorem dL_rank_81 : decode cL_rank 81 = .ok (.iconst 1, 1) := by decide +kernel
theorem dL_rank_82 : decode cL_rank 82 = .ok (.iand, 1) := by decide +kernel
theorem dL_rank_83 : decode cL_rank 83 = .ok (.ifCond .ne 7, 3) := by decide +kernel
theorem dL_rank_86 : decode cL_rank 86 = .ok (.iconst 1, 1) := by decide +kernel
theorem dL_rank_87 : decode cL_rank 87 = .ok (.goto 4, 3) := by decide +kernel
theorem dL_rank_90 : decode cL_rank 90 = .ok (.iconst 0, 1) := by decide +kernel
theorem dL_rank_91 : decode cL_rank 91 = .ok (.istore 9, 2) := by decide +kernel
theorem dL_rank_93 : decode cL_rank 93 = .ok (.iconst 0, 1) := by decide +kernel
theorem dL_rank_94 : decode cL_rank 94 = .ok (.istore 10, 2) := by decide +kernel
theorem dL_rank_96 : decode cL_rank 96 = .ok (.iconst 0, 1) := by decide +kernel
theorem dL_rank_97 : decode cL_rank 97 = .ok (.istore 11, 2) := by decide +kernel
theorem dL_rank_99 : decode cL_rank 99 = .ok (.aload_n 0, 1) := by decide +kernel
theorem dL_rank_100 : decode cL_rank 100 = .ok (.iload 6, 2) := by decide +kernel
theorem dL_rank_102 : decode cL_rank 102 = .ok (.iload 7, 2) := by decide +kernel
theorem dL_rank_104 : decode cL_rank 104 = .ok (.invokevirtual 37, 3) := by decide +kernel
theorem dL_rank_107 : decode cL_rank 107 = .ok (.istore 10, 2) := by decide +kernel
theorem dL_rank_109 : decode cL_rank 109 = .ok (.goto 8, 3) := by decide +kernel
theorem dL_rank_112 : decode cL_rank 112 = .ok (.astore 12, 2) := by decide +kernel
theorem dL_rank_114 : decode cL_rank 114 = .ok (.iconst 1, 1) := by decide +kernel
theorem dL_rank_115 : decode cL_rank 115 = .ok (.istore 11, 2) := by decide +kernel
theorem dL_rank_117 : decode cL_rank 117 = .ok (.iload 11, 2) := by decide +kernel
theorem dL_rank_119 : decode cL_rank 119 = .ok (.iload 8, 2) := by decide +kernel
theorem dL_rank_121 : decode cL_rank 121 = .ok (.if_icmp .ne 15, 3) := by decide +kernel
theorem dL_rank_124 : decode cL_rank 124 = .ok (.iload 8, 2) := by decide +kernel
theorem dL_rank_126 : decode cL_rank 126 = .ok (.ifCond .ne 12, 3) := by decide +kernel
theorem dL_rank_129 : decode cL_rank 129 = .ok (.iload 10, 2) := by decide +kernel
theorem dL_rank_131 : decode cL_rank 131 = .ok (.iload 9, 2) := by decide +kernel
theorem dL_rank_133 : decode cL_rank 133 = .ok (.if_icmp .eq 5, 3) := by decide +kernel
theorem dL_rank_136 : decode cL_rank 136 = .ok (.iconst 0, 1) := by decide +kernel
theorem dL_rank_137 : decode cL_rank 137 = .ok (.ireturn, 1) := by decide +kernel
theorem dL_rank_138 : decode cL_rank 138 = .ok (.iload 8, 2) := by decide +kernel
theorem dL_rank_140 : decode cL_rank 140 = .ok (.ifCond .eq 6, 3) := by decide +kernel
theorem dL_rank_143 : decode cL_rank 143 = .ok (.goto 54, 3) := by decide +kernel
theorem dL_rank_146 : decode cL_rank 146 = .ok (.iconst 0, 1) := by decide +kernel
theorem dL_rank_147 : decode cL_rank 147 = .ok (.istore 12, 2) := by decide +kernel
theorem dL_rank_149 : decode cL_rank 149 = .ok (.iload 12, 2) := by decide +kernel
theorem dL_rank_151 : decode cL_rank 151 = .ok (.iload_n 2, 1) := by decide +kernel
theorem dL_rank_152 : decode cL_rank 152 = .ok (.if_icmp .ge 45, 3) := by decide +kernel
theorem dL_rank_155 : decode cL_rank 155 = .ok (.iload 12, 2) := by decide +kernel
theorem dL_rank_157 : decode cL_rank 157 = .ok (.iload 6, 2) := by decide +kernel
theorem dL_rank_159 : decode cL_rank 159 = .ok (.if_icmp .eq 16, 3) := by decide +kernel
theorem dL_rank_162 : decode cL_rank 162 = .ok (.aload_n 3, 1) := by decide +kernel
theorem dL_rank_163 : decode cL_rank 163 = .ok (.iload 12, 2) := by decide +kernel
theorem dL_rank_165 : decode cL_rank 165 = .ok (.iaload, 1) := by decide +kernel
theorem dL_rank_166 : decode cL_rank 166 = .ok (.iload 6, 2) := by decide +kernel
theorem dL_rank_168 : decode cL_rank 168 = .ok (.ishr, 1) := by decide +kernel
theorem dL_rank_169 : decode cL_rank 169 = .ok (.iconst 1, 1) := by decide +kernel
theorem dL_rank_170 : decode cL_rank 170 = .ok (.iand, 1) := by decide +kernel
theorem dL_rank_171 : decode cL_rank 171 = .ok (.iconst 1, 1) := by decide +kernel
theorem dL_rank_172 : decode cL_rank 172 = .ok (.if_icmp .ne 19, 3) := by decide +kernel
theorem dL_rank_175 : decode cL_rank 175 = .ok (.aload_n 3, 1) := by decide +kernel
theorem dL_rank_176 : decode cL_rank 176 = .ok (.iload 12, 2) := by decide +kernel
theorem dL_rank_178 : decode cL_rank 178 = .ok (.dup2, 1) := by decide +kernel
theorem dL_rank_179 : decode cL_rank 179 = .ok (.iaload, 1) := by decide +kernel
theorem dL_rank_180 : decode cL_rank 180 = .ok (.aload_n 3, 1) := by decide +kernel
theorem dL_rank_181 : decode cL_rank 181 = .ok (.iload 7, 2) := by decide +kernel
theorem dL_rank_183 : decode cL_rank 183 = .ok (.iaload, 1) := by decide +kernel
theorem dL_rank_184 : decode cL_rank 184 = .ok (.iconst 1, 1) := by decide +kernel
theorem dL_rank_185 : decode cL_rank 185 = .ok (.iload 7, 2) := by decide +kernel
theorem dL_rank_187 : decode cL_rank 187 = .ok (.ishl, 1) := by decide +kernel
theorem dL_rank_188 : decode cL_rank 188 = .ok (.ior, 1) := by decide +kernel
theorem dL_rank_189 : decode cL_rank 189 = .ok (.ior, 1) := by decide +kernel
theorem dL_rank_190 : decode cL_rank 190 = .ok (.iastore, 1) := by decide +kernel
theorem dL_rank_191 : decode cL_rank 191 = .ok (.iinc 12 1, 3) := by decide +kernel
theorem dL_rank_194 : decode cL_rank 194 = .ok (.goto (-45), 3) := by decide +kernel
theorem dL_rank_197 : decode cL_rank 197 = .ok (.iinc 5 1, 3) := by decide +kernel
theorem dL_rank_200 : decode cL_rank 200 = .ok (.goto (-190), 3) := by decide +kernel
theorem dL_rank_203 : decode cL_rank 203 = .ok (.iconst 1, 1) := by decide +kernel
theorem dL_rank_204 : decode cL_rank 204 = .ok (.ireturn, 1) := by decide +kernel
set_option maxRecDepth 20000 in
theorem ggL_law_X6_init : GoodIn wsL_law wsX6_init := goodIn_r _ [6, 7, 8, 9, 10, 11, 12, 13, 14, 15, 16, 17, 18, 19, 20, 21, 22, 23, 24, 25, 26, 27, 3, 28, 29, 30, 31, 32, 33, 34, 35, 36, 37, 38, 39, 40, 41, 42, 43, 44, 45, 46, 47, 48, 49, 50, 51, 52, 53, 54, 55, 56, 57, 58, 59, 60, 61, 62, 63, 64, 65, 66, 67, 68, 69, 70, 71, 72, 73, 74, 475, 476, 477, 471, 472, 473, 474, 478, 479, 480, 481, 482, 483, 484, 485, 486, 487, 488, 489, 490, 491, 492, 493, 494, 495, 496, 497, 498, 499, 500, 501, 502, 503, 504, 505, 506, 507, 508, 509, 510, 511, 512, 513] (by decide +kernel) (by decide +kernel)
set_option maxRecDepth 20000 in
theorem gL_law_X6_init : GoodIn wsL_law (wsX6_init) := ggL_law_X6_init
set_option maxRecDepth 20000 in
theorem ggL_law_L_build : GoodIn wsL_law wsL_build := goodIn_ca (goodIn_ca (goodIn_ca (goodIn_r _ [78, 79, 80, 77, 81, 82, 83, 84, 85, 86, 87, 88, 89, 2, 90, 91, 92, 13, 21, 93, 94, 95, 96, 97, 98, 99, 100, 101, 102, 103, 104, 105, 12, 106, 107, 27, 108, 109, 110, 20, 111, 112, 113, 114, 115, 116, 117, 118, 119, 120, 121, 122, 123, 124, 125, 126, 127, 28, 128, 129, 130, 131, 132, 133, 134, 135, 136, 137, 138, 139, 140, 141, 142, 143, 144, 30, 145, 146, 35, 147, 148, 149, 150, 151, 152, 153, 154, 155, 156, 157, 158, 159, 160, 161, 162, 163, 164, 165, 166, 167, 168, 169, 170, 171, 172, 173, 174, 175, 176, 177, 471, 472, 473, 474, 475, 476, 477, 480, 481, 482, 483, 484, 485, 486, 487, 488, 489, 490, 491, 492, 493, 494, 495, 496, 497, 498, 499, 500, 501, 502] (by decide +kernel) (by decide +kernel)) (goodIn_sub (fun _ h => List.mem_append_left _ (List.mem_append_left _ (List.mem_append_right _ h))) (by decide +kernel))) (goodIn_sub (fun _ h => List.mem_append_left _ (List.mem_append_right _ h)) (by decide +kernel))) (goodIn_sub (fun _ h => List.mem_append_right _ h) (by decide +kernel))
set_option maxRecDepth 20000 in
theorem gL_law_L_build : GoodIn wsL_law (va_wsS RL 48 yL_build wsL_build) := goodIn_app (goodIn_of _ (by decide +kernel)) ggL_law_L_build
set_option maxRecDepth 20000 in
theorem ggL_law_L_cell : GoodIn wsL_law wsL_cell := goodIn_r _ [81, 82] (by decide +kernel) (by decide +kernel)
set_option maxRecDepth 20000 in
theorem gL_law_L_cell : GoodIn wsL_law (va_wsS RL 9 yL_cell wsL_cell) := goodIn_app (goodIn_of _ (by decide +kernel)) ggL_law_L_cell
set_option maxRecDepth 20000 in
theorem ggL_law_L_below : GoodIn wsL_law wsL_below := goodIn_r _ [85, 86] (by decide +kernel) (by decide +kernel)
set_option maxRecDepth 20000 in
theorem gL_law_L_below : GoodIn wsL_law (va_wsS RL 15 yL_below wsL_below) := goodIn_app (goodIn_of _ (by decide +kernel)) ggL_law_L_below
set_option maxRecDepth 20000 in
theorem ggL_law_L_rank : GoodIn wsL_law wsL_rank := goodIn_ca (goodIn_ca (goodIn_r _ [180, 181, 83, 84, 77, 85, 86, 182, 183, 184, 2, 185, 101, 102, 21, 13, 134, 135, 136, 137, 96, 97, 138, 139, 140, 12, 141, 107, 27, 186, 187, 188, 30, 189, 190, 36, 108, 109, 110, 20, 111, 112, 191, 192, 193, 194, 195, 128, 196, 471, 472, 473, 474, 475, 476, 477, 492, 493, 494, 495, 496, 497, 498, 499, 500, 501, 502, 480, 481, 482, 483, 484, 485, 486, 487, 488, 489, 490, 491] (by decide +kernel) (by decide +kernel)) (goodIn_sub (fun _ h => List.mem_append_right _ h) (by decide +kernel))) (goodIn_sub (fun _ h => List.mem_append_left _ (List.mem_append_right _ h)) (by decide +kernel))
set_option maxRecDepth 20000 in
theorem gL_law_L_rank : GoodIn wsL_law (va_wsS RL 52 yL_rank wsL_rank) := goodIn_app (goodIn_of _ (by decide +kernel)) ggL_law_L_rank
set_option maxRecDepth 20000 in
theorem ggL_law_X6_put : GoodIn wsL_law wsX6_put := goodIn_ca (goodIn_r _ [200, 158, 21, 98, 99, 2, 100, 101, 102, 161, 162, 163, 108, 109, 110, 20, 111, 112, 167, 168, 169, 471, 472, 473, 474, 480, 481, 482, 483, 484, 485, 486, 487, 488, 489, 490, 491] (by decide +kernel) (by decide +kernel)) (goodIn_sub (fun _ h => List.mem_append_right _ h) (by decide +kernel))
set_option maxRecDepth 20000 in
theorem gL_law_X6_put : GoodIn wsL_law (wsV RL 55 RX6 yX6_put wsX6_put) := goodIn_app (goodIn_of _ (by decide +kernel)) ggL_law_X6_put
set_option maxRecDepth 20000 in
theorem ggL_law_X6_change : GoodIn wsL_law wsX6_change := goodIn_ca (goodIn_r _ [204, 21, 13, 158, 93, 94, 2, 95, 96, 97, 108, 109, 110, 20, 111, 112, 113, 114, 115, 205, 206, 207, 12, 208, 165, 166, 209, 210, 211, 212, 28, 162, 163, 168, 169, 164, 471, 472, 473, 474, 480, 481, 482, 483, 484, 485, 486, 487, 488, 489, 490, 491, 475, 476, 477] (by decide +kernel) (by decide +kernel)) (goodIn_sub (fun _ h => List.mem_append_left _ (List.mem_append_right _ h)) (by decide +kernel))
set_option maxRecDepth 20000 in
theorem gL_law_X6_change : GoodIn wsL_law (wsV RL 59 RX6 yX6_change wsX6_change) := goodIn_app (goodIn_of _ (by decide +kernel)) ggL_law_X6_change
set_option maxRecDepth 20000 in
theorem ggL_law_X6_explore : GoodIn wsL_law wsX6_explore := goodIn_r _ [216, 21, 158, 217, 218, 219, 20, 220, 112, 221, 222, 223, 224, 225, 226, 58, 227, 228, 229, 230, 47, 231, 232, 54, 233, 234, 235, 236, 50, 237, 238, 239, 53, 240, 241, 65, 242, 243, 244, 245, 48, 246, 247, 248, 249, 59, 250, 251, 252, 253, 12, 254, 27, 128, 255, 256, 257, 30, 258, 36, 259, 165, 2, 166, 260, 261, 262, 263, 264, 265, 266, 162, 163, 267, 268, 269, 270, 64, 271, 139, 140, 141, 107, 272, 273, 274, 275, 276, 168, 169, 277, 278, 279, 280, 281, 282, 283, 284, 285, 286, 35, 287, 206, 207, 208, 209, 210, 211, 212, 28, 288, 289, 290, 291, 49, 292, 293, 294, 57, 295, 296, 74, 297, 298, 299, 300, 301, 70, 71, 73, 302, 303, 304, 305, 306, 307, 308, 309, 310, 311, 312, 313, 314, 315, 316, 317, 318, 319, 320, 321, 322, 323, 324, 325, 326, 327, 328, 329, 330, 331, 332, 333, 334, 335, 471, 472, 473, 474, 480, 481, 482, 483, 484, 485, 486, 487, 488, 489, 490, 491, 503, 504, 505, 492, 493, 494, 495, 496, 497, 498, 499, 500, 501, 502, 475, 476, 477, 506, 507, 508, 509, 510, 511, 512, 513] (by decide +kernel) (by decide +kernel)
set_option maxRecDepth 20000 in
theorem gL_law_X6_explore : GoodIn wsL_law (wsV RL 62 RX6 yX6_explore wsX6_explore) := goodIn_app (goodIn_of _ (by decide +kernel)) ggL_law_X6_explore
set_option maxRecDepth 20000 in
theorem ggL_law_X6_terminates : GoodIn wsL_law wsX6_terminates := goodIn_ca (goodIn_r _ [339, 21, 340, 341, 342, 343, 2, 344, 91, 92, 345, 346, 347, 20, 348, 112, 226, 349, 350, 351, 57, 352, 297, 471, 472, 473, 474, 480, 481, 482, 483, 484, 485, 486, 487, 488, 489, 490, 491, 506, 507, 508, 509, 510, 511, 512, 513] (by decide +kernel) (by decide +kernel)) (goodIn_sub (fun _ h => List.mem_append_left _ (List.mem_append_left _ (List.mem_append_right _ h))) (by decide +kernel))
set_option maxRecDepth 20000 in
theorem gL_law_X6_terminates : GoodIn wsL_law (wsV RL 65 RX6 yX6_terminates wsX6_terminates) := goodIn_app (goodIn_of _ (by decide +kernel)) ggL_law_X6_terminates
set_option maxRecDepth 20000 in
theorem ggL_law_X6_circular : GoodIn wsL_law wsX6_circular := goodIn_r _ [356, 17, 357, 358, 359, 16, 360, 41, 361, 362, 363, 364, 42, 365, 139, 140, 12, 141, 107, 27, 366, 367, 368, 369, 127, 276, 283, 284, 285, 30, 286, 35, 209, 210, 211, 212, 28, 471, 472, 473, 474, 478, 479, 475, 476, 477, 492, 493, 494, 495, 496, 497, 498, 499, 500, 501, 502] (by decide +kernel) (by decide +kernel)
set_option maxRecDepth 20000 in
theorem gL_law_X6_circular : GoodIn wsL_law (wsV RL 69 RX6 yX6_circular wsX6_circular) := goodIn_app (goodIn_of _ (by decide +kernel)) ggL_law_X6_circular
set_option maxRecDepth 20000 in
theorem ggL_law_X6_endCount : GoodIn wsL_law wsX6_endCount := goodIn_ca (goodIn_r _ [373, 21, 374, 341, 342, 343, 2, 344, 91, 92, 345, 346, 347, 20, 348, 112, 226, 375, 376, 377, 53, 378, 241, 471, 472, 473, 474, 480, 481, 482, 483, 484, 485, 486, 487, 488, 489, 490, 491, 503, 504, 505] (by decide +kernel) (by decide +kernel)) (goodIn_sub (fun _ h => List.mem_append_left _ (List.mem_append_left _ (List.mem_append_right _ h))) (by decide +kernel))
set_option maxRecDepth 20000 in
theorem gL_law_X6_endCount : GoodIn wsL_law (wsV RL 72 RX6 yX6_endCount wsX6_endCount) := goodIn_app (goodIn_of _ (by decide +kernel)) ggL_law_X6_endCount
set_option maxRecDepth 20000 in
theorem ggL_law_X6_ways : GoodIn wsL_law wsX6_ways := goodIn_ca (goodIn_r _ [382, 21, 340, 341, 342, 343, 2, 344, 91, 92, 345, 346, 347, 20, 348, 112, 226, 383, 384, 385, 57, 386, 297, 315, 387, 471, 472, 473, 474, 480, 481, 482, 483, 484, 485, 486, 487, 488, 489, 490, 491, 506, 507, 508, 509, 510, 511, 512, 513] (by decide +kernel) (by decide +kernel)) (goodIn_sub (fun _ h => List.mem_append_left _ (List.mem_append_left _ (List.mem_append_right _ h))) (by decide +kernel))
set_option maxRecDepth 20000 in
theorem gL_law_X6_ways : GoodIn wsL_law (wsV RL 75 RX6 yX6_ways wsX6_ways) := goodIn_app (goodIn_of _ (by decide +kernel)) ggL_law_X6_ways
set_option maxRecDepth 20000 in
theorem ggL_law_X6_longest : GoodIn wsL_law wsX6_longest := goodIn_ca (goodIn_r _ [391, 21, 340, 341, 342, 343, 2, 344, 91, 92, 345, 346, 347, 20, 348, 112, 226, 392, 393, 394, 57, 395, 297, 314, 471, 472, 473, 474, 480, 481, 482, 483, 484, 485, 486, 487, 488, 489, 490, 491, 506, 507, 508, 509, 510, 511, 512, 513] (by decide +kernel) (by decide +kernel)) (goodIn_sub (fun _ h => List.mem_append_left _ (List.mem_append_left _ (List.mem_append_right _ h))) (by decide +kernel))
set_option maxRecDepth 20000 in
theorem gL_law_X6_longest : GoodIn wsL_law (wsV RL 79 RX6 yX6_longest wsX6_longest) := goodIn_app (goodIn_of _ (by decide +kernel)) ggL_law_X6_longest
set_option maxRecDepth 20000 in
theorem ggL_law_X6_conflictCount : GoodIn wsL_law wsX6_conflictCount := goodIn_r _ [399, 17, 400, 401, 402, 16, 403, 404, 405, 406, 407, 42, 365, 139, 140, 12, 141, 107, 27, 408, 187, 188, 30, 189, 190, 36, 409, 410, 411, 412, 413, 414, 415, 416, 366, 367, 368, 369, 127, 276, 283, 284, 285, 286, 35, 209, 210, 211, 212, 28, 417, 418, 419, 420, 151, 152, 421, 422, 423, 424, 281, 282, 471, 472, 473, 474, 478, 479, 475, 476, 477, 492, 493, 494, 495, 496, 497, 498, 499, 500, 501, 502] (by decide +kernel) (by decide +kernel)
set_option maxRecDepth 20000 in
theorem gL_law_X6_conflictCount : GoodIn wsL_law (wsV RL 82 RX6 yX6_conflictCount wsX6_conflictCount) := goodIn_app (goodIn_of _ (by decide +kernel)) ggL_law_X6_conflictCount
set_option maxRecDepth 20000 in
theorem ggL_law_X6_shortest : GoodIn wsL_law wsX6_shortest := goodIn_ca (goodIn_r _ [428, 21, 374, 341, 342, 343, 2, 344, 91, 92, 345, 346, 347, 20, 348, 112, 226, 429, 430, 431, 53, 432, 65, 471, 472, 473, 474, 480, 481, 482, 483, 484, 485, 486, 487, 488, 489, 490, 491, 503, 504, 505] (by decide +kernel) (by decide +kernel)) (goodIn_sub (fun _ h => List.mem_append_left _ (List.mem_append_left _ (List.mem_append_right _ h))) (by decide +kernel))
set_option maxRecDepth 20000 in
theorem gL_law_X6_shortest : GoodIn wsL_law (wsV RL 85 RX6 yX6_shortest wsX6_shortest) := goodIn_app (goodIn_of _ (by decide +kernel)) ggL_law_X6_shortest
set_option maxRecDepth 20000 in
theorem ggL_law_X6_factsOf : GoodIn wsL_law wsX6_factsOf := goodIn_ca (goodIn_ca (goodIn_r _ [436, 437, 438, 439, 2, 440, 96, 97, 21, 341, 342, 343, 344, 91, 92, 345, 346, 347, 20, 348, 112, 226, 441, 442, 443, 444, 225, 47, 161, 162, 163, 471, 472, 473, 474, 480, 481, 482, 483, 484, 485, 486, 487, 488, 489, 490, 491] (by decide +kernel) (by decide +kernel)) (goodIn_sub (fun _ h => List.mem_append_left _ (List.mem_append_right _ h)) (by decide +kernel))) (goodIn_sub (fun _ h => List.mem_append_left _ (List.mem_append_left _ (List.mem_append_right _ h))) (by decide +kernel))
set_option maxRecDepth 20000 in
theorem gL_law_X6_factsOf : GoodIn wsL_law (wsV RL 88 RX6 yX6_factsOf wsX6_factsOf) := goodIn_app (goodIn_of _ (by decide +kernel)) ggL_law_X6_factsOf
set_option maxRecDepth 20000 in
theorem ggL_law_X6_triggeredOf : GoodIn wsL_law wsX6_triggeredOf := goodIn_ca (goodIn_ca (goodIn_r _ [448, 437, 438, 439, 2, 440, 96, 97, 21, 341, 342, 343, 344, 91, 92, 345, 346, 347, 20, 348, 112, 226, 441, 442, 443, 444, 225, 47, 164, 165, 166, 471, 472, 473, 474, 480, 481, 482, 483, 484, 485, 486, 487, 488, 489, 490, 491] (by decide +kernel) (by decide +kernel)) (goodIn_sub (fun _ h => List.mem_append_left _ (List.mem_append_right _ h)) (by decide +kernel))) (goodIn_sub (fun _ h => List.mem_append_left _ (List.mem_append_left _ (List.mem_append_right _ h))) (by decide +kernel))
set_option maxRecDepth 20000 in
theorem gL_law_X6_triggeredOf : GoodIn wsL_law (wsV RL 91 RX6 yX6_triggeredOf wsX6_triggeredOf) := goodIn_app (goodIn_of _ (by decide +kernel)) ggL_law_X6_triggeredOf
set_option maxRecDepth 20000 in
theorem ggL_law_X6_after : GoodIn wsL_law wsX6_after := goodIn_ca (goodIn_ca (goodIn_r _ [452, 21, 437, 438, 439, 2, 440, 96, 97, 341, 342, 343, 344, 91, 92, 345, 346, 347, 20, 348, 112, 226, 441, 442, 443, 444, 225, 47, 134, 135, 136, 137, 13, 138, 139, 140, 12, 141, 107, 27, 453, 307, 308, 309, 49, 471, 472, 473, 474, 480, 481, 482, 483, 484, 485, 486, 487, 488, 489, 490, 491, 475, 476, 477] (by decide +kernel) (by decide +kernel)) (goodIn_sub (fun _ h => List.mem_append_left _ (List.mem_append_right _ h)) (by decide +kernel))) (goodIn_sub (fun _ h => List.mem_append_left _ (List.mem_append_left _ (List.mem_append_right _ h))) (by decide +kernel))
set_option maxRecDepth 20000 in
theorem gL_law_X6_after : GoodIn wsL_law (wsV RL 94 RX6 yX6_after wsX6_after) := goodIn_app (goodIn_of _ (by decide +kernel)) ggL_law_X6_after
set_option maxRecDepth 20000 in
theorem ggL_law_X6_run : GoodIn wsL_law wsX6_run := goodIn_ca (goodIn_r _ [457, 101, 102, 21, 13, 158, 108, 109, 110, 20, 111, 112, 458, 459, 460, 12, 461, 27, 255, 256, 257, 30, 258, 36, 259, 165, 2, 166, 462, 273, 274, 275, 128, 276, 162, 163, 168, 169, 277, 278, 279, 280, 281, 282, 283, 284, 285, 286, 35, 287, 206, 207, 208, 209, 210, 211, 212, 28, 471, 472, 473, 474, 480, 481, 482, 483, 484, 485, 486, 487, 488, 489, 490, 491, 475, 476, 477, 492, 493, 494, 495, 496, 497, 498, 499, 500, 501, 502] (by decide +kernel) (by decide +kernel)) (goodIn_sub (fun _ h => List.mem_append_right _ h) (by decide +kernel))
set_option maxRecDepth 20000 in
theorem gL_law_X6_run : GoodIn wsL_law (wsV RL 97 RX6 yX6_run wsX6_run) := goodIn_app (goodIn_of _ (by decide +kernel)) ggL_law_X6_run
set_option maxRecDepth 20000 in
theorem ggL_law_X6_facts : GoodIn wsL_law wsX6_facts := goodIn_r _ [466, 158, 161, 162, 2, 163, 471, 472, 473, 474] (by decide +kernel) (by decide +kernel)
set_option maxRecDepth 20000 in
theorem gL_law_X6_facts : GoodIn wsL_law (wsV RL 100 RX6 yX6_facts wsX6_facts) := goodIn_app (goodIn_of _ (by decide +kernel)) ggL_law_X6_facts
set_option maxRecDepth 20000 in
theorem ggL_law_X6_triggered : GoodIn wsL_law wsX6_triggered := goodIn_r _ [470, 158, 164, 165, 2, 166, 471, 472, 473, 474] (by decide +kernel) (by decide +kernel)
set_option maxRecDepth 20000 in
theorem gL_law_X6_triggered : GoodIn wsL_law (wsV RL 103 RX6 yX6_triggered wsX6_triggered) := goodIn_app (goodIn_of _ (by decide +kernel)) ggL_law_X6_triggered
theorem dL_law_0 : decode cL_law 0 = .ok (.new 20, 3) := by decide +kernel
theorem dL_law_3 : decode cL_law 3 = .ok (.dup, 1) := by decide +kernel
theorem dL_law_4 : decode cL_law 4 = .ok (.invokespecial 47, 3) := by decide +kernel
theorem dL_law_7 : decode cL_law 7 = .ok (.astore_n 1, 1) := by decide +kernel
theorem dL_law_8 : decode cL_law 8 = .ok (.aload_n 1, 1) := by decide +kernel
theorem dL_law_9 : decode cL_law 9 = .ok (.aload_n 0, 1) := by decide +kernel
theorem dL_law_10 : decode cL_law 10 = .ok (.iconst 0, 1) := by decide +kernel
theorem dL_law_11 : decode cL_law 11 = .ok (.bipush 6, 2) := by decide +kernel
theorem dL_law_13 : decode cL_law 13 = .ok (.bipush 72, 2) := by decide +kernel
theorem dL_law_15 : decode cL_law 15 = .ok (.newarray .int, 2) := by decide +kernel
theorem dL_law_17 : decode cL_law 17 = .ok (.invokestatic 48, 3) := by decide +kernel
theorem dL_law_20 : decode cL_law 20 = .ok (.istore_n 2, 1) := by decide +kernel
theorem dL_law_21 : decode cL_law 21 = .ok (.iload_n 2, 1) := by decide +kernel
theorem dL_law_22 : decode cL_law 22 = .ok (.ifCond .ge 5, 3) := by decide +kernel
theorem dL_law_25 : decode cL_law 25 = .ok (.iconst 0, 1) := by decide +kernel
theorem dL_law_26 : decode cL_law 26 = .ok (.ireturn, 1) := by decide +kernel
theorem dL_law_27 : decode cL_law 27 = .ok (.aload_n 0, 1) := by decide +kernel
theorem dL_law_28 : decode cL_law 28 = .ok (.bipush 8, 2) := by decide +kernel
theorem dL_law_30 : decode cL_law 30 = .ok (.invokestatic 9, 3) := by decide +kernel
theorem dL_law_33 : decode cL_law 33 = .ok (.iconst 2, 1) := by decide +kernel
theorem dL_law_34 : decode cL_law 34 = .ok (.invokestatic 15, 3) := by decide +kernel
theorem dL_law_37 : decode cL_law 37 = .ok (.ifCond .ne 7, 3) := by decide +kernel
theorem dL_law_40 : decode cL_law 40 = .ok (.iconst 1, 1) := by decide +kernel
theorem dL_law_41 : decode cL_law 41 = .ok (.goto 4, 3) := by decide +kernel
theorem dL_law_44 : decode cL_law 44 = .ok (.iconst 0, 1) := by decide +kernel
theorem dL_law_45 : decode cL_law 45 = .ok (.istore_n 3, 1) := by decide +kernel
theorem dL_law_46 : decode cL_law 46 = .ok (.bipush 8, 2) := by decide +kernel
theorem dL_law_48 : decode cL_law 48 = .ok (.newarray .int, 2) := by decide +kernel
theorem dL_law_50 : decode cL_law 50 = .ok (.astore 4, 2) := by decide +kernel
theorem dL_law_52 : decode cL_law 52 = .ok (.iload_n 3, 1) := by decide +kernel
theorem dL_law_53 : decode cL_law 53 = .ok (.ifCond .eq 21, 3) := by decide +kernel
theorem dL_law_56 : decode cL_law 56 = .ok (.aload_n 1, 1) := by decide +kernel
theorem dL_law_57 : decode cL_law 57 = .ok (.aload_n 0, 1) := by decide +kernel
theorem dL_law_58 : decode cL_law 58 = .ok (.bipush 10, 2) := by decide +kernel
theorem dL_law_60 : decode cL_law 60 = .ok (.invokestatic 9, 3) := by decide +kernel
theorem dL_law_63 : decode cL_law 63 = .ok (.iload_n 2, 1) := by decide +kernel
theorem dL_law_64 : decode cL_law 64 = .ok (.aload 4, 2) := by decide +kernel
theorem dL_law_66 : decode cL_law 66 = .ok (.invokestatic 52, 3) := by decide +kernel
theorem dL_law_69 : decode cL_law 69 = .ok (.ifCond .ne 5, 3) := by decide +kernel
theorem dL_law_72 : decode cL_law 72 = .ok (.iconst 0, 1) := by decide +kernel
theorem dL_law_73 : decode cL_law 73 = .ok (.ireturn, 1) := by decide +kernel
theorem dL_law_74 : decode cL_law 74 = .ok (.iconst 1, 1) := by decide +kernel
theorem dL_law_75 : decode cL_law 75 = .ok (.istore 5, 2) := by decide +kernel
theorem dL_law_77 : decode cL_law 77 = .ok (.aload 4, 2) := by decide +kernel
theorem dL_law_79 : decode cL_law 79 = .ok (.astore 6, 2) := by decide +kernel
theorem dL_law_81 : decode cL_law 81 = .ok (.aload 6, 2) := by decide +kernel
theorem dL_law_83 : decode cL_law 83 = .ok (.arraylength, 1) := by decide +kernel
theorem dL_law_84 : decode cL_law 84 = .ok (.istore 7, 2) := by decide +kernel
theorem dL_law_86 : decode cL_law 86 = .ok (.iconst 0, 1) := by decide +kernel
theorem dL_law_87 : decode cL_law 87 = .ok (.istore 8, 2) := by decide +kernel
theorem dL_law_89 : decode cL_law 89 = .ok (.iload 8, 2) := by decide +kernel
theorem dL_law_91 : decode cL_law 91 = .ok (.iload 7, 2) := by decide +kernel
theorem dL_law_93 : decode cL_law 93 = .ok (.if_icmp .ge 33, 3) := by decide +kernel
theorem dL_law_96 : decode cL_law 96 = .ok (.aload 6, 2) := by decide +kernel
theorem dL_law_98 : decode cL_law 98 = .ok (.iload 8, 2) := by decide +kernel
theorem dL_law_100 : decode cL_law 100 = .ok (.iaload, 1) := by decide +kernel
theorem dL_law_101 : decode cL_law 101 = .ok (.istore 9, 2) := by decide +kernel
theorem dL_law_103 : decode cL_law 103 = .ok (.iload 5, 2) := by decide +kernel
theorem dL_law_105 : decode cL_law 105 = .ok (.ifCond .eq 12, 3) := by decide +kernel
theorem dL_law_108 : decode cL_law 108 = .ok (.iload 9, 2) := by decide +kernel
theorem dL_law_110 : decode cL_law 110 = .ok (.ifCond .ne 7, 3) := by decide +kernel
theorem dL_law_113 : decode cL_law 113 = .ok (.iconst 1, 1) := by decide +kernel
theorem dL_law_114 : decode cL_law 114 = .ok (.goto 4, 3) := by decide +kernel
theorem dL_law_117 : decode cL_law 117 = .ok (.iconst 0, 1) := by decide +kernel
theorem dL_law_118 : decode cL_law 118 = .ok (.istore 5, 2) := by decide +kernel
theorem dL_law_120 : decode cL_law 120 = .ok (.iinc 8 1, 3) := by decide +kernel
theorem dL_law_123 : decode cL_law 123 = .ok (.goto (-34), 3) := by decide +kernel
theorem dL_law_126 : decode cL_law 126 = .ok (.aload_n 1, 1) := by decide +kernel
theorem dL_law_127 : decode cL_law 127 = .ok (.aload_n 0, 1) := by decide +kernel
theorem dL_law_128 : decode cL_law 128 = .ok (.bipush 11, 2) := by decide +kernel
theorem dL_law_130 : decode cL_law 130 = .ok (.invokestatic 9, 3) := by decide +kernel
theorem dL_law_133 : decode cL_law 133 = .ok (.bipush 64, 2) := by decide +kernel
theorem dL_law_135 : decode cL_law 135 = .ok (.invokestatic 15, 3) := by decide +kernel
theorem dL_law_138 : decode cL_law 138 = .ok (.invokevirtual 55, 3) := by decide +kernel
theorem dL_law_141 : decode cL_law 141 = .ok (.pop, 1) := by decide +kernel
theorem dL_law_142 : decode cL_law 142 = .ok (.iconst 1, 1) := by decide +kernel
theorem dL_law_143 : decode cL_law 143 = .ok (.aload_n 0, 1) := by decide +kernel
theorem dL_law_144 : decode cL_law 144 = .ok (.bipush 12, 2) := by decide +kernel
theorem dL_law_146 : decode cL_law 146 = .ok (.invokestatic 9, 3) := by decide +kernel
theorem dL_law_149 : decode cL_law 149 = .ok (.iconst 3, 1) := by decide +kernel
theorem dL_law_150 : decode cL_law 150 = .ok (.invokestatic 15, 3) := by decide +kernel
theorem dL_law_153 : decode cL_law 153 = .ok (.iadd, 1) := by decide +kernel
theorem dL_law_154 : decode cL_law 154 = .ok (.istore 6, 2) := by decide +kernel
theorem dL_law_156 : decode cL_law 156 = .ok (.iconst 0, 1) := by decide +kernel
theorem dL_law_157 : decode cL_law 157 = .ok (.istore 7, 2) := by decide +kernel
theorem dL_law_159 : decode cL_law 159 = .ok (.iload 7, 2) := by decide +kernel
theorem dL_law_161 : decode cL_law 161 = .ok (.iload 6, 2) := by decide +kernel
theorem dL_law_163 : decode cL_law 163 = .ok (.if_icmp .ge 51, 3) := by decide +kernel
theorem dL_law_166 : decode cL_law 166 = .ok (.aload_n 1, 1) := by decide +kernel
theorem dL_law_167 : decode cL_law 167 = .ok (.aload_n 0, 1) := by decide +kernel
theorem dL_law_168 : decode cL_law 168 = .ok (.bipush 13, 2) := by decide +kernel
theorem dL_law_170 : decode cL_law 170 = .ok (.iload 7, 2) := by decide +kernel
theorem dL_law_172 : decode cL_law 172 = .ok (.iadd, 1) := by decide +kernel
theorem dL_law_173 : decode cL_law 173 = .ok (.invokestatic 9, 3) := by decide +kernel
theorem dL_law_176 : decode cL_law 176 = .ok (.bipush 6, 2) := by decide +kernel
theorem dL_law_178 : decode cL_law 178 = .ok (.invokestatic 15, 3) := by decide +kernel
theorem dL_law_181 : decode cL_law 181 = .ok (.aload_n 0, 1) := by decide +kernel
theorem dL_law_182 : decode cL_law 182 = .ok (.bipush 13, 2) := by decide +kernel
theorem dL_law_184 : decode cL_law 184 = .ok (.iload 7, 2) := by decide +kernel
theorem dL_law_186 : decode cL_law 186 = .ok (.iadd, 1) := by decide +kernel
theorem dL_law_187 : decode cL_law 187 = .ok (.invokestatic 9, 3) := by decide +kernel
theorem dL_law_190 : decode cL_law 190 = .ok (.iconst 4, 1) := by decide +kernel
theorem dL_law_191 : decode cL_law 191 = .ok (.ishr, 1) := by decide +kernel
theorem dL_law_192 : decode cL_law 192 = .ok (.iconst 3, 1) := by decide +kernel
theorem dL_law_193 : decode cL_law 193 = .ok (.invokestatic 15, 3) := by decide +kernel
theorem dL_law_196 : decode cL_law 196 = .ok (.ifCond .le 7, 3) := by decide +kernel
theorem dL_law_199 : decode cL_law 199 = .ok (.iconst 1, 1) := by decide +kernel
theorem dL_law_200 : decode cL_law 200 = .ok (.goto 4, 3) := by decide +kernel
theorem dL_law_203 : decode cL_law 203 = .ok (.iconst 0, 1) := by decide +kernel
theorem dL_law_204 : decode cL_law 204 = .ok (.invokevirtual 59, 3) := by decide +kernel
theorem dL_law_207 : decode cL_law 207 = .ok (.pop, 1) := by decide +kernel
theorem dL_law_208 : decode cL_law 208 = .ok (.iinc 7 1, 3) := by decide +kernel
theorem dL_law_211 : decode cL_law 211 = .ok (.goto (-52), 3) := by decide +kernel
theorem dL_law_214 : decode cL_law 214 = .ok (.aload_n 1, 1) := by decide +kernel
theorem dL_law_215 : decode cL_law 215 = .ok (.invokevirtual 62, 3) := by decide +kernel
theorem dL_law_218 : decode cL_law 218 = .ok (.istore 7, 2) := by decide +kernel
theorem dL_law_220 : decode cL_law 220 = .ok (.iload 7, 2) := by decide +kernel
theorem dL_law_222 : decode cL_law 222 = .ok (.ifCond .ge 5, 3) := by decide +kernel
theorem dL_law_225 : decode cL_law 225 = .ok (.iconst 1, 1) := by decide +kernel
theorem dL_law_226 : decode cL_law 226 = .ok (.ireturn, 1) := by decide +kernel
theorem dL_law_227 : decode cL_law 227 = .ok (.aload_n 1, 1) := by decide +kernel
theorem dL_law_228 : decode cL_law 228 = .ok (.invokevirtual 65, 3) := by decide +kernel
theorem dL_law_231 : decode cL_law 231 = .ok (.istore 8, 2) := by decide +kernel
theorem dL_law_233 : decode cL_law 233 = .ok (.aload_n 1, 1) := by decide +kernel
theorem dL_law_234 : decode cL_law 234 = .ok (.invokevirtual 69, 3) := by decide +kernel
theorem dL_law_237 : decode cL_law 237 = .ok (.ifCond .ne 10, 3) := by decide +kernel
theorem dL_law_240 : decode cL_law 240 = .ok (.iload 8, 2) := by decide +kernel
theorem dL_law_242 : decode cL_law 242 = .ok (.ifCond .ne 5, 3) := by decide +kernel
theorem dL_law_245 : decode cL_law 245 = .ok (.iconst 0, 1) := by decide +kernel
theorem dL_law_246 : decode cL_law 246 = .ok (.ireturn, 1) := by decide +kernel
theorem dL_law_247 : decode cL_law 247 = .ok (.iload 8, 2) := by decide +kernel
theorem dL_law_249 : decode cL_law 249 = .ok (.ifCond .eq 31, 3) := by decide +kernel
theorem dL_law_252 : decode cL_law 252 = .ok (.aload_n 1, 1) := by decide +kernel
theorem dL_law_253 : decode cL_law 253 = .ok (.invokevirtual 72, 3) := by decide +kernel
theorem dL_law_256 : decode cL_law 256 = .ok (.iconst 1, 1) := by decide +kernel
theorem dL_law_257 : decode cL_law 257 = .ok (.if_icmp .lt 21, 3) := by decide +kernel
theorem dL_law_260 : decode cL_law 260 = .ok (.aload_n 1, 1) := by decide +kernel
theorem dL_law_261 : decode cL_law 261 = .ok (.invokevirtual 75, 3) := by decide +kernel
theorem dL_law_264 : decode cL_law 264 = .ok (.lconst 1, 1) := by decide +kernel
theorem dL_law_265 : decode cL_law 265 = .ok (.lcmp, 1) := by decide +kernel
theorem dL_law_266 : decode cL_law 266 = .ok (.ifCond .ge 14, 3) := by decide +kernel
theorem dL_law_269 : decode cL_law 269 = .ok (.aload_n 1, 1) := by decide +kernel
theorem dL_law_270 : decode cL_law 270 = .ok (.invokevirtual 79, 3) := by decide +kernel
theorem dL_law_273 : decode cL_law 273 = .ok (.bipush 20, 2) := by decide +kernel
theorem dL_law_275 : decode cL_law 275 = .ok (.if_icmp .ge 5, 3) := by decide +kernel
theorem dL_law_278 : decode cL_law 278 = .ok (.iconst 0, 1) := by decide +kernel
theorem dL_law_279 : decode cL_law 279 = .ok (.ireturn, 1) := by decide +kernel
theorem dL_law_280 : decode cL_law 280 = .ok (.iload 5, 2) := by decide +kernel
theorem dL_law_282 : decode cL_law 282 = .ok (.ifCond .eq 43, 3) := by decide +kernel
theorem dL_law_285 : decode cL_law 285 = .ok (.aload_n 1, 1) := by decide +kernel
theorem dL_law_286 : decode cL_law 286 = .ok (.invokevirtual 82, 3) := by decide +kernel
theorem dL_law_289 : decode cL_law 289 = .ok (.ifCond .ne 36, 3) := by decide +kernel
theorem dL_law_292 : decode cL_law 292 = .ok (.aload_n 1, 1) := by decide +kernel
theorem dL_law_293 : decode cL_law 293 = .ok (.invokevirtual 72, 3) := by decide +kernel
theorem dL_law_296 : decode cL_law 296 = .ok (.ifCond .le 29, 3) := by decide +kernel
theorem dL_law_299 : decode cL_law 299 = .ok (.iload 8, 2) := by decide +kernel
theorem dL_law_301 : decode cL_law 301 = .ok (.ifCond .eq 22, 3) := by decide +kernel
theorem dL_law_304 : decode cL_law 304 = .ok (.aload_n 1, 1) := by decide +kernel
theorem dL_law_305 : decode cL_law 305 = .ok (.invokevirtual 72, 3) := by decide +kernel
theorem dL_law_308 : decode cL_law 308 = .ok (.iconst 1, 1) := by decide +kernel
theorem dL_law_309 : decode cL_law 309 = .ok (.if_icmp .ne 14, 3) := by decide +kernel
theorem dL_law_312 : decode cL_law 312 = .ok (.aload_n 1, 1) := by decide +kernel
theorem dL_law_313 : decode cL_law 313 = .ok (.invokevirtual 85, 3) := by decide +kernel
theorem dL_law_316 : decode cL_law 316 = .ok (.aload_n 1, 1) := by decide +kernel
theorem dL_law_317 : decode cL_law 317 = .ok (.invokevirtual 79, 3) := by decide +kernel
theorem dL_law_320 : decode cL_law 320 = .ok (.if_icmp .eq 5, 3) := by decide +kernel
theorem dL_law_323 : decode cL_law 323 = .ok (.iconst 0, 1) := by decide +kernel
theorem dL_law_324 : decode cL_law 324 = .ok (.ireturn, 1) := by decide +kernel
theorem dL_law_325 : decode cL_law 325 = .ok (.iload 7, 2) := by decide +kernel
theorem dL_law_327 : decode cL_law 327 = .ok (.newarray .int, 2) := by decide +kernel
theorem dL_law_329 : decode cL_law 329 = .ok (.astore 9, 2) := by decide +kernel
theorem dL_law_331 : decode cL_law 331 = .ok (.iload 7, 2) := by decide +kernel
theorem dL_law_333 : decode cL_law 333 = .ok (.newarray .int, 2) := by decide +kernel
theorem dL_law_335 : decode cL_law 335 = .ok (.astore 10, 2) := by decide +kernel
theorem dL_law_337 : decode cL_law 337 = .ok (.iload 7, 2) := by decide +kernel
theorem dL_law_339 : decode cL_law 339 = .ok (.newarray .int, 2) := by decide +kernel
theorem dL_law_341 : decode cL_law 341 = .ok (.astore 11, 2) := by decide +kernel
theorem dL_law_343 : decode cL_law 343 = .ok (.iconst 0, 1) := by decide +kernel
theorem dL_law_344 : decode cL_law 344 = .ok (.istore 12, 2) := by decide +kernel
theorem dL_law_346 : decode cL_law 346 = .ok (.iload 12, 2) := by decide +kernel
theorem dL_law_348 : decode cL_law 348 = .ok (.iload 7, 2) := by decide +kernel
theorem dL_law_350 : decode cL_law 350 = .ok (.if_icmp .ge 108, 3) := by decide +kernel
theorem dL_law_353 : decode cL_law 353 = .ok (.aload 9, 2) := by decide +kernel
theorem dL_law_355 : decode cL_law 355 = .ok (.iload 12, 2) := by decide +kernel
theorem dL_law_357 : decode cL_law 357 = .ok (.aload_n 1, 1) := by decide +kernel
theorem dL_law_358 : decode cL_law 358 = .ok (.iload 12, 2) := by decide +kernel
theorem dL_law_360 : decode cL_law 360 = .ok (.invokevirtual 88, 3) := by decide +kernel
theorem dL_law_363 : decode cL_law 363 = .ok (.iastore, 1) := by decide +kernel
theorem dL_law_364 : decode cL_law 364 = .ok (.aload 10, 2) := by decide +kernel
theorem dL_law_366 : decode cL_law 366 = .ok (.iload 12, 2) := by decide +kernel
theorem dL_law_368 : decode cL_law 368 = .ok (.aload_n 1, 1) := by decide +kernel
theorem dL_law_369 : decode cL_law 369 = .ok (.iload 12, 2) := by decide +kernel
theorem dL_law_371 : decode cL_law 371 = .ok (.invokevirtual 91, 3) := by decide +kernel
theorem dL_law_374 : decode cL_law 374 = .ok (.iastore, 1) := by decide +kernel
theorem dL_law_375 : decode cL_law 375 = .ok (.aload 11, 2) := by decide +kernel
theorem dL_law_377 : decode cL_law 377 = .ok (.iload 12, 2) := by decide +kernel
theorem dL_law_379 : decode cL_law 379 = .ok (.iconst (-1), 1) := by decide +kernel
theorem dL_law_380 : decode cL_law 380 = .ok (.iastore, 1) := by decide +kernel
theorem dL_law_381 : decode cL_law 381 = .ok (.iload_n 2, 1) := by decide +kernel
theorem dL_law_382 : decode cL_law 382 = .ok (.iconst 1, 1) := by decide +kernel
theorem dL_law_383 : decode cL_law 383 = .ok (.isub, 1) := by decide +kernel
theorem dL_law_384 : decode cL_law 384 = .ok (.istore 13, 2) := by decide +kernel
theorem dL_law_386 : decode cL_law 386 = .ok (.iload 13, 2) := by decide +kernel
theorem dL_law_388 : decode cL_law 388 = .ok (.ifCond .lt 33, 3) := by decide +kernel
theorem dL_law_391 : decode cL_law 391 = .ok (.aload_n 1, 1) := by decide +kernel
theorem dL_law_392 : decode cL_law 392 = .ok (.iload 12, 2) := by decide +kernel
theorem dL_law_394 : decode cL_law 394 = .ok (.iload 13, 2) := by decide +kernel
theorem dL_law_396 : decode cL_law 396 = .ok (.invokevirtual 94, 3) := by decide +kernel
theorem dL_law_399 : decode cL_law 399 = .ok (.ifCond .lt 16, 3) := by decide +kernel
theorem dL_law_402 : decode cL_law 402 = .ok (.aload 11, 2) := by decide +kernel
theorem dL_law_404 : decode cL_law 404 = .ok (.iload 12, 2) := by decide +kernel
theorem dL_law_406 : decode cL_law 406 = .ok (.aload_n 1, 1) := by decide +kernel
theorem dL_law_407 : decode cL_law 407 = .ok (.iload 12, 2) := by decide +kernel
theorem dL_law_409 : decode cL_law 409 = .ok (.iload 13, 2) := by decide +kernel
theorem dL_law_411 : decode cL_law 411 = .ok (.invokevirtual 94, 3) := by decide +kernel
theorem dL_law_414 : decode cL_law 414 = .ok (.iastore, 1) := by decide +kernel
theorem dL_law_415 : decode cL_law 415 = .ok (.iinc 13 (-1), 3) := by decide +kernel
theorem dL_law_418 : decode cL_law 418 = .ok (.goto (-32), 3) := by decide +kernel
theorem dL_law_421 : decode cL_law 421 = .ok (.aload 11, 2) := by decide +kernel
theorem dL_law_423 : decode cL_law 423 = .ok (.iload 12, 2) := by decide +kernel
