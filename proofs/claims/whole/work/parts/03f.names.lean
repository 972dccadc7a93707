set_option maxRecDepth 20000 in
theorem gX7_change_X7_isFact : GoodIn wsX7_change (va_wsS RX7 52 yX7_isFact wsX7_isFact) := goodIn_app (goodIn_of _ (by decide +kernel)) ggX7_change_X7_isFact
set_option maxRecDepth 20000 in
theorem ggX7_change_X7_fail : GoodIn wsX7_change wsX7_fail := goodIn_r _ [11, 1, 34, 35, 36, 37, 38, 39, 40, 41, 42, 43, 44, 45, 46, 47, 48, 49, 50, 51] (by decide +kernel) (by decide +kernel)
set_option maxRecDepth 20000 in
theorem gX7_change_X7_fail : GoodIn wsX7_change (wsV RX7 56 RX7 yX7_fail wsX7_fail) := goodIn_app (goodIn_of _ (by decide +kernel)) ggX7_change_X7_fail
set_option maxRecDepth 20000 in
theorem ggX7_change_X7_now : GoodIn wsX7_change wsX7_now := goodIn_r _ [15, 16, 3, 34, 35, 36, 37, 38, 39, 40, 41, 42, 43, 44, 45, 46, 47, 48, 49, 50, 51] (by decide +kernel) (by decide +kernel)
set_option maxRecDepth 20000 in
theorem gX7_change_X7_now : GoodIn wsX7_change (wsV RX7 94 RX7 yX7_now wsX7_now) := goodIn_app (goodIn_of _ (by decide +kernel)) ggX7_change_X7_now
set_option maxRecDepth 20000 in
theorem ggX7_change_X7_literal : GoodIn wsX7_change wsX7_literal := goodIn_r _ [19] (by decide +kernel) (by decide +kernel)
set_option maxRecDepth 20000 in
theorem gX7_change_X7_literal : GoodIn wsX7_change (va_wsS RX7 63 yX7_literal wsX7_literal) := goodIn_app (goodIn_of _ (by decide +kernel)) ggX7_change_X7_literal
set_option maxRecDepth 20000 in
theorem ggX7_change_X7_behind : GoodIn wsX7_change wsX7_behind := goodIn_r _ [23, 24, 25, 26, 34, 35, 36, 37, 38, 39, 40, 41, 42, 43, 44, 45, 46, 47, 48, 49, 50, 51] (by decide +kernel) (by decide +kernel)
set_option maxRecDepth 20000 in
theorem gX7_change_X7_behind : GoodIn wsX7_change (wsV RX7 87 RX7 yX7_behind wsX7_behind) := goodIn_app (goodIn_of _ (by decide +kernel)) ggX7_change_X7_behind
set_option maxRecDepth 20000 in
theorem ggX7_change_X7_become : GoodIn wsX7_change wsX7_become := goodIn_r _ [30, 16, 3, 31, 32, 6, 33, 34, 35, 36, 37, 38, 39, 40, 41, 42, 43, 44, 45, 46, 47, 48, 49, 50, 51] (by decide +kernel) (by decide +kernel)
set_option maxRecDepth 20000 in
theorem gX7_change_X7_become : GoodIn wsX7_change (wsV RX7 98 RX7 yX7_become wsX7_become) := goodIn_app (goodIn_of _ (by decide +kernel)) ggX7_change_X7_become
theorem dX7_change_0 : decode cX7_change 0 = .ok (.aload_n 0, 1) := by decide +kernel
theorem dX7_change_1 : decode cX7_change 1 = .ok (.iconst 0, 1) := by decide +kernel
theorem dX7_change_2 : decode cX7_change 2 = .ok (.putfield 45, 3) := by decide +kernel
theorem dX7_change_5 : decode cX7_change 5 = .ok (.iload_n 1, 1) := by decide +kernel
theorem dX7_change_6 : decode cX7_change 6 = .ok (.invokestatic 52, 3) := by decide +kernel
theorem dX7_change_9 : decode cX7_change 9 = .ok (.ifCond .ne 9, 3) := by decide +kernel
theorem dX7_change_12 : decode cX7_change 12 = .ok (.aload_n 0, 1) := by decide +kernel
theorem dX7_change_13 : decode cX7_change 13 = .ok (.iconst 1, 1) := by decide +kernel
theorem dX7_change_14 : decode cX7_change 14 = .ok (.invokevirtual 56, 3) := by decide +kernel
theorem dX7_change_17 : decode cX7_change 17 = .ok (.ireturn, 1) := by decide +kernel
theorem dX7_change_18 : decode cX7_change 18 = .ok (.aload_n 0, 1) := by decide +kernel
theorem dX7_change_19 : decode cX7_change 19 = .ok (.aload_n 0, 1) := by decide +kernel
theorem dX7_change_20 : decode cX7_change 20 = .ok (.aload_n 0, 1) := by decide +kernel
theorem dX7_change_21 : decode cX7_change 21 = .ok (.invokevirtual 94, 3) := by decide +kernel
theorem dX7_change_24 : decode cX7_change 24 = .ok (.iload_n 1, 1) := by decide +kernel
theorem dX7_change_25 : decode cX7_change 25 = .ok (.iload_n 2, 1) := by decide +kernel
theorem dX7_change_26 : decode cX7_change 26 = .ok (.invokestatic 63, 3) := by decide +kernel
theorem dX7_change_29 : decode cX7_change 29 = .ok (.invokevirtual 87, 3) := by decide +kernel
theorem dX7_change_32 : decode cX7_change 32 = .ok (.invokevirtual 98, 3) := by decide +kernel
theorem dX7_change_35 : decode cX7_change 35 = .ok (.aload_n 0, 1) := by decide +kernel
theorem dX7_change_36 : decode cX7_change 36 = .ok (.iconst 0, 1) := by decide +kernel
theorem dX7_change_37 : decode cX7_change 37 = .ok (.putfield 67, 3) := by decide +kernel
theorem dX7_change_40 : decode cX7_change 40 = .ok (.aload_n 0, 1) := by decide +kernel
theorem dX7_change_41 : decode cX7_change 41 = .ok (.getfield 74, 3) := by decide +kernel
theorem dX7_change_44 : decode cX7_change 44 = .ok (.ireturn, 1) := by decide +kernel
theorem dX7_facts_0 : decode cX7_facts 0 = .ok (.aload_n 0, 1) := by decide +kernel
theorem dX7_facts_1 : decode cX7_facts 1 = .ok (.iconst 0, 1) := by decide +kernel
theorem dX7_facts_2 : decode cX7_facts 2 = .ok (.putfield 45, 3) := by decide +kernel
theorem dX7_facts_5 : decode cX7_facts 5 = .ok (.aload_n 0, 1) := by decide +kernel
theorem dX7_facts_6 : decode cX7_facts 6 = .ok (.getfield 91, 3) := by decide +kernel
theorem dX7_facts_9 : decode cX7_facts 9 = .ok (.ireturn, 1) := by decide +kernel
theorem dX7_triggered_0 : decode cX7_triggered 0 = .ok (.aload_n 0, 1) := by decide +kernel
theorem dX7_triggered_1 : decode cX7_triggered 1 = .ok (.iconst 0, 1) := by decide +kernel
theorem dX7_triggered_2 : decode cX7_triggered 2 = .ok (.putfield 45, 3) := by decide +kernel
theorem dX7_triggered_5 : decode cX7_triggered 5 = .ok (.aload_n 0, 1) := by decide +kernel
theorem dX7_triggered_6 : decode cX7_triggered 6 = .ok (.getfield 74, 3) := by decide +kernel
theorem dX7_triggered_9 : decode cX7_triggered 9 = .ok (.ireturn, 1) := by decide +kernel
set_option maxRecDepth 20000 in
theorem ggX7_ready_X7_now : GoodIn wsX7_ready wsX7_now := goodIn_r _ [6, 7, 8, 21, 22, 23, 24, 25, 26, 27, 28, 29, 30, 31, 32, 33, 34, 35, 36, 37, 38] (by decide +kernel) (by decide +kernel)
set_option maxRecDepth 20000 in
theorem gX7_ready_X7_now : GoodIn wsX7_ready (wsV RX7 94 RX7 yX7_now wsX7_now) := goodIn_app (goodIn_of _ (by decide +kernel)) ggX7_ready_X7_now
set_option maxRecDepth 20000 in
theorem ggX7_ready_X7_readyIn : GoodIn wsX7_ready wsX7_readyIn := goodIn_r _ [12, 13, 14, 15, 16, 5, 17, 18, 19, 20, 21, 22, 23, 24, 25, 26, 27, 28, 29, 30, 31, 32, 33, 34, 35, 36, 37, 38] (by decide +kernel) (by decide +kernel)
set_option maxRecDepth 20000 in
theorem gX7_ready_X7_readyIn : GoodIn wsX7_ready (wsV RX7 102 RX7 yX7_readyIn wsX7_readyIn) := goodIn_app (goodIn_of _ (by decide +kernel)) ggX7_ready_X7_readyIn
theorem dX7_ready_0 : decode cX7_ready 0 = .ok (.aload_n 0, 1) := by decide +kernel
theorem dX7_ready_1 : decode cX7_ready 1 = .ok (.iconst 0, 1) := by decide +kernel
theorem dX7_ready_2 : decode cX7_ready 2 = .ok (.putfield 45, 3) := by decide +kernel
theorem dX7_ready_5 : decode cX7_ready 5 = .ok (.aload_n 0, 1) := by decide +kernel
theorem dX7_ready_6 : decode cX7_ready 6 = .ok (.aload_n 0, 1) := by decide +kernel
theorem dX7_ready_7 : decode cX7_ready 7 = .ok (.invokevirtual 94, 3) := by decide +kernel
theorem dX7_ready_10 : decode cX7_ready 10 = .ok (.invokevirtual 102, 3) := by decide +kernel
theorem dX7_ready_13 : decode cX7_ready 13 = .ok (.ireturn, 1) := by decide +kernel
set_option maxRecDepth 20000 in
theorem ggX7_play_X7_isRule : GoodIn wsX7_play wsX7_isRule := goodIn_r _ [7, 8, 48, 49, 50, 51, 52, 53, 54, 55, 56, 57, 58, 59, 60, 61, 62, 63, 64, 65] (by decide +kernel) (by decide +kernel)
set_option maxRecDepth 20000 in
theorem gX7_play_X7_isRule : GoodIn wsX7_play (wsV RX7 71 RX7 yX7_isRule wsX7_isRule) := goodIn_app (goodIn_of _ (by decide +kernel)) ggX7_play_X7_isRule
set_option maxRecDepth 20000 in
theorem ggX7_play_X7_now : GoodIn wsX7_play wsX7_now := goodIn_r _ [12, 13, 14, 48, 49, 50, 51, 52, 53, 54, 55, 56, 57, 58, 59, 60, 61, 62, 63, 64, 65] (by decide +kernel) (by decide +kernel)
set_option maxRecDepth 20000 in
theorem gX7_play_X7_now : GoodIn wsX7_play (wsV RX7 94 RX7 yX7_now wsX7_now) := goodIn_app (goodIn_of _ (by decide +kernel)) ggX7_play_X7_now
set_option maxRecDepth 20000 in
theorem ggX7_play_X7_readyIn : GoodIn wsX7_play wsX7_readyIn := goodIn_r _ [18, 8, 19, 20, 21, 6, 22, 23, 24, 25, 48, 49, 50, 51, 52, 53, 54, 55, 56, 57, 58, 59, 60, 61, 62, 63, 64, 65] (by decide +kernel) (by decide +kernel)
set_option maxRecDepth 20000 in
theorem gX7_play_X7_readyIn : GoodIn wsX7_play (wsV RX7 102 RX7 yX7_readyIn wsX7_readyIn) := goodIn_app (goodIn_of _ (by decide +kernel)) ggX7_play_X7_readyIn
set_option maxRecDepth 20000 in
theorem ggX7_play_X7_has : GoodIn wsX7_play wsX7_has := goodIn_r _ [25] (by decide +kernel) (by decide +kernel)
set_option maxRecDepth 20000 in
theorem gX7_play_X7_has : GoodIn wsX7_play (va_wsS RX7 77 yX7_has wsX7_has) := goodIn_app (goodIn_of _ (by decide +kernel)) ggX7_play_X7_has
set_option maxRecDepth 20000 in
theorem ggX7_play_X7_isTrue : GoodIn wsX7_play wsX7_isTrue := goodIn_r _ [29, 30, 31, 48, 49, 50, 51, 52, 53, 54, 55, 56, 57, 58, 59, 60, 61, 62, 63, 64, 65] (by decide +kernel) (by decide +kernel)
set_option maxRecDepth 20000 in
theorem gX7_play_X7_isTrue : GoodIn wsX7_play (wsV RX7 84 RX7 yX7_isTrue wsX7_isTrue) := goodIn_app (goodIn_of _ (by decide +kernel)) ggX7_play_X7_isTrue
set_option maxRecDepth 20000 in
theorem ggX7_play_X7_playIn : GoodIn wsX7_play wsX7_playIn := goodIn_r _ [35, 36, 37, 26, 27, 28, 6, 29, 30, 31, 38, 39, 40, 41, 8, 42, 43, 48, 49, 50, 51, 52, 53, 54, 55, 56, 57, 58, 59, 60, 61, 62, 63, 64, 65] (by decide +kernel) (by decide +kernel)
set_option maxRecDepth 20000 in
theorem gX7_play_X7_playIn : GoodIn wsX7_play (wsV RX7 105 RX7 yX7_playIn wsX7_playIn) := goodIn_app (goodIn_of _ (by decide +kernel)) ggX7_play_X7_playIn
set_option maxRecDepth 20000 in
theorem ggX7_play_X7_become : GoodIn wsX7_play wsX7_become := goodIn_r _ [47, 13, 14, 20, 21, 6, 22, 48, 49, 50, 51, 52, 53, 54, 55, 56, 57, 58, 59, 60, 61, 62, 63, 64, 65] (by decide +kernel) (by decide +kernel)
set_option maxRecDepth 20000 in
theorem gX7_play_X7_become : GoodIn wsX7_play (wsV RX7 98 RX7 yX7_become wsX7_become) := goodIn_app (goodIn_of _ (by decide +kernel)) ggX7_play_X7_become
theorem dX7_play_0 : decode cX7_play 0 = .ok (.aload_n 0, 1) := by decide +kernel
theorem dX7_play_1 : decode cX7_play 1 = .ok (.aload_n 0, 1) := by decide +kernel
theorem dX7_play_2 : decode cX7_play 2 = .ok (.iload_n 1, 1) := by decide +kernel
theorem dX7_play_3 : decode cX7_play 3 = .ok (.invokevirtual 71, 3) := by decide +kernel
theorem dX7_play_6 : decode cX7_play 6 = .ok (.ifCond .ne 7, 3) := by decide +kernel
theorem dX7_play_9 : decode cX7_play 9 = .ok (.iconst 1, 1) := by decide +kernel
theorem dX7_play_10 : decode cX7_play 10 = .ok (.goto 23, 3) := by decide +kernel
theorem dX7_play_13 : decode cX7_play 13 = .ok (.aload_n 0, 1) := by decide +kernel
theorem dX7_play_14 : decode cX7_play 14 = .ok (.aload_n 0, 1) := by decide +kernel
theorem dX7_play_15 : decode cX7_play 15 = .ok (.invokevirtual 94, 3) := by decide +kernel
theorem dX7_play_18 : decode cX7_play 18 = .ok (.invokevirtual 102, 3) := by decide +kernel
theorem dX7_play_21 : decode cX7_play 21 = .ok (.iload_n 1, 1) := by decide +kernel
theorem dX7_play_22 : decode cX7_play 22 = .ok (.invokestatic 77, 3) := by decide +kernel
theorem dX7_play_25 : decode cX7_play 25 = .ok (.ifCond .ne 7, 3) := by decide +kernel
theorem dX7_play_28 : decode cX7_play 28 = .ok (.iconst 2, 1) := by decide +kernel
theorem dX7_play_29 : decode cX7_play 29 = .ok (.goto 4, 3) := by decide +kernel
theorem dX7_play_32 : decode cX7_play 32 = .ok (.iconst 0, 1) := by decide +kernel
theorem dX7_play_33 : decode cX7_play 33 = .ok (.putfield 45, 3) := by decide +kernel
theorem dX7_play_36 : decode cX7_play 36 = .ok (.aload_n 0, 1) := by decide +kernel
theorem dX7_play_37 : decode cX7_play 37 = .ok (.getfield 45, 3) := by decide +kernel
theorem dX7_play_40 : decode cX7_play 40 = .ok (.ifCond .eq 5, 3) := by decide +kernel
theorem dX7_play_43 : decode cX7_play 43 = .ok (.iconst 0, 1) := by decide +kernel
theorem dX7_play_44 : decode cX7_play 44 = .ok (.ireturn, 1) := by decide +kernel
theorem dX7_play_45 : decode cX7_play 45 = .ok (.aload_n 0, 1) := by decide +kernel
theorem dX7_play_46 : decode cX7_play 46 = .ok (.iload_n 1, 1) := by decide +kernel
theorem dX7_play_47 : decode cX7_play 47 = .ok (.aload_n 0, 1) := by decide +kernel
theorem dX7_play_48 : decode cX7_play 48 = .ok (.invokevirtual 94, 3) := by decide +kernel
theorem dX7_play_51 : decode cX7_play 51 = .ok (.invokevirtual 84, 3) := by decide +kernel
theorem dX7_play_54 : decode cX7_play 54 = .ok (.istore_n 2, 1) := by decide +kernel
theorem dX7_play_55 : decode cX7_play 55 = .ok (.aload_n 0, 1) := by decide +kernel
theorem dX7_play_56 : decode cX7_play 56 = .ok (.aload_n 0, 1) := by decide +kernel
theorem dX7_play_57 : decode cX7_play 57 = .ok (.aload_n 0, 1) := by decide +kernel
theorem dX7_play_58 : decode cX7_play 58 = .ok (.invokevirtual 94, 3) := by decide +kernel
theorem dX7_play_61 : decode cX7_play 61 = .ok (.iload_n 1, 1) := by decide +kernel
theorem dX7_play_62 : decode cX7_play 62 = .ok (.invokevirtual 105, 3) := by decide +kernel
theorem dX7_play_65 : decode cX7_play 65 = .ok (.invokevirtual 98, 3) := by decide +kernel
theorem dX7_play_68 : decode cX7_play 68 = .ok (.aload_n 0, 1) := by decide +kernel
theorem dX7_play_69 : decode cX7_play 69 = .ok (.iconst 0, 1) := by decide +kernel
theorem dX7_play_70 : decode cX7_play 70 = .ok (.putfield 67, 3) := by decide +kernel
theorem dX7_play_73 : decode cX7_play 73 = .ok (.iload_n 2, 1) := by decide +kernel
theorem dX7_play_74 : decode cX7_play 74 = .ok (.ireturn, 1) := by decide +kernel
set_option maxRecDepth 20000 in
theorem ggX7_run_X7_now : GoodIn wsX7_run wsX7_now := goodIn_r _ [8, 9, 2, 49, 50, 51, 52, 53, 54, 55, 56, 57, 58, 59, 60, 61, 62, 63, 64, 65, 66] (by decide +kernel) (by decide +kernel)
set_option maxRecDepth 20000 in
theorem gX7_run_X7_now : GoodIn wsX7_run (wsV RX7 94 RX7 yX7_now wsX7_now) := goodIn_app (goodIn_of _ (by decide +kernel)) ggX7_run_X7_now
set_option maxRecDepth 20000 in
theorem ggX7_run_X7_readyIn : GoodIn wsX7_run wsX7_readyIn := goodIn_r _ [13, 14, 15, 16, 17, 7, 18, 19, 20, 21, 49, 50, 51, 52, 53, 54, 55, 56, 57, 58, 59, 60, 61, 62, 63, 64, 65, 66] (by decide +kernel) (by decide +kernel)
set_option maxRecDepth 20000 in
theorem gX7_run_X7_readyIn : GoodIn wsX7_run (wsV RX7 102 RX7 yX7_readyIn wsX7_readyIn) := goodIn_app (goodIn_of _ (by decide +kernel)) ggX7_run_X7_readyIn
set_option maxRecDepth 20000 in
theorem ggX7_run_J6_numberOfTrailingZeros_0f7a4 : GoodIn wsX7_run wsJ6_numberOfTrailingZeros_0f7a4 := goodIn_r _ [25, 26] (by decide +kernel) (by decide +kernel)
set_option maxRecDepth 20000 in
theorem gX7_run_J6_numberOfTrailingZeros_0f7a4 : GoodIn wsX7_run (va_wsS RX7 108 yJ6_numberOfTrailingZeros_0f7a4 wsJ6_numberOfTrailingZeros_0f7a4) := goodIn_app (goodIn_of _ (by decide +kernel)) ggX7_run_J6_numberOfTrailingZeros_0f7a4
set_option maxRecDepth 20000 in
theorem ggX7_run_X7_playIn : GoodIn wsX7_run wsX7_playIn := goodIn_r _ [30, 31, 32, 33, 34, 35, 7, 36, 37, 38, 39, 40, 41, 42, 14, 43, 44, 49, 50, 51, 52, 53, 54, 55, 56, 57, 58, 59, 60, 61, 62, 63, 64, 65, 66] (by decide +kernel) (by decide +kernel)
set_option maxRecDepth 20000 in
theorem gX7_run_X7_playIn : GoodIn wsX7_run (wsV RX7 105 RX7 yX7_playIn wsX7_playIn) := goodIn_app (goodIn_of _ (by decide +kernel)) ggX7_run_X7_playIn
set_option maxRecDepth 20000 in
theorem ggX7_run_X7_become : GoodIn wsX7_run wsX7_become := goodIn_r _ [48, 9, 2, 16, 17, 7, 18, 49, 50, 51, 52, 53, 54, 55, 56, 57, 58, 59, 60, 61, 62, 63, 64, 65, 66] (by decide +kernel) (by decide +kernel)
set_option maxRecDepth 20000 in
theorem gX7_run_X7_become : GoodIn wsX7_run (wsV RX7 98 RX7 yX7_become wsX7_become) := goodIn_app (goodIn_of _ (by decide +kernel)) ggX7_run_X7_become
theorem dX7_run_0 : decode cX7_run 0 = .ok (.aload_n 0, 1) := by decide +kernel
theorem dX7_run_1 : decode cX7_run 1 = .ok (.iload_n 1, 1) := by decide +kernel
theorem dX7_run_2 : decode cX7_run 2 = .ok (.ifCond .lt 10, 3) := by decide +kernel
theorem dX7_run_5 : decode cX7_run 5 = .ok (.iload_n 1, 1) := by decide +kernel
theorem dX7_run_6 : decode cX7_run 6 = .ok (.sipush 500, 3) := by decide +kernel
theorem dX7_run_9 : decode cX7_run 9 = .ok (.if_icmp .le 7, 3) := by decide +kernel
theorem dX7_run_12 : decode cX7_run 12 = .ok (.iconst 1, 1) := by decide +kernel
theorem dX7_run_13 : decode cX7_run 13 = .ok (.goto 4, 3) := by decide +kernel
theorem dX7_run_16 : decode cX7_run 16 = .ok (.iconst 0, 1) := by decide +kernel
theorem dX7_run_17 : decode cX7_run 17 = .ok (.putfield 45, 3) := by decide +kernel
theorem dX7_run_20 : decode cX7_run 20 = .ok (.aload_n 0, 1) := by decide +kernel
theorem dX7_run_21 : decode cX7_run 21 = .ok (.getfield 45, 3) := by decide +kernel
theorem dX7_run_24 : decode cX7_run 24 = .ok (.ifCond .eq 5, 3) := by decide +kernel
theorem dX7_run_27 : decode cX7_run 27 = .ok (.iconst 0, 1) := by decide +kernel
theorem dX7_run_28 : decode cX7_run 28 = .ok (.ireturn, 1) := by decide +kernel
theorem dX7_run_29 : decode cX7_run 29 = .ok (.iconst 0, 1) := by decide +kernel
theorem dX7_run_30 : decode cX7_run 30 = .ok (.istore_n 2, 1) := by decide +kernel
theorem dX7_run_31 : decode cX7_run 31 = .ok (.aload_n 0, 1) := by decide +kernel
theorem dX7_run_32 : decode cX7_run 32 = .ok (.getfield 74, 3) := by decide +kernel
theorem dX7_run_35 : decode cX7_run 35 = .ok (.ifCond .eq 37, 3) := by decide +kernel
theorem dX7_run_38 : decode cX7_run 38 = .ok (.iload_n 2, 1) := by decide +kernel
theorem dX7_run_39 : decode cX7_run 39 = .ok (.iload_n 1, 1) := by decide +kernel
theorem dX7_run_40 : decode cX7_run 40 = .ok (.if_icmp .ge 32, 3) := by decide +kernel
theorem dX7_run_43 : decode cX7_run 43 = .ok (.aload_n 0, 1) := by decide +kernel
theorem dX7_run_44 : decode cX7_run 44 = .ok (.aload_n 0, 1) := by decide +kernel
theorem dX7_run_45 : decode cX7_run 45 = .ok (.aload_n 0, 1) := by decide +kernel
theorem dX7_run_46 : decode cX7_run 46 = .ok (.invokevirtual 94, 3) := by decide +kernel
theorem dX7_run_49 : decode cX7_run 49 = .ok (.aload_n 0, 1) := by decide +kernel
theorem dX7_run_50 : decode cX7_run 50 = .ok (.aload_n 0, 1) := by decide +kernel
theorem dX7_run_51 : decode cX7_run 51 = .ok (.invokevirtual 94, 3) := by decide +kernel
theorem dX7_run_54 : decode cX7_run 54 = .ok (.invokevirtual 102, 3) := by decide +kernel
theorem dX7_run_57 : decode cX7_run 57 = .ok (.invokestatic 108, 3) := by decide +kernel
theorem dX7_run_60 : decode cX7_run 60 = .ok (.invokevirtual 105, 3) := by decide +kernel
theorem dX7_run_63 : decode cX7_run 63 = .ok (.invokevirtual 98, 3) := by decide +kernel
theorem dX7_run_66 : decode cX7_run 66 = .ok (.iinc 2 1, 3) := by decide +kernel
theorem dX7_run_69 : decode cX7_run 69 = .ok (.goto (-38), 3) := by decide +kernel
theorem dX7_run_72 : decode cX7_run 72 = .ok (.aload_n 0, 1) := by decide +kernel
theorem dX7_run_73 : decode cX7_run 73 = .ok (.iconst 0, 1) := by decide +kernel
theorem dX7_run_74 : decode cX7_run 74 = .ok (.putfield 67, 3) := by decide +kernel
theorem dX7_run_77 : decode cX7_run 77 = .ok (.iload_n 2, 1) := by decide +kernel
theorem dX7_run_78 : decode cX7_run 78 = .ok (.ireturn, 1) := by decide +kernel
theorem dX7_numberOf_0 : decode cX7_numberOf 0 = .ok (.iconst 0, 1) := by decide +kernel
theorem dX7_numberOf_1 : decode cX7_numberOf 1 = .ok (.istore_n 2, 1) := by decide +kernel
theorem dX7_numberOf_2 : decode cX7_numberOf 2 = .ok (.iload_n 2, 1) := by decide +kernel
theorem dX7_numberOf_3 : decode cX7_numberOf 3 = .ok (.aload_n 0, 1) := by decide +kernel
theorem dX7_numberOf_4 : decode cX7_numberOf 4 = .ok (.getfield 113, 3) := by decide +kernel
theorem dX7_numberOf_7 : decode cX7_numberOf 7 = .ok (.if_icmp .ge 21, 3) := by decide +kernel
theorem dX7_numberOf_10 : decode cX7_numberOf 10 = .ok (.aload_n 0, 1) := by decide +kernel
theorem dX7_numberOf_11 : decode cX7_numberOf 11 = .ok (.getfield 32, 3) := by decide +kernel
theorem dX7_numberOf_14 : decode cX7_numberOf 14 = .ok (.iload_n 2, 1) := by decide +kernel
theorem dX7_numberOf_15 : decode cX7_numberOf 15 = .ok (.iaload, 1) := by decide +kernel
theorem dX7_numberOf_16 : decode cX7_numberOf 16 = .ok (.iload_n 1, 1) := by decide +kernel
theorem dX7_numberOf_17 : decode cX7_numberOf 17 = .ok (.if_icmp .ne 5, 3) := by decide +kernel
theorem dX7_numberOf_20 : decode cX7_numberOf 20 = .ok (.iload_n 2, 1) := by decide +kernel
theorem dX7_numberOf_21 : decode cX7_numberOf 21 = .ok (.ireturn, 1) := by decide +kernel
theorem dX7_numberOf_22 : decode cX7_numberOf 22 = .ok (.iinc 2 1, 3) := by decide +kernel
theorem dX7_numberOf_25 : decode cX7_numberOf 25 = .ok (.goto (-23), 3) := by decide +kernel
theorem dX7_numberOf_28 : decode cX7_numberOf 28 = .ok (.iconst (-1), 1) := by decide +kernel
theorem dX7_numberOf_29 : decode cX7_numberOf 29 = .ok (.ireturn, 1) := by decide +kernel
set_option maxRecDepth 20000 in
theorem ggX7_exploreAll_X7_now : GoodIn wsX7_exploreAll wsX7_now := goodIn_r _ [10, 11, 12, 47, 48, 49, 50, 51, 52, 53, 54, 55, 56, 57, 58, 59, 60, 61, 62, 63, 64] (by decide +kernel) (by decide +kernel)
set_option maxRecDepth 20000 in
theorem gX7_exploreAll_X7_now : GoodIn wsX7_exploreAll (wsV RX7 94 RX7 yX7_now wsX7_now) := goodIn_app (goodIn_of _ (by decide +kernel)) ggX7_exploreAll_X7_now
set_option maxRecDepth 20000 in
theorem ggX7_exploreAll_X7_readyIn : GoodIn wsX7_exploreAll wsX7_readyIn := goodIn_r _ [16, 17, 18, 19, 20, 9, 21, 22, 23, 24, 47, 48, 49, 50, 51, 52, 53, 54, 55, 56, 57, 58, 59, 60, 61, 62, 63, 64] (by decide +kernel) (by decide +kernel)
set_option maxRecDepth 20000 in
theorem gX7_exploreAll_X7_readyIn : GoodIn wsX7_exploreAll (wsV RX7 102 RX7 yX7_readyIn wsX7_readyIn) := goodIn_app (goodIn_of _ (by decide +kernel)) ggX7_exploreAll_X7_readyIn
set_option maxRecDepth 20000 in
theorem ggX7_exploreAll_X7_has : GoodIn wsX7_exploreAll wsX7_has := goodIn_r _ [24] (by decide +kernel) (by decide +kernel)
set_option maxRecDepth 20000 in
theorem gX7_exploreAll_X7_has : GoodIn wsX7_exploreAll (va_wsS RX7 77 yX7_has wsX7_has) := goodIn_app (goodIn_of _ (by decide +kernel)) ggX7_exploreAll_X7_has
set_option maxRecDepth 20000 in
theorem ggX7_exploreAll_X7_playIn : GoodIn wsX7_exploreAll wsX7_playIn := goodIn_r _ [28, 29, 30, 31, 32, 33, 9, 34, 35, 36, 37, 38, 39, 40, 17, 41, 42, 47, 48, 49, 50, 51, 52, 53, 54, 55, 56, 57, 58, 59, 60, 61, 62, 63, 64] (by decide +kernel) (by decide +kernel)
set_option maxRecDepth 20000 in
theorem gX7_exploreAll_X7_playIn : GoodIn wsX7_exploreAll (wsV RX7 105 RX7 yX7_playIn wsX7_playIn) := goodIn_app (goodIn_of _ (by decide +kernel)) ggX7_exploreAll_X7_playIn
set_option maxRecDepth 20000 in
theorem ggX7_exploreAll_X7_numberOf : GoodIn wsX7_exploreAll wsX7_numberOf := goodIn_r _ [46, 4, 3, 47, 48, 49, 50, 51, 52, 53, 54, 55, 56, 57, 58, 59, 60, 61, 62, 63, 64] (by decide +kernel) (by decide +kernel)
set_option maxRecDepth 20000 in
theorem gX7_exploreAll_X7_numberOf : GoodIn wsX7_exploreAll (wsV RX7 119 RX7 yX7_numberOf wsX7_numberOf) := goodIn_app (goodIn_of _ (by decide +kernel)) ggX7_exploreAll_X7_numberOf
theorem dX7_exploreAll_0 : decode cX7_exploreAll 0 = .ok (.aload_n 0, 1) := by decide +kernel
theorem dX7_exploreAll_1 : decode cX7_exploreAll 1 = .ok (.iconst 1, 1) := by decide +kernel
theorem dX7_exploreAll_2 : decode cX7_exploreAll 2 = .ok (.putfield 67, 3) := by decide +kernel
theorem dX7_exploreAll_5 : decode cX7_exploreAll 5 = .ok (.aload_n 0, 1) := by decide +kernel
theorem dX7_exploreAll_6 : decode cX7_exploreAll 6 = .ok (.iconst 0, 1) := by decide +kernel
theorem dX7_exploreAll_7 : decode cX7_exploreAll 7 = .ok (.putfield 116, 3) := by decide +kernel
theorem dX7_exploreAll_10 : decode cX7_exploreAll 10 = .ok (.aload_n 0, 1) := by decide +kernel
theorem dX7_exploreAll_11 : decode cX7_exploreAll 11 = .ok (.getfield 32, 3) := by decide +kernel
theorem dX7_exploreAll_14 : decode cX7_exploreAll 14 = .ok (.iconst 0, 1) := by decide +kernel
theorem dX7_exploreAll_15 : decode cX7_exploreAll 15 = .ok (.aload_n 0, 1) := by decide +kernel
theorem dX7_exploreAll_16 : decode cX7_exploreAll 16 = .ok (.invokevirtual 94, 3) := by decide +kernel
theorem dX7_exploreAll_19 : decode cX7_exploreAll 19 = .ok (.iastore, 1) := by decide +kernel
theorem dX7_exploreAll_20 : decode cX7_exploreAll 20 = .ok (.aload_n 0, 1) := by decide +kernel
theorem dX7_exploreAll_21 : decode cX7_exploreAll 21 = .ok (.iconst 1, 1) := by decide +kernel
theorem dX7_exploreAll_22 : decode cX7_exploreAll 22 = .ok (.putfield 113, 3) := by decide +kernel
theorem dX7_exploreAll_25 : decode cX7_exploreAll 25 = .ok (.iconst 0, 1) := by decide +kernel
theorem dX7_exploreAll_26 : decode cX7_exploreAll 26 = .ok (.istore_n 1, 1) := by decide +kernel
theorem dX7_exploreAll_27 : decode cX7_exploreAll 27 = .ok (.iload_n 1, 1) := by decide +kernel
theorem dX7_exploreAll_28 : decode cX7_exploreAll 28 = .ok (.aload_n 0, 1) := by decide +kernel
theorem dX7_exploreAll_29 : decode cX7_exploreAll 29 = .ok (.getfield 113, 3) := by decide +kernel
theorem dX7_exploreAll_32 : decode cX7_exploreAll 32 = .ok (.if_icmp .ge 141, 3) := by decide +kernel
theorem dX7_exploreAll_35 : decode cX7_exploreAll 35 = .ok (.iconst 0, 1) := by decide +kernel
theorem dX7_exploreAll_36 : decode cX7_exploreAll 36 = .ok (.istore_n 2, 1) := by decide +kernel
theorem dX7_exploreAll_37 : decode cX7_exploreAll 37 = .ok (.iload_n 2, 1) := by decide +kernel
theorem dX7_exploreAll_38 : decode cX7_exploreAll 38 = .ok (.bipush 8, 2) := by decide +kernel
theorem dX7_exploreAll_40 : decode cX7_exploreAll 40 = .ok (.if_icmp .ge 127, 3) := by decide +kernel
theorem dX7_exploreAll_43 : decode cX7_exploreAll 43 = .ok (.aload_n 0, 1) := by decide +kernel
theorem dX7_exploreAll_44 : decode cX7_exploreAll 44 = .ok (.getfield 35, 3) := by decide +kernel
theorem dX7_exploreAll_47 : decode cX7_exploreAll 47 = .ok (.bipush 8, 2) := by decide +kernel
theorem dX7_exploreAll_49 : decode cX7_exploreAll 49 = .ok (.iload_n 1, 1) := by decide +kernel
theorem dX7_exploreAll_50 : decode cX7_exploreAll 50 = .ok (.imul, 1) := by decide +kernel
theorem dX7_exploreAll_51 : decode cX7_exploreAll 51 = .ok (.iload_n 2, 1) := by decide +kernel
theorem dX7_exploreAll_52 : decode cX7_exploreAll 52 = .ok (.iadd, 1) := by decide +kernel
theorem dX7_exploreAll_53 : decode cX7_exploreAll 53 = .ok (.iconst (-1), 1) := by decide +kernel
theorem dX7_exploreAll_54 : decode cX7_exploreAll 54 = .ok (.iastore, 1) := by decide +kernel
theorem dX7_exploreAll_55 : decode cX7_exploreAll 55 = .ok (.aload_n 0, 1) := by decide +kernel
theorem dX7_exploreAll_56 : decode cX7_exploreAll 56 = .ok (.aload_n 0, 1) := by decide +kernel
theorem dX7_exploreAll_57 : decode cX7_exploreAll 57 = .ok (.getfield 32, 3) := by decide +kernel
theorem dX7_exploreAll_60 : decode cX7_exploreAll 60 = .ok (.iload_n 1, 1) := by decide +kernel
theorem dX7_exploreAll_61 : decode cX7_exploreAll 61 = .ok (.iaload, 1) := by decide +kernel
theorem dX7_exploreAll_62 : decode cX7_exploreAll 62 = .ok (.invokevirtual 102, 3) := by decide +kernel
theorem dX7_exploreAll_65 : decode cX7_exploreAll 65 = .ok (.iload_n 2, 1) := by decide +kernel
theorem dX7_exploreAll_66 : decode cX7_exploreAll 66 = .ok (.invokestatic 77, 3) := by decide +kernel
theorem dX7_exploreAll_69 : decode cX7_exploreAll 69 = .ok (.ifCond .ne 6, 3) := by decide +kernel
theorem dX7_exploreAll_72 : decode cX7_exploreAll 72 = .ok (.goto 89, 3) := by decide +kernel
theorem dX7_exploreAll_75 : decode cX7_exploreAll 75 = .ok (.aload_n 0, 1) := by decide +kernel
theorem dX7_exploreAll_76 : decode cX7_exploreAll 76 = .ok (.aload_n 0, 1) := by decide +kernel
theorem dX7_exploreAll_77 : decode cX7_exploreAll 77 = .ok (.getfield 32, 3) := by decide +kernel
theorem dX7_exploreAll_80 : decode cX7_exploreAll 80 = .ok (.iload_n 1, 1) := by decide +kernel
theorem dX7_exploreAll_81 : decode cX7_exploreAll 81 = .ok (.iaload, 1) := by decide +kernel
theorem dX7_exploreAll_82 : decode cX7_exploreAll 82 = .ok (.iload_n 2, 1) := by decide +kernel
theorem dX7_exploreAll_83 : decode cX7_exploreAll 83 = .ok (.invokevirtual 105, 3) := by decide +kernel
theorem dX7_exploreAll_86 : decode cX7_exploreAll 86 = .ok (.istore_n 3, 1) := by decide +kernel
theorem dX7_exploreAll_87 : decode cX7_exploreAll 87 = .ok (.aload_n 0, 1) := by decide +kernel
theorem dX7_exploreAll_88 : decode cX7_exploreAll 88 = .ok (.iload_n 3, 1) := by decide +kernel
theorem dX7_exploreAll_89 : decode cX7_exploreAll 89 = .ok (.invokevirtual 119, 3) := by decide +kernel
theorem dX7_exploreAll_92 : decode cX7_exploreAll 92 = .ok (.istore 4, 2) := by decide +kernel
theorem dX7_exploreAll_94 : decode cX7_exploreAll 94 = .ok (.iload 4, 2) := by decide +kernel
theorem dX7_exploreAll_96 : decode cX7_exploreAll 96 = .ok (.iconst (-1), 1) := by decide +kernel
theorem dX7_exploreAll_97 : decode cX7_exploreAll 97 = .ok (.if_icmp .ne 19, 3) := by decide +kernel
theorem dX7_exploreAll_100 : decode cX7_exploreAll 100 = .ok (.aload_n 0, 1) := by decide +kernel
theorem dX7_exploreAll_101 : decode cX7_exploreAll 101 = .ok (.getfield 113, 3) := by decide +kernel
theorem dX7_exploreAll_104 : decode cX7_exploreAll 104 = .ok (.sipush 1000, 3) := by decide +kernel
theorem dX7_exploreAll_107 : decode cX7_exploreAll 107 = .ok (.if_icmp .ne 9, 3) := by decide +kernel
theorem dX7_exploreAll_110 : decode cX7_exploreAll 110 = .ok (.aload_n 0, 1) := by decide +kernel
theorem dX7_exploreAll_111 : decode cX7_exploreAll 111 = .ok (.iconst 1, 1) := by decide +kernel
theorem dX7_exploreAll_112 : decode cX7_exploreAll 112 = .ok (.putfield 116, 3) := by decide +kernel
theorem dX7_exploreAll_115 : decode cX7_exploreAll 115 = .ok (.return_, 1) := by decide +kernel
theorem dX7_exploreAll_116 : decode cX7_exploreAll 116 = .ok (.iload 4, 2) := by decide +kernel
theorem dX7_exploreAll_118 : decode cX7_exploreAll 118 = .ok (.iconst (-1), 1) := by decide +kernel
theorem dX7_exploreAll_119 : decode cX7_exploreAll 119 = .ok (.if_icmp .ne 29, 3) := by decide +kernel
theorem dX7_exploreAll_122 : decode cX7_exploreAll 122 = .ok (.aload_n 0, 1) := by decide +kernel
theorem dX7_exploreAll_123 : decode cX7_exploreAll 123 = .ok (.getfield 113, 3) := by decide +kernel
theorem dX7_exploreAll_126 : decode cX7_exploreAll 126 = .ok (.istore 4, 2) := by decide +kernel
theorem dX7_exploreAll_128 : decode cX7_exploreAll 128 = .ok (.aload_n 0, 1) := by decide +kernel
theorem dX7_exploreAll_129 : decode cX7_exploreAll 129 = .ok (.getfield 32, 3) := by decide +kernel
theorem dX7_exploreAll_132 : decode cX7_exploreAll 132 = .ok (.aload_n 0, 1) := by decide +kernel
theorem dX7_exploreAll_133 : decode cX7_exploreAll 133 = .ok (.getfield 113, 3) := by decide +kernel
theorem dX7_exploreAll_136 : decode cX7_exploreAll 136 = .ok (.iload_n 3, 1) := by decide +kernel
theorem dX7_exploreAll_137 : decode cX7_exploreAll 137 = .ok (.iastore, 1) := by decide +kernel
theorem dX7_exploreAll_138 : decode cX7_exploreAll 138 = .ok (.aload_n 0, 1) := by decide +kernel
theorem dX7_exploreAll_139 : decode cX7_exploreAll 139 = .ok (.dup, 1) := by decide +kernel
theorem dX7_exploreAll_140 : decode cX7_exploreAll 140 = .ok (.getfield 113, 3) := by decide +kernel
theorem dX7_exploreAll_143 : decode cX7_exploreAll 143 = .ok (.iconst 1, 1) := by decide +kernel
theorem dX7_exploreAll_144 : decode cX7_exploreAll 144 = .ok (.iadd, 1) := by decide +kernel
theorem dX7_exploreAll_145 : decode cX7_exploreAll 145 = .ok (.putfield 113, 3) := by decide +kernel
theorem dX7_exploreAll_148 : decode cX7_exploreAll 148 = .ok (.aload_n 0, 1) := by decide +kernel
theorem dX7_exploreAll_149 : decode cX7_exploreAll 149 = .ok (.getfield 35, 3) := by decide +kernel
theorem dX7_exploreAll_152 : decode cX7_exploreAll 152 = .ok (.bipush 8, 2) := by decide +kernel
theorem dX7_exploreAll_154 : decode cX7_exploreAll 154 = .ok (.iload_n 1, 1) := by decide +kernel
theorem dX7_exploreAll_155 : decode cX7_exploreAll 155 = .ok (.imul, 1) := by decide +kernel
theorem dX7_exploreAll_156 : decode cX7_exploreAll 156 = .ok (.iload_n 2, 1) := by decide +kernel
theorem dX7_exploreAll_157 : decode cX7_exploreAll 157 = .ok (.iadd, 1) := by decide +kernel
theorem dX7_exploreAll_158 : decode cX7_exploreAll 158 = .ok (.iload 4, 2) := by decide +kernel
theorem dX7_exploreAll_160 : decode cX7_exploreAll 160 = .ok (.iastore, 1) := by decide +kernel
theorem dX7_exploreAll_161 : decode cX7_exploreAll 161 = .ok (.iinc 2 1, 3) := by decide +kernel
theorem dX7_exploreAll_164 : decode cX7_exploreAll 164 = .ok (.goto (-127), 3) := by decide +kernel
theorem dX7_exploreAll_167 : decode cX7_exploreAll 167 = .ok (.iinc 1 1, 3) := by decide +kernel
theorem dX7_exploreAll_170 : decode cX7_exploreAll 170 = .ok (.goto (-143), 3) := by decide +kernel
theorem dX7_exploreAll_173 : decode cX7_exploreAll 173 = .ok (.return_, 1) := by decide +kernel
set_option maxRecDepth 20000 in
theorem ggX7_explore_X7_exploreAll : GoodIn wsX7_explore wsX7_exploreAll := goodIn_r _ [9, 2, 3, 10, 4, 11, 12, 13, 14, 8, 15, 16, 17, 18, 19, 20, 21, 22, 23, 24, 25, 26, 27, 28, 29, 30, 31, 32, 33, 34, 35, 36, 37, 38, 39, 40, 41, 42, 43, 44, 45, 46, 47, 48, 49, 50, 51, 52, 53, 54, 55, 56, 57, 58, 59, 60, 61, 62, 63, 64, 65, 66, 67, 68, 69] (by decide +kernel) (by decide +kernel)
set_option maxRecDepth 20000 in
theorem gX7_explore_X7_exploreAll : GoodIn wsX7_explore (wsV RX7 122 RX7 yX7_exploreAll wsX7_exploreAll) := goodIn_app (goodIn_of _ (by decide +kernel)) ggX7_explore_X7_exploreAll
theorem dX7_explore_0 : decode cX7_explore 0 = .ok (.aload_n 0, 1) := by decide +kernel
theorem dX7_explore_1 : decode cX7_explore 1 = .ok (.iconst 0, 1) := by decide +kernel
theorem dX7_explore_2 : decode cX7_explore 2 = .ok (.putfield 45, 3) := by decide +kernel
theorem dX7_explore_5 : decode cX7_explore 5 = .ok (.aload_n 0, 1) := by decide +kernel
theorem dX7_explore_6 : decode cX7_explore 6 = .ok (.getfield 67, 3) := by decide +kernel
theorem dX7_explore_9 : decode cX7_explore 9 = .ok (.ifCond .ne 7, 3) := by decide +kernel
theorem dX7_explore_12 : decode cX7_explore 12 = .ok (.aload_n 0, 1) := by decide +kernel
theorem dX7_explore_13 : decode cX7_explore 13 = .ok (.invokevirtual 122, 3) := by decide +kernel
theorem dX7_explore_16 : decode cX7_explore 16 = .ok (.aload_n 0, 1) := by decide +kernel
theorem dX7_explore_17 : decode cX7_explore 17 = .ok (.getfield 116, 3) := by decide +kernel
theorem dX7_explore_20 : decode cX7_explore 20 = .ok (.ifCond .eq 7, 3) := by decide +kernel
theorem dX7_explore_23 : decode cX7_explore 23 = .ok (.iconst (-1), 1) := by decide +kernel
theorem dX7_explore_24 : decode cX7_explore 24 = .ok (.goto 7, 3) := by decide +kernel
theorem dX7_explore_27 : decode cX7_explore 27 = .ok (.aload_n 0, 1) := by decide +kernel
theorem dX7_explore_28 : decode cX7_explore 28 = .ok (.getfield 113, 3) := by decide +kernel
theorem dX7_explore_31 : decode cX7_explore 31 = .ok (.ireturn, 1) := by decide +kernel
theorem dX7_isWhole_0 : decode cX7_isWhole 0 = .ok (.aload_n 0, 1) := by decide +kernel
theorem dX7_isWhole_1 : decode cX7_isWhole 1 = .ok (.getfield 67, 3) := by decide +kernel
theorem dX7_isWhole_4 : decode cX7_isWhole 4 = .ok (.ifCond .eq 14, 3) := by decide +kernel
theorem dX7_isWhole_7 : decode cX7_isWhole 7 = .ok (.aload_n 0, 1) := by decide +kernel
theorem dX7_isWhole_8 : decode cX7_isWhole 8 = .ok (.getfield 116, 3) := by decide +kernel
theorem dX7_isWhole_11 : decode cX7_isWhole 11 = .ok (.ifCond .ne 7, 3) := by decide +kernel
theorem dX7_isWhole_14 : decode cX7_isWhole 14 = .ok (.iconst 1, 1) := by decide +kernel
theorem dX7_isWhole_15 : decode cX7_isWhole 15 = .ok (.goto 4, 3) := by decide +kernel
theorem dX7_isWhole_18 : decode cX7_isWhole 18 = .ok (.iconst 0, 1) := by decide +kernel
theorem dX7_isWhole_19 : decode cX7_isWhole 19 = .ok (.ireturn, 1) := by decide +kernel
set_option maxRecDepth 20000 in
theorem ggX7_asks_X7_isWhole : GoodIn wsX7_asks wsX7_isWhole := goodIn_r _ [6, 7, 8, 9, 10, 11, 12, 13, 14, 15, 16, 17, 18, 19, 20, 21, 22, 23, 24, 25, 26] (by decide +kernel) (by decide +kernel)
set_option maxRecDepth 20000 in
theorem gX7_asks_X7_isWhole : GoodIn wsX7_asks (wsV RX7 125 RX7 yX7_isWhole wsX7_isWhole) := goodIn_app (goodIn_of _ (by decide +kernel)) ggX7_asks_X7_isWhole
theorem dX7_asks_0 : decode cX7_asks 0 = .ok (.aload_n 0, 1) := by decide +kernel
theorem dX7_asks_1 : decode cX7_asks 1 = .ok (.aload_n 0, 1) := by decide +kernel
theorem dX7_asks_2 : decode cX7_asks 2 = .ok (.invokevirtual 125, 3) := by decide +kernel
theorem dX7_asks_5 : decode cX7_asks 5 = .ok (.ifCond .ne 7, 3) := by decide +kernel
theorem dX7_asks_8 : decode cX7_asks 8 = .ok (.iconst 1, 1) := by decide +kernel
theorem dX7_asks_9 : decode cX7_asks 9 = .ok (.goto 17, 3) := by decide +kernel
theorem dX7_asks_12 : decode cX7_asks 12 = .ok (.iload_n 1, 1) := by decide +kernel
theorem dX7_asks_13 : decode cX7_asks 13 = .ok (.ifCond .lt 8, 3) := by decide +kernel
theorem dX7_asks_16 : decode cX7_asks 16 = .ok (.iload_n 1, 1) := by decide +kernel
theorem dX7_asks_17 : decode cX7_asks 17 = .ok (.iload_n 2, 1) := by decide +kernel
theorem dX7_asks_18 : decode cX7_asks 18 = .ok (.if_icmp .lt 7, 3) := by decide +kernel
theorem dX7_asks_21 : decode cX7_asks 21 = .ok (.iconst 2, 1) := by decide +kernel
theorem dX7_asks_22 : decode cX7_asks 22 = .ok (.goto 4, 3) := by decide +kernel
theorem dX7_asks_25 : decode cX7_asks 25 = .ok (.iconst 0, 1) := by decide +kernel
theorem dX7_asks_26 : decode cX7_asks 26 = .ok (.putfield 45, 3) := by decide +kernel
theorem dX7_asks_29 : decode cX7_asks 29 = .ok (.aload_n 0, 1) := by decide +kernel
theorem dX7_asks_30 : decode cX7_asks 30 = .ok (.getfield 45, 3) := by decide +kernel
theorem dX7_asks_33 : decode cX7_asks 33 = .ok (.ifCond .ne 7, 3) := by decide +kernel
theorem dX7_asks_36 : decode cX7_asks 36 = .ok (.iconst 1, 1) := by decide +kernel
theorem dX7_asks_37 : decode cX7_asks 37 = .ok (.goto 4, 3) := by decide +kernel
theorem dX7_asks_40 : decode cX7_asks 40 = .ok (.iconst 0, 1) := by decide +kernel
theorem dX7_asks_41 : decode cX7_asks 41 = .ok (.ireturn, 1) := by decide +kernel
set_option maxRecDepth 20000 in
theorem ggX7_factsOf_X7_asks : GoodIn wsX7_factsOf wsX7_asks := goodIn_r _ [7, 8, 9, 10, 11, 6, 12, 13, 14, 15, 16, 17, 18, 19, 20, 21, 22, 23, 24, 25, 26, 27, 28, 29, 30, 31, 32] (by decide +kernel) (by decide +kernel)
set_option maxRecDepth 20000 in
theorem gX7_factsOf_X7_asks : GoodIn wsX7_factsOf (wsV RX7 129 RX7 yX7_asks wsX7_asks) := goodIn_app (goodIn_of _ (by decide +kernel)) ggX7_factsOf_X7_asks
theorem dX7_factsOf_0 : decode cX7_factsOf 0 = .ok (.aload_n 0, 1) := by decide +kernel
theorem dX7_factsOf_1 : decode cX7_factsOf 1 = .ok (.iload_n 1, 1) := by decide +kernel
theorem dX7_factsOf_2 : decode cX7_factsOf 2 = .ok (.aload_n 0, 1) := by decide +kernel
theorem dX7_factsOf_3 : decode cX7_factsOf 3 = .ok (.getfield 113, 3) := by decide +kernel
theorem dX7_factsOf_6 : decode cX7_factsOf 6 = .ok (.invokevirtual 129, 3) := by decide +kernel
theorem dX7_factsOf_9 : decode cX7_factsOf 9 = .ok (.ifCond .eq 15, 3) := by decide +kernel
theorem dX7_factsOf_12 : decode cX7_factsOf 12 = .ok (.aload_n 0, 1) := by decide +kernel
theorem dX7_factsOf_13 : decode cX7_factsOf 13 = .ok (.getfield 32, 3) := by decide +kernel
theorem dX7_factsOf_16 : decode cX7_factsOf 16 = .ok (.iload_n 1, 1) := by decide +kernel
theorem dX7_factsOf_17 : decode cX7_factsOf 17 = .ok (.iaload, 1) := by decide +kernel
theorem dX7_factsOf_18 : decode cX7_factsOf 18 = .ok (.bipush 8, 2) := by decide +kernel
theorem dX7_factsOf_20 : decode cX7_factsOf 20 = .ok (.ishr, 1) := by decide +kernel
theorem dX7_factsOf_21 : decode cX7_factsOf 21 = .ok (.goto 4, 3) := by decide +kernel
theorem dX7_factsOf_24 : decode cX7_factsOf 24 = .ok (.iconst 0, 1) := by decide +kernel
theorem dX7_factsOf_25 : decode cX7_factsOf 25 = .ok (.ireturn, 1) := by decide +kernel
set_option maxRecDepth 20000 in
theorem ggX7_triggeredOf_X7_asks : GoodIn wsX7_triggeredOf wsX7_asks := goodIn_r _ [7, 8, 9, 10, 11, 6, 12, 13, 14, 18, 19, 20, 21, 22, 23, 24, 25, 26, 27, 28, 29, 30, 31, 32, 33, 34, 35] (by decide +kernel) (by decide +kernel)
set_option maxRecDepth 20000 in
theorem gX7_triggeredOf_X7_asks : GoodIn wsX7_triggeredOf (wsV RX7 129 RX7 yX7_asks wsX7_asks) := goodIn_app (goodIn_of _ (by decide +kernel)) ggX7_triggeredOf_X7_asks
set_option maxRecDepth 20000 in
theorem ggX7_triggeredOf_X7_triggeredIn : GoodIn wsX7_triggeredOf wsX7_triggeredIn := goodIn_r _ [17] (by decide +kernel) (by decide +kernel)
set_option maxRecDepth 20000 in
theorem gX7_triggeredOf_X7_triggeredIn : GoodIn wsX7_triggeredOf (va_wsS RX7 81 yX7_triggeredIn wsX7_triggeredIn) := goodIn_app (goodIn_of _ (by decide +kernel)) ggX7_triggeredOf_X7_triggeredIn
theorem dX7_triggeredOf_0 : decode cX7_triggeredOf 0 = .ok (.aload_n 0, 1) := by decide +kernel
theorem dX7_triggeredOf_1 : decode cX7_triggeredOf 1 = .ok (.iload_n 1, 1) := by decide +kernel
theorem dX7_triggeredOf_2 : decode cX7_triggeredOf 2 = .ok (.aload_n 0, 1) := by decide +kernel
theorem dX7_triggeredOf_3 : decode cX7_triggeredOf 3 = .ok (.getfield 113, 3) := by decide +kernel
theorem dX7_triggeredOf_6 : decode cX7_triggeredOf 6 = .ok (.invokevirtual 129, 3) := by decide +kernel
theorem dX7_triggeredOf_9 : decode cX7_triggeredOf 9 = .ok (.ifCond .eq 15, 3) := by decide +kernel
theorem dX7_triggeredOf_12 : decode cX7_triggeredOf 12 = .ok (.aload_n 0, 1) := by decide +kernel
theorem dX7_triggeredOf_13 : decode cX7_triggeredOf 13 = .ok (.getfield 32, 3) := by decide +kernel
theorem dX7_triggeredOf_16 : decode cX7_triggeredOf 16 = .ok (.iload_n 1, 1) := by decide +kernel
theorem dX7_triggeredOf_17 : decode cX7_triggeredOf 17 = .ok (.iaload, 1) := by decide +kernel
theorem dX7_triggeredOf_18 : decode cX7_triggeredOf 18 = .ok (.invokestatic 81, 3) := by decide +kernel
theorem dX7_triggeredOf_21 : decode cX7_triggeredOf 21 = .ok (.goto 4, 3) := by decide +kernel
theorem dX7_triggeredOf_24 : decode cX7_triggeredOf 24 = .ok (.iconst 0, 1) := by decide +kernel
theorem dX7_triggeredOf_25 : decode cX7_triggeredOf 25 = .ok (.ireturn, 1) := by decide +kernel
set_option maxRecDepth 20000 in
theorem ggX7_after_X7_asks : GoodIn wsX7_after wsX7_asks := goodIn_r _ [8, 9, 10, 11, 12, 7, 13, 14, 15, 16, 17, 18, 19, 20, 21, 22, 23, 24, 25, 26, 27, 28, 29, 30, 31, 32, 33] (by decide +kernel) (by decide +kernel)
set_option maxRecDepth 20000 in
theorem gX7_after_X7_asks : GoodIn wsX7_after (wsV RX7 129 RX7 yX7_asks wsX7_asks) := goodIn_app (goodIn_of _ (by decide +kernel)) ggX7_after_X7_asks
theorem dX7_after_0 : decode cX7_after 0 = .ok (.aload_n 0, 1) := by decide +kernel
theorem dX7_after_1 : decode cX7_after 1 = .ok (.iload_n 1, 1) := by decide +kernel
theorem dX7_after_2 : decode cX7_after 2 = .ok (.aload_n 0, 1) := by decide +kernel
theorem dX7_after_3 : decode cX7_after 3 = .ok (.getfield 113, 3) := by decide +kernel
theorem dX7_after_6 : decode cX7_after 6 = .ok (.invokevirtual 129, 3) := by decide +kernel
theorem dX7_after_9 : decode cX7_after 9 = .ok (.ifCond .eq 29, 3) := by decide +kernel
theorem dX7_after_12 : decode cX7_after 12 = .ok (.aload_n 0, 1) := by decide +kernel
theorem dX7_after_13 : decode cX7_after 13 = .ok (.iload_n 2, 1) := by decide +kernel
theorem dX7_after_14 : decode cX7_after 14 = .ok (.aload_n 0, 1) := by decide +kernel
theorem dX7_after_15 : decode cX7_after 15 = .ok (.getfield 49, 3) := by decide +kernel
theorem dX7_after_18 : decode cX7_after 18 = .ok (.invokevirtual 129, 3) := by decide +kernel
theorem dX7_after_21 : decode cX7_after 21 = .ok (.ifCond .eq 17, 3) := by decide +kernel
theorem dX7_after_24 : decode cX7_after 24 = .ok (.aload_n 0, 1) := by decide +kernel
theorem dX7_after_25 : decode cX7_after 25 = .ok (.getfield 35, 3) := by decide +kernel
theorem dX7_after_28 : decode cX7_after 28 = .ok (.bipush 8, 2) := by decide +kernel
theorem dX7_after_30 : decode cX7_after 30 = .ok (.iload_n 1, 1) := by decide +kernel
theorem dX7_after_31 : decode cX7_after 31 = .ok (.imul, 1) := by decide +kernel
theorem dX7_after_32 : decode cX7_after 32 = .ok (.iload_n 2, 1) := by decide +kernel
theorem dX7_after_33 : decode cX7_after 33 = .ok (.iadd, 1) := by decide +kernel
theorem dX7_after_34 : decode cX7_after 34 = .ok (.iaload, 1) := by decide +kernel
theorem dX7_after_35 : decode cX7_after 35 = .ok (.goto 4, 3) := by decide +kernel
theorem dX7_after_38 : decode cX7_after 38 = .ok (.iconst 0, 1) := by decide +kernel
theorem dX7_after_39 : decode cX7_after 39 = .ok (.ireturn, 1) := by decide +kernel
set_option maxRecDepth 20000 in
theorem ggX7_isEnd_X7_triggeredIn : GoodIn wsX7_isEnd wsX7_triggeredIn := goodIn_r _ [5] (by decide +kernel) (by decide +kernel)
set_option maxRecDepth 20000 in
theorem gX7_isEnd_X7_triggeredIn : GoodIn wsX7_isEnd (va_wsS RX7 81 yX7_triggeredIn wsX7_triggeredIn) := goodIn_app (goodIn_of _ (by decide +kernel)) ggX7_isEnd_X7_triggeredIn
theorem dX7_isEnd_0 : decode cX7_isEnd 0 = .ok (.aload_n 0, 1) := by decide +kernel
theorem dX7_isEnd_1 : decode cX7_isEnd 1 = .ok (.getfield 32, 3) := by decide +kernel
theorem dX7_isEnd_4 : decode cX7_isEnd 4 = .ok (.iload_n 1, 1) := by decide +kernel
theorem dX7_isEnd_5 : decode cX7_isEnd 5 = .ok (.iaload, 1) := by decide +kernel
theorem dX7_isEnd_6 : decode cX7_isEnd 6 = .ok (.invokestatic 81, 3) := by decide +kernel
theorem dX7_isEnd_9 : decode cX7_isEnd 9 = .ok (.ifCond .ne 7, 3) := by decide +kernel
theorem dX7_isEnd_12 : decode cX7_isEnd 12 = .ok (.iconst 1, 1) := by decide +kernel
theorem dX7_isEnd_13 : decode cX7_isEnd 13 = .ok (.goto 4, 3) := by decide +kernel
theorem dX7_isEnd_16 : decode cX7_isEnd 16 = .ok (.iconst 0, 1) := by decide +kernel
theorem dX7_isEnd_17 : decode cX7_isEnd 17 = .ok (.ireturn, 1) := by decide +kernel
set_option maxRecDepth 20000 in
theorem ggX7_settle_X7_isSettled : GoodIn wsX7_settle wsX7_isSettled := goodIn_r _ [14, 4, 5, 2, 23, 24, 25, 26, 27, 28, 29, 30, 31, 32, 33, 34, 35, 36, 37, 38, 39, 40] (by decide +kernel) (by decide +kernel)
set_option maxRecDepth 20000 in
theorem gX7_settle_X7_isSettled : GoodIn wsX7_settle (wsV RX7 132 RX7 yX7_isSettled wsX7_isSettled) := goodIn_app (goodIn_of _ (by decide +kernel)) ggX7_settle_X7_isSettled
set_option maxRecDepth 20000 in
theorem ggX7_settle_X7_isEnd : GoodIn wsX7_settle wsX7_isEnd := goodIn_r _ [18, 19, 20, 21, 13, 22, 23, 24, 25, 26, 27, 28, 29, 30, 31, 32, 33, 34, 35, 36, 37, 38, 39, 40] (by decide +kernel) (by decide +kernel)
set_option maxRecDepth 20000 in
theorem gX7_settle_X7_isEnd : GoodIn wsX7_settle (wsV RX7 135 RX7 yX7_isEnd wsX7_isEnd) := goodIn_app (goodIn_of _ (by decide +kernel)) ggX7_settle_X7_isEnd
theorem dX7_settle_0 : decode cX7_settle 0 = .ok (.iconst 0, 1) := by decide +kernel
theorem dX7_settle_1 : decode cX7_settle 1 = .ok (.istore_n 1, 1) := by decide +kernel
theorem dX7_settle_2 : decode cX7_settle 2 = .ok (.iload_n 1, 1) := by decide +kernel
theorem dX7_settle_3 : decode cX7_settle 3 = .ok (.aload_n 0, 1) := by decide +kernel
theorem dX7_settle_4 : decode cX7_settle 4 = .ok (.getfield 113, 3) := by decide +kernel
theorem dX7_settle_7 : decode cX7_settle 7 = .ok (.if_icmp .ge 16, 3) := by decide +kernel
theorem dX7_settle_10 : decode cX7_settle 10 = .ok (.aload_n 0, 1) := by decide +kernel
theorem dX7_settle_11 : decode cX7_settle 11 = .ok (.getfield 38, 3) := by decide +kernel
theorem dX7_settle_14 : decode cX7_settle 14 = .ok (.iload_n 1, 1) := by decide +kernel
theorem dX7_settle_15 : decode cX7_settle 15 = .ok (.iconst (-1), 1) := by decide +kernel
theorem dX7_settle_16 : decode cX7_settle 16 = .ok (.iastore, 1) := by decide +kernel
theorem dX7_settle_17 : decode cX7_settle 17 = .ok (.iinc 1 1, 3) := by decide +kernel
theorem dX7_settle_20 : decode cX7_settle 20 = .ok (.goto (-18), 3) := by decide +kernel
theorem dX7_settle_23 : decode cX7_settle 23 = .ok (.iconst 1, 1) := by decide +kernel
theorem dX7_settle_24 : decode cX7_settle 24 = .ok (.istore_n 1, 1) := by decide +kernel
theorem dX7_settle_25 : decode cX7_settle 25 = .ok (.iload_n 1, 1) := by decide +kernel
theorem dX7_settle_26 : decode cX7_settle 26 = .ok (.ifCond .eq 152, 3) := by decide +kernel
theorem dX7_settle_29 : decode cX7_settle 29 = .ok (.iconst 0, 1) := by decide +kernel
theorem dX7_settle_30 : decode cX7_settle 30 = .ok (.istore_n 1, 1) := by decide +kernel
theorem dX7_settle_31 : decode cX7_settle 31 = .ok (.aload_n 0, 1) := by decide +kernel
theorem dX7_settle_32 : decode cX7_settle 32 = .ok (.getfield 113, 3) := by decide +kernel
theorem dX7_settle_35 : decode cX7_settle 35 = .ok (.iconst 1, 1) := by decide +kernel
theorem dX7_settle_36 : decode cX7_settle 36 = .ok (.isub, 1) := by decide +kernel
theorem dX7_settle_37 : decode cX7_settle 37 = .ok (.istore_n 2, 1) := by decide +kernel
theorem dX7_settle_38 : decode cX7_settle 38 = .ok (.iload_n 2, 1) := by decide +kernel
theorem dX7_settle_39 : decode cX7_settle 39 = .ok (.ifCond .lt 136, 3) := by decide +kernel
theorem dX7_settle_42 : decode cX7_settle 42 = .ok (.aload_n 0, 1) := by decide +kernel
theorem dX7_settle_43 : decode cX7_settle 43 = .ok (.getfield 38, 3) := by decide +kernel
theorem dX7_settle_46 : decode cX7_settle 46 = .ok (.iload_n 2, 1) := by decide +kernel
theorem dX7_settle_47 : decode cX7_settle 47 = .ok (.iaload, 1) := by decide +kernel
theorem dX7_settle_48 : decode cX7_settle 48 = .ok (.iconst (-1), 1) := by decide +kernel
theorem dX7_settle_49 : decode cX7_settle 49 = .ok (.if_icmp .ne 120, 3) := by decide +kernel
theorem dX7_settle_52 : decode cX7_settle 52 = .ok (.aload_n 0, 1) := by decide +kernel
theorem dX7_settle_53 : decode cX7_settle 53 = .ok (.iload_n 2, 1) := by decide +kernel
theorem dX7_settle_54 : decode cX7_settle 54 = .ok (.invokevirtual 132, 3) := by decide +kernel
theorem dX7_settle_57 : decode cX7_settle 57 = .ok (.ifCond .ne 6, 3) := by decide +kernel
theorem dX7_settle_60 : decode cX7_settle 60 = .ok (.goto 109, 3) := by decide +kernel
theorem dX7_settle_63 : decode cX7_settle 63 = .ok (.aload_n 0, 1) := by decide +kernel
theorem dX7_settle_64 : decode cX7_settle 64 = .ok (.getfield 38, 3) := by decide +kernel
theorem dX7_settle_67 : decode cX7_settle 67 = .ok (.iload_n 2, 1) := by decide +kernel
theorem dX7_settle_68 : decode cX7_settle 68 = .ok (.iconst 0, 1) := by decide +kernel
theorem dX7_settle_69 : decode cX7_settle 69 = .ok (.iastore, 1) := by decide +kernel
theorem dX7_settle_70 : decode cX7_settle 70 = .ok (.aload_n 0, 1) := by decide +kernel
theorem dX7_settle_71 : decode cX7_settle 71 = .ok (.getfield 41, 3) := by decide +kernel
theorem dX7_settle_74 : decode cX7_settle 74 = .ok (.iload_n 2, 1) := by decide +kernel
theorem dX7_settle_75 : decode cX7_settle 75 = .ok (.aload_n 0, 1) := by decide +kernel
theorem dX7_settle_76 : decode cX7_settle 76 = .ok (.iload_n 2, 1) := by decide +kernel
theorem dX7_settle_77 : decode cX7_settle 77 = .ok (.invokevirtual 135, 3) := by decide +kernel
theorem dX7_settle_80 : decode cX7_settle 80 = .ok (.ifCond .eq 7, 3) := by decide +kernel
theorem dX7_settle_83 : decode cX7_settle 83 = .ok (.lconst 1, 1) := by decide +kernel
theorem dX7_settle_84 : decode cX7_settle 84 = .ok (.goto 4, 3) := by decide +kernel
theorem dX7_settle_87 : decode cX7_settle 87 = .ok (.lconst 0, 1) := by decide +kernel
theorem dX7_settle_88 : decode cX7_settle 88 = .ok (.lastore, 1) := by decide +kernel
theorem dX7_settle_89 : decode cX7_settle 89 = .ok (.iconst 0, 1) := by decide +kernel
theorem dX7_settle_90 : decode cX7_settle 90 = .ok (.istore_n 3, 1) := by decide +kernel
theorem dX7_settle_91 : decode cX7_settle 91 = .ok (.iload_n 3, 1) := by decide +kernel
theorem dX7_settle_92 : decode cX7_settle 92 = .ok (.aload_n 0, 1) := by decide +kernel
theorem dX7_settle_93 : decode cX7_settle 93 = .ok (.getfield 49, 3) := by decide +kernel
theorem dX7_settle_96 : decode cX7_settle 96 = .ok (.if_icmp .ge 71, 3) := by decide +kernel
theorem dX7_settle_99 : decode cX7_settle 99 = .ok (.aload_n 0, 1) := by decide +kernel
theorem dX7_settle_100 : decode cX7_settle 100 = .ok (.getfield 35, 3) := by decide +kernel
theorem dX7_settle_103 : decode cX7_settle 103 = .ok (.bipush 8, 2) := by decide +kernel
theorem dX7_settle_105 : decode cX7_settle 105 = .ok (.iload_n 2, 1) := by decide +kernel
theorem dX7_settle_106 : decode cX7_settle 106 = .ok (.imul, 1) := by decide +kernel
theorem dX7_settle_107 : decode cX7_settle 107 = .ok (.iload_n 3, 1) := by decide +kernel
theorem dX7_settle_108 : decode cX7_settle 108 = .ok (.iadd, 1) := by decide +kernel
theorem dX7_settle_109 : decode cX7_settle 109 = .ok (.iaload, 1) := by decide +kernel
theorem dX7_settle_110 : decode cX7_settle 110 = .ok (.istore 4, 2) := by decide +kernel
theorem dX7_settle_112 : decode cX7_settle 112 = .ok (.iload 4, 2) := by decide +kernel
theorem dX7_settle_114 : decode cX7_settle 114 = .ok (.iconst (-1), 1) := by decide +kernel
theorem dX7_settle_115 : decode cX7_settle 115 = .ok (.if_icmp .ne 6, 3) := by decide +kernel
theorem dX7_settle_118 : decode cX7_settle 118 = .ok (.goto 43, 3) := by decide +kernel
theorem dX7_settle_121 : decode cX7_settle 121 = .ok (.aload_n 0, 1) := by decide +kernel
theorem dX7_settle_122 : decode cX7_settle 122 = .ok (.getfield 38, 3) := by decide +kernel
theorem dX7_settle_125 : decode cX7_settle 125 = .ok (.iload_n 2, 1) := by decide +kernel
theorem dX7_settle_126 : decode cX7_settle 126 = .ok (.aload_n 0, 1) := by decide +kernel
theorem dX7_settle_127 : decode cX7_settle 127 = .ok (.getfield 38, 3) := by decide +kernel
theorem dX7_settle_130 : decode cX7_settle 130 = .ok (.iload_n 2, 1) := by decide +kernel
theorem dX7_settle_131 : decode cX7_settle 131 = .ok (.iaload, 1) := by decide +kernel
theorem dX7_settle_132 : decode cX7_settle 132 = .ok (.iconst 1, 1) := by decide +kernel
theorem dX7_settle_133 : decode cX7_settle 133 = .ok (.aload_n 0, 1) := by decide +kernel
theorem dX7_settle_134 : decode cX7_settle 134 = .ok (.getfield 38, 3) := by decide +kernel
theorem dX7_settle_137 : decode cX7_settle 137 = .ok (.iload 4, 2) := by decide +kernel
theorem dX7_settle_139 : decode cX7_settle 139 = .ok (.iaload, 1) := by decide +kernel
theorem dX7_settle_140 : decode cX7_settle 140 = .ok (.iadd, 1) := by decide +kernel
theorem dX7_settle_141 : decode cX7_settle 141 = .ok (.invokestatic 138, 3) := by decide +kernel
theorem dX7_settle_144 : decode cX7_settle 144 = .ok (.iastore, 1) := by decide +kernel
theorem dX7_settle_145 : decode cX7_settle 145 = .ok (.aload_n 0, 1) := by decide +kernel
theorem dX7_settle_146 : decode cX7_settle 146 = .ok (.getfield 41, 3) := by decide +kernel
theorem dX7_settle_149 : decode cX7_settle 149 = .ok (.iload_n 2, 1) := by decide +kernel
theorem dX7_settle_150 : decode cX7_settle 150 = .ok (.dup2, 1) := by decide +kernel
theorem dX7_settle_151 : decode cX7_settle 151 = .ok (.laload, 1) := by decide +kernel
theorem dX7_settle_152 : decode cX7_settle 152 = .ok (.aload_n 0, 1) := by decide +kernel
theorem dX7_settle_153 : decode cX7_settle 153 = .ok (.getfield 41, 3) := by decide +kernel
theorem dX7_settle_156 : decode cX7_settle 156 = .ok (.iload 4, 2) := by decide +kernel
theorem dX7_settle_158 : decode cX7_settle 158 = .ok (.laload, 1) := by decide +kernel
theorem dX7_settle_159 : decode cX7_settle 159 = .ok (.ladd, 1) := by decide +kernel
theorem dX7_settle_160 : decode cX7_settle 160 = .ok (.lastore, 1) := by decide +kernel
theorem dX7_settle_161 : decode cX7_settle 161 = .ok (.iinc 3 1, 3) := by decide +kernel
theorem dX7_settle_164 : decode cX7_settle 164 = .ok (.goto (-73), 3) := by decide +kernel
theorem dX7_settle_167 : decode cX7_settle 167 = .ok (.iconst 1, 1) := by decide +kernel
theorem dX7_settle_168 : decode cX7_settle 168 = .ok (.istore_n 1, 1) := by decide +kernel
theorem dX7_settle_169 : decode cX7_settle 169 = .ok (.iinc 2 (-1), 3) := by decide +kernel
theorem dX7_settle_172 : decode cX7_settle 172 = .ok (.goto (-134), 3) := by decide +kernel
theorem dX7_settle_175 : decode cX7_settle 175 = .ok (.goto (-150), 3) := by decide +kernel
theorem dX7_settle_178 : decode cX7_settle 178 = .ok (.aload_n 0, 1) := by decide +kernel
theorem dX7_settle_179 : decode cX7_settle 179 = .ok (.getfield 38, 3) := by decide +kernel
theorem dX7_settle_182 : decode cX7_settle 182 = .ok (.iconst 0, 1) := by decide +kernel
theorem dX7_settle_183 : decode cX7_settle 183 = .ok (.iaload, 1) := by decide +kernel
theorem dX7_settle_184 : decode cX7_settle 184 = .ok (.iconst (-1), 1) := by decide +kernel
theorem dX7_settle_185 : decode cX7_settle 185 = .ok (.if_icmp .eq 7, 3) := by decide +kernel
theorem dX7_settle_188 : decode cX7_settle 188 = .ok (.iconst 1, 1) := by decide +kernel
theorem dX7_settle_189 : decode cX7_settle 189 = .ok (.goto 4, 3) := by decide +kernel
theorem dX7_settle_192 : decode cX7_settle 192 = .ok (.iconst 0, 1) := by decide +kernel
theorem dX7_settle_193 : decode cX7_settle 193 = .ok (.ireturn, 1) := by decide +kernel
theorem dX7_isSettled_0 : decode cX7_isSettled 0 = .ok (.iconst 1, 1) := by decide +kernel
theorem dX7_isSettled_1 : decode cX7_isSettled 1 = .ok (.istore_n 2, 1) := by decide +kernel
theorem dX7_isSettled_2 : decode cX7_isSettled 2 = .ok (.iconst 0, 1) := by decide +kernel
theorem dX7_isSettled_3 : decode cX7_isSettled 3 = .ok (.istore_n 3, 1) := by decide +kernel
theorem dX7_isSettled_4 : decode cX7_isSettled 4 = .ok (.iload_n 3, 1) := by decide +kernel
theorem dX7_isSettled_5 : decode cX7_isSettled 5 = .ok (.aload_n 0, 1) := by decide +kernel
theorem dX7_isSettled_6 : decode cX7_isSettled 6 = .ok (.getfield 49, 3) := by decide +kernel
theorem dX7_isSettled_9 : decode cX7_isSettled 9 = .ok (.if_icmp .ge 54, 3) := by decide +kernel
theorem dX7_isSettled_12 : decode cX7_isSettled 12 = .ok (.iload_n 2, 1) := by decide +kernel
theorem dX7_isSettled_13 : decode cX7_isSettled 13 = .ok (.ifCond .eq 42, 3) := by decide +kernel
theorem dX7_isSettled_16 : decode cX7_isSettled 16 = .ok (.aload_n 0, 1) := by decide +kernel
theorem dX7_isSettled_17 : decode cX7_isSettled 17 = .ok (.getfield 35, 3) := by decide +kernel
theorem dX7_isSettled_20 : decode cX7_isSettled 20 = .ok (.bipush 8, 2) := by decide +kernel
theorem dX7_isSettled_22 : decode cX7_isSettled 22 = .ok (.iload_n 1, 1) := by decide +kernel
theorem dX7_isSettled_23 : decode cX7_isSettled 23 = .ok (.imul, 1) := by decide +kernel
theorem dX7_isSettled_24 : decode cX7_isSettled 24 = .ok (.iload_n 3, 1) := by decide +kernel
theorem dX7_isSettled_25 : decode cX7_isSettled 25 = .ok (.iadd, 1) := by decide +kernel
theorem dX7_isSettled_26 : decode cX7_isSettled 26 = .ok (.iaload, 1) := by decide +kernel
theorem dX7_isSettled_27 : decode cX7_isSettled 27 = .ok (.iconst (-1), 1) := by decide +kernel
theorem dX7_isSettled_28 : decode cX7_isSettled 28 = .ok (.if_icmp .eq 23, 3) := by decide +kernel
theorem dX7_isSettled_31 : decode cX7_isSettled 31 = .ok (.aload_n 0, 1) := by decide +kernel
theorem dX7_isSettled_32 : decode cX7_isSettled 32 = .ok (.getfield 38, 3) := by decide +kernel
theorem dX7_isSettled_35 : decode cX7_isSettled 35 = .ok (.aload_n 0, 1) := by decide +kernel
theorem dX7_isSettled_36 : decode cX7_isSettled 36 = .ok (.getfield 35, 3) := by decide +kernel
theorem dX7_isSettled_39 : decode cX7_isSettled 39 = .ok (.bipush 8, 2) := by decide +kernel
theorem dX7_isSettled_41 : decode cX7_isSettled 41 = .ok (.iload_n 1, 1) := by decide +kernel
theorem dX7_isSettled_42 : decode cX7_isSettled 42 = .ok (.imul, 1) := by decide +kernel
theorem dX7_isSettled_43 : decode cX7_isSettled 43 = .ok (.iload_n 3, 1) := by decide +kernel
theorem dX7_isSettled_44 : decode cX7_isSettled 44 = .ok (.iadd, 1) := by decide +kernel
theorem dX7_isSettled_45 : decode cX7_isSettled 45 = .ok (.iaload, 1) := by decide +kernel
theorem dX7_isSettled_46 : decode cX7_isSettled 46 = .ok (.iaload, 1) := by decide +kernel
theorem dX7_isSettled_47 : decode cX7_isSettled 47 = .ok (.iconst (-1), 1) := by decide +kernel
theorem dX7_isSettled_48 : decode cX7_isSettled 48 = .ok (.if_icmp .eq 7, 3) := by decide +kernel
theorem dX7_isSettled_51 : decode cX7_isSettled 51 = .ok (.iconst 1, 1) := by decide +kernel
theorem dX7_isSettled_52 : decode cX7_isSettled 52 = .ok (.goto 4, 3) := by decide +kernel
theorem dX7_isSettled_55 : decode cX7_isSettled 55 = .ok (.iconst 0, 1) := by decide +kernel
theorem dX7_isSettled_56 : decode cX7_isSettled 56 = .ok (.istore_n 2, 1) := by decide +kernel
theorem dX7_isSettled_57 : decode cX7_isSettled 57 = .ok (.iinc 3 1, 3) := by decide +kernel
theorem dX7_isSettled_60 : decode cX7_isSettled 60 = .ok (.goto (-56), 3) := by decide +kernel
theorem dX7_isSettled_63 : decode cX7_isSettled 63 = .ok (.iload_n 2, 1) := by decide +kernel
theorem dX7_isSettled_64 : decode cX7_isSettled 64 = .ok (.ireturn, 1) := by decide +kernel
set_option maxRecDepth 20000 in
theorem ggX7_terminates_X7_asks : GoodIn wsX7_terminates wsX7_asks := goodIn_r _ [5, 6, 7, 8, 9, 4, 10, 11, 12, 38, 39, 40, 41, 42, 43, 44, 45, 46, 47, 48, 49, 50, 51, 52, 53, 54, 55] (by decide +kernel) (by decide +kernel)
set_option maxRecDepth 20000 in
theorem gX7_terminates_X7_asks : GoodIn wsX7_terminates (wsV RX7 129 RX7 yX7_asks wsX7_asks) := goodIn_app (goodIn_of _ (by decide +kernel)) ggX7_terminates_X7_asks
set_option maxRecDepth 20000 in
theorem ggX7_terminates_X7_settle : GoodIn wsX7_terminates wsX7_settle := goodIn_r _ [16, 17, 18, 19, 20, 21, 22, 23, 24, 25, 26, 27, 28, 4, 29, 30, 31, 32, 33, 34, 35, 36, 37, 38, 39, 40, 41, 42, 43, 44, 45, 46, 47, 48, 49, 50, 51, 52, 53, 54, 55] (by decide +kernel) (by decide +kernel)
set_option maxRecDepth 20000 in
theorem gX7_terminates_X7_settle : GoodIn wsX7_terminates (wsV RX7 143 RX7 yX7_settle wsX7_settle) := goodIn_app (goodIn_of _ (by decide +kernel)) ggX7_terminates_X7_settle
theorem dX7_terminates_0 : decode cX7_terminates 0 = .ok (.aload_n 0, 1) := by decide +kernel
theorem dX7_terminates_1 : decode cX7_terminates 1 = .ok (.iconst 0, 1) := by decide +kernel
theorem dX7_terminates_2 : decode cX7_terminates 2 = .ok (.iconst 1, 1) := by decide +kernel
theorem dX7_terminates_3 : decode cX7_terminates 3 = .ok (.invokevirtual 129, 3) := by decide +kernel
theorem dX7_terminates_6 : decode cX7_terminates 6 = .ok (.ifCond .eq 14, 3) := by decide +kernel
theorem dX7_terminates_9 : decode cX7_terminates 9 = .ok (.aload_n 0, 1) := by decide +kernel
theorem dX7_terminates_10 : decode cX7_terminates 10 = .ok (.invokevirtual 143, 3) := by decide +kernel
theorem dX7_terminates_13 : decode cX7_terminates 13 = .ok (.ifCond .eq 7, 3) := by decide +kernel
theorem dX7_terminates_16 : decode cX7_terminates 16 = .ok (.iconst 1, 1) := by decide +kernel
theorem dX7_terminates_17 : decode cX7_terminates 17 = .ok (.goto 4, 3) := by decide +kernel
theorem dX7_terminates_20 : decode cX7_terminates 20 = .ok (.iconst 0, 1) := by decide +kernel
theorem dX7_terminates_21 : decode cX7_terminates 21 = .ok (.ireturn, 1) := by decide +kernel
set_option maxRecDepth 20000 in
theorem ggX7_endCount_X7_asks : GoodIn wsX7_endCount wsX7_asks := goodIn_r _ [6, 7, 8, 9, 10, 5, 11, 12, 13, 22, 23, 24, 25, 26, 27, 28, 29, 30, 31, 32, 33, 34, 35, 36, 37, 38, 39] (by decide +kernel) (by decide +kernel)
set_option maxRecDepth 20000 in
theorem gX7_endCount_X7_asks : GoodIn wsX7_endCount (wsV RX7 129 RX7 yX7_asks wsX7_asks) := goodIn_app (goodIn_of _ (by decide +kernel)) ggX7_endCount_X7_asks
set_option maxRecDepth 20000 in
theorem ggX7_endCount_X7_isEnd : GoodIn wsX7_endCount wsX7_isEnd := goodIn_r _ [17, 18, 19, 20, 5, 21, 22, 23, 24, 25, 26, 27, 28, 29, 30, 31, 32, 33, 34, 35, 36, 37, 38, 39] (by decide +kernel) (by decide +kernel)
set_option maxRecDepth 20000 in
theorem gX7_endCount_X7_isEnd : GoodIn wsX7_endCount (wsV RX7 135 RX7 yX7_isEnd wsX7_isEnd) := goodIn_app (goodIn_of _ (by decide +kernel)) ggX7_endCount_X7_isEnd
theorem dX7_endCount_0 : decode cX7_endCount 0 = .ok (.aload_n 0, 1) := by decide +kernel
theorem dX7_endCount_1 : decode cX7_endCount 1 = .ok (.iconst 0, 1) := by decide +kernel
theorem dX7_endCount_2 : decode cX7_endCount 2 = .ok (.iconst 1, 1) := by decide +kernel
theorem dX7_endCount_3 : decode cX7_endCount 3 = .ok (.invokevirtual 129, 3) := by decide +kernel
theorem dX7_endCount_6 : decode cX7_endCount 6 = .ok (.ifCond .ne 5, 3) := by decide +kernel
theorem dX7_endCount_9 : decode cX7_endCount 9 = .ok (.iconst 0, 1) := by decide +kernel
theorem dX7_endCount_10 : decode cX7_endCount 10 = .ok (.ireturn, 1) := by decide +kernel
theorem dX7_endCount_11 : decode cX7_endCount 11 = .ok (.iconst 0, 1) := by decide +kernel
theorem dX7_endCount_12 : decode cX7_endCount 12 = .ok (.istore_n 1, 1) := by decide +kernel
theorem dX7_endCount_13 : decode cX7_endCount 13 = .ok (.iconst 0, 1) := by decide +kernel
theorem dX7_endCount_14 : decode cX7_endCount 14 = .ok (.istore_n 2, 1) := by decide +kernel
theorem dX7_endCount_15 : decode cX7_endCount 15 = .ok (.iload_n 2, 1) := by decide +kernel
theorem dX7_endCount_16 : decode cX7_endCount 16 = .ok (.aload_n 0, 1) := by decide +kernel
theorem dX7_endCount_17 : decode cX7_endCount 17 = .ok (.getfield 113, 3) := by decide +kernel
theorem dX7_endCount_20 : decode cX7_endCount 20 = .ok (.if_icmp .ge 25, 3) := by decide +kernel
theorem dX7_endCount_23 : decode cX7_endCount 23 = .ok (.iload_n 1, 1) := by decide +kernel
theorem dX7_endCount_24 : decode cX7_endCount 24 = .ok (.aload_n 0, 1) := by decide +kernel
theorem dX7_endCount_25 : decode cX7_endCount 25 = .ok (.iload_n 2, 1) := by decide +kernel
theorem dX7_endCount_26 : decode cX7_endCount 26 = .ok (.invokevirtual 135, 3) := by decide +kernel
theorem dX7_endCount_29 : decode cX7_endCount 29 = .ok (.ifCond .eq 7, 3) := by decide +kernel
theorem dX7_endCount_32 : decode cX7_endCount 32 = .ok (.iconst 1, 1) := by decide +kernel
theorem dX7_endCount_33 : decode cX7_endCount 33 = .ok (.goto 4, 3) := by decide +kernel
theorem dX7_endCount_36 : decode cX7_endCount 36 = .ok (.iconst 0, 1) := by decide +kernel
theorem dX7_endCount_37 : decode cX7_endCount 37 = .ok (.iadd, 1) := by decide +kernel
theorem dX7_endCount_38 : decode cX7_endCount 38 = .ok (.istore_n 1, 1) := by decide +kernel
theorem dX7_endCount_39 : decode cX7_endCount 39 = .ok (.iinc 2 1, 3) := by decide +kernel
theorem dX7_endCount_42 : decode cX7_endCount 42 = .ok (.goto (-27), 3) := by decide +kernel
theorem dX7_endCount_45 : decode cX7_endCount 45 = .ok (.iload_n 1, 1) := by decide +kernel
theorem dX7_endCount_46 : decode cX7_endCount 46 = .ok (.ireturn, 1) := by decide +kernel
set_option maxRecDepth 20000 in
theorem ggX7_end_X7_endCount : GoodIn wsX7_end wsX7_endCount := goodIn_r _ [6, 7, 8, 9, 10, 5, 11, 12, 13, 14, 15, 16, 17, 18, 19, 20, 21, 22, 1, 23, 24, 25, 26, 27, 28, 29, 30, 31, 32, 33, 34, 35, 36, 37, 38, 39, 40, 41, 42, 43] (by decide +kernel) (by decide +kernel)
set_option maxRecDepth 20000 in
theorem gX7_end_X7_endCount : GoodIn wsX7_end (wsV RX7 146 RX7 yX7_endCount wsX7_endCount) := goodIn_app (goodIn_of _ (by decide +kernel)) ggX7_end_X7_endCount
set_option maxRecDepth 20000 in
theorem ggX7_end_X7_asks : GoodIn wsX7_end wsX7_asks := goodIn_r _ [11, 12, 13, 14, 15, 5, 16, 17, 18, 26, 27, 28, 29, 30, 31, 32, 33, 34, 35, 36, 37, 38, 39, 40, 41, 42, 43] (by decide +kernel) (by decide +kernel)
set_option maxRecDepth 20000 in
theorem gX7_end_X7_asks : GoodIn wsX7_end (wsV RX7 129 RX7 yX7_asks wsX7_asks) := goodIn_app (goodIn_of _ (by decide +kernel)) ggX7_end_X7_asks
set_option maxRecDepth 20000 in
theorem ggX7_end_X7_isEnd : GoodIn wsX7_end wsX7_isEnd := goodIn_r _ [22, 1, 23, 24, 5, 25, 26, 27, 28, 29, 30, 31, 32, 33, 34, 35, 36, 37, 38, 39, 40, 41, 42, 43] (by decide +kernel) (by decide +kernel)
set_option maxRecDepth 20000 in
theorem gX7_end_X7_isEnd : GoodIn wsX7_end (wsV RX7 135 RX7 yX7_isEnd wsX7_isEnd) := goodIn_app (goodIn_of _ (by decide +kernel)) ggX7_end_X7_isEnd
theorem dX7_end_0 : decode cX7_end 0 = .ok (.aload_n 0, 1) := by decide +kernel
theorem dX7_end_1 : decode cX7_end 1 = .ok (.invokevirtual 146, 3) := by decide +kernel
theorem dX7_end_4 : decode cX7_end 4 = .ok (.istore_n 2, 1) := by decide +kernel
theorem dX7_end_5 : decode cX7_end 5 = .ok (.aload_n 0, 1) := by decide +kernel
theorem dX7_end_6 : decode cX7_end 6 = .ok (.iload_n 1, 1) := by decide +kernel
theorem dX7_end_7 : decode cX7_end 7 = .ok (.iload_n 2, 1) := by decide +kernel
theorem dX7_end_8 : decode cX7_end 8 = .ok (.invokevirtual 129, 3) := by decide +kernel
theorem dX7_end_11 : decode cX7_end 11 = .ok (.ifCond .ne 5, 3) := by decide +kernel
theorem dX7_end_14 : decode cX7_end 14 = .ok (.iconst 0, 1) := by decide +kernel
theorem dX7_end_15 : decode cX7_end 15 = .ok (.ireturn, 1) := by decide +kernel
theorem dX7_end_16 : decode cX7_end 16 = .ok (.iload_n 1, 1) := by decide +kernel
theorem dX7_end_17 : decode cX7_end 17 = .ok (.istore_n 3, 1) := by decide +kernel
theorem dX7_end_18 : decode cX7_end 18 = .ok (.iconst 0, 1) := by decide +kernel
theorem dX7_end_19 : decode cX7_end 19 = .ok (.istore 4, 2) := by decide +kernel
theorem dX7_end_21 : decode cX7_end 21 = .ok (.aload_n 0, 1) := by decide +kernel
theorem dX7_end_22 : decode cX7_end 22 = .ok (.iload 4, 2) := by decide +kernel
theorem dX7_end_24 : decode cX7_end 24 = .ok (.invokevirtual 135, 3) := by decide +kernel
theorem dX7_end_27 : decode cX7_end 27 = .ok (.ifCond .eq 7, 3) := by decide +kernel
theorem dX7_end_30 : decode cX7_end 30 = .ok (.iload_n 3, 1) := by decide +kernel
theorem dX7_end_31 : decode cX7_end 31 = .ok (.ifCond .le 26, 3) := by decide +kernel
theorem dX7_end_34 : decode cX7_end 34 = .ok (.iload_n 3, 1) := by decide +kernel
theorem dX7_end_35 : decode cX7_end 35 = .ok (.aload_n 0, 1) := by decide +kernel
theorem dX7_end_36 : decode cX7_end 36 = .ok (.iload 4, 2) := by decide +kernel
theorem dX7_end_38 : decode cX7_end 38 = .ok (.invokevirtual 135, 3) := by decide +kernel
theorem dX7_end_41 : decode cX7_end 41 = .ok (.ifCond .eq 7, 3) := by decide +kernel
theorem dX7_end_44 : decode cX7_end 44 = .ok (.iconst 1, 1) := by decide +kernel
theorem dX7_end_45 : decode cX7_end 45 = .ok (.goto 4, 3) := by decide +kernel
theorem dX7_end_48 : decode cX7_end 48 = .ok (.iconst 0, 1) := by decide +kernel
theorem dX7_end_49 : decode cX7_end 49 = .ok (.isub, 1) := by decide +kernel
theorem dX7_end_50 : decode cX7_end 50 = .ok (.istore_n 3, 1) := by decide +kernel
theorem dX7_end_51 : decode cX7_end 51 = .ok (.iinc 4 1, 3) := by decide +kernel
theorem dX7_end_54 : decode cX7_end 54 = .ok (.goto (-33), 3) := by decide +kernel
theorem dX7_end_57 : decode cX7_end 57 = .ok (.aload_n 0, 1) := by decide +kernel
theorem dX7_end_58 : decode cX7_end 58 = .ok (.getfield 32, 3) := by decide +kernel
theorem dX7_end_61 : decode cX7_end 61 = .ok (.iload 4, 2) := by decide +kernel
theorem dX7_end_63 : decode cX7_end 63 = .ok (.iaload, 1) := by decide +kernel
theorem dX7_end_64 : decode cX7_end 64 = .ok (.bipush 8, 2) := by decide +kernel
theorem dX7_end_66 : decode cX7_end 66 = .ok (.ishr, 1) := by decide +kernel
theorem dX7_end_67 : decode cX7_end 67 = .ok (.ireturn, 1) := by decide +kernel
set_option maxRecDepth 20000 in
theorem ggX7_shortest_X7_asks : GoodIn wsX7_shortest wsX7_asks := goodIn_r _ [9, 10, 11, 12, 13, 8, 14, 15, 16, 25, 26, 27, 28, 29, 30, 31, 32, 33, 34, 35, 36, 37, 38, 39, 40, 41, 42] (by decide +kernel) (by decide +kernel)
set_option maxRecDepth 20000 in
theorem gX7_shortest_X7_asks : GoodIn wsX7_shortest (wsV RX7 129 RX7 yX7_asks wsX7_asks) := goodIn_app (goodIn_of _ (by decide +kernel)) ggX7_shortest_X7_asks
set_option maxRecDepth 20000 in
theorem ggX7_shortest_X7_isEnd : GoodIn wsX7_shortest wsX7_isEnd := goodIn_r _ [20, 21, 22, 23, 8, 24, 25, 26, 27, 28, 29, 30, 31, 32, 33, 34, 35, 36, 37, 38, 39, 40, 41, 42] (by decide +kernel) (by decide +kernel)
set_option maxRecDepth 20000 in
theorem gX7_shortest_X7_isEnd : GoodIn wsX7_shortest (wsV RX7 135 RX7 yX7_isEnd wsX7_isEnd) := goodIn_app (goodIn_of _ (by decide +kernel)) ggX7_shortest_X7_isEnd
theorem dX7_shortest_0 : decode cX7_shortest 0 = .ok (.aload_n 0, 1) := by decide +kernel
theorem dX7_shortest_1 : decode cX7_shortest 1 = .ok (.iconst 0, 1) := by decide +kernel
theorem dX7_shortest_2 : decode cX7_shortest 2 = .ok (.iconst 1, 1) := by decide +kernel
theorem dX7_shortest_3 : decode cX7_shortest 3 = .ok (.invokevirtual 129, 3) := by decide +kernel
theorem dX7_shortest_6 : decode cX7_shortest 6 = .ok (.ifCond .ne 5, 3) := by decide +kernel
theorem dX7_shortest_9 : decode cX7_shortest 9 = .ok (.iconst 0, 1) := by decide +kernel
theorem dX7_shortest_10 : decode cX7_shortest 10 = .ok (.ireturn, 1) := by decide +kernel
theorem dX7_shortest_11 : decode cX7_shortest 11 = .ok (.aload_n 0, 1) := by decide +kernel
theorem dX7_shortest_12 : decode cX7_shortest 12 = .ok (.getfield 113, 3) := by decide +kernel
theorem dX7_shortest_15 : decode cX7_shortest 15 = .ok (.newarray .int, 2) := by decide +kernel
theorem dX7_shortest_17 : decode cX7_shortest 17 = .ok (.astore_n 1, 1) := by decide +kernel
theorem dX7_shortest_18 : decode cX7_shortest 18 = .ok (.iconst 1, 1) := by decide +kernel
theorem dX7_shortest_19 : decode cX7_shortest 19 = .ok (.istore_n 2, 1) := by decide +kernel
theorem dX7_shortest_20 : decode cX7_shortest 20 = .ok (.iload_n 2, 1) := by decide +kernel
theorem dX7_shortest_21 : decode cX7_shortest 21 = .ok (.aload_n 0, 1) := by decide +kernel
theorem dX7_shortest_22 : decode cX7_shortest 22 = .ok (.getfield 113, 3) := by decide +kernel
theorem dX7_shortest_25 : decode cX7_shortest 25 = .ok (.if_icmp .ge 13, 3) := by decide +kernel
theorem dX7_shortest_28 : decode cX7_shortest 28 = .ok (.aload_n 1, 1) := by decide +kernel
theorem dX7_shortest_29 : decode cX7_shortest 29 = .ok (.iload_n 2, 1) := by decide +kernel
theorem dX7_shortest_30 : decode cX7_shortest 30 = .ok (.iconst (-1), 1) := by decide +kernel
theorem dX7_shortest_31 : decode cX7_shortest 31 = .ok (.iastore, 1) := by decide +kernel
theorem dX7_shortest_32 : decode cX7_shortest 32 = .ok (.iinc 2 1, 3) := by decide +kernel
theorem dX7_shortest_35 : decode cX7_shortest 35 = .ok (.goto (-15), 3) := by decide +kernel
theorem dX7_shortest_38 : decode cX7_shortest 38 = .ok (.iconst 0, 1) := by decide +kernel
theorem dX7_shortest_39 : decode cX7_shortest 39 = .ok (.istore_n 2, 1) := by decide +kernel
theorem dX7_shortest_40 : decode cX7_shortest 40 = .ok (.iload_n 2, 1) := by decide +kernel
theorem dX7_shortest_41 : decode cX7_shortest 41 = .ok (.aload_n 0, 1) := by decide +kernel
theorem dX7_shortest_42 : decode cX7_shortest 42 = .ok (.getfield 113, 3) := by decide +kernel
theorem dX7_shortest_45 : decode cX7_shortest 45 = .ok (.if_icmp .ge 73, 3) := by decide +kernel
theorem dX7_shortest_48 : decode cX7_shortest 48 = .ok (.aload_n 0, 1) := by decide +kernel
theorem dX7_shortest_49 : decode cX7_shortest 49 = .ok (.iload_n 2, 1) := by decide +kernel
theorem dX7_shortest_50 : decode cX7_shortest 50 = .ok (.invokevirtual 135, 3) := by decide +kernel
theorem dX7_shortest_53 : decode cX7_shortest 53 = .ok (.ifCond .eq 7, 3) := by decide +kernel
theorem dX7_shortest_56 : decode cX7_shortest 56 = .ok (.aload_n 1, 1) := by decide +kernel
theorem dX7_shortest_57 : decode cX7_shortest 57 = .ok (.iload_n 2, 1) := by decide +kernel
theorem dX7_shortest_58 : decode cX7_shortest 58 = .ok (.iaload, 1) := by decide +kernel
theorem dX7_shortest_59 : decode cX7_shortest 59 = .ok (.ireturn, 1) := by decide +kernel
theorem dX7_shortest_60 : decode cX7_shortest 60 = .ok (.iconst 0, 1) := by decide +kernel
theorem dX7_shortest_61 : decode cX7_shortest 61 = .ok (.istore_n 3, 1) := by decide +kernel
theorem dX7_shortest_62 : decode cX7_shortest 62 = .ok (.iload_n 3, 1) := by decide +kernel
theorem dX7_shortest_63 : decode cX7_shortest 63 = .ok (.aload_n 0, 1) := by decide +kernel
theorem dX7_shortest_64 : decode cX7_shortest 64 = .ok (.getfield 49, 3) := by decide +kernel
theorem dX7_shortest_67 : decode cX7_shortest 67 = .ok (.if_icmp .ge 45, 3) := by decide +kernel
theorem dX7_shortest_70 : decode cX7_shortest 70 = .ok (.aload_n 0, 1) := by decide +kernel
theorem dX7_shortest_71 : decode cX7_shortest 71 = .ok (.getfield 35, 3) := by decide +kernel
theorem dX7_shortest_74 : decode cX7_shortest 74 = .ok (.bipush 8, 2) := by decide +kernel
theorem dX7_shortest_76 : decode cX7_shortest 76 = .ok (.iload_n 2, 1) := by decide +kernel
theorem dX7_shortest_77 : decode cX7_shortest 77 = .ok (.imul, 1) := by decide +kernel
theorem dX7_shortest_78 : decode cX7_shortest 78 = .ok (.iload_n 3, 1) := by decide +kernel
theorem dX7_shortest_79 : decode cX7_shortest 79 = .ok (.iadd, 1) := by decide +kernel
theorem dX7_shortest_80 : decode cX7_shortest 80 = .ok (.iaload, 1) := by decide +kernel
theorem dX7_shortest_81 : decode cX7_shortest 81 = .ok (.istore 4, 2) := by decide +kernel
theorem dX7_shortest_83 : decode cX7_shortest 83 = .ok (.iload 4, 2) := by decide +kernel
theorem dX7_shortest_85 : decode cX7_shortest 85 = .ok (.iconst (-1), 1) := by decide +kernel
theorem dX7_shortest_86 : decode cX7_shortest 86 = .ok (.if_icmp .eq 20, 3) := by decide +kernel
theorem dX7_shortest_89 : decode cX7_shortest 89 = .ok (.aload_n 1, 1) := by decide +kernel
theorem dX7_shortest_90 : decode cX7_shortest 90 = .ok (.iload 4, 2) := by decide +kernel
theorem dX7_shortest_92 : decode cX7_shortest 92 = .ok (.iaload, 1) := by decide +kernel
theorem dX7_shortest_93 : decode cX7_shortest 93 = .ok (.iconst (-1), 1) := by decide +kernel
theorem dX7_shortest_94 : decode cX7_shortest 94 = .ok (.if_icmp .ne 12, 3) := by decide +kernel
theorem dX7_shortest_97 : decode cX7_shortest 97 = .ok (.aload_n 1, 1) := by decide +kernel
theorem dX7_shortest_98 : decode cX7_shortest 98 = .ok (.iload 4, 2) := by decide +kernel
theorem dX7_shortest_100 : decode cX7_shortest 100 = .ok (.aload_n 1, 1) := by decide +kernel
theorem dX7_shortest_101 : decode cX7_shortest 101 = .ok (.iload_n 2, 1) := by decide +kernel
theorem dX7_shortest_102 : decode cX7_shortest 102 = .ok (.iaload, 1) := by decide +kernel
theorem dX7_shortest_103 : decode cX7_shortest 103 = .ok (.iconst 1, 1) := by decide +kernel
theorem dX7_shortest_104 : decode cX7_shortest 104 = .ok (.iadd, 1) := by decide +kernel
theorem dX7_shortest_105 : decode cX7_shortest 105 = .ok (.iastore, 1) := by decide +kernel
theorem dX7_shortest_106 : decode cX7_shortest 106 = .ok (.iinc 3 1, 3) := by decide +kernel
theorem dX7_shortest_109 : decode cX7_shortest 109 = .ok (.goto (-47), 3) := by decide +kernel
theorem dX7_shortest_112 : decode cX7_shortest 112 = .ok (.iinc 2 1, 3) := by decide +kernel
theorem dX7_shortest_115 : decode cX7_shortest 115 = .ok (.goto (-75), 3) := by decide +kernel
theorem dX7_shortest_118 : decode cX7_shortest 118 = .ok (.iconst (-1), 1) := by decide +kernel
theorem dX7_shortest_119 : decode cX7_shortest 119 = .ok (.ireturn, 1) := by decide +kernel
set_option maxRecDepth 20000 in
theorem ggX7_longest_X7_asks : GoodIn wsX7_longest wsX7_asks := goodIn_r _ [6, 7, 8, 9, 10, 5, 11, 12, 13, 38, 39, 40, 41, 42, 43, 44, 45, 46, 47, 48, 49, 50, 51, 52, 53, 54, 55] (by decide +kernel) (by decide +kernel)
set_option maxRecDepth 20000 in
theorem gX7_longest_X7_asks : GoodIn wsX7_longest (wsV RX7 129 RX7 yX7_asks wsX7_asks) := goodIn_app (goodIn_of _ (by decide +kernel)) ggX7_longest_X7_asks
set_option maxRecDepth 20000 in
theorem ggX7_longest_X7_settle : GoodIn wsX7_longest wsX7_settle := goodIn_r _ [17, 18, 1, 19, 20, 21, 22, 23, 24, 25, 26, 27, 28, 5, 29, 30, 31, 32, 33, 34, 35, 36, 37, 38, 39, 40, 41, 42, 43, 44, 45, 46, 47, 48, 49, 50, 51, 52, 53, 54, 55] (by decide +kernel) (by decide +kernel)
set_option maxRecDepth 20000 in
theorem gX7_longest_X7_settle : GoodIn wsX7_longest (wsV RX7 143 RX7 yX7_settle wsX7_settle) := goodIn_app (goodIn_of _ (by decide +kernel)) ggX7_longest_X7_settle
theorem dX7_longest_0 : decode cX7_longest 0 = .ok (.aload_n 0, 1) := by decide +kernel
theorem dX7_longest_1 : decode cX7_longest 1 = .ok (.iconst 0, 1) := by decide +kernel
theorem dX7_longest_2 : decode cX7_longest 2 = .ok (.iconst 1, 1) := by decide +kernel
theorem dX7_longest_3 : decode cX7_longest 3 = .ok (.invokevirtual 129, 3) := by decide +kernel
theorem dX7_longest_6 : decode cX7_longest 6 = .ok (.ifCond .eq 23, 3) := by decide +kernel
theorem dX7_longest_9 : decode cX7_longest 9 = .ok (.aload_n 0, 1) := by decide +kernel
theorem dX7_longest_10 : decode cX7_longest 10 = .ok (.invokevirtual 143, 3) := by decide +kernel
theorem dX7_longest_13 : decode cX7_longest 13 = .ok (.ifCond .eq 12, 3) := by decide +kernel
theorem dX7_longest_16 : decode cX7_longest 16 = .ok (.aload_n 0, 1) := by decide +kernel
theorem dX7_longest_17 : decode cX7_longest 17 = .ok (.getfield 38, 3) := by decide +kernel
theorem dX7_longest_20 : decode cX7_longest 20 = .ok (.iconst 0, 1) := by decide +kernel
theorem dX7_longest_21 : decode cX7_longest 21 = .ok (.iaload, 1) := by decide +kernel
theorem dX7_longest_22 : decode cX7_longest 22 = .ok (.goto 8, 3) := by decide +kernel
theorem dX7_longest_25 : decode cX7_longest 25 = .ok (.iconst (-1), 1) := by decide +kernel
theorem dX7_longest_26 : decode cX7_longest 26 = .ok (.goto 4, 3) := by decide +kernel
theorem dX7_longest_29 : decode cX7_longest 29 = .ok (.iconst 0, 1) := by decide +kernel
theorem dX7_longest_30 : decode cX7_longest 30 = .ok (.ireturn, 1) := by decide +kernel
set_option maxRecDepth 20000 in
theorem ggX7_ways_X7_asks : GoodIn wsX7_ways wsX7_asks := goodIn_r _ [7, 8, 9, 10, 11, 6, 12, 13, 14, 39, 40, 41, 42, 43, 44, 45, 46, 47, 48, 49, 50, 51, 52, 53, 54, 55, 56] (by decide +kernel) (by decide +kernel)
set_option maxRecDepth 20000 in
theorem gX7_ways_X7_asks : GoodIn wsX7_ways (wsV RX7 129 RX7 yX7_asks wsX7_asks) := goodIn_app (goodIn_of _ (by decide +kernel)) ggX7_ways_X7_asks
set_option maxRecDepth 20000 in
theorem ggX7_ways_X7_settle : GoodIn wsX7_ways wsX7_settle := goodIn_r _ [18, 19, 20, 1, 21, 22, 23, 24, 25, 26, 27, 28, 29, 6, 30, 31, 32, 33, 34, 35, 36, 37, 38, 39, 40, 41, 42, 43, 44, 45, 46, 47, 48, 49, 50, 51, 52, 53, 54, 55, 56] (by decide +kernel) (by decide +kernel)
set_option maxRecDepth 20000 in
theorem gX7_ways_X7_settle : GoodIn wsX7_ways (wsV RX7 143 RX7 yX7_settle wsX7_settle) := goodIn_app (goodIn_of _ (by decide +kernel)) ggX7_ways_X7_settle
theorem dX7_ways_0 : decode cX7_ways 0 = .ok (.aload_n 0, 1) := by decide +kernel
theorem dX7_ways_1 : decode cX7_ways 1 = .ok (.iconst 0, 1) := by decide +kernel
theorem dX7_ways_2 : decode cX7_ways 2 = .ok (.iconst 1, 1) := by decide +kernel
theorem dX7_ways_3 : decode cX7_ways 3 = .ok (.invokevirtual 129, 3) := by decide +kernel
theorem dX7_ways_6 : decode cX7_ways 6 = .ok (.ifCond .eq 25, 3) := by decide +kernel
theorem dX7_ways_9 : decode cX7_ways 9 = .ok (.aload_n 0, 1) := by decide +kernel
theorem dX7_ways_10 : decode cX7_ways 10 = .ok (.invokevirtual 143, 3) := by decide +kernel
theorem dX7_ways_13 : decode cX7_ways 13 = .ok (.ifCond .eq 12, 3) := by decide +kernel
theorem dX7_ways_16 : decode cX7_ways 16 = .ok (.aload_n 0, 1) := by decide +kernel
theorem dX7_ways_17 : decode cX7_ways 17 = .ok (.getfield 41, 3) := by decide +kernel
theorem dX7_ways_20 : decode cX7_ways 20 = .ok (.iconst 0, 1) := by decide +kernel
theorem dX7_ways_21 : decode cX7_ways 21 = .ok (.laload, 1) := by decide +kernel
theorem dX7_ways_22 : decode cX7_ways 22 = .ok (.goto 10, 3) := by decide +kernel
theorem dX7_ways_25 : decode cX7_ways 25 = .ok (.ldc2_w 149, 3) := by decide +kernel
theorem dX7_ways_28 : decode cX7_ways 28 = .ok (.goto 4, 3) := by decide +kernel
theorem dX7_ways_31 : decode cX7_ways 31 = .ok (.lconst 0, 1) := by decide +kernel
theorem dX7_ways_32 : decode cX7_ways 32 = .ok (.lreturn, 1) := by decide +kernel
set_option maxRecDepth 20000 in
theorem ggX7_isPlayed_X7_asks : GoodIn wsX7_isPlayed wsX7_asks := goodIn_r _ [8, 9, 10, 11, 12, 7, 13, 14, 15, 16, 17, 18, 19, 20, 21, 22, 23, 24, 25, 26, 27, 28, 29, 30, 31, 32, 33] (by decide +kernel) (by decide +kernel)
set_option maxRecDepth 20000 in
theorem gX7_isPlayed_X7_asks : GoodIn wsX7_isPlayed (wsV RX7 129 RX7 yX7_asks wsX7_asks) := goodIn_app (goodIn_of _ (by decide +kernel)) ggX7_isPlayed_X7_asks
theorem dX7_isPlayed_0 : decode cX7_isPlayed 0 = .ok (.aload_n 0, 1) := by decide +kernel
theorem dX7_isPlayed_1 : decode cX7_isPlayed 1 = .ok (.iload_n 1, 1) := by decide +kernel
theorem dX7_isPlayed_2 : decode cX7_isPlayed 2 = .ok (.aload_n 0, 1) := by decide +kernel
theorem dX7_isPlayed_3 : decode cX7_isPlayed 3 = .ok (.getfield 49, 3) := by decide +kernel
theorem dX7_isPlayed_6 : decode cX7_isPlayed 6 = .ok (.invokevirtual 129, 3) := by decide +kernel
theorem dX7_isPlayed_9 : decode cX7_isPlayed 9 = .ok (.ifCond .ne 5, 3) := by decide +kernel
theorem dX7_isPlayed_12 : decode cX7_isPlayed 12 = .ok (.iconst 0, 1) := by decide +kernel
theorem dX7_isPlayed_13 : decode cX7_isPlayed 13 = .ok (.ireturn, 1) := by decide +kernel
theorem dX7_isPlayed_14 : decode cX7_isPlayed 14 = .ok (.iconst 0, 1) := by decide +kernel
theorem dX7_isPlayed_15 : decode cX7_isPlayed 15 = .ok (.istore_n 2, 1) := by decide +kernel
theorem dX7_isPlayed_16 : decode cX7_isPlayed 16 = .ok (.iconst 0, 1) := by decide +kernel
theorem dX7_isPlayed_17 : decode cX7_isPlayed 17 = .ok (.istore_n 3, 1) := by decide +kernel
theorem dX7_isPlayed_18 : decode cX7_isPlayed 18 = .ok (.iload_n 3, 1) := by decide +kernel
theorem dX7_isPlayed_19 : decode cX7_isPlayed 19 = .ok (.aload_n 0, 1) := by decide +kernel
theorem dX7_isPlayed_20 : decode cX7_isPlayed 20 = .ok (.getfield 113, 3) := by decide +kernel
theorem dX7_isPlayed_23 : decode cX7_isPlayed 23 = .ok (.if_icmp .ge 34, 3) := by decide +kernel
theorem dX7_isPlayed_26 : decode cX7_isPlayed 26 = .ok (.iload_n 2, 1) := by decide +kernel
theorem dX7_isPlayed_27 : decode cX7_isPlayed 27 = .ok (.ifCond .ne 18, 3) := by decide +kernel
theorem dX7_isPlayed_30 : decode cX7_isPlayed 30 = .ok (.aload_n 0, 1) := by decide +kernel
theorem dX7_isPlayed_31 : decode cX7_isPlayed 31 = .ok (.getfield 35, 3) := by decide +kernel
theorem dX7_isPlayed_34 : decode cX7_isPlayed 34 = .ok (.bipush 8, 2) := by decide +kernel
theorem dX7_isPlayed_36 : decode cX7_isPlayed 36 = .ok (.iload_n 3, 1) := by decide +kernel
theorem dX7_isPlayed_37 : decode cX7_isPlayed 37 = .ok (.imul, 1) := by decide +kernel
theorem dX7_isPlayed_38 : decode cX7_isPlayed 38 = .ok (.iload_n 1, 1) := by decide +kernel
theorem dX7_isPlayed_39 : decode cX7_isPlayed 39 = .ok (.iadd, 1) := by decide +kernel
theorem dX7_isPlayed_40 : decode cX7_isPlayed 40 = .ok (.iaload, 1) := by decide +kernel
theorem dX7_isPlayed_41 : decode cX7_isPlayed 41 = .ok (.iconst (-1), 1) := by decide +kernel
theorem dX7_isPlayed_42 : decode cX7_isPlayed 42 = .ok (.if_icmp .eq 7, 3) := by decide +kernel
theorem dX7_isPlayed_45 : decode cX7_isPlayed 45 = .ok (.iconst 1, 1) := by decide +kernel
theorem dX7_isPlayed_46 : decode cX7_isPlayed 46 = .ok (.goto 4, 3) := by decide +kernel
theorem dX7_isPlayed_49 : decode cX7_isPlayed 49 = .ok (.iconst 0, 1) := by decide +kernel
theorem dX7_isPlayed_50 : decode cX7_isPlayed 50 = .ok (.istore_n 2, 1) := by decide +kernel
theorem dX7_isPlayed_51 : decode cX7_isPlayed 51 = .ok (.iinc 3 1, 3) := by decide +kernel
theorem dX7_isPlayed_54 : decode cX7_isPlayed 54 = .ok (.goto (-36), 3) := by decide +kernel
theorem dX7_isPlayed_57 : decode cX7_isPlayed 57 = .ok (.iload_n 2, 1) := by decide +kernel
theorem dX7_isPlayed_58 : decode cX7_isPlayed 58 = .ok (.ireturn, 1) := by decide +kernel
set_option maxRecDepth 20000 in
theorem ggX7_choice_X7_asks : GoodIn wsX7_choice wsX7_asks := goodIn_r _ [7, 8, 9, 10, 11, 6, 12, 13, 14, 34, 35, 36, 37, 38, 39, 40, 41, 42, 43, 44, 45, 46, 47, 48, 49, 50, 51] (by decide +kernel) (by decide +kernel)
set_option maxRecDepth 20000 in
theorem gX7_choice_X7_asks : GoodIn wsX7_choice (wsV RX7 129 RX7 yX7_asks wsX7_asks) := goodIn_app (goodIn_of _ (by decide +kernel)) ggX7_choice_X7_asks
set_option maxRecDepth 20000 in
theorem ggX7_choice_X7_readyIn : GoodIn wsX7_choice wsX7_readyIn := goodIn_r _ [18, 19, 20, 21, 22, 6, 23, 24, 25, 26, 34, 35, 36, 37, 38, 39, 40, 41, 42, 43, 44, 45, 46, 47, 48, 49, 50, 51] (by decide +kernel) (by decide +kernel)
set_option maxRecDepth 20000 in
theorem gX7_choice_X7_readyIn : GoodIn wsX7_choice (wsV RX7 102 RX7 yX7_readyIn wsX7_readyIn) := goodIn_app (goodIn_of _ (by decide +kernel)) ggX7_choice_X7_readyIn
set_option maxRecDepth 20000 in
theorem ggX7_choice_J6_bitCount_0f7a4 : GoodIn wsX7_choice wsJ6_bitCount_0f7a4 := goodIn_r _ [30, 31, 32, 33] (by decide +kernel) (by decide +kernel)
set_option maxRecDepth 20000 in
theorem gX7_choice_J6_bitCount_0f7a4 : GoodIn wsX7_choice (va_wsS RX7 151 yJ6_bitCount_0f7a4 wsJ6_bitCount_0f7a4) := goodIn_app (goodIn_of _ (by decide +kernel)) ggX7_choice_J6_bitCount_0f7a4
theorem dX7_choice_0 : decode cX7_choice 0 = .ok (.aload_n 0, 1) := by decide +kernel
theorem dX7_choice_1 : decode cX7_choice 1 = .ok (.iconst 0, 1) := by decide +kernel
theorem dX7_choice_2 : decode cX7_choice 2 = .ok (.iconst 1, 1) := by decide +kernel
theorem dX7_choice_3 : decode cX7_choice 3 = .ok (.invokevirtual 129, 3) := by decide +kernel
theorem dX7_choice_6 : decode cX7_choice 6 = .ok (.ifCond .ne 5, 3) := by decide +kernel
theorem dX7_choice_9 : decode cX7_choice 9 = .ok (.dconst 0, 1) := by decide +kernel
theorem dX7_choice_10 : decode cX7_choice 10 = .ok (.dreturn, 1) := by decide +kernel
theorem dX7_choice_11 : decode cX7_choice 11 = .ok (.iconst 0, 1) := by decide +kernel
theorem dX7_choice_12 : decode cX7_choice 12 = .ok (.istore_n 1, 1) := by decide +kernel
theorem dX7_choice_13 : decode cX7_choice 13 = .ok (.iconst 0, 1) := by decide +kernel
theorem dX7_choice_14 : decode cX7_choice 14 = .ok (.istore_n 2, 1) := by decide +kernel
theorem dX7_choice_15 : decode cX7_choice 15 = .ok (.iload_n 2, 1) := by decide +kernel
theorem dX7_choice_16 : decode cX7_choice 16 = .ok (.aload_n 0, 1) := by decide +kernel
theorem dX7_choice_17 : decode cX7_choice 17 = .ok (.getfield 113, 3) := by decide +kernel
theorem dX7_choice_20 : decode cX7_choice 20 = .ok (.if_icmp .ge 34, 3) := by decide +kernel
theorem dX7_choice_23 : decode cX7_choice 23 = .ok (.iload_n 1, 1) := by decide +kernel
theorem dX7_choice_24 : decode cX7_choice 24 = .ok (.aload_n 0, 1) := by decide +kernel
theorem dX7_choice_25 : decode cX7_choice 25 = .ok (.aload_n 0, 1) := by decide +kernel
theorem dX7_choice_26 : decode cX7_choice 26 = .ok (.getfield 32, 3) := by decide +kernel
theorem dX7_choice_29 : decode cX7_choice 29 = .ok (.iload_n 2, 1) := by decide +kernel
theorem dX7_choice_30 : decode cX7_choice 30 = .ok (.iaload, 1) := by decide +kernel
theorem dX7_choice_31 : decode cX7_choice 31 = .ok (.invokevirtual 102, 3) := by decide +kernel
theorem dX7_choice_34 : decode cX7_choice 34 = .ok (.invokestatic 151, 3) := by decide +kernel
theorem dX7_choice_37 : decode cX7_choice 37 = .ok (.iconst 1, 1) := by decide +kernel
theorem dX7_choice_38 : decode cX7_choice 38 = .ok (.if_icmp .le 7, 3) := by decide +kernel
theorem dX7_choice_41 : decode cX7_choice 41 = .ok (.iconst 1, 1) := by decide +kernel
theorem dX7_choice_42 : decode cX7_choice 42 = .ok (.goto 4, 3) := by decide +kernel
theorem dX7_choice_45 : decode cX7_choice 45 = .ok (.iconst 0, 1) := by decide +kernel
theorem dX7_choice_46 : decode cX7_choice 46 = .ok (.iadd, 1) := by decide +kernel
theorem dX7_choice_47 : decode cX7_choice 47 = .ok (.istore_n 1, 1) := by decide +kernel
theorem dX7_choice_48 : decode cX7_choice 48 = .ok (.iinc 2 1, 3) := by decide +kernel
theorem dX7_choice_51 : decode cX7_choice 51 = .ok (.goto (-36), 3) := by decide +kernel
theorem dX7_choice_54 : decode cX7_choice 54 = .ok (.iload_n 1, 1) := by decide +kernel
theorem dX7_choice_55 : decode cX7_choice 55 = .ok (.i2d, 1) := by decide +kernel
theorem dX7_choice_56 : decode cX7_choice 56 = .ok (.aload_n 0, 1) := by decide +kernel
theorem dX7_choice_57 : decode cX7_choice 57 = .ok (.getfield 113, 3) := by decide +kernel
theorem dX7_choice_60 : decode cX7_choice 60 = .ok (.i2d, 1) := by decide +kernel
theorem dX7_choice_61 : decode cX7_choice 61 = .ok (.ddiv, 1) := by decide +kernel
theorem dX7_choice_62 : decode cX7_choice 62 = .ok (.dreturn, 1) := by decide +kernel
theorem dX7_triggers_0 : decode cX7_triggers 0 = .ok (.iconst 0, 1) := by decide +kernel
theorem dX7_triggers_1 : decode cX7_triggers 1 = .ok (.istore_n 2, 1) := by decide +kernel
theorem dX7_triggers_2 : decode cX7_triggers 2 = .ok (.iconst 0, 1) := by decide +kernel
theorem dX7_triggers_3 : decode cX7_triggers 3 = .ok (.istore_n 3, 1) := by decide +kernel
theorem dX7_triggers_4 : decode cX7_triggers 4 = .ok (.iload_n 3, 1) := by decide +kernel
theorem dX7_triggers_5 : decode cX7_triggers 5 = .ok (.aload_n 0, 1) := by decide +kernel
theorem dX7_triggers_6 : decode cX7_triggers 6 = .ok (.getfield 49, 3) := by decide +kernel
theorem dX7_triggers_9 : decode cX7_triggers 9 = .ok (.if_icmp .ge 73, 3) := by decide +kernel
theorem dX7_triggers_12 : decode cX7_triggers 12 = .ok (.iconst 0, 1) := by decide +kernel
theorem dX7_triggers_13 : decode cX7_triggers 13 = .ok (.istore 4, 2) := by decide +kernel
theorem dX7_triggers_15 : decode cX7_triggers 15 = .ok (.iload 4, 2) := by decide +kernel
theorem dX7_triggers_17 : decode cX7_triggers 17 = .ok (.aload_n 0, 1) := by decide +kernel
theorem dX7_triggers_18 : decode cX7_triggers 18 = .ok (.getfield 19, 3) := by decide +kernel
theorem dX7_triggers_21 : decode cX7_triggers 21 = .ok (.iload_n 1, 1) := by decide +kernel
theorem dX7_triggers_22 : decode cX7_triggers 22 = .ok (.iaload, 1) := by decide +kernel
theorem dX7_triggers_23 : decode cX7_triggers 23 = .ok (.if_icmp .ge 53, 3) := by decide +kernel
theorem dX7_triggers_26 : decode cX7_triggers 26 = .ok (.aload_n 0, 1) := by decide +kernel
theorem dX7_triggers_27 : decode cX7_triggers 27 = .ok (.getfield 25, 3) := by decide +kernel
theorem dX7_triggers_30 : decode cX7_triggers 30 = .ok (.iload_n 1, 1) := by decide +kernel
theorem dX7_triggers_31 : decode cX7_triggers 31 = .ok (.baload, 1) := by decide +kernel
theorem dX7_triggers_32 : decode cX7_triggers 32 = .ok (.ifCond .eq 38, 3) := by decide +kernel
theorem dX7_triggers_35 : decode cX7_triggers 35 = .ok (.aload_n 0, 1) := by decide +kernel
theorem dX7_triggers_36 : decode cX7_triggers 36 = .ok (.getfield 25, 3) := by decide +kernel
theorem dX7_triggers_39 : decode cX7_triggers 39 = .ok (.iload_n 3, 1) := by decide +kernel
theorem dX7_triggers_40 : decode cX7_triggers 40 = .ok (.baload, 1) := by decide +kernel
theorem dX7_triggers_41 : decode cX7_triggers 41 = .ok (.ifCond .eq 29, 3) := by decide +kernel
theorem dX7_triggers_44 : decode cX7_triggers 44 = .ok (.aload_n 0, 1) := by decide +kernel
theorem dX7_triggers_45 : decode cX7_triggers 45 = .ok (.getfield 22, 3) := by decide +kernel
theorem dX7_triggers_48 : decode cX7_triggers 48 = .ok (.iconst 4, 1) := by decide +kernel
theorem dX7_triggers_49 : decode cX7_triggers 49 = .ok (.iload_n 1, 1) := by decide +kernel
theorem dX7_triggers_50 : decode cX7_triggers 50 = .ok (.imul, 1) := by decide +kernel
theorem dX7_triggers_51 : decode cX7_triggers 51 = .ok (.iload 4, 2) := by decide +kernel
theorem dX7_triggers_53 : decode cX7_triggers 53 = .ok (.iadd, 1) := by decide +kernel
theorem dX7_triggers_54 : decode cX7_triggers 54 = .ok (.iaload, 1) := by decide +kernel
theorem dX7_triggers_55 : decode cX7_triggers 55 = .ok (.aload_n 0, 1) := by decide +kernel
theorem dX7_triggers_56 : decode cX7_triggers 56 = .ok (.getfield 9, 3) := by decide +kernel
theorem dX7_triggers_59 : decode cX7_triggers 59 = .ok (.iload_n 3, 1) := by decide +kernel
theorem dX7_triggers_60 : decode cX7_triggers 60 = .ok (.iaload, 1) := by decide +kernel
theorem dX7_triggers_61 : decode cX7_triggers 61 = .ok (.if_icmp .ne 9, 3) := by decide +kernel
theorem dX7_triggers_64 : decode cX7_triggers 64 = .ok (.iload_n 2, 1) := by decide +kernel
theorem dX7_triggers_65 : decode cX7_triggers 65 = .ok (.iconst 1, 1) := by decide +kernel
theorem dX7_triggers_66 : decode cX7_triggers 66 = .ok (.iload_n 3, 1) := by decide +kernel
theorem dX7_triggers_67 : decode cX7_triggers 67 = .ok (.ishl, 1) := by decide +kernel
theorem dX7_triggers_68 : decode cX7_triggers 68 = .ok (.ior, 1) := by decide +kernel
theorem dX7_triggers_69 : decode cX7_triggers 69 = .ok (.istore_n 2, 1) := by decide +kernel
theorem dX7_triggers_70 : decode cX7_triggers 70 = .ok (.iinc 4 1, 3) := by decide +kernel
theorem dX7_triggers_73 : decode cX7_triggers 73 = .ok (.goto (-58), 3) := by decide +kernel
theorem dX7_triggers_76 : decode cX7_triggers 76 = .ok (.iinc 3 1, 3) := by decide +kernel
theorem dX7_triggers_79 : decode cX7_triggers 79 = .ok (.goto (-75), 3) := by decide +kernel
theorem dX7_triggers_82 : decode cX7_triggers 82 = .ok (.iload_n 2, 1) := by decide +kernel
theorem dX7_triggers_83 : decode cX7_triggers 83 = .ok (.ireturn, 1) := by decide +kernel
set_option maxRecDepth 20000 in
theorem ggX7_canTrigger_X7_isRule : GoodIn wsX7_canTrigger wsX7_isRule := goodIn_r _ [6, 7, 20, 21, 22, 23, 24, 25, 26, 27, 28, 29, 30, 31, 32, 33, 34, 35, 36, 37] (by decide +kernel) (by decide +kernel)
set_option maxRecDepth 20000 in
theorem gX7_canTrigger_X7_isRule : GoodIn wsX7_canTrigger (wsV RX7 71 RX7 yX7_isRule wsX7_isRule) := goodIn_app (goodIn_of _ (by decide +kernel)) ggX7_canTrigger_X7_isRule
set_option maxRecDepth 20000 in
theorem ggX7_canTrigger_X7_triggers : GoodIn wsX7_canTrigger wsX7_triggers := goodIn_r _ [11, 7, 12, 13, 14, 15, 20, 21, 22, 23, 24, 25, 26, 27, 28, 29, 30, 31, 32, 33, 34, 35, 36, 37] (by decide +kernel) (by decide +kernel)
set_option maxRecDepth 20000 in
theorem gX7_canTrigger_X7_triggers : GoodIn wsX7_canTrigger (wsV RX7 154 RX7 yX7_triggers wsX7_triggers) := goodIn_app (goodIn_of _ (by decide +kernel)) ggX7_canTrigger_X7_triggers
set_option maxRecDepth 20000 in
theorem ggX7_canTrigger_X7_fail : GoodIn wsX7_canTrigger wsX7_fail := goodIn_r _ [19, 1, 20, 21, 22, 23, 24, 25, 26, 27, 28, 29, 30, 31, 32, 33, 34, 35, 36, 37] (by decide +kernel) (by decide +kernel)
set_option maxRecDepth 20000 in
theorem gX7_canTrigger_X7_fail : GoodIn wsX7_canTrigger (wsV RX7 56 RX7 yX7_fail wsX7_fail) := goodIn_app (goodIn_of _ (by decide +kernel)) ggX7_canTrigger_X7_fail
theorem dX7_canTrigger_0 : decode cX7_canTrigger 0 = .ok (.aload_n 0, 1) := by decide +kernel
theorem dX7_canTrigger_1 : decode cX7_canTrigger 1 = .ok (.iconst 0, 1) := by decide +kernel
theorem dX7_canTrigger_2 : decode cX7_canTrigger 2 = .ok (.putfield 45, 3) := by decide +kernel
theorem dX7_canTrigger_5 : decode cX7_canTrigger 5 = .ok (.aload_n 0, 1) := by decide +kernel
theorem dX7_canTrigger_6 : decode cX7_canTrigger 6 = .ok (.iload_n 1, 1) := by decide +kernel
theorem dX7_canTrigger_7 : decode cX7_canTrigger 7 = .ok (.invokevirtual 71, 3) := by decide +kernel
theorem dX7_canTrigger_10 : decode cX7_canTrigger 10 = .ok (.ifCond .eq 11, 3) := by decide +kernel
theorem dX7_canTrigger_13 : decode cX7_canTrigger 13 = .ok (.aload_n 0, 1) := by decide +kernel
theorem dX7_canTrigger_14 : decode cX7_canTrigger 14 = .ok (.iload_n 1, 1) := by decide +kernel
theorem dX7_canTrigger_15 : decode cX7_canTrigger 15 = .ok (.invokevirtual 154, 3) := by decide +kernel
theorem dX7_canTrigger_18 : decode cX7_canTrigger 18 = .ok (.goto 8, 3) := by decide +kernel
theorem dX7_canTrigger_21 : decode cX7_canTrigger 21 = .ok (.aload_n 0, 1) := by decide +kernel
theorem dX7_canTrigger_22 : decode cX7_canTrigger 22 = .ok (.iconst 1, 1) := by decide +kernel
theorem dX7_canTrigger_23 : decode cX7_canTrigger 23 = .ok (.invokevirtual 56, 3) := by decide +kernel
theorem dX7_canTrigger_26 : decode cX7_canTrigger 26 = .ok (.ireturn, 1) := by decide +kernel
set_option maxRecDepth 20000 in
theorem ggX7_circular_X7_triggers : GoodIn wsX7_circular wsX7_triggers := goodIn_r _ [7, 2, 8, 9, 10, 11, 15, 16, 17, 18, 19, 20, 21, 22, 23, 24, 25, 26, 27, 28, 29, 30, 31, 32] (by decide +kernel) (by decide +kernel)
set_option maxRecDepth 20000 in
theorem gX7_circular_X7_triggers : GoodIn wsX7_circular (wsV RX7 154 RX7 yX7_triggers wsX7_triggers) := goodIn_app (goodIn_of _ (by decide +kernel)) ggX7_circular_X7_triggers
set_option maxRecDepth 20000 in
theorem ggX7_circular_X7_has : GoodIn wsX7_circular wsX7_has := goodIn_r _ [14] (by decide +kernel) (by decide +kernel)
set_option maxRecDepth 20000 in
theorem gX7_circular_X7_has : GoodIn wsX7_circular (va_wsS RX7 77 yX7_has wsX7_has) := goodIn_app (goodIn_of _ (by decide +kernel)) ggX7_circular_X7_has
theorem dX7_circular_0 : decode cX7_circular 0 = .ok (.aload_n 0, 1) := by decide +kernel
theorem dX7_circular_1 : decode cX7_circular 1 = .ok (.iconst 0, 1) := by decide +kernel
theorem dX7_circular_2 : decode cX7_circular 2 = .ok (.putfield 45, 3) := by decide +kernel
theorem dX7_circular_5 : decode cX7_circular 5 = .ok (.iconst 0, 1) := by decide +kernel
theorem dX7_circular_6 : decode cX7_circular 6 = .ok (.istore_n 1, 1) := by decide +kernel
theorem dX7_circular_7 : decode cX7_circular 7 = .ok (.iconst 0, 1) := by decide +kernel
theorem dX7_circular_8 : decode cX7_circular 8 = .ok (.istore_n 2, 1) := by decide +kernel
theorem dX7_circular_9 : decode cX7_circular 9 = .ok (.iload_n 2, 1) := by decide +kernel
theorem dX7_circular_10 : decode cX7_circular 10 = .ok (.aload_n 0, 1) := by decide +kernel
theorem dX7_circular_11 : decode cX7_circular 11 = .ok (.getfield 49, 3) := by decide +kernel
theorem dX7_circular_14 : decode cX7_circular 14 = .ok (.if_icmp .ge 83, 3) := by decide +kernel
theorem dX7_circular_17 : decode cX7_circular 17 = .ok (.aload_n 0, 1) := by decide +kernel
theorem dX7_circular_18 : decode cX7_circular 18 = .ok (.iload_n 2, 1) := by decide +kernel
theorem dX7_circular_19 : decode cX7_circular 19 = .ok (.invokevirtual 154, 3) := by decide +kernel
theorem dX7_circular_22 : decode cX7_circular 22 = .ok (.istore_n 3, 1) := by decide +kernel
theorem dX7_circular_23 : decode cX7_circular 23 = .ok (.iconst 0, 1) := by decide +kernel
theorem dX7_circular_24 : decode cX7_circular 24 = .ok (.istore 4, 2) := by decide +kernel
theorem dX7_circular_26 : decode cX7_circular 26 = .ok (.iload 4, 2) := by decide +kernel
theorem dX7_circular_28 : decode cX7_circular 28 = .ok (.aload_n 0, 1) := by decide +kernel
theorem dX7_circular_29 : decode cX7_circular 29 = .ok (.getfield 49, 3) := by decide +kernel
theorem dX7_circular_32 : decode cX7_circular 32 = .ok (.if_icmp .ge 45, 3) := by decide +kernel
theorem dX7_circular_35 : decode cX7_circular 35 = .ok (.iconst 0, 1) := by decide +kernel
theorem dX7_circular_36 : decode cX7_circular 36 = .ok (.istore 5, 2) := by decide +kernel
theorem dX7_circular_38 : decode cX7_circular 38 = .ok (.iload 5, 2) := by decide +kernel
theorem dX7_circular_40 : decode cX7_circular 40 = .ok (.aload_n 0, 1) := by decide +kernel
theorem dX7_circular_41 : decode cX7_circular 41 = .ok (.getfield 49, 3) := by decide +kernel
theorem dX7_circular_44 : decode cX7_circular 44 = .ok (.if_icmp .ge 27, 3) := by decide +kernel
theorem dX7_circular_47 : decode cX7_circular 47 = .ok (.iload_n 3, 1) := by decide +kernel
theorem dX7_circular_48 : decode cX7_circular 48 = .ok (.iload 5, 2) := by decide +kernel
theorem dX7_circular_50 : decode cX7_circular 50 = .ok (.invokestatic 77, 3) := by decide +kernel
theorem dX7_circular_53 : decode cX7_circular 53 = .ok (.ifCond .eq 12, 3) := by decide +kernel
theorem dX7_circular_56 : decode cX7_circular 56 = .ok (.iload_n 3, 1) := by decide +kernel
theorem dX7_circular_57 : decode cX7_circular 57 = .ok (.aload_n 0, 1) := by decide +kernel
theorem dX7_circular_58 : decode cX7_circular 58 = .ok (.iload 5, 2) := by decide +kernel
theorem dX7_circular_60 : decode cX7_circular 60 = .ok (.invokevirtual 154, 3) := by decide +kernel
theorem dX7_circular_63 : decode cX7_circular 63 = .ok (.ior, 1) := by decide +kernel
theorem dX7_circular_64 : decode cX7_circular 64 = .ok (.istore_n 3, 1) := by decide +kernel
theorem dX7_circular_65 : decode cX7_circular 65 = .ok (.iinc 5 1, 3) := by decide +kernel
theorem dX7_circular_68 : decode cX7_circular 68 = .ok (.goto (-30), 3) := by decide +kernel
theorem dX7_circular_71 : decode cX7_circular 71 = .ok (.iinc 4 1, 3) := by decide +kernel
theorem dX7_circular_74 : decode cX7_circular 74 = .ok (.goto (-48), 3) := by decide +kernel
theorem dX7_circular_77 : decode cX7_circular 77 = .ok (.iload_n 3, 1) := by decide +kernel
theorem dX7_circular_78 : decode cX7_circular 78 = .ok (.iload_n 2, 1) := by decide +kernel
theorem dX7_circular_79 : decode cX7_circular 79 = .ok (.invokestatic 77, 3) := by decide +kernel
theorem dX7_circular_82 : decode cX7_circular 82 = .ok (.ifCond .eq 9, 3) := by decide +kernel
theorem dX7_circular_85 : decode cX7_circular 85 = .ok (.iload_n 1, 1) := by decide +kernel
theorem dX7_circular_86 : decode cX7_circular 86 = .ok (.iconst 1, 1) := by decide +kernel
theorem dX7_circular_87 : decode cX7_circular 87 = .ok (.iload_n 2, 1) := by decide +kernel
theorem dX7_circular_88 : decode cX7_circular 88 = .ok (.ishl, 1) := by decide +kernel
theorem dX7_circular_89 : decode cX7_circular 89 = .ok (.ior, 1) := by decide +kernel
theorem dX7_circular_90 : decode cX7_circular 90 = .ok (.istore_n 1, 1) := by decide +kernel
theorem dX7_circular_91 : decode cX7_circular 91 = .ok (.iinc 2 1, 3) := by decide +kernel
theorem dX7_circular_94 : decode cX7_circular 94 = .ok (.goto (-85), 3) := by decide +kernel
theorem dX7_circular_97 : decode cX7_circular 97 = .ok (.iload_n 1, 1) := by decide +kernel
theorem dX7_circular_98 : decode cX7_circular 98 = .ok (.ireturn, 1) := by decide +kernel
set_option maxRecDepth 20000 in
theorem ggX7_disturbs_X7_has : GoodIn wsX7_disturbs wsX7_has := goodIn_r _ [8] (by decide +kernel) (by decide +kernel)
set_option maxRecDepth 20000 in
theorem gX7_disturbs_X7_has : GoodIn wsX7_disturbs (va_wsS RX7 77 yX7_has wsX7_has) := goodIn_app (goodIn_of _ (by decide +kernel)) ggX7_disturbs_X7_has
theorem dX7_disturbs_0 : decode cX7_disturbs 0 = .ok (.iconst 0, 1) := by decide +kernel
theorem dX7_disturbs_1 : decode cX7_disturbs 1 = .ok (.istore_n 3, 1) := by decide +kernel
theorem dX7_disturbs_2 : decode cX7_disturbs 2 = .ok (.iconst 0, 1) := by decide +kernel
theorem dX7_disturbs_3 : decode cX7_disturbs 3 = .ok (.istore 4, 2) := by decide +kernel
theorem dX7_disturbs_5 : decode cX7_disturbs 5 = .ok (.iload 4, 2) := by decide +kernel
theorem dX7_disturbs_7 : decode cX7_disturbs 7 = .ok (.aload_n 0, 1) := by decide +kernel
theorem dX7_disturbs_8 : decode cX7_disturbs 8 = .ok (.getfield 19, 3) := by decide +kernel
theorem dX7_disturbs_11 : decode cX7_disturbs 11 = .ok (.iload_n 1, 1) := by decide +kernel
theorem dX7_disturbs_12 : decode cX7_disturbs 12 = .ok (.iaload, 1) := by decide +kernel
