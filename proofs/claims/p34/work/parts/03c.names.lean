theorem dX5_init_48 : decode cX5_init 48 = .ok (.iinc 1 1, 3) := by decide +kernel
theorem dX5_init_51 : decode cX5_init 51 = .ok (.goto (-28), 3) := by decide +kernel
theorem dX5_init_54 : decode cX5_init 54 = .ok (.return_, 1) := by decide +kernel
theorem dX5_size_0 : decode cX5_size 0 = .ok (.aload_n 0, 1) := by decide +kernel
theorem dX5_size_1 : decode cX5_size 1 = .ok (.getfield 24, 3) := by decide +kernel
theorem dX5_size_4 : decode cX5_size 4 = .ok (.ireturn, 1) := by decide +kernel
theorem dX5_isFull_0 : decode cX5_isFull 0 = .ok (.aload_n 0, 1) := by decide +kernel
theorem dX5_isFull_1 : decode cX5_isFull 1 = .ok (.getfield 24, 3) := by decide +kernel
theorem dX5_isFull_4 : decode cX5_isFull 4 = .ok (.aload_n 0, 1) := by decide +kernel
theorem dX5_isFull_5 : decode cX5_isFull 5 = .ok (.getfield 11, 3) := by decide +kernel
theorem dX5_isFull_8 : decode cX5_isFull 8 = .ok (.arraylength, 1) := by decide +kernel
theorem dX5_isFull_9 : decode cX5_isFull 9 = .ok (.if_icmp .lt 7, 3) := by decide +kernel
theorem dX5_isFull_12 : decode cX5_isFull 12 = .ok (.iconst 1, 1) := by decide +kernel
theorem dX5_isFull_13 : decode cX5_isFull 13 = .ok (.goto 4, 3) := by decide +kernel
theorem dX5_isFull_16 : decode cX5_isFull 16 = .ok (.iconst 0, 1) := by decide +kernel
theorem dX5_isFull_17 : decode cX5_isFull 17 = .ok (.ireturn, 1) := by decide +kernel
theorem dX5_ruleOrNull_0 : decode cX5_ruleOrNull 0 = .ok (.iload_n 1, 1) := by decide +kernel
theorem dX5_ruleOrNull_1 : decode cX5_ruleOrNull 1 = .ok (.ifCond .lt 29, 3) := by decide +kernel
theorem dX5_ruleOrNull_4 : decode cX5_ruleOrNull 4 = .ok (.iload_n 1, 1) := by decide +kernel
theorem dX5_ruleOrNull_5 : decode cX5_ruleOrNull 5 = .ok (.aload_n 0, 1) := by decide +kernel
theorem dX5_ruleOrNull_6 : decode cX5_ruleOrNull 6 = .ok (.getfield 24, 3) := by decide +kernel
theorem dX5_ruleOrNull_9 : decode cX5_ruleOrNull 9 = .ok (.if_icmp .ge 21, 3) := by decide +kernel
theorem dX5_ruleOrNull_12 : decode cX5_ruleOrNull 12 = .ok (.iload_n 1, 1) := by decide +kernel
theorem dX5_ruleOrNull_13 : decode cX5_ruleOrNull 13 = .ok (.aload_n 0, 1) := by decide +kernel
theorem dX5_ruleOrNull_14 : decode cX5_ruleOrNull 14 = .ok (.getfield 11, 3) := by decide +kernel
theorem dX5_ruleOrNull_17 : decode cX5_ruleOrNull 17 = .ok (.arraylength, 1) := by decide +kernel
theorem dX5_ruleOrNull_18 : decode cX5_ruleOrNull 18 = .ok (.if_icmp .ge 12, 3) := by decide +kernel
theorem dX5_ruleOrNull_21 : decode cX5_ruleOrNull 21 = .ok (.aload_n 0, 1) := by decide +kernel
theorem dX5_ruleOrNull_22 : decode cX5_ruleOrNull 22 = .ok (.getfield 11, 3) := by decide +kernel
theorem dX5_ruleOrNull_25 : decode cX5_ruleOrNull 25 = .ok (.iload_n 1, 1) := by decide +kernel
theorem dX5_ruleOrNull_26 : decode cX5_ruleOrNull 26 = .ok (.aaload, 1) := by decide +kernel
theorem dX5_ruleOrNull_27 : decode cX5_ruleOrNull 27 = .ok (.goto 4, 3) := by decide +kernel
theorem dX5_ruleOrNull_30 : decode cX5_ruleOrNull 30 = .ok (.aconst_null, 1) := by decide +kernel
theorem dX5_ruleOrNull_31 : decode cX5_ruleOrNull 31 = .ok (.areturn, 1) := by decide +kernel
set_option maxRecDepth 20000 in
theorem ggX5_append_X5_switchRule : GoodIn wsX5_append wsX5_switchRule := goodIn_r _ [10, 11, 3, 12, 13, 17, 18, 19, 20, 21, 22, 23, 24, 25, 26, 27, 14, 15, 16] (by decide +kernel) (by decide +kernel)
set_option maxRecDepth 20000 in
theorem gX5_append_X5_switchRule : GoodIn wsX5_append (wsV RX5 37 RX5 yX5_switchRule wsX5_switchRule) := goodIn_app (goodIn_of _ (by decide +kernel)) ggX5_append_X5_switchRule
theorem dX5_append_0 : decode cX5_append 0 = .ok (.aload_n 0, 1) := by decide +kernel
theorem dX5_append_1 : decode cX5_append 1 = .ok (.getfield 24, 3) := by decide +kernel
theorem dX5_append_4 : decode cX5_append 4 = .ok (.istore 4, 2) := by decide +kernel
theorem dX5_append_6 : decode cX5_append 6 = .ok (.iload 4, 2) := by decide +kernel
theorem dX5_append_8 : decode cX5_append 8 = .ok (.ifCond .lt 13, 3) := by decide +kernel
theorem dX5_append_11 : decode cX5_append 11 = .ok (.iload 4, 2) := by decide +kernel
theorem dX5_append_13 : decode cX5_append 13 = .ok (.aload_n 0, 1) := by decide +kernel
theorem dX5_append_14 : decode cX5_append 14 = .ok (.getfield 11, 3) := by decide +kernel
theorem dX5_append_17 : decode cX5_append 17 = .ok (.arraylength, 1) := by decide +kernel
theorem dX5_append_18 : decode cX5_append 18 = .ok (.if_icmp .lt 5, 3) := by decide +kernel
theorem dX5_append_21 : decode cX5_append 21 = .ok (.iconst (-1), 1) := by decide +kernel
theorem dX5_append_22 : decode cX5_append 22 = .ok (.ireturn, 1) := by decide +kernel
theorem dX5_append_23 : decode cX5_append 23 = .ok (.aload_n 0, 1) := by decide +kernel
theorem dX5_append_24 : decode cX5_append 24 = .ok (.dup, 1) := by decide +kernel
theorem dX5_append_25 : decode cX5_append 25 = .ok (.getfield 24, 3) := by decide +kernel
theorem dX5_append_28 : decode cX5_append 28 = .ok (.iconst 1, 1) := by decide +kernel
theorem dX5_append_29 : decode cX5_append 29 = .ok (.iadd, 1) := by decide +kernel
theorem dX5_append_30 : decode cX5_append 30 = .ok (.putfield 24, 3) := by decide +kernel
theorem dX5_append_33 : decode cX5_append 33 = .ok (.aload_n 0, 1) := by decide +kernel
theorem dX5_append_34 : decode cX5_append 34 = .ok (.getfield 11, 3) := by decide +kernel
theorem dX5_append_37 : decode cX5_append 37 = .ok (.iload 4, 2) := by decide +kernel
theorem dX5_append_39 : decode cX5_append 39 = .ok (.aaload, 1) := by decide +kernel
theorem dX5_append_40 : decode cX5_append 40 = .ok (.astore 5, 2) := by decide +kernel
theorem dX5_append_42 : decode cX5_append 42 = .ok (.aload 5, 2) := by decide +kernel
theorem dX5_append_44 : decode cX5_append 44 = .ok (.iload_n 1, 1) := by decide +kernel
theorem dX5_append_45 : decode cX5_append 45 = .ok (.putfield 28, 3) := by decide +kernel
theorem dX5_append_48 : decode cX5_append 48 = .ok (.aload 5, 2) := by decide +kernel
theorem dX5_append_50 : decode cX5_append 50 = .ok (.iload_n 2, 1) := by decide +kernel
theorem dX5_append_51 : decode cX5_append 51 = .ok (.putfield 31, 3) := by decide +kernel
theorem dX5_append_54 : decode cX5_append 54 = .ok (.aload 5, 2) := by decide +kernel
theorem dX5_append_56 : decode cX5_append 56 = .ok (.iload_n 3, 1) := by decide +kernel
theorem dX5_append_57 : decode cX5_append 57 = .ok (.putfield 34, 3) := by decide +kernel
theorem dX5_append_60 : decode cX5_append 60 = .ok (.aload_n 0, 1) := by decide +kernel
theorem dX5_append_61 : decode cX5_append 61 = .ok (.aload 5, 2) := by decide +kernel
theorem dX5_append_63 : decode cX5_append 63 = .ok (.iconst 1, 1) := by decide +kernel
theorem dX5_append_64 : decode cX5_append 64 = .ok (.invokevirtual 37, 3) := by decide +kernel
theorem dX5_append_67 : decode cX5_append 67 = .ok (.iload 4, 2) := by decide +kernel
theorem dX5_append_69 : decode cX5_append 69 = .ok (.ireturn, 1) := by decide +kernel
theorem dX5_switchRule_0 : decode cX5_switchRule 0 = .ok (.aload_n 1, 1) := by decide +kernel
theorem dX5_switchRule_1 : decode cX5_switchRule 1 = .ok (.iload_n 2, 1) := by decide +kernel
theorem dX5_switchRule_2 : decode cX5_switchRule 2 = .ok (.putfield 41, 3) := by decide +kernel
theorem dX5_switchRule_5 : decode cX5_switchRule 5 = .ok (.aload_n 1, 1) := by decide +kernel
theorem dX5_switchRule_6 : decode cX5_switchRule 6 = .ok (.getfield 28, 3) := by decide +kernel
theorem dX5_switchRule_9 : decode cX5_switchRule 9 = .ok (.istore_n 3, 1) := by decide +kernel
theorem dX5_switchRule_10 : decode cX5_switchRule 10 = .ok (.iload_n 3, 1) := by decide +kernel
theorem dX5_switchRule_11 : decode cX5_switchRule 11 = .ok (.ifCond .lt 12, 3) := by decide +kernel
theorem dX5_switchRule_14 : decode cX5_switchRule 14 = .ok (.iload_n 3, 1) := by decide +kernel
theorem dX5_switchRule_15 : decode cX5_switchRule 15 = .ok (.aload_n 0, 1) := by decide +kernel
theorem dX5_switchRule_16 : decode cX5_switchRule 16 = .ok (.getfield 17, 3) := by decide +kernel
theorem dX5_switchRule_19 : decode cX5_switchRule 19 = .ok (.arraylength, 1) := by decide +kernel
theorem dX5_switchRule_20 : decode cX5_switchRule 20 = .ok (.if_icmp .lt 4, 3) := by decide +kernel
theorem dX5_switchRule_23 : decode cX5_switchRule 23 = .ok (.return_, 1) := by decide +kernel
theorem dX5_switchRule_24 : decode cX5_switchRule 24 = .ok (.iload_n 2, 1) := by decide +kernel
theorem dX5_switchRule_25 : decode cX5_switchRule 25 = .ok (.ifCond .eq 19, 3) := by decide +kernel
theorem dX5_switchRule_28 : decode cX5_switchRule 28 = .ok (.aload_n 0, 1) := by decide +kernel
theorem dX5_switchRule_29 : decode cX5_switchRule 29 = .ok (.getfield 17, 3) := by decide +kernel
theorem dX5_switchRule_32 : decode cX5_switchRule 32 = .ok (.iload_n 3, 1) := by decide +kernel
theorem dX5_switchRule_33 : decode cX5_switchRule 33 = .ok (.dup2, 1) := by decide +kernel
theorem dX5_switchRule_34 : decode cX5_switchRule 34 = .ok (.iaload, 1) := by decide +kernel
theorem dX5_switchRule_35 : decode cX5_switchRule 35 = .ok (.aload_n 1, 1) := by decide +kernel
theorem dX5_switchRule_36 : decode cX5_switchRule 36 = .ok (.getfield 45, 3) := by decide +kernel
theorem dX5_switchRule_39 : decode cX5_switchRule 39 = .ok (.ior, 1) := by decide +kernel
theorem dX5_switchRule_40 : decode cX5_switchRule 40 = .ok (.iastore, 1) := by decide +kernel
theorem dX5_switchRule_41 : decode cX5_switchRule 41 = .ok (.goto 18, 3) := by decide +kernel
theorem dX5_switchRule_44 : decode cX5_switchRule 44 = .ok (.aload_n 0, 1) := by decide +kernel
theorem dX5_switchRule_45 : decode cX5_switchRule 45 = .ok (.getfield 17, 3) := by decide +kernel
theorem dX5_switchRule_48 : decode cX5_switchRule 48 = .ok (.iload_n 3, 1) := by decide +kernel
theorem dX5_switchRule_49 : decode cX5_switchRule 49 = .ok (.dup2, 1) := by decide +kernel
theorem dX5_switchRule_50 : decode cX5_switchRule 50 = .ok (.iaload, 1) := by decide +kernel
theorem dX5_switchRule_51 : decode cX5_switchRule 51 = .ok (.aload_n 1, 1) := by decide +kernel
theorem dX5_switchRule_52 : decode cX5_switchRule 52 = .ok (.getfield 45, 3) := by decide +kernel
theorem dX5_switchRule_55 : decode cX5_switchRule 55 = .ok (.iconst (-1), 1) := by decide +kernel
theorem dX5_switchRule_56 : decode cX5_switchRule 56 = .ok (.ixor, 1) := by decide +kernel
theorem dX5_switchRule_57 : decode cX5_switchRule 57 = .ok (.iand, 1) := by decide +kernel
theorem dX5_switchRule_58 : decode cX5_switchRule 58 = .ok (.iastore, 1) := by decide +kernel
theorem dX5_switchRule_59 : decode cX5_switchRule 59 = .ok (.return_, 1) := by decide +kernel
theorem dX5_listenersTo_0 : decode cX5_listenersTo 0 = .ok (.iload_n 1, 1) := by decide +kernel
theorem dX5_listenersTo_1 : decode cX5_listenersTo 1 = .ok (.ifCond .lt 21, 3) := by decide +kernel
theorem dX5_listenersTo_4 : decode cX5_listenersTo 4 = .ok (.iload_n 1, 1) := by decide +kernel
theorem dX5_listenersTo_5 : decode cX5_listenersTo 5 = .ok (.aload_n 0, 1) := by decide +kernel
theorem dX5_listenersTo_6 : decode cX5_listenersTo 6 = .ok (.getfield 17, 3) := by decide +kernel
theorem dX5_listenersTo_9 : decode cX5_listenersTo 9 = .ok (.arraylength, 1) := by decide +kernel
theorem dX5_listenersTo_10 : decode cX5_listenersTo 10 = .ok (.if_icmp .ge 12, 3) := by decide +kernel
theorem dX5_listenersTo_13 : decode cX5_listenersTo 13 = .ok (.aload_n 0, 1) := by decide +kernel
theorem dX5_listenersTo_14 : decode cX5_listenersTo 14 = .ok (.getfield 17, 3) := by decide +kernel
theorem dX5_listenersTo_17 : decode cX5_listenersTo 17 = .ok (.iload_n 1, 1) := by decide +kernel
theorem dX5_listenersTo_18 : decode cX5_listenersTo 18 = .ok (.iaload, 1) := by decide +kernel
theorem dX5_listenersTo_19 : decode cX5_listenersTo 19 = .ok (.goto 4, 3) := by decide +kernel
theorem dX5_listenersTo_22 : decode cX5_listenersTo 22 = .ok (.iconst 0, 1) := by decide +kernel
theorem dX5_listenersTo_23 : decode cX5_listenersTo 23 = .ok (.ireturn, 1) := by decide +kernel
theorem dX5_order_0 : decode cX5_order 0 = .ok (.aload_n 1, 1) := by decide +kernel
theorem dX5_order_1 : decode cX5_order 1 = .ok (.getfield 48, 3) := by decide +kernel
theorem dX5_order_4 : decode cX5_order 4 = .ok (.aload_n 1, 1) := by decide +kernel
theorem dX5_order_5 : decode cX5_order 5 = .ok (.getfield 45, 3) := by decide +kernel
theorem dX5_order_8 : decode cX5_order 8 = .ok (.ior, 1) := by decide +kernel
theorem dX5_order_9 : decode cX5_order 9 = .ok (.istore_n 3, 1) := by decide +kernel
theorem dX5_order_10 : decode cX5_order 10 = .ok (.aload_n 2, 1) := by decide +kernel
theorem dX5_order_11 : decode cX5_order 11 = .ok (.getfield 51, 3) := by decide +kernel
theorem dX5_order_14 : decode cX5_order 14 = .ok (.aload_n 2, 1) := by decide +kernel
theorem dX5_order_15 : decode cX5_order 15 = .ok (.getfield 45, 3) := by decide +kernel
theorem dX5_order_18 : decode cX5_order 18 = .ok (.ior, 1) := by decide +kernel
theorem dX5_order_19 : decode cX5_order 19 = .ok (.istore 4, 2) := by decide +kernel
theorem dX5_order_21 : decode cX5_order 21 = .ok (.iconst 0, 1) := by decide +kernel
theorem dX5_order_22 : decode cX5_order 22 = .ok (.istore 5, 2) := by decide +kernel
theorem dX5_order_24 : decode cX5_order 24 = .ok (.iload 5, 2) := by decide +kernel
theorem dX5_order_26 : decode cX5_order 26 = .ok (.aload_n 0, 1) := by decide +kernel
theorem dX5_order_27 : decode cX5_order 27 = .ok (.getfield 11, 3) := by decide +kernel
theorem dX5_order_30 : decode cX5_order 30 = .ok (.arraylength, 1) := by decide +kernel
theorem dX5_order_31 : decode cX5_order 31 = .ok (.if_icmp .ge 62, 3) := by decide +kernel
theorem dX5_order_34 : decode cX5_order 34 = .ok (.aload_n 0, 1) := by decide +kernel
theorem dX5_order_35 : decode cX5_order 35 = .ok (.getfield 11, 3) := by decide +kernel
theorem dX5_order_38 : decode cX5_order 38 = .ok (.iload 5, 2) := by decide +kernel
theorem dX5_order_40 : decode cX5_order 40 = .ok (.aaload, 1) := by decide +kernel
theorem dX5_order_41 : decode cX5_order 41 = .ok (.astore 6, 2) := by decide +kernel
theorem dX5_order_43 : decode cX5_order 43 = .ok (.iload_n 3, 1) := by decide +kernel
theorem dX5_order_44 : decode cX5_order 44 = .ok (.aload 6, 2) := by decide +kernel
theorem dX5_order_46 : decode cX5_order 46 = .ok (.getfield 45, 3) := by decide +kernel
theorem dX5_order_49 : decode cX5_order 49 = .ok (.iand, 1) := by decide +kernel
theorem dX5_order_50 : decode cX5_order 50 = .ok (.ifCond .eq 15, 3) := by decide +kernel
theorem dX5_order_53 : decode cX5_order 53 = .ok (.aload 6, 2) := by decide +kernel
theorem dX5_order_55 : decode cX5_order 55 = .ok (.dup, 1) := by decide +kernel
theorem dX5_order_56 : decode cX5_order 56 = .ok (.getfield 51, 3) := by decide +kernel
theorem dX5_order_59 : decode cX5_order 59 = .ok (.iload 4, 2) := by decide +kernel
theorem dX5_order_61 : decode cX5_order 61 = .ok (.ior, 1) := by decide +kernel
theorem dX5_order_62 : decode cX5_order 62 = .ok (.putfield 51, 3) := by decide +kernel
theorem dX5_order_65 : decode cX5_order 65 = .ok (.iload 4, 2) := by decide +kernel
theorem dX5_order_67 : decode cX5_order 67 = .ok (.aload 6, 2) := by decide +kernel
theorem dX5_order_69 : decode cX5_order 69 = .ok (.getfield 45, 3) := by decide +kernel
theorem dX5_order_72 : decode cX5_order 72 = .ok (.iand, 1) := by decide +kernel
theorem dX5_order_73 : decode cX5_order 73 = .ok (.ifCond .eq 14, 3) := by decide +kernel
theorem dX5_order_76 : decode cX5_order 76 = .ok (.aload 6, 2) := by decide +kernel
theorem dX5_order_78 : decode cX5_order 78 = .ok (.dup, 1) := by decide +kernel
theorem dX5_order_79 : decode cX5_order 79 = .ok (.getfield 48, 3) := by decide +kernel
theorem dX5_order_82 : decode cX5_order 82 = .ok (.iload_n 3, 1) := by decide +kernel
theorem dX5_order_83 : decode cX5_order 83 = .ok (.ior, 1) := by decide +kernel
theorem dX5_order_84 : decode cX5_order 84 = .ok (.putfield 48, 3) := by decide +kernel
theorem dX5_order_87 : decode cX5_order 87 = .ok (.iinc 5 1, 3) := by decide +kernel
theorem dX5_order_90 : decode cX5_order 90 = .ok (.goto (-66), 3) := by decide +kernel
theorem dX5_order_93 : decode cX5_order 93 = .ok (.return_, 1) := by decide +kernel
set_option maxRecDepth 20000 in
theorem ggX5_changed_X6_triggeredIn : GoodIn wsX5_changed wsX6_triggeredIn := goodIn_r _ [3] (by decide +kernel) (by decide +kernel)
set_option maxRecDepth 20000 in
theorem gX5_changed_X6_triggeredIn_n54 : GoodIn wsX5_changed (wsX6_triggeredIn) := ggX5_changed_X6_triggeredIn
set_option maxRecDepth 20000 in
theorem ggX5_changed_X5_listenersTo : GoodIn wsX5_changed wsX5_listenersTo := goodIn_r _ [8, 9, 14, 15, 16] (by decide +kernel) (by decide +kernel)
set_option maxRecDepth 20000 in
theorem gX5_changed_X5_listenersTo : GoodIn wsX5_changed (wsV RX5 58 RX5 yX5_listenersTo wsX5_listenersTo) := goodIn_app (goodIn_of _ (by decide +kernel)) ggX5_changed_X5_listenersTo
set_option maxRecDepth 20000 in
theorem ggX5_changed_X6_factsIn : GoodIn wsX5_changed wsX6_factsIn := goodIn_r _ [11] (by decide +kernel) (by decide +kernel)
set_option maxRecDepth 20000 in
theorem gX5_changed_X6_factsIn_n61 : GoodIn wsX5_changed (wsX6_factsIn) := ggX5_changed_X6_factsIn
set_option maxRecDepth 20000 in
theorem ggX5_changed_X6_situationOf : GoodIn wsX5_changed wsX6_situationOf := goodIn_r _ [13] (by decide +kernel) (by decide +kernel)
set_option maxRecDepth 20000 in
theorem gX5_changed_X6_situationOf_n64 : GoodIn wsX5_changed (wsX6_situationOf) := ggX5_changed_X6_situationOf
theorem dX5_changed_0 : decode cX5_changed 0 = .ok (.iconst 1, 1) := by decide +kernel
theorem dX5_changed_1 : decode cX5_changed 1 = .ok (.iload_n 2, 1) := by decide +kernel
theorem dX5_changed_2 : decode cX5_changed 2 = .ok (.iconst 1, 1) := by decide +kernel
theorem dX5_changed_3 : decode cX5_changed 3 = .ok (.ishr, 1) := by decide +kernel
theorem dX5_changed_4 : decode cX5_changed 4 = .ok (.ishl, 1) := by decide +kernel
theorem dX5_changed_5 : decode cX5_changed 5 = .ok (.istore_n 3, 1) := by decide +kernel
theorem dX5_changed_6 : decode cX5_changed 6 = .ok (.iload_n 2, 1) := by decide +kernel
theorem dX5_changed_7 : decode cX5_changed 7 = .ok (.iconst 1, 1) := by decide +kernel
theorem dX5_changed_8 : decode cX5_changed 8 = .ok (.iand, 1) := by decide +kernel
theorem dX5_changed_9 : decode cX5_changed 9 = .ok (.iconst 1, 1) := by decide +kernel
theorem dX5_changed_10 : decode cX5_changed 10 = .ok (.if_icmp .ne 7, 3) := by decide +kernel
theorem dX5_changed_13 : decode cX5_changed 13 = .ok (.iconst 1, 1) := by decide +kernel
theorem dX5_changed_14 : decode cX5_changed 14 = .ok (.goto 4, 3) := by decide +kernel
theorem dX5_changed_17 : decode cX5_changed 17 = .ok (.iconst 0, 1) := by decide +kernel
theorem dX5_changed_18 : decode cX5_changed 18 = .ok (.istore 4, 2) := by decide +kernel
theorem dX5_changed_20 : decode cX5_changed 20 = .ok (.iload_n 1, 1) := by decide +kernel
theorem dX5_changed_21 : decode cX5_changed 21 = .ok (.iload_n 3, 1) := by decide +kernel
theorem dX5_changed_22 : decode cX5_changed 22 = .ok (.iand, 1) := by decide +kernel
theorem dX5_changed_23 : decode cX5_changed 23 = .ok (.ifCond .eq 7, 3) := by decide +kernel
theorem dX5_changed_26 : decode cX5_changed 26 = .ok (.iconst 1, 1) := by decide +kernel
theorem dX5_changed_27 : decode cX5_changed 27 = .ok (.goto 4, 3) := by decide +kernel
theorem dX5_changed_30 : decode cX5_changed 30 = .ok (.iconst 0, 1) := by decide +kernel
theorem dX5_changed_31 : decode cX5_changed 31 = .ok (.istore 5, 2) := by decide +kernel
theorem dX5_changed_33 : decode cX5_changed 33 = .ok (.iload 4, 2) := by decide +kernel
theorem dX5_changed_35 : decode cX5_changed 35 = .ok (.iload 5, 2) := by decide +kernel
theorem dX5_changed_37 : decode cX5_changed 37 = .ok (.if_icmp .ne 5, 3) := by decide +kernel
theorem dX5_changed_40 : decode cX5_changed 40 = .ok (.iload_n 1, 1) := by decide +kernel
theorem dX5_changed_41 : decode cX5_changed 41 = .ok (.ireturn, 1) := by decide +kernel
theorem dX5_changed_42 : decode cX5_changed 42 = .ok (.iload_n 1, 1) := by decide +kernel
theorem dX5_changed_43 : decode cX5_changed 43 = .ok (.invokestatic 54, 3) := by decide +kernel
theorem dX5_changed_46 : decode cX5_changed 46 = .ok (.aload_n 0, 1) := by decide +kernel
theorem dX5_changed_47 : decode cX5_changed 47 = .ok (.iload_n 2, 1) := by decide +kernel
theorem dX5_changed_48 : decode cX5_changed 48 = .ok (.invokevirtual 58, 3) := by decide +kernel
theorem dX5_changed_51 : decode cX5_changed 51 = .ok (.ior, 1) := by decide +kernel
theorem dX5_changed_52 : decode cX5_changed 52 = .ok (.istore 6, 2) := by decide +kernel
theorem dX5_changed_54 : decode cX5_changed 54 = .ok (.iload_n 1, 1) := by decide +kernel
theorem dX5_changed_55 : decode cX5_changed 55 = .ok (.invokestatic 61, 3) := by decide +kernel
theorem dX5_changed_58 : decode cX5_changed 58 = .ok (.iload_n 3, 1) := by decide +kernel
theorem dX5_changed_59 : decode cX5_changed 59 = .ok (.ixor, 1) := by decide +kernel
theorem dX5_changed_60 : decode cX5_changed 60 = .ok (.iload 6, 2) := by decide +kernel
theorem dX5_changed_62 : decode cX5_changed 62 = .ok (.invokestatic 64, 3) := by decide +kernel
theorem dX5_changed_65 : decode cX5_changed 65 = .ok (.ireturn, 1) := by decide +kernel
set_option maxRecDepth 20000 in
theorem ggX5_readyIn_X4_isReadyIn : GoodIn wsX5_readyIn wsX4_isReadyIn := goodIn_r _ [7, 8, 9, 10, 11, 12, 16, 17, 18, 19, 20, 21, 22, 23, 24, 25, 26] (by decide +kernel) (by decide +kernel)
set_option maxRecDepth 20000 in
theorem gX5_readyIn_X4_isReadyIn : GoodIn wsX5_readyIn (wsV RX5 68 RX4 yX4_isReadyIn wsX4_isReadyIn) := goodIn_app (goodIn_of _ (by decide +kernel)) ggX5_readyIn_X4_isReadyIn
theorem dX5_readyIn_0 : decode cX5_readyIn 0 = .ok (.iconst 0, 1) := by decide +kernel
theorem dX5_readyIn_1 : decode cX5_readyIn 1 = .ok (.istore_n 2, 1) := by decide +kernel
theorem dX5_readyIn_2 : decode cX5_readyIn 2 = .ok (.iconst 0, 1) := by decide +kernel
theorem dX5_readyIn_3 : decode cX5_readyIn 3 = .ok (.istore_n 3, 1) := by decide +kernel
theorem dX5_readyIn_4 : decode cX5_readyIn 4 = .ok (.iload_n 3, 1) := by decide +kernel
theorem dX5_readyIn_5 : decode cX5_readyIn 5 = .ok (.aload_n 0, 1) := by decide +kernel
theorem dX5_readyIn_6 : decode cX5_readyIn 6 = .ok (.getfield 11, 3) := by decide +kernel
theorem dX5_readyIn_9 : decode cX5_readyIn 9 = .ok (.arraylength, 1) := by decide +kernel
theorem dX5_readyIn_10 : decode cX5_readyIn 10 = .ok (.if_icmp .ge 34, 3) := by decide +kernel
theorem dX5_readyIn_13 : decode cX5_readyIn 13 = .ok (.aload_n 0, 1) := by decide +kernel
theorem dX5_readyIn_14 : decode cX5_readyIn 14 = .ok (.getfield 11, 3) := by decide +kernel
theorem dX5_readyIn_17 : decode cX5_readyIn 17 = .ok (.iload_n 3, 1) := by decide +kernel
theorem dX5_readyIn_18 : decode cX5_readyIn 18 = .ok (.aaload, 1) := by decide +kernel
theorem dX5_readyIn_19 : decode cX5_readyIn 19 = .ok (.iload_n 1, 1) := by decide +kernel
theorem dX5_readyIn_20 : decode cX5_readyIn 20 = .ok (.invokevirtual 68, 3) := by decide +kernel
theorem dX5_readyIn_23 : decode cX5_readyIn 23 = .ok (.ifCond .eq 15, 3) := by decide +kernel
theorem dX5_readyIn_26 : decode cX5_readyIn 26 = .ok (.iload_n 2, 1) := by decide +kernel
theorem dX5_readyIn_27 : decode cX5_readyIn 27 = .ok (.aload_n 0, 1) := by decide +kernel
theorem dX5_readyIn_28 : decode cX5_readyIn 28 = .ok (.getfield 11, 3) := by decide +kernel
theorem dX5_readyIn_31 : decode cX5_readyIn 31 = .ok (.iload_n 3, 1) := by decide +kernel
theorem dX5_readyIn_32 : decode cX5_readyIn 32 = .ok (.aaload, 1) := by decide +kernel
theorem dX5_readyIn_33 : decode cX5_readyIn 33 = .ok (.getfield 45, 3) := by decide +kernel
theorem dX5_readyIn_36 : decode cX5_readyIn 36 = .ok (.ior, 1) := by decide +kernel
theorem dX5_readyIn_37 : decode cX5_readyIn 37 = .ok (.istore_n 2, 1) := by decide +kernel
theorem dX5_readyIn_38 : decode cX5_readyIn 38 = .ok (.iinc 3 1, 3) := by decide +kernel
theorem dX5_readyIn_41 : decode cX5_readyIn 41 = .ok (.goto (-37), 3) := by decide +kernel
theorem dX5_readyIn_44 : decode cX5_readyIn 44 = .ok (.iload_n 2, 1) := by decide +kernel
theorem dX5_readyIn_45 : decode cX5_readyIn 45 = .ok (.ireturn, 1) := by decide +kernel
set_option maxRecDepth 20000 in
theorem ggX5_firstReadyIn_X4_isReadyIn : GoodIn wsX5_firstReadyIn wsX4_isReadyIn := goodIn_r _ [6, 7, 8, 9, 10, 11, 15, 16, 17, 18, 19, 20, 21, 22, 23, 24, 25] (by decide +kernel) (by decide +kernel)
set_option maxRecDepth 20000 in
theorem gX5_firstReadyIn_X4_isReadyIn : GoodIn wsX5_firstReadyIn (wsV RX5 68 RX4 yX4_isReadyIn wsX4_isReadyIn) := goodIn_app (goodIn_of _ (by decide +kernel)) ggX5_firstReadyIn_X4_isReadyIn
theorem dX5_firstReadyIn_0 : decode cX5_firstReadyIn 0 = .ok (.iconst 0, 1) := by decide +kernel
theorem dX5_firstReadyIn_1 : decode cX5_firstReadyIn 1 = .ok (.istore_n 2, 1) := by decide +kernel
theorem dX5_firstReadyIn_2 : decode cX5_firstReadyIn 2 = .ok (.iload_n 2, 1) := by decide +kernel
theorem dX5_firstReadyIn_3 : decode cX5_firstReadyIn 3 = .ok (.aload_n 0, 1) := by decide +kernel
theorem dX5_firstReadyIn_4 : decode cX5_firstReadyIn 4 = .ok (.getfield 11, 3) := by decide +kernel
theorem dX5_firstReadyIn_7 : decode cX5_firstReadyIn 7 = .ok (.arraylength, 1) := by decide +kernel
theorem dX5_firstReadyIn_8 : decode cX5_firstReadyIn 8 = .ok (.if_icmp .ge 29, 3) := by decide +kernel
theorem dX5_firstReadyIn_11 : decode cX5_firstReadyIn 11 = .ok (.aload_n 0, 1) := by decide +kernel
theorem dX5_firstReadyIn_12 : decode cX5_firstReadyIn 12 = .ok (.getfield 11, 3) := by decide +kernel
theorem dX5_firstReadyIn_15 : decode cX5_firstReadyIn 15 = .ok (.iload_n 2, 1) := by decide +kernel
theorem dX5_firstReadyIn_16 : decode cX5_firstReadyIn 16 = .ok (.aaload, 1) := by decide +kernel
theorem dX5_firstReadyIn_17 : decode cX5_firstReadyIn 17 = .ok (.iload_n 1, 1) := by decide +kernel
theorem dX5_firstReadyIn_18 : decode cX5_firstReadyIn 18 = .ok (.invokevirtual 68, 3) := by decide +kernel
theorem dX5_firstReadyIn_21 : decode cX5_firstReadyIn 21 = .ok (.ifCond .eq 10, 3) := by decide +kernel
theorem dX5_firstReadyIn_24 : decode cX5_firstReadyIn 24 = .ok (.aload_n 0, 1) := by decide +kernel
theorem dX5_firstReadyIn_25 : decode cX5_firstReadyIn 25 = .ok (.getfield 11, 3) := by decide +kernel
theorem dX5_firstReadyIn_28 : decode cX5_firstReadyIn 28 = .ok (.iload_n 2, 1) := by decide +kernel
theorem dX5_firstReadyIn_29 : decode cX5_firstReadyIn 29 = .ok (.aaload, 1) := by decide +kernel
theorem dX5_firstReadyIn_30 : decode cX5_firstReadyIn 30 = .ok (.areturn, 1) := by decide +kernel
theorem dX5_firstReadyIn_31 : decode cX5_firstReadyIn 31 = .ok (.iinc 2 1, 3) := by decide +kernel
theorem dX5_firstReadyIn_34 : decode cX5_firstReadyIn 34 = .ok (.goto (-32), 3) := by decide +kernel
theorem dX5_firstReadyIn_37 : decode cX5_firstReadyIn 37 = .ok (.aconst_null, 1) := by decide +kernel
theorem dX5_firstReadyIn_38 : decode cX5_firstReadyIn 38 = .ok (.areturn, 1) := by decide +kernel
set_option maxRecDepth 20000 in
theorem ggX5_played_X6_factsIn : GoodIn wsX5_played wsX6_factsIn := goodIn_r _ [5] (by decide +kernel) (by decide +kernel)
set_option maxRecDepth 20000 in
theorem gX5_played_X6_factsIn_n61 : GoodIn wsX5_played (wsX6_factsIn) := ggX5_played_X6_factsIn
set_option maxRecDepth 20000 in
theorem ggX5_played_X6_triggeredIn : GoodIn wsX5_played wsX6_triggeredIn := goodIn_r _ [7] (by decide +kernel) (by decide +kernel)
set_option maxRecDepth 20000 in
theorem gX5_played_X6_triggeredIn_n54 : GoodIn wsX5_played (wsX6_triggeredIn) := ggX5_played_X6_triggeredIn
set_option maxRecDepth 20000 in
theorem ggX5_played_X6_situationOf : GoodIn wsX5_played wsX6_situationOf := goodIn_r _ [9] (by decide +kernel) (by decide +kernel)
set_option maxRecDepth 20000 in
theorem gX5_played_X6_situationOf_n64 : GoodIn wsX5_played (wsX6_situationOf) := ggX5_played_X6_situationOf
set_option maxRecDepth 20000 in
theorem ggX5_played_X4_holdsIn : GoodIn wsX5_played wsX4_holdsIn := goodIn_r _ [14, 15, 16, 3, 4, 5, 32, 33, 34, 35, 36, 37, 38, 39, 40, 41, 42] (by decide +kernel) (by decide +kernel)
set_option maxRecDepth 20000 in
theorem gX5_played_X4_holdsIn : GoodIn wsX5_played (wsV RX5 72 RX4 yX4_holdsIn wsX4_holdsIn) := goodIn_app (goodIn_of _ (by decide +kernel)) ggX5_played_X4_holdsIn
set_option maxRecDepth 20000 in
theorem ggX5_played_X4_actionAt : GoodIn wsX5_played wsX4_actionAt := goodIn_r _ [20, 21, 32, 33, 34, 35, 36, 37, 38, 39, 40, 41, 42] (by decide +kernel) (by decide +kernel)
set_option maxRecDepth 20000 in
theorem gX5_played_X4_actionAt : GoodIn wsX5_played (wsV RX5 78 RX4 yX4_actionAt wsX4_actionAt) := goodIn_app (goodIn_of _ (by decide +kernel)) ggX5_played_X4_actionAt
set_option maxRecDepth 20000 in
theorem ggX5_played_X5_changed : GoodIn wsX5_played wsX5_changed := goodIn_r _ [26, 6, 4, 7, 27, 28, 29, 25, 30, 31, 3, 5, 8, 9, 43, 44, 45] (by decide +kernel) (by decide +kernel)
set_option maxRecDepth 20000 in
theorem gX5_played_X5_changed : GoodIn wsX5_played (wsV RX5 81 RX5 yX5_changed wsX5_changed) := goodIn_app (goodIn_of _ (by decide +kernel)) ggX5_played_X5_changed
theorem dX5_played_0 : decode cX5_played 0 = .ok (.iload_n 1, 1) := by decide +kernel
theorem dX5_played_1 : decode cX5_played 1 = .ok (.invokestatic 61, 3) := by decide +kernel
theorem dX5_played_4 : decode cX5_played 4 = .ok (.iload_n 1, 1) := by decide +kernel
theorem dX5_played_5 : decode cX5_played 5 = .ok (.invokestatic 54, 3) := by decide +kernel
theorem dX5_played_8 : decode cX5_played 8 = .ok (.aload_n 2, 1) := by decide +kernel
theorem dX5_played_9 : decode cX5_played 9 = .ok (.getfield 45, 3) := by decide +kernel
theorem dX5_played_12 : decode cX5_played 12 = .ok (.iconst (-1), 1) := by decide +kernel
theorem dX5_played_13 : decode cX5_played 13 = .ok (.ixor, 1) := by decide +kernel
theorem dX5_played_14 : decode cX5_played 14 = .ok (.iand, 1) := by decide +kernel
theorem dX5_played_15 : decode cX5_played 15 = .ok (.invokestatic 64, 3) := by decide +kernel
theorem dX5_played_18 : decode cX5_played 18 = .ok (.istore_n 3, 1) := by decide +kernel
theorem dX5_played_19 : decode cX5_played 19 = .ok (.aload_n 2, 1) := by decide +kernel
theorem dX5_played_20 : decode cX5_played 20 = .ok (.iload_n 3, 1) := by decide +kernel
theorem dX5_played_21 : decode cX5_played 21 = .ok (.invokevirtual 72, 3) := by decide +kernel
theorem dX5_played_24 : decode cX5_played 24 = .ok (.ifCond .ne 5, 3) := by decide +kernel
theorem dX5_played_27 : decode cX5_played 27 = .ok (.iload_n 3, 1) := by decide +kernel
theorem dX5_played_28 : decode cX5_played 28 = .ok (.ireturn, 1) := by decide +kernel
theorem dX5_played_29 : decode cX5_played 29 = .ok (.iconst 0, 1) := by decide +kernel
theorem dX5_played_30 : decode cX5_played 30 = .ok (.istore 4, 2) := by decide +kernel
theorem dX5_played_32 : decode cX5_played 32 = .ok (.iload 4, 2) := by decide +kernel
theorem dX5_played_34 : decode cX5_played 34 = .ok (.aload_n 2, 1) := by decide +kernel
theorem dX5_played_35 : decode cX5_played 35 = .ok (.getfield 75, 3) := by decide +kernel
theorem dX5_played_38 : decode cX5_played 38 = .ok (.if_icmp .ge 21, 3) := by decide +kernel
theorem dX5_played_41 : decode cX5_played 41 = .ok (.aload_n 0, 1) := by decide +kernel
theorem dX5_played_42 : decode cX5_played 42 = .ok (.iload_n 3, 1) := by decide +kernel
theorem dX5_played_43 : decode cX5_played 43 = .ok (.aload_n 2, 1) := by decide +kernel
theorem dX5_played_44 : decode cX5_played 44 = .ok (.iload 4, 2) := by decide +kernel
theorem dX5_played_46 : decode cX5_played 46 = .ok (.invokevirtual 78, 3) := by decide +kernel
theorem dX5_played_49 : decode cX5_played 49 = .ok (.invokevirtual 81, 3) := by decide +kernel
theorem dX5_played_52 : decode cX5_played 52 = .ok (.istore_n 3, 1) := by decide +kernel
theorem dX5_played_53 : decode cX5_played 53 = .ok (.iinc 4 1, 3) := by decide +kernel
theorem dX5_played_56 : decode cX5_played 56 = .ok (.goto (-24), 3) := by decide +kernel
theorem dX5_played_59 : decode cX5_played 59 = .ok (.iload_n 3, 1) := by decide +kernel
theorem dX5_played_60 : decode cX5_played 60 = .ok (.ireturn, 1) := by decide +kernel
set_option maxRecDepth 20000 in
theorem ggX5_triggerableBy_X4_actionAt : GoodIn wsX5_triggerableBy wsX4_actionAt := goodIn_r _ [7, 8, 15, 16, 17, 18, 19, 20, 21, 22, 23, 24, 25] (by decide +kernel) (by decide +kernel)
set_option maxRecDepth 20000 in
theorem gX5_triggerableBy_X4_actionAt : GoodIn wsX5_triggerableBy (wsV RX5 78 RX4 yX4_actionAt wsX4_actionAt) := goodIn_app (goodIn_of _ (by decide +kernel)) ggX5_triggerableBy_X4_actionAt
set_option maxRecDepth 20000 in
theorem ggX5_triggerableBy_X5_listenersTo : GoodIn wsX5_triggerableBy wsX5_listenersTo := goodIn_r _ [13, 14, 26, 27, 28] (by decide +kernel) (by decide +kernel)
set_option maxRecDepth 20000 in
theorem gX5_triggerableBy_X5_listenersTo : GoodIn wsX5_triggerableBy (wsV RX5 58 RX5 yX5_listenersTo wsX5_listenersTo) := goodIn_app (goodIn_of _ (by decide +kernel)) ggX5_triggerableBy_X5_listenersTo
theorem dX5_triggerableBy_0 : decode cX5_triggerableBy 0 = .ok (.iconst 0, 1) := by decide +kernel
theorem dX5_triggerableBy_1 : decode cX5_triggerableBy 1 = .ok (.istore_n 2, 1) := by decide +kernel
theorem dX5_triggerableBy_2 : decode cX5_triggerableBy 2 = .ok (.aload_n 1, 1) := by decide +kernel
theorem dX5_triggerableBy_3 : decode cX5_triggerableBy 3 = .ok (.getfield 41, 3) := by decide +kernel
theorem dX5_triggerableBy_6 : decode cX5_triggerableBy 6 = .ok (.ifCond .eq 31, 3) := by decide +kernel
theorem dX5_triggerableBy_9 : decode cX5_triggerableBy 9 = .ok (.iconst 0, 1) := by decide +kernel
theorem dX5_triggerableBy_10 : decode cX5_triggerableBy 10 = .ok (.istore_n 3, 1) := by decide +kernel
theorem dX5_triggerableBy_11 : decode cX5_triggerableBy 11 = .ok (.iload_n 3, 1) := by decide +kernel
theorem dX5_triggerableBy_12 : decode cX5_triggerableBy 12 = .ok (.aload_n 1, 1) := by decide +kernel
theorem dX5_triggerableBy_13 : decode cX5_triggerableBy 13 = .ok (.getfield 75, 3) := by decide +kernel
theorem dX5_triggerableBy_16 : decode cX5_triggerableBy 16 = .ok (.if_icmp .ge 21, 3) := by decide +kernel
theorem dX5_triggerableBy_19 : decode cX5_triggerableBy 19 = .ok (.iload_n 2, 1) := by decide +kernel
theorem dX5_triggerableBy_20 : decode cX5_triggerableBy 20 = .ok (.aload_n 0, 1) := by decide +kernel
theorem dX5_triggerableBy_21 : decode cX5_triggerableBy 21 = .ok (.aload_n 1, 1) := by decide +kernel
theorem dX5_triggerableBy_22 : decode cX5_triggerableBy 22 = .ok (.iload_n 3, 1) := by decide +kernel
theorem dX5_triggerableBy_23 : decode cX5_triggerableBy 23 = .ok (.invokevirtual 78, 3) := by decide +kernel
theorem dX5_triggerableBy_26 : decode cX5_triggerableBy 26 = .ok (.invokevirtual 58, 3) := by decide +kernel
theorem dX5_triggerableBy_29 : decode cX5_triggerableBy 29 = .ok (.ior, 1) := by decide +kernel
theorem dX5_triggerableBy_30 : decode cX5_triggerableBy 30 = .ok (.istore_n 2, 1) := by decide +kernel
theorem dX5_triggerableBy_31 : decode cX5_triggerableBy 31 = .ok (.iinc 3 1, 3) := by decide +kernel
theorem dX5_triggerableBy_34 : decode cX5_triggerableBy 34 = .ok (.goto (-23), 3) := by decide +kernel
theorem dX5_triggerableBy_37 : decode cX5_triggerableBy 37 = .ok (.iload_n 2, 1) := by decide +kernel
theorem dX5_triggerableBy_38 : decode cX5_triggerableBy 38 = .ok (.ireturn, 1) := by decide +kernel
set_option maxRecDepth 20000 in
theorem ggX6_init_X5_init : GoodIn wsX6_init wsX5_init := goodIn_r _ [18, 19, 2, 3, 20, 21, 22, 23, 24, 25, 26, 27, 28, 29, 30, 31, 70, 71, 72, 91, 92, 93, 94, 95, 96, 97, 98, 99, 100, 101] (by decide +kernel) (by decide +kernel)
set_option maxRecDepth 20000 in
theorem gX6_init_X5_init : GoodIn wsX6_init (wsX5_init) := ggX6_init_X5_init
set_option maxRecDepth 20000 in
theorem ggX6_init_X2_init : GoodIn wsX6_init wsX2_init := goodIn_r _ [34, 35, 2, 3, 22, 36, 37, 77, 78] (by decide +kernel) (by decide +kernel)
set_option maxRecDepth 20000 in
theorem gX6_init_X2_init : GoodIn wsX6_init (wsX2_init) := ggX6_init_X2_init
set_option maxRecDepth 20000 in
theorem ggX6_init_X1_init : GoodIn wsX6_init wsX1_init := goodIn_r _ [40, 41, 2, 3, 22, 42, 43, 44, 45, 46, 47, 48, 49, 50, 51, 52, 53, 54, 55, 56, 57, 58, 59, 60, 61, 62, 63, 64, 65, 66, 67, 68, 69, 79, 80, 81, 82, 83, 84, 85, 86, 87, 88, 89, 90, 102, 103, 104, 105, 106, 107, 108, 109, 110, 111, 112] (by decide +kernel) (by decide +kernel)
set_option maxRecDepth 20000 in
theorem gX6_init_X1_init : GoodIn wsX6_init (wsX1_init) := ggX6_init_X1_init
theorem dX6_init_0 : decode cX6_init 0 = .ok (.aload_n 0, 1) := by decide +kernel
theorem dX6_init_1 : decode cX6_init 1 = .ok (.invokespecial 1, 3) := by decide +kernel
theorem dX6_init_4 : decode cX6_init 4 = .ok (.aload_n 0, 1) := by decide +kernel
theorem dX6_init_5 : decode cX6_init 5 = .ok (.new 7, 3) := by decide +kernel
theorem dX6_init_8 : decode cX6_init 8 = .ok (.dup, 1) := by decide +kernel
theorem dX6_init_9 : decode cX6_init 9 = .ok (.invokespecial 9, 3) := by decide +kernel
theorem dX6_init_12 : decode cX6_init 12 = .ok (.putfield 10, 3) := by decide +kernel
theorem dX6_init_15 : decode cX6_init 15 = .ok (.aload_n 0, 1) := by decide +kernel
theorem dX6_init_16 : decode cX6_init 16 = .ok (.new 16, 3) := by decide +kernel
theorem dX6_init_19 : decode cX6_init 19 = .ok (.dup, 1) := by decide +kernel
theorem dX6_init_20 : decode cX6_init 20 = .ok (.aload_n 0, 1) := by decide +kernel
theorem dX6_init_21 : decode cX6_init 21 = .ok (.getfield 10, 3) := by decide +kernel
theorem dX6_init_24 : decode cX6_init 24 = .ok (.invokespecial 18, 3) := by decide +kernel
theorem dX6_init_27 : decode cX6_init 27 = .ok (.putfield 21, 3) := by decide +kernel
theorem dX6_init_30 : decode cX6_init 30 = .ok (.aload_n 0, 1) := by decide +kernel
theorem dX6_init_31 : decode cX6_init 31 = .ok (.new 25, 3) := by decide +kernel
theorem dX6_init_34 : decode cX6_init 34 = .ok (.dup, 1) := by decide +kernel
theorem dX6_init_35 : decode cX6_init 35 = .ok (.aload_n 0, 1) := by decide +kernel
theorem dX6_init_36 : decode cX6_init 36 = .ok (.getfield 10, 3) := by decide +kernel
theorem dX6_init_39 : decode cX6_init 39 = .ok (.invokespecial 27, 3) := by decide +kernel
theorem dX6_init_42 : decode cX6_init 42 = .ok (.putfield 28, 3) := by decide +kernel
theorem dX6_init_45 : decode cX6_init 45 = .ok (.return_, 1) := by decide +kernel
set_option maxRecDepth 20000 in
theorem ggX6_addRule_X6_needFact : GoodIn wsX6_addRule wsX6_needFact := goodIn_ca (goodIn_r _ [8, 9, 10] (by decide +kernel) (by decide +kernel)) (goodIn_sub (fun _ h => List.mem_cons_of_mem _ (List.mem_append_left _ (List.mem_append_right _ h))) (by decide +kernel))
set_option maxRecDepth 20000 in
theorem gX6_addRule_X6_needFact : GoodIn wsX6_addRule (va_wsS RX6 32 yX6_needFact wsX6_needFact) := goodIn_app (goodIn_of _ (by decide +kernel)) ggX6_addRule_X6_needFact
set_option maxRecDepth 20000 in
theorem ggX6_addRule_X6_needFactSet : GoodIn wsX6_addRule wsX6_needFactSet := goodIn_ca (goodIn_r _ [13, 14, 15] (by decide +kernel) (by decide +kernel)) (goodIn_sub (fun _ h => List.mem_cons_of_mem _ (List.mem_append_right _ h)) (by decide +kernel))
set_option maxRecDepth 20000 in
theorem gX6_addRule_X6_needFactSet : GoodIn wsX6_addRule (va_wsS RX6 36 yX6_needFactSet wsX6_needFactSet) := goodIn_app (goodIn_of _ (by decide +kernel)) ggX6_addRule_X6_needFactSet
set_option maxRecDepth 20000 in
theorem ggX6_addRule_X5_isFull : GoodIn wsX6_addRule wsX5_isFull := goodIn_r _ [20, 21, 22, 50, 51, 52] (by decide +kernel) (by decide +kernel)
set_option maxRecDepth 20000 in
theorem gX6_addRule_X5_isFull : GoodIn wsX6_addRule (wsV RX6 39 RX5 yX5_isFull wsX5_isFull) := goodIn_app (goodIn_of _ (by decide +kernel)) ggX6_addRule_X5_isFull
set_option maxRecDepth 20000 in
theorem ggX6_addRule_X1_forget : GoodIn wsX6_addRule wsX1_forget := goodIn_r _ [27, 28, 53, 54, 55, 56, 57, 58, 59, 60, 61, 62, 63, 64] (by decide +kernel) (by decide +kernel)
set_option maxRecDepth 20000 in
theorem gX6_addRule_X1_forget : GoodIn wsX6_addRule (wsV RX6 50 RX1 yX1_forget wsX1_forget) := goodIn_app (goodIn_of _ (by decide +kernel)) ggX6_addRule_X1_forget
set_option maxRecDepth 20000 in
theorem ggX6_addRule_X6_changeCode : GoodIn wsX6_addRule wsX6_changeCode := goodIn_r _ [31] (by decide +kernel) (by decide +kernel)
set_option maxRecDepth 20000 in
theorem gX6_addRule_X6_changeCode : GoodIn wsX6_addRule (va_wsS RX6 53 yX6_changeCode wsX6_changeCode) := goodIn_app (goodIn_of _ (by decide +kernel)) ggX6_addRule_X6_changeCode
set_option maxRecDepth 20000 in
theorem ggX6_addRule_X5_append : GoodIn wsX6_addRule wsX5_append := goodIn_r _ [35, 21, 22, 36, 37, 38, 39, 40, 41, 19, 42, 43, 44, 45, 50, 51, 52, 65, 66, 67, 68, 69, 70, 71, 72, 73, 74, 75] (by decide +kernel) (by decide +kernel)
set_option maxRecDepth 20000 in
theorem gX6_addRule_X5_append : GoodIn wsX6_addRule (wsV RX6 57 RX5 yX5_append wsX5_append) := goodIn_app (goodIn_of _ (by decide +kernel)) ggX6_addRule_X5_append
theorem dX6_addRule_0 : decode cX6_addRule 0 = .ok (.iload_n 1, 1) := by decide +kernel
theorem dX6_addRule_1 : decode cX6_addRule 1 = .ok (.invokestatic 32, 3) := by decide +kernel
theorem dX6_addRule_4 : decode cX6_addRule 4 = .ok (.iload_n 3, 1) := by decide +kernel
theorem dX6_addRule_5 : decode cX6_addRule 5 = .ok (.invokestatic 36, 3) := by decide +kernel
theorem dX6_addRule_8 : decode cX6_addRule 8 = .ok (.iload 4, 2) := by decide +kernel
theorem dX6_addRule_10 : decode cX6_addRule 10 = .ok (.invokestatic 36, 3) := by decide +kernel
theorem dX6_addRule_13 : decode cX6_addRule 13 = .ok (.aload_n 0, 1) := by decide +kernel
theorem dX6_addRule_14 : decode cX6_addRule 14 = .ok (.getfield 10, 3) := by decide +kernel
theorem dX6_addRule_17 : decode cX6_addRule 17 = .ok (.invokevirtual 39, 3) := by decide +kernel
theorem dX6_addRule_20 : decode cX6_addRule 20 = .ok (.ifCond .eq 13, 3) := by decide +kernel
theorem dX6_addRule_23 : decode cX6_addRule 23 = .ok (.new 43, 3) := by decide +kernel
theorem dX6_addRule_26 : decode cX6_addRule 26 = .ok (.dup, 1) := by decide +kernel
theorem dX6_addRule_27 : decode cX6_addRule 27 = .ok (.ldc 45, 2) := by decide +kernel
theorem dX6_addRule_29 : decode cX6_addRule 29 = .ok (.invokespecial 47, 3) := by decide +kernel
theorem dX6_addRule_32 : decode cX6_addRule 32 = .ok (.athrow, 1) := by decide +kernel
theorem dX6_addRule_33 : decode cX6_addRule 33 = .ok (.aload_n 0, 1) := by decide +kernel
theorem dX6_addRule_34 : decode cX6_addRule 34 = .ok (.getfield 28, 3) := by decide +kernel
theorem dX6_addRule_37 : decode cX6_addRule 37 = .ok (.invokevirtual 50, 3) := by decide +kernel
theorem dX6_addRule_40 : decode cX6_addRule 40 = .ok (.aload_n 0, 1) := by decide +kernel
theorem dX6_addRule_41 : decode cX6_addRule 41 = .ok (.getfield 10, 3) := by decide +kernel
theorem dX6_addRule_44 : decode cX6_addRule 44 = .ok (.iload_n 1, 1) := by decide +kernel
theorem dX6_addRule_45 : decode cX6_addRule 45 = .ok (.iload_n 2, 1) := by decide +kernel
theorem dX6_addRule_46 : decode cX6_addRule 46 = .ok (.invokestatic 53, 3) := by decide +kernel
theorem dX6_addRule_49 : decode cX6_addRule 49 = .ok (.iload_n 3, 1) := by decide +kernel
theorem dX6_addRule_50 : decode cX6_addRule 50 = .ok (.iload 4, 2) := by decide +kernel
theorem dX6_addRule_52 : decode cX6_addRule 52 = .ok (.invokevirtual 57, 3) := by decide +kernel
theorem dX6_addRule_55 : decode cX6_addRule 55 = .ok (.ireturn, 1) := by decide +kernel
set_option maxRecDepth 20000 in
theorem ggX6_addAction_X6_ruleAt : GoodIn wsX6_addAction wsX6_ruleAt := goodIn_ca (goodIn_r _ [9, 10, 11, 12, 13, 14, 15, 16, 17, 18, 19, 45, 46, 47, 48, 60, 61, 62] (by decide +kernel) (by decide +kernel)) (goodIn_sub (fun _ h => List.mem_cons_of_mem _ (List.mem_append_right _ h)) (by decide +kernel))
set_option maxRecDepth 20000 in
theorem gX6_addAction_X6_ruleAt : GoodIn wsX6_addAction (wsV RX6 61 RX6 yX6_ruleAt wsX6_ruleAt) := goodIn_app (goodIn_of _ (by decide +kernel)) ggX6_addAction_X6_ruleAt
set_option maxRecDepth 20000 in
theorem ggX6_addAction_X6_needFact : GoodIn wsX6_addAction wsX6_needFact := goodIn_ca (goodIn_r _ [22, 10, 11] (by decide +kernel) (by decide +kernel)) (goodIn_sub (fun _ h => List.mem_cons_of_mem _ (List.mem_append_right _ h)) (by decide +kernel))
set_option maxRecDepth 20000 in
theorem gX6_addAction_X6_needFact : GoodIn wsX6_addAction (va_wsS RX6 32 yX6_needFact wsX6_needFact) := goodIn_app (goodIn_of _ (by decide +kernel)) ggX6_addAction_X6_needFact
set_option maxRecDepth 20000 in
theorem ggX6_addAction_X4_isFull : GoodIn wsX6_addAction wsX4_isFull := goodIn_r _ [27, 28, 29, 49, 50, 51, 52, 53, 54, 55, 56, 57, 58, 59] (by decide +kernel) (by decide +kernel)
set_option maxRecDepth 20000 in
theorem gX6_addAction_X4_isFull : GoodIn wsX6_addAction (wsV RX6 65 RX4 yX4_isFull wsX4_isFull) := goodIn_app (goodIn_of _ (by decide +kernel)) ggX6_addAction_X4_isFull
set_option maxRecDepth 20000 in
theorem ggX6_addAction_X1_forget : GoodIn wsX6_addAction wsX1_forget := goodIn_r _ [34, 35, 63, 64, 65, 66, 67, 68, 69, 70, 71, 72, 73, 74] (by decide +kernel) (by decide +kernel)
set_option maxRecDepth 20000 in
theorem gX6_addAction_X1_forget : GoodIn wsX6_addAction (wsV RX6 50 RX1 yX1_forget wsX1_forget) := goodIn_app (goodIn_of _ (by decide +kernel)) ggX6_addAction_X1_forget
set_option maxRecDepth 20000 in
theorem ggX6_addAction_X6_changeCode : GoodIn wsX6_addAction wsX6_changeCode := goodIn_r _ [38] (by decide +kernel) (by decide +kernel)
set_option maxRecDepth 20000 in
theorem gX6_addAction_X6_changeCode : GoodIn wsX6_addAction (va_wsS RX6 53 yX6_changeCode wsX6_changeCode) := goodIn_app (goodIn_of _ (by decide +kernel)) ggX6_addAction_X6_changeCode
set_option maxRecDepth 20000 in
theorem ggX6_addAction_X4_append : GoodIn wsX6_addAction wsX4_append := goodIn_r _ [42, 28, 29, 43, 44, 49, 50, 51, 52, 53, 54, 55, 56, 57, 58, 59] (by decide +kernel) (by decide +kernel)
set_option maxRecDepth 20000 in
theorem gX6_addAction_X4_append : GoodIn wsX6_addAction (wsV RX6 70 RX4 yX4_append wsX4_append) := goodIn_app (goodIn_of _ (by decide +kernel)) ggX6_addAction_X4_append
theorem dX6_addAction_0 : decode cX6_addAction 0 = .ok (.aload_n 0, 1) := by decide +kernel
theorem dX6_addAction_1 : decode cX6_addAction 1 = .ok (.iload_n 1, 1) := by decide +kernel
theorem dX6_addAction_2 : decode cX6_addAction 2 = .ok (.invokevirtual 61, 3) := by decide +kernel
theorem dX6_addAction_5 : decode cX6_addAction 5 = .ok (.astore 4, 2) := by decide +kernel
theorem dX6_addAction_7 : decode cX6_addAction 7 = .ok (.iload_n 2, 1) := by decide +kernel
theorem dX6_addAction_8 : decode cX6_addAction 8 = .ok (.invokestatic 32, 3) := by decide +kernel
theorem dX6_addAction_11 : decode cX6_addAction 11 = .ok (.aload 4, 2) := by decide +kernel
theorem dX6_addAction_13 : decode cX6_addAction 13 = .ok (.invokevirtual 65, 3) := by decide +kernel
theorem dX6_addAction_16 : decode cX6_addAction 16 = .ok (.ifCond .eq 13, 3) := by decide +kernel
theorem dX6_addAction_19 : decode cX6_addAction 19 = .ok (.new 43, 3) := by decide +kernel
theorem dX6_addAction_22 : decode cX6_addAction 22 = .ok (.dup, 1) := by decide +kernel
theorem dX6_addAction_23 : decode cX6_addAction 23 = .ok (.ldc 68, 2) := by decide +kernel
theorem dX6_addAction_25 : decode cX6_addAction 25 = .ok (.invokespecial 47, 3) := by decide +kernel
theorem dX6_addAction_28 : decode cX6_addAction 28 = .ok (.athrow, 1) := by decide +kernel
theorem dX6_addAction_29 : decode cX6_addAction 29 = .ok (.aload_n 0, 1) := by decide +kernel
theorem dX6_addAction_30 : decode cX6_addAction 30 = .ok (.getfield 28, 3) := by decide +kernel
theorem dX6_addAction_33 : decode cX6_addAction 33 = .ok (.invokevirtual 50, 3) := by decide +kernel
theorem dX6_addAction_36 : decode cX6_addAction 36 = .ok (.aload 4, 2) := by decide +kernel
theorem dX6_addAction_38 : decode cX6_addAction 38 = .ok (.iload_n 2, 1) := by decide +kernel
theorem dX6_addAction_39 : decode cX6_addAction 39 = .ok (.iload_n 3, 1) := by decide +kernel
theorem dX6_addAction_40 : decode cX6_addAction 40 = .ok (.invokestatic 53, 3) := by decide +kernel
theorem dX6_addAction_43 : decode cX6_addAction 43 = .ok (.invokevirtual 70, 3) := by decide +kernel
theorem dX6_addAction_46 : decode cX6_addAction 46 = .ok (.aload 4, 2) := by decide +kernel
theorem dX6_addAction_48 : decode cX6_addAction 48 = .ok (.getfield 72, 3) := by decide +kernel
theorem dX6_addAction_51 : decode cX6_addAction 51 = .ok (.ireturn, 1) := by decide +kernel
set_option maxRecDepth 20000 in
theorem ggX6_turn_X6_ruleAt : GoodIn wsX6_turn wsX6_ruleAt := goodIn_ca (goodIn_r _ [10, 11, 12, 3, 13, 14, 15, 16, 17, 18, 19, 54, 55, 56, 57, 58, 59, 60] (by decide +kernel) (by decide +kernel)) (goodIn_sub (fun _ h => List.mem_cons_of_mem _ (List.mem_append_right _ h)) (by decide +kernel))
set_option maxRecDepth 20000 in
theorem gX6_turn_X6_ruleAt : GoodIn wsX6_turn (wsV RX6 61 RX6 yX6_ruleAt wsX6_ruleAt) := goodIn_app (goodIn_of _ (by decide +kernel)) ggX6_turn_X6_ruleAt
set_option maxRecDepth 20000 in
theorem ggX6_turn_X1_forget : GoodIn wsX6_turn wsX1_forget := goodIn_r _ [24, 25, 61, 62, 63, 64, 65, 66, 67, 68, 69, 70, 71, 72] (by decide +kernel) (by decide +kernel)
set_option maxRecDepth 20000 in
theorem gX6_turn_X1_forget : GoodIn wsX6_turn (wsV RX6 50 RX1 yX1_forget wsX1_forget) := goodIn_app (goodIn_of _ (by decide +kernel)) ggX6_turn_X1_forget
set_option maxRecDepth 20000 in
theorem ggX6_turn_X5_switchRule : GoodIn wsX6_turn wsX5_switchRule := goodIn_r _ [29, 30, 31, 32, 33, 43, 44, 45, 46, 47, 48, 49, 50, 51, 52, 53, 58, 59, 60] (by decide +kernel) (by decide +kernel)
set_option maxRecDepth 20000 in
theorem gX6_turn_X5_switchRule : GoodIn wsX6_turn (wsV RX6 80 RX5 yX5_switchRule wsX5_switchRule) := goodIn_app (goodIn_of _ (by decide +kernel)) ggX6_turn_X5_switchRule
set_option maxRecDepth 20000 in
theorem ggX6_turn_X6_factsIn : GoodIn wsX6_turn wsX6_factsIn := goodIn_r _ [36] (by decide +kernel) (by decide +kernel)
set_option maxRecDepth 20000 in
theorem gX6_turn_X6_factsIn : GoodIn wsX6_turn (va_wsS RX6 87 yX6_factsIn wsX6_factsIn) := goodIn_app (goodIn_of _ (by decide +kernel)) ggX6_turn_X6_factsIn
set_option maxRecDepth 20000 in
theorem ggX6_turn_X6_triggeredIn : GoodIn wsX6_turn wsX6_triggeredIn := goodIn_r _ [39] (by decide +kernel) (by decide +kernel)
set_option maxRecDepth 20000 in
theorem gX6_turn_X6_triggeredIn : GoodIn wsX6_turn (va_wsS RX6 91 yX6_triggeredIn wsX6_triggeredIn) := goodIn_app (goodIn_of _ (by decide +kernel)) ggX6_turn_X6_triggeredIn
set_option maxRecDepth 20000 in
theorem ggX6_turn_X6_situationOf : GoodIn wsX6_turn wsX6_situationOf := goodIn_r _ [42] (by decide +kernel) (by decide +kernel)
set_option maxRecDepth 20000 in
theorem gX6_turn_X6_situationOf : GoodIn wsX6_turn (va_wsS RX6 97 yX6_situationOf wsX6_situationOf) := goodIn_app (goodIn_of _ (by decide +kernel)) ggX6_turn_X6_situationOf
theorem dX6_turn_0 : decode cX6_turn 0 = .ok (.aload_n 0, 1) := by decide +kernel
theorem dX6_turn_1 : decode cX6_turn 1 = .ok (.iload_n 1, 1) := by decide +kernel
theorem dX6_turn_2 : decode cX6_turn 2 = .ok (.invokevirtual 61, 3) := by decide +kernel
theorem dX6_turn_5 : decode cX6_turn 5 = .ok (.astore_n 3, 1) := by decide +kernel
theorem dX6_turn_6 : decode cX6_turn 6 = .ok (.aload_n 3, 1) := by decide +kernel
theorem dX6_turn_7 : decode cX6_turn 7 = .ok (.getfield 76, 3) := by decide +kernel
theorem dX6_turn_10 : decode cX6_turn 10 = .ok (.istore 4, 2) := by decide +kernel
theorem dX6_turn_12 : decode cX6_turn 12 = .ok (.aload_n 0, 1) := by decide +kernel
theorem dX6_turn_13 : decode cX6_turn 13 = .ok (.getfield 28, 3) := by decide +kernel
theorem dX6_turn_16 : decode cX6_turn 16 = .ok (.invokevirtual 50, 3) := by decide +kernel
theorem dX6_turn_19 : decode cX6_turn 19 = .ok (.aload_n 0, 1) := by decide +kernel
theorem dX6_turn_20 : decode cX6_turn 20 = .ok (.getfield 10, 3) := by decide +kernel
theorem dX6_turn_23 : decode cX6_turn 23 = .ok (.aload_n 3, 1) := by decide +kernel
theorem dX6_turn_24 : decode cX6_turn 24 = .ok (.iload_n 2, 1) := by decide +kernel
theorem dX6_turn_25 : decode cX6_turn 25 = .ok (.invokevirtual 80, 3) := by decide +kernel
theorem dX6_turn_28 : decode cX6_turn 28 = .ok (.iload_n 2, 1) := by decide +kernel
theorem dX6_turn_29 : decode cX6_turn 29 = .ok (.ifCond .ne 31, 3) := by decide +kernel
theorem dX6_turn_32 : decode cX6_turn 32 = .ok (.aload_n 0, 1) := by decide +kernel
theorem dX6_turn_33 : decode cX6_turn 33 = .ok (.aload_n 0, 1) := by decide +kernel
theorem dX6_turn_34 : decode cX6_turn 34 = .ok (.getfield 84, 3) := by decide +kernel
theorem dX6_turn_37 : decode cX6_turn 37 = .ok (.invokestatic 87, 3) := by decide +kernel
theorem dX6_turn_40 : decode cX6_turn 40 = .ok (.aload_n 0, 1) := by decide +kernel
theorem dX6_turn_41 : decode cX6_turn 41 = .ok (.getfield 84, 3) := by decide +kernel
theorem dX6_turn_44 : decode cX6_turn 44 = .ok (.invokestatic 91, 3) := by decide +kernel
theorem dX6_turn_47 : decode cX6_turn 47 = .ok (.aload_n 3, 1) := by decide +kernel
theorem dX6_turn_48 : decode cX6_turn 48 = .ok (.getfield 94, 3) := by decide +kernel
theorem dX6_turn_51 : decode cX6_turn 51 = .ok (.iconst (-1), 1) := by decide +kernel
theorem dX6_turn_52 : decode cX6_turn 52 = .ok (.ixor, 1) := by decide +kernel
theorem dX6_turn_53 : decode cX6_turn 53 = .ok (.iand, 1) := by decide +kernel
theorem dX6_turn_54 : decode cX6_turn 54 = .ok (.invokestatic 97, 3) := by decide +kernel
theorem dX6_turn_57 : decode cX6_turn 57 = .ok (.putfield 84, 3) := by decide +kernel
theorem dX6_turn_60 : decode cX6_turn 60 = .ok (.iload 4, 2) := by decide +kernel
theorem dX6_turn_62 : decode cX6_turn 62 = .ok (.ireturn, 1) := by decide +kernel
set_option maxRecDepth 20000 in
theorem ggX6_rank_X6_ruleAt : GoodIn wsX6_rank wsX6_ruleAt := goodIn_ca (goodIn_r _ [9, 10, 11, 4, 12, 13, 14, 15, 16, 17, 18, 39, 40, 41, 42, 43, 44, 45] (by decide +kernel) (by decide +kernel)) (goodIn_sub (fun _ h => List.mem_cons_of_mem _ (List.mem_append_right _ h)) (by decide +kernel))
set_option maxRecDepth 20000 in
theorem gX6_rank_X6_ruleAt : GoodIn wsX6_rank (wsV RX6 61 RX6 yX6_ruleAt wsX6_ruleAt) := goodIn_app (goodIn_of _ (by decide +kernel)) ggX6_rank_X6_ruleAt
set_option maxRecDepth 20000 in
theorem ggX6_rank_X4_isOver : GoodIn wsX6_rank wsX4_isOver := goodIn_r _ [23, 24, 25, 46, 47, 48, 49, 50, 51, 52, 53, 54, 55, 56] (by decide +kernel) (by decide +kernel)
set_option maxRecDepth 20000 in
theorem gX6_rank_X4_isOver : GoodIn wsX6_rank (wsV RX6 101 RX4 yX4_isOver wsX4_isOver) := goodIn_app (goodIn_of _ (by decide +kernel)) ggX6_rank_X4_isOver
set_option maxRecDepth 20000 in
theorem ggX6_rank_X1_forget : GoodIn wsX6_rank wsX1_forget := goodIn_r _ [30, 31, 57, 58, 59, 60, 61, 62, 63, 64, 65, 66, 67, 68] (by decide +kernel) (by decide +kernel)
set_option maxRecDepth 20000 in
theorem gX6_rank_X1_forget : GoodIn wsX6_rank (wsV RX6 50 RX1 yX1_forget wsX1_forget) := goodIn_app (goodIn_of _ (by decide +kernel)) ggX6_rank_X1_forget
set_option maxRecDepth 20000 in
theorem ggX6_rank_X5_order : GoodIn wsX6_rank wsX5_order := goodIn_r _ [35, 36, 37, 38, 18, 46, 47, 48, 49, 50, 51, 52, 53, 54, 55, 56, 43, 44, 45] (by decide +kernel) (by decide +kernel)
set_option maxRecDepth 20000 in
theorem gX6_rank_X5_order : GoodIn wsX6_rank (wsV RX6 110 RX5 yX5_order wsX5_order) := goodIn_app (goodIn_of _ (by decide +kernel)) ggX6_rank_X5_order
theorem dX6_rank_0 : decode cX6_rank 0 = .ok (.aload_n 0, 1) := by decide +kernel
theorem dX6_rank_1 : decode cX6_rank 1 = .ok (.iload_n 1, 1) := by decide +kernel
theorem dX6_rank_2 : decode cX6_rank 2 = .ok (.invokevirtual 61, 3) := by decide +kernel
theorem dX6_rank_5 : decode cX6_rank 5 = .ok (.astore_n 3, 1) := by decide +kernel
theorem dX6_rank_6 : decode cX6_rank 6 = .ok (.aload_n 0, 1) := by decide +kernel
theorem dX6_rank_7 : decode cX6_rank 7 = .ok (.iload_n 2, 1) := by decide +kernel
theorem dX6_rank_8 : decode cX6_rank 8 = .ok (.invokevirtual 61, 3) := by decide +kernel
theorem dX6_rank_11 : decode cX6_rank 11 = .ok (.astore 4, 2) := by decide +kernel
theorem dX6_rank_13 : decode cX6_rank 13 = .ok (.iload_n 1, 1) := by decide +kernel
theorem dX6_rank_14 : decode cX6_rank 14 = .ok (.iload_n 2, 1) := by decide +kernel
theorem dX6_rank_15 : decode cX6_rank 15 = .ok (.if_icmp .eq 12, 3) := by decide +kernel
theorem dX6_rank_18 : decode cX6_rank 18 = .ok (.aload 4, 2) := by decide +kernel
theorem dX6_rank_20 : decode cX6_rank 20 = .ok (.aload_n 3, 1) := by decide +kernel
theorem dX6_rank_21 : decode cX6_rank 21 = .ok (.invokevirtual 101, 3) := by decide +kernel
theorem dX6_rank_24 : decode cX6_rank 24 = .ok (.ifCond .eq 13, 3) := by decide +kernel
theorem dX6_rank_27 : decode cX6_rank 27 = .ok (.new 105, 3) := by decide +kernel
theorem dX6_rank_30 : decode cX6_rank 30 = .ok (.dup, 1) := by decide +kernel
theorem dX6_rank_31 : decode cX6_rank 31 = .ok (.ldc 107, 2) := by decide +kernel
theorem dX6_rank_33 : decode cX6_rank 33 = .ok (.invokespecial 109, 3) := by decide +kernel
theorem dX6_rank_36 : decode cX6_rank 36 = .ok (.athrow, 1) := by decide +kernel
theorem dX6_rank_37 : decode cX6_rank 37 = .ok (.aload_n 3, 1) := by decide +kernel
theorem dX6_rank_38 : decode cX6_rank 38 = .ok (.aload 4, 2) := by decide +kernel
theorem dX6_rank_40 : decode cX6_rank 40 = .ok (.invokevirtual 101, 3) := by decide +kernel
theorem dX6_rank_43 : decode cX6_rank 43 = .ok (.ifCond .ne 7, 3) := by decide +kernel
theorem dX6_rank_46 : decode cX6_rank 46 = .ok (.iconst 1, 1) := by decide +kernel
theorem dX6_rank_47 : decode cX6_rank 47 = .ok (.goto 4, 3) := by decide +kernel
theorem dX6_rank_50 : decode cX6_rank 50 = .ok (.iconst 0, 1) := by decide +kernel
theorem dX6_rank_51 : decode cX6_rank 51 = .ok (.istore 5, 2) := by decide +kernel
theorem dX6_rank_53 : decode cX6_rank 53 = .ok (.aload_n 0, 1) := by decide +kernel
theorem dX6_rank_54 : decode cX6_rank 54 = .ok (.getfield 28, 3) := by decide +kernel
theorem dX6_rank_57 : decode cX6_rank 57 = .ok (.invokevirtual 50, 3) := by decide +kernel
theorem dX6_rank_60 : decode cX6_rank 60 = .ok (.aload_n 0, 1) := by decide +kernel
theorem dX6_rank_61 : decode cX6_rank 61 = .ok (.getfield 10, 3) := by decide +kernel
theorem dX6_rank_64 : decode cX6_rank 64 = .ok (.aload_n 3, 1) := by decide +kernel
theorem dX6_rank_65 : decode cX6_rank 65 = .ok (.aload 4, 2) := by decide +kernel
theorem dX6_rank_67 : decode cX6_rank 67 = .ok (.invokevirtual 110, 3) := by decide +kernel
theorem dX6_rank_70 : decode cX6_rank 70 = .ok (.iload 5, 2) := by decide +kernel
theorem dX6_rank_72 : decode cX6_rank 72 = .ok (.ireturn, 1) := by decide +kernel
set_option maxRecDepth 20000 in
theorem ggX6_ruleCount_X5_size : GoodIn wsX6_ruleCount wsX5_size := goodIn_r _ [6, 7, 12, 13, 14] (by decide +kernel) (by decide +kernel)
set_option maxRecDepth 20000 in
theorem gX6_ruleCount_X5_size : GoodIn wsX6_ruleCount (wsV RX6 114 RX5 yX5_size wsX5_size) := goodIn_app (goodIn_of _ (by decide +kernel)) ggX6_ruleCount_X5_size
theorem dX6_ruleCount_0 : decode cX6_ruleCount 0 = .ok (.aload_n 0, 1) := by decide +kernel
theorem dX6_ruleCount_1 : decode cX6_ruleCount 1 = .ok (.getfield 10, 3) := by decide +kernel
theorem dX6_ruleCount_4 : decode cX6_ruleCount 4 = .ok (.invokevirtual 114, 3) := by decide +kernel
theorem dX6_ruleCount_7 : decode cX6_ruleCount 7 = .ok (.ireturn, 1) := by decide +kernel
set_option maxRecDepth 20000 in
theorem ggX6_put_X6_needFactSet : GoodIn wsX6_put wsX6_needFactSet := goodIn_ca (goodIn_r _ [6, 7, 8] (by decide +kernel) (by decide +kernel)) (goodIn_sub (fun _ h => List.mem_cons_of_mem _ (List.mem_append_right _ h)) (by decide +kernel))
set_option maxRecDepth 20000 in
theorem gX6_put_X6_needFactSet : GoodIn wsX6_put (va_wsS RX6 36 yX6_needFactSet wsX6_needFactSet) := goodIn_app (goodIn_of _ (by decide +kernel)) ggX6_put_X6_needFactSet
set_option maxRecDepth 20000 in
theorem ggX6_put_X6_factsIn : GoodIn wsX6_put wsX6_factsIn := goodIn_r _ [11] (by decide +kernel) (by decide +kernel)
set_option maxRecDepth 20000 in
theorem gX6_put_X6_factsIn : GoodIn wsX6_put (va_wsS RX6 87 yX6_factsIn wsX6_factsIn) := goodIn_app (goodIn_of _ (by decide +kernel)) ggX6_put_X6_factsIn
set_option maxRecDepth 20000 in
theorem ggX6_put_X1_forget : GoodIn wsX6_put wsX1_forget := goodIn_r _ [16, 17, 25, 26, 27, 28, 29, 30, 31, 32, 33, 34, 35, 36] (by decide +kernel) (by decide +kernel)
set_option maxRecDepth 20000 in
theorem gX6_put_X1_forget : GoodIn wsX6_put (wsV RX6 50 RX1 yX1_forget wsX1_forget) := goodIn_app (goodIn_of _ (by decide +kernel)) ggX6_put_X1_forget
set_option maxRecDepth 20000 in
theorem ggX6_put_X6_situationOf : GoodIn wsX6_put wsX6_situationOf := goodIn_r _ [20] (by decide +kernel) (by decide +kernel)
set_option maxRecDepth 20000 in
theorem gX6_put_X6_situationOf : GoodIn wsX6_put (va_wsS RX6 97 yX6_situationOf wsX6_situationOf) := goodIn_app (goodIn_of _ (by decide +kernel)) ggX6_put_X6_situationOf
theorem dX6_put_0 : decode cX6_put 0 = .ok (.iload_n 1, 1) := by decide +kernel
theorem dX6_put_1 : decode cX6_put 1 = .ok (.invokestatic 36, 3) := by decide +kernel
theorem dX6_put_4 : decode cX6_put 4 = .ok (.aload_n 0, 1) := by decide +kernel
theorem dX6_put_5 : decode cX6_put 5 = .ok (.getfield 84, 3) := by decide +kernel
theorem dX6_put_8 : decode cX6_put 8 = .ok (.invokestatic 87, 3) := by decide +kernel
theorem dX6_put_11 : decode cX6_put 11 = .ok (.istore_n 2, 1) := by decide +kernel
theorem dX6_put_12 : decode cX6_put 12 = .ok (.aload_n 0, 1) := by decide +kernel
theorem dX6_put_13 : decode cX6_put 13 = .ok (.getfield 28, 3) := by decide +kernel
theorem dX6_put_16 : decode cX6_put 16 = .ok (.invokevirtual 50, 3) := by decide +kernel
theorem dX6_put_19 : decode cX6_put 19 = .ok (.aload_n 0, 1) := by decide +kernel
theorem dX6_put_20 : decode cX6_put 20 = .ok (.iload_n 1, 1) := by decide +kernel
theorem dX6_put_21 : decode cX6_put 21 = .ok (.iconst 0, 1) := by decide +kernel
theorem dX6_put_22 : decode cX6_put 22 = .ok (.invokestatic 97, 3) := by decide +kernel
theorem dX6_put_25 : decode cX6_put 25 = .ok (.putfield 84, 3) := by decide +kernel
theorem dX6_put_28 : decode cX6_put 28 = .ok (.iload_n 2, 1) := by decide +kernel
theorem dX6_put_29 : decode cX6_put 29 = .ok (.ireturn, 1) := by decide +kernel
set_option maxRecDepth 20000 in
theorem ggX6_change_X6_needFact : GoodIn wsX6_change wsX6_needFact := goodIn_ca (goodIn_r _ [7, 8, 9] (by decide +kernel) (by decide +kernel)) (goodIn_sub (fun _ h => List.mem_cons_of_mem _ (List.mem_append_right _ h)) (by decide +kernel))
set_option maxRecDepth 20000 in
theorem gX6_change_X6_needFact : GoodIn wsX6_change (va_wsS RX6 32 yX6_needFact wsX6_needFact) := goodIn_app (goodIn_of _ (by decide +kernel)) ggX6_change_X6_needFact
set_option maxRecDepth 20000 in
theorem ggX6_change_X1_forget : GoodIn wsX6_change wsX1_forget := goodIn_r _ [14, 15, 40, 41, 42, 43, 44, 45, 46, 47, 48, 49, 50, 51] (by decide +kernel) (by decide +kernel)
set_option maxRecDepth 20000 in
theorem gX6_change_X1_forget : GoodIn wsX6_change (wsV RX6 50 RX1 yX1_forget wsX1_forget) := goodIn_app (goodIn_of _ (by decide +kernel)) ggX6_change_X1_forget
set_option maxRecDepth 20000 in
theorem ggX6_change_X6_changeCode : GoodIn wsX6_change wsX6_changeCode := goodIn_r _ [18] (by decide +kernel) (by decide +kernel)
set_option maxRecDepth 20000 in
theorem gX6_change_X6_changeCode : GoodIn wsX6_change (va_wsS RX6 53 yX6_changeCode wsX6_changeCode) := goodIn_app (goodIn_of _ (by decide +kernel)) ggX6_change_X6_changeCode
set_option maxRecDepth 20000 in
theorem ggX6_change_X5_changed : GoodIn wsX6_change wsX5_changed := goodIn_r _ [23, 24, 6, 25, 26, 27, 28, 22, 29, 30, 31, 32, 33, 34, 52, 53, 54] (by decide +kernel) (by decide +kernel)
set_option maxRecDepth 20000 in
theorem gX6_change_X5_changed : GoodIn wsX6_change (wsV RX6 118 RX5 yX5_changed wsX5_changed) := goodIn_app (goodIn_of _ (by decide +kernel)) ggX6_change_X5_changed
set_option maxRecDepth 20000 in
theorem ggX6_change_X6_triggeredIn : GoodIn wsX6_change wsX6_triggeredIn := goodIn_r _ [25] (by decide +kernel) (by decide +kernel)
set_option maxRecDepth 20000 in
theorem gX6_change_X6_triggeredIn : GoodIn wsX6_change (va_wsS RX6 91 yX6_triggeredIn wsX6_triggeredIn) := goodIn_app (goodIn_of _ (by decide +kernel)) ggX6_change_X6_triggeredIn
theorem dX6_change_0 : decode cX6_change 0 = .ok (.iload_n 1, 1) := by decide +kernel
theorem dX6_change_1 : decode cX6_change 1 = .ok (.invokestatic 32, 3) := by decide +kernel
theorem dX6_change_4 : decode cX6_change 4 = .ok (.aload_n 0, 1) := by decide +kernel
theorem dX6_change_5 : decode cX6_change 5 = .ok (.getfield 28, 3) := by decide +kernel
theorem dX6_change_8 : decode cX6_change 8 = .ok (.invokevirtual 50, 3) := by decide +kernel
theorem dX6_change_11 : decode cX6_change 11 = .ok (.aload_n 0, 1) := by decide +kernel
theorem dX6_change_12 : decode cX6_change 12 = .ok (.aload_n 0, 1) := by decide +kernel
theorem dX6_change_13 : decode cX6_change 13 = .ok (.getfield 10, 3) := by decide +kernel
theorem dX6_change_16 : decode cX6_change 16 = .ok (.aload_n 0, 1) := by decide +kernel
theorem dX6_change_17 : decode cX6_change 17 = .ok (.getfield 84, 3) := by decide +kernel
theorem dX6_change_20 : decode cX6_change 20 = .ok (.iload_n 1, 1) := by decide +kernel
theorem dX6_change_21 : decode cX6_change 21 = .ok (.iload_n 2, 1) := by decide +kernel
theorem dX6_change_22 : decode cX6_change 22 = .ok (.invokestatic 53, 3) := by decide +kernel
theorem dX6_change_25 : decode cX6_change 25 = .ok (.invokevirtual 118, 3) := by decide +kernel
theorem dX6_change_28 : decode cX6_change 28 = .ok (.putfield 84, 3) := by decide +kernel
theorem dX6_change_31 : decode cX6_change 31 = .ok (.aload_n 0, 1) := by decide +kernel
theorem dX6_change_32 : decode cX6_change 32 = .ok (.getfield 84, 3) := by decide +kernel
theorem dX6_change_35 : decode cX6_change 35 = .ok (.invokestatic 91, 3) := by decide +kernel
theorem dX6_change_38 : decode cX6_change 38 = .ok (.ireturn, 1) := by decide +kernel
set_option maxRecDepth 20000 in
theorem ggX6_facts_X6_factsIn : GoodIn wsX6_facts wsX6_factsIn := goodIn_r _ [5] (by decide +kernel) (by decide +kernel)
set_option maxRecDepth 20000 in
theorem gX6_facts_X6_factsIn : GoodIn wsX6_facts (va_wsS RX6 87 yX6_factsIn wsX6_factsIn) := goodIn_app (goodIn_of _ (by decide +kernel)) ggX6_facts_X6_factsIn
theorem dX6_facts_0 : decode cX6_facts 0 = .ok (.aload_n 0, 1) := by decide +kernel
theorem dX6_facts_1 : decode cX6_facts 1 = .ok (.getfield 84, 3) := by decide +kernel
theorem dX6_facts_4 : decode cX6_facts 4 = .ok (.invokestatic 87, 3) := by decide +kernel
theorem dX6_facts_7 : decode cX6_facts 7 = .ok (.ireturn, 1) := by decide +kernel
set_option maxRecDepth 20000 in
theorem ggX6_triggered_X6_triggeredIn : GoodIn wsX6_triggered wsX6_triggeredIn := goodIn_r _ [5] (by decide +kernel) (by decide +kernel)
set_option maxRecDepth 20000 in
theorem gX6_triggered_X6_triggeredIn : GoodIn wsX6_triggered (va_wsS RX6 91 yX6_triggeredIn wsX6_triggeredIn) := goodIn_app (goodIn_of _ (by decide +kernel)) ggX6_triggered_X6_triggeredIn
theorem dX6_triggered_0 : decode cX6_triggered 0 = .ok (.aload_n 0, 1) := by decide +kernel
theorem dX6_triggered_1 : decode cX6_triggered 1 = .ok (.getfield 84, 3) := by decide +kernel
theorem dX6_triggered_4 : decode cX6_triggered 4 = .ok (.invokestatic 91, 3) := by decide +kernel
theorem dX6_triggered_7 : decode cX6_triggered 7 = .ok (.ireturn, 1) := by decide +kernel
set_option maxRecDepth 20000 in
theorem ggX6_run_X1_forget : GoodIn wsX6_run wsX1_forget := goodIn_r _ [10, 11, 62, 63, 64, 65, 66, 67, 68, 69, 70, 71, 72, 73] (by decide +kernel) (by decide +kernel)
set_option maxRecDepth 20000 in
theorem gX6_run_X1_forget : GoodIn wsX6_run (wsV RX6 50 RX1 yX1_forget wsX1_forget) := goodIn_app (goodIn_of _ (by decide +kernel)) ggX6_run_X1_forget
set_option maxRecDepth 20000 in
theorem ggX6_run_X5_firstReadyIn : GoodIn wsX6_run wsX5_firstReadyIn := goodIn_r _ [16, 17, 18, 19, 20, 21, 22, 23, 24, 25, 26, 27, 74, 75, 76, 77, 78, 79, 80, 81, 82, 83, 84, 85, 86, 87] (by decide +kernel) (by decide +kernel)
set_option maxRecDepth 20000 in
theorem gX6_run_X5_firstReadyIn : GoodIn wsX6_run (wsV RX6 139 RX5 yX5_firstReadyIn wsX5_firstReadyIn) := goodIn_app (goodIn_of _ (by decide +kernel)) ggX6_run_X5_firstReadyIn
set_option maxRecDepth 20000 in
theorem ggX6_run_X5_played : GoodIn wsX6_run wsX5_played := goodIn_r _ [31, 32, 33, 34, 26, 35, 25, 27, 36, 37, 38, 39, 40, 21, 41, 42, 43, 44, 45, 46, 47, 48, 49, 50, 51, 15, 52, 53, 54, 55, 56, 57, 77, 78, 79, 80, 81, 82, 83, 84, 85, 86, 87, 74, 75, 76] (by decide +kernel) (by decide +kernel)
set_option maxRecDepth 20000 in
theorem gX6_run_X5_played : GoodIn wsX6_run (wsV RX6 133 RX5 yX5_played wsX5_played) := goodIn_app (goodIn_of _ (by decide +kernel)) ggX6_run_X5_played
theorem dX6_run_0 : decode cX6_run 0 = .ok (.iload_n 1, 1) := by decide +kernel
theorem dX6_run_1 : decode cX6_run 1 = .ok (.ifCond .lt 10, 3) := by decide +kernel
theorem dX6_run_4 : decode cX6_run 4 = .ok (.iload_n 1, 1) := by decide +kernel
theorem dX6_run_5 : decode cX6_run 5 = .ok (.sipush 500, 3) := by decide +kernel
theorem dX6_run_8 : decode cX6_run 8 = .ok (.if_icmp .le 13, 3) := by decide +kernel
theorem dX6_run_11 : decode cX6_run 11 = .ok (.new 105, 3) := by decide +kernel
theorem dX6_run_14 : decode cX6_run 14 = .ok (.dup, 1) := by decide +kernel
theorem dX6_run_15 : decode cX6_run 15 = .ok (.ldc 137, 2) := by decide +kernel
theorem dX6_run_17 : decode cX6_run 17 = .ok (.invokespecial 109, 3) := by decide +kernel
theorem dX6_run_20 : decode cX6_run 20 = .ok (.athrow, 1) := by decide +kernel
theorem dX6_run_21 : decode cX6_run 21 = .ok (.aload_n 0, 1) := by decide +kernel
theorem dX6_run_22 : decode cX6_run 22 = .ok (.getfield 28, 3) := by decide +kernel
theorem dX6_run_25 : decode cX6_run 25 = .ok (.invokevirtual 50, 3) := by decide +kernel
theorem dX6_run_28 : decode cX6_run 28 = .ok (.iconst 0, 1) := by decide +kernel
theorem dX6_run_29 : decode cX6_run 29 = .ok (.istore_n 2, 1) := by decide +kernel
theorem dX6_run_30 : decode cX6_run 30 = .ok (.iload_n 2, 1) := by decide +kernel
theorem dX6_run_31 : decode cX6_run 31 = .ok (.iload_n 1, 1) := by decide +kernel
theorem dX6_run_32 : decode cX6_run 32 = .ok (.if_icmp .ge 43, 3) := by decide +kernel
theorem dX6_run_35 : decode cX6_run 35 = .ok (.aload_n 0, 1) := by decide +kernel
theorem dX6_run_36 : decode cX6_run 36 = .ok (.getfield 10, 3) := by decide +kernel
theorem dX6_run_39 : decode cX6_run 39 = .ok (.aload_n 0, 1) := by decide +kernel
theorem dX6_run_40 : decode cX6_run 40 = .ok (.getfield 84, 3) := by decide +kernel
theorem dX6_run_43 : decode cX6_run 43 = .ok (.invokevirtual 139, 3) := by decide +kernel
theorem dX6_run_46 : decode cX6_run 46 = .ok (.astore_n 3, 1) := by decide +kernel
theorem dX6_run_47 : decode cX6_run 47 = .ok (.aload_n 3, 1) := by decide +kernel
theorem dX6_run_48 : decode cX6_run 48 = .ok (.ifnonnull 5, 3) := by decide +kernel
theorem dX6_run_51 : decode cX6_run 51 = .ok (.iload_n 2, 1) := by decide +kernel
theorem dX6_run_52 : decode cX6_run 52 = .ok (.ireturn, 1) := by decide +kernel
theorem dX6_run_53 : decode cX6_run 53 = .ok (.aload_n 0, 1) := by decide +kernel
theorem dX6_run_54 : decode cX6_run 54 = .ok (.aload_n 0, 1) := by decide +kernel
theorem dX6_run_55 : decode cX6_run 55 = .ok (.getfield 10, 3) := by decide +kernel
theorem dX6_run_58 : decode cX6_run 58 = .ok (.aload_n 0, 1) := by decide +kernel
theorem dX6_run_59 : decode cX6_run 59 = .ok (.getfield 84, 3) := by decide +kernel
theorem dX6_run_62 : decode cX6_run 62 = .ok (.aload_n 3, 1) := by decide +kernel
theorem dX6_run_63 : decode cX6_run 63 = .ok (.invokevirtual 133, 3) := by decide +kernel
theorem dX6_run_66 : decode cX6_run 66 = .ok (.putfield 84, 3) := by decide +kernel
theorem dX6_run_69 : decode cX6_run 69 = .ok (.iinc 2 1, 3) := by decide +kernel
theorem dX6_run_72 : decode cX6_run 72 = .ok (.goto (-42), 3) := by decide +kernel
theorem dX6_run_75 : decode cX6_run 75 = .ok (.iload_n 1, 1) := by decide +kernel
theorem dX6_run_76 : decode cX6_run 76 = .ok (.ireturn, 1) := by decide +kernel
set_option maxRecDepth 20000 in
theorem ggX6_explore_X1_isDone : GoodIn wsX6_explore wsX1_isDone := goodIn_r _ [7, 8, 168, 169, 170, 171, 172, 173, 174, 175, 176, 177, 178, 179] (by decide +kernel) (by decide +kernel)
set_option maxRecDepth 20000 in
theorem gX6_explore_X1_isDone : GoodIn wsX6_explore (wsV RX6 142 RX1 yX1_isDone wsX1_isDone) := goodIn_app (goodIn_of _ (by decide +kernel)) ggX6_explore_X1_isDone
set_option maxRecDepth 20000 in
theorem ggX6_explore_X1_search : GoodIn wsX6_explore wsX1_search := goodIn_r _ [12, 13, 14, 15, 8, 16, 17, 18, 6, 19, 20, 21, 22, 23, 24, 25, 26, 27, 28, 29, 30, 31, 32, 33, 34, 35, 36, 37, 38, 39, 40, 41, 42, 43, 44, 45, 46, 47, 48, 49, 50, 51, 52, 53, 54, 55, 56, 57, 58, 59, 60, 61, 62, 63, 64, 65, 66, 67, 68, 69, 70, 71, 72, 73, 74, 75, 76, 77, 78, 79, 80, 81, 82, 83, 84, 85, 86, 87, 88, 89, 90, 91, 92, 93, 94, 95, 96, 97, 98, 99, 100, 101, 102, 103, 104, 105, 106, 107, 108, 109, 110, 111, 112, 113, 114, 115, 116, 117, 118, 119, 120, 121, 122, 123, 124, 125, 126, 127, 128, 129, 130, 131, 132, 133, 134, 135, 136, 137, 138, 139, 140, 141, 142, 143, 144, 145, 146, 147, 148, 149, 150, 151, 152, 153, 154, 155, 156, 157, 158, 159, 168, 169, 170, 171, 172, 173, 174, 175, 176, 177, 178, 179, 180, 181, 182, 183, 184, 185, 186, 187, 188, 189, 190, 191, 192, 193, 194, 195, 196, 197, 198, 199, 200, 201, 202, 203, 204] (by decide +kernel) (by decide +kernel)
set_option maxRecDepth 20000 in
theorem gX6_explore_X1_search : GoodIn wsX6_explore (wsV RX6 145 RX1 yX1_search wsX1_search) := goodIn_app (goodIn_of _ (by decide +kernel)) ggX6_explore_X1_search
set_option maxRecDepth 20000 in
theorem ggX6_explore_X1_answer : GoodIn wsX6_explore wsX1_answer := goodIn_r _ [163, 14, 13, 168, 169, 170, 171, 172, 173, 174, 175, 176, 177, 178, 179] (by decide +kernel) (by decide +kernel)
set_option maxRecDepth 20000 in
theorem gX6_explore_X1_answer : GoodIn wsX6_explore (wsV RX6 148 RX1 yX1_answer wsX1_answer) := goodIn_app (goodIn_of _ (by decide +kernel)) ggX6_explore_X1_answer
theorem dX6_explore_0 : decode cX6_explore 0 = .ok (.aload_n 0, 1) := by decide +kernel
theorem dX6_explore_1 : decode cX6_explore 1 = .ok (.getfield 28, 3) := by decide +kernel
theorem dX6_explore_4 : decode cX6_explore 4 = .ok (.invokevirtual 142, 3) := by decide +kernel
theorem dX6_explore_7 : decode cX6_explore 7 = .ok (.ifCond .ne 14, 3) := by decide +kernel
theorem dX6_explore_10 : decode cX6_explore 10 = .ok (.aload_n 0, 1) := by decide +kernel
theorem dX6_explore_11 : decode cX6_explore 11 = .ok (.getfield 28, 3) := by decide +kernel
theorem dX6_explore_14 : decode cX6_explore 14 = .ok (.aload_n 0, 1) := by decide +kernel
theorem dX6_explore_15 : decode cX6_explore 15 = .ok (.getfield 84, 3) := by decide +kernel
theorem dX6_explore_18 : decode cX6_explore 18 = .ok (.invokevirtual 145, 3) := by decide +kernel
theorem dX6_explore_21 : decode cX6_explore 21 = .ok (.aload_n 0, 1) := by decide +kernel
theorem dX6_explore_22 : decode cX6_explore 22 = .ok (.getfield 28, 3) := by decide +kernel
theorem dX6_explore_25 : decode cX6_explore 25 = .ok (.invokevirtual 148, 3) := by decide +kernel
theorem dX6_explore_28 : decode cX6_explore 28 = .ok (.ireturn, 1) := by decide +kernel
set_option maxRecDepth 20000 in
theorem ggX6_factsOf_X6_exploredAt : GoodIn wsX6_factsOf wsX6_exploredAt := goodIn_ca (goodIn_ca (goodIn_r _ [5, 6, 7, 8, 9, 10, 11, 4, 12, 13, 14, 15, 16, 17, 18, 19, 20, 21, 22, 23, 24, 25, 26, 27, 31, 32, 33, 34, 35, 36, 37, 38, 39, 40, 41, 42, 43, 44, 45, 46] (by decide +kernel) (by decide +kernel)) (goodIn_sub (fun _ h => List.mem_cons_of_mem _ (List.mem_append_left _ (List.mem_append_right _ h))) (by decide +kernel))) (goodIn_sub (fun _ h => List.mem_cons_of_mem _ (List.mem_append_right _ h)) (by decide +kernel))
set_option maxRecDepth 20000 in
theorem gX6_factsOf_X6_exploredAt : GoodIn wsX6_factsOf (wsV RX6 151 RX6 yX6_exploredAt wsX6_exploredAt) := goodIn_app (goodIn_of _ (by decide +kernel)) ggX6_factsOf_X6_exploredAt
set_option maxRecDepth 20000 in
theorem ggX6_factsOf_X6_factsIn : GoodIn wsX6_factsOf wsX6_factsIn := goodIn_r _ [30] (by decide +kernel) (by decide +kernel)
set_option maxRecDepth 20000 in
theorem gX6_factsOf_X6_factsIn : GoodIn wsX6_factsOf (va_wsS RX6 87 yX6_factsIn wsX6_factsIn) := goodIn_app (goodIn_of _ (by decide +kernel)) ggX6_factsOf_X6_factsIn
theorem dX6_factsOf_0 : decode cX6_factsOf 0 = .ok (.aload_n 0, 1) := by decide +kernel
theorem dX6_factsOf_1 : decode cX6_factsOf 1 = .ok (.iload_n 1, 1) := by decide +kernel
theorem dX6_factsOf_2 : decode cX6_factsOf 2 = .ok (.invokevirtual 151, 3) := by decide +kernel
theorem dX6_factsOf_5 : decode cX6_factsOf 5 = .ok (.invokestatic 87, 3) := by decide +kernel
theorem dX6_factsOf_8 : decode cX6_factsOf 8 = .ok (.ireturn, 1) := by decide +kernel
set_option maxRecDepth 20000 in
theorem ggX6_triggeredOf_X6_exploredAt : GoodIn wsX6_triggeredOf wsX6_exploredAt := goodIn_ca (goodIn_ca (goodIn_r _ [5, 6, 7, 8, 9, 10, 11, 4, 12, 13, 14, 15, 16, 17, 18, 19, 20, 21, 22, 23, 24, 25, 26, 27, 31, 32, 33, 34, 35, 36, 37, 38, 39, 40, 41, 42, 43, 44, 45, 46] (by decide +kernel) (by decide +kernel)) (goodIn_sub (fun _ h => List.mem_cons_of_mem _ (List.mem_append_left _ (List.mem_append_right _ h))) (by decide +kernel))) (goodIn_sub (fun _ h => List.mem_cons_of_mem _ (List.mem_append_right _ h)) (by decide +kernel))
set_option maxRecDepth 20000 in
theorem gX6_triggeredOf_X6_exploredAt : GoodIn wsX6_triggeredOf (wsV RX6 151 RX6 yX6_exploredAt wsX6_exploredAt) := goodIn_app (goodIn_of _ (by decide +kernel)) ggX6_triggeredOf_X6_exploredAt
set_option maxRecDepth 20000 in
theorem ggX6_triggeredOf_X6_triggeredIn : GoodIn wsX6_triggeredOf wsX6_triggeredIn := goodIn_r _ [30] (by decide +kernel) (by decide +kernel)
set_option maxRecDepth 20000 in
theorem gX6_triggeredOf_X6_triggeredIn : GoodIn wsX6_triggeredOf (va_wsS RX6 91 yX6_triggeredIn wsX6_triggeredIn) := goodIn_app (goodIn_of _ (by decide +kernel)) ggX6_triggeredOf_X6_triggeredIn
theorem dX6_triggeredOf_0 : decode cX6_triggeredOf 0 = .ok (.aload_n 0, 1) := by decide +kernel
theorem dX6_triggeredOf_1 : decode cX6_triggeredOf 1 = .ok (.iload_n 1, 1) := by decide +kernel
theorem dX6_triggeredOf_2 : decode cX6_triggeredOf 2 = .ok (.invokevirtual 151, 3) := by decide +kernel
theorem dX6_triggeredOf_5 : decode cX6_triggeredOf 5 = .ok (.invokestatic 91, 3) := by decide +kernel
theorem dX6_triggeredOf_8 : decode cX6_triggeredOf 8 = .ok (.ireturn, 1) := by decide +kernel
set_option maxRecDepth 20000 in
theorem ggX6_after_X6_exploredAt : GoodIn wsX6_after wsX6_exploredAt := goodIn_ca (goodIn_ca (goodIn_r _ [6, 7, 8, 1, 9, 10, 11, 5, 12, 13, 14, 15, 16, 17, 18, 19, 20, 21, 22, 23, 24, 25, 26, 27, 45, 46, 47, 48, 49, 50, 51, 52, 53, 54, 55, 56, 57, 58, 59, 60] (by decide +kernel) (by decide +kernel)) (goodIn_sub (fun _ h => List.mem_cons_of_mem _ (List.mem_append_left _ (List.mem_append_right _ h))) (by decide +kernel))) (goodIn_sub (fun _ h => List.mem_cons_of_mem _ (List.mem_append_right _ h)) (by decide +kernel))
set_option maxRecDepth 20000 in
theorem gX6_after_X6_exploredAt : GoodIn wsX6_after (wsV RX6 151 RX6 yX6_exploredAt wsX6_exploredAt) := goodIn_app (goodIn_of _ (by decide +kernel)) ggX6_after_X6_exploredAt
set_option maxRecDepth 20000 in
theorem ggX6_after_X6_ruleAt : GoodIn wsX6_after wsX6_ruleAt := goodIn_ca (goodIn_r _ [31, 7, 8, 32, 33, 34, 35, 36, 37, 38, 39, 45, 46, 47, 48, 61, 62, 63] (by decide +kernel) (by decide +kernel)) (goodIn_sub (fun _ h => List.mem_cons_of_mem _ (List.mem_append_left _ (List.mem_append_right _ h))) (by decide +kernel))
set_option maxRecDepth 20000 in
theorem gX6_after_X6_ruleAt : GoodIn wsX6_after (wsV RX6 61 RX6 yX6_ruleAt wsX6_ruleAt) := goodIn_app (goodIn_of _ (by decide +kernel)) ggX6_after_X6_ruleAt
set_option maxRecDepth 20000 in
theorem ggX6_after_X1_nextOf : GoodIn wsX6_after wsX1_nextOf := goodIn_r _ [43, 26, 44, 49, 50, 51, 52, 53, 54, 55, 56, 57, 58, 59, 60] (by decide +kernel) (by decide +kernel)
set_option maxRecDepth 20000 in
theorem gX6_after_X1_nextOf : GoodIn wsX6_after (wsV RX6 154 RX1 yX1_nextOf wsX1_nextOf) := goodIn_app (goodIn_of _ (by decide +kernel)) ggX6_after_X1_nextOf
theorem dX6_after_0 : decode cX6_after 0 = .ok (.aload_n 0, 1) := by decide +kernel
theorem dX6_after_1 : decode cX6_after 1 = .ok (.iload_n 1, 1) := by decide +kernel
theorem dX6_after_2 : decode cX6_after 2 = .ok (.invokevirtual 151, 3) := by decide +kernel
theorem dX6_after_5 : decode cX6_after 5 = .ok (.pop, 1) := by decide +kernel
theorem dX6_after_6 : decode cX6_after 6 = .ok (.aload_n 0, 1) := by decide +kernel
theorem dX6_after_7 : decode cX6_after 7 = .ok (.iload_n 2, 1) := by decide +kernel
theorem dX6_after_8 : decode cX6_after 8 = .ok (.invokevirtual 61, 3) := by decide +kernel
theorem dX6_after_11 : decode cX6_after 11 = .ok (.pop, 1) := by decide +kernel
theorem dX6_after_12 : decode cX6_after 12 = .ok (.aload_n 0, 1) := by decide +kernel
theorem dX6_after_13 : decode cX6_after 13 = .ok (.getfield 28, 3) := by decide +kernel
theorem dX6_after_16 : decode cX6_after 16 = .ok (.iload_n 1, 1) := by decide +kernel
theorem dX6_after_17 : decode cX6_after 17 = .ok (.iload_n 2, 1) := by decide +kernel
theorem dX6_after_18 : decode cX6_after 18 = .ok (.invokevirtual 154, 3) := by decide +kernel
theorem dX6_after_21 : decode cX6_after 21 = .ok (.ireturn, 1) := by decide +kernel
set_option maxRecDepth 20000 in
theorem ggX6_terminates_X6_needExplored : GoodIn wsX6_terminates wsX6_needExplored := goodIn_ca (goodIn_r _ [7, 8, 9, 1, 10, 11, 12, 13, 14, 15, 16, 23, 24, 25, 26, 27, 28, 29, 30, 31, 32, 33, 34, 35, 36, 37, 38] (by decide +kernel) (by decide +kernel)) (goodIn_sub (fun _ h => List.mem_cons_of_mem _ (List.mem_append_right _ h)) (by decide +kernel))
set_option maxRecDepth 20000 in
theorem gX6_terminates_X6_needExplored : GoodIn wsX6_terminates (wsV RX6 157 RX6 yX6_needExplored wsX6_needExplored) := goodIn_app (goodIn_of _ (by decide +kernel)) ggX6_terminates_X6_needExplored
set_option maxRecDepth 20000 in
theorem ggX6_terminates_X3_isFinite : GoodIn wsX6_terminates wsX3_isFinite := goodIn_r _ [21, 22, 39, 40, 41, 42, 43, 44, 45, 46] (by decide +kernel) (by decide +kernel)
set_option maxRecDepth 20000 in
theorem gX6_terminates_X3_isFinite : GoodIn wsX6_terminates (wsV RX6 164 RX3 yX3_isFinite wsX3_isFinite) := goodIn_app (goodIn_of _ (by decide +kernel)) ggX6_terminates_X3_isFinite
theorem dX6_terminates_0 : decode cX6_terminates 0 = .ok (.aload_n 0, 1) := by decide +kernel
theorem dX6_terminates_1 : decode cX6_terminates 1 = .ok (.invokevirtual 157, 3) := by decide +kernel
theorem dX6_terminates_4 : decode cX6_terminates 4 = .ok (.aload_n 0, 1) := by decide +kernel
theorem dX6_terminates_5 : decode cX6_terminates 5 = .ok (.getfield 28, 3) := by decide +kernel
theorem dX6_terminates_8 : decode cX6_terminates 8 = .ok (.getfield 160, 3) := by decide +kernel
theorem dX6_terminates_11 : decode cX6_terminates 11 = .ok (.invokevirtual 164, 3) := by decide +kernel
theorem dX6_terminates_14 : decode cX6_terminates 14 = .ok (.ireturn, 1) := by decide +kernel
set_option maxRecDepth 20000 in
theorem ggX6_endCount_X6_needExplored : GoodIn wsX6_endCount wsX6_needExplored := goodIn_ca (goodIn_r _ [7, 8, 9, 1, 10, 11, 12, 13, 14, 15, 16, 23, 24, 25, 26, 27, 28, 29, 30, 31, 32, 33, 34, 35, 36, 37, 38] (by decide +kernel) (by decide +kernel)) (goodIn_sub (fun _ h => List.mem_cons_of_mem _ (List.mem_append_right _ h)) (by decide +kernel))
set_option maxRecDepth 20000 in
theorem gX6_endCount_X6_needExplored : GoodIn wsX6_endCount (wsV RX6 157 RX6 yX6_needExplored wsX6_needExplored) := goodIn_app (goodIn_of _ (by decide +kernel)) ggX6_endCount_X6_needExplored
set_option maxRecDepth 20000 in
theorem ggX6_endCount_X0_size : GoodIn wsX6_endCount wsX0_size := goodIn_r _ [21, 22, 39, 40, 41] (by decide +kernel) (by decide +kernel)
set_option maxRecDepth 20000 in
theorem gX6_endCount_X0_size : GoodIn wsX6_endCount (wsV RX6 173 RX0 yX0_size wsX0_size) := goodIn_app (goodIn_of _ (by decide +kernel)) ggX6_endCount_X0_size
theorem dX6_endCount_0 : decode cX6_endCount 0 = .ok (.aload_n 0, 1) := by decide +kernel
theorem dX6_endCount_1 : decode cX6_endCount 1 = .ok (.invokevirtual 157, 3) := by decide +kernel
theorem dX6_endCount_4 : decode cX6_endCount 4 = .ok (.aload_n 0, 1) := by decide +kernel
theorem dX6_endCount_5 : decode cX6_endCount 5 = .ok (.getfield 28, 3) := by decide +kernel
theorem dX6_endCount_8 : decode cX6_endCount 8 = .ok (.getfield 169, 3) := by decide +kernel
theorem dX6_endCount_11 : decode cX6_endCount 11 = .ok (.invokevirtual 173, 3) := by decide +kernel
theorem dX6_endCount_14 : decode cX6_endCount 14 = .ok (.ireturn, 1) := by decide +kernel
set_option maxRecDepth 20000 in
theorem ggX6_shortest_X6_needExplored : GoodIn wsX6_shortest wsX6_needExplored := goodIn_ca (goodIn_r _ [7, 8, 9, 1, 10, 11, 12, 13, 14, 15, 16, 23, 24, 25, 26, 27, 28, 29, 30, 31, 32, 33, 34, 35, 36, 37, 38] (by decide +kernel) (by decide +kernel)) (goodIn_sub (fun _ h => List.mem_cons_of_mem _ (List.mem_append_right _ h)) (by decide +kernel))
set_option maxRecDepth 20000 in
theorem gX6_shortest_X6_needExplored : GoodIn wsX6_shortest (wsV RX6 157 RX6 yX6_needExplored wsX6_needExplored) := goodIn_app (goodIn_of _ (by decide +kernel)) ggX6_shortest_X6_needExplored
set_option maxRecDepth 20000 in
theorem ggX6_shortest_X0_firstDepth : GoodIn wsX6_shortest wsX0_firstDepth := goodIn_r _ [21, 22, 39, 40, 41] (by decide +kernel) (by decide +kernel)
set_option maxRecDepth 20000 in
theorem gX6_shortest_X0_firstDepth : GoodIn wsX6_shortest (wsV RX6 184 RX0 yX0_firstDepth wsX0_firstDepth) := goodIn_app (goodIn_of _ (by decide +kernel)) ggX6_shortest_X0_firstDepth
theorem dX6_shortest_0 : decode cX6_shortest 0 = .ok (.aload_n 0, 1) := by decide +kernel
theorem dX6_shortest_1 : decode cX6_shortest 1 = .ok (.invokevirtual 157, 3) := by decide +kernel
theorem dX6_shortest_4 : decode cX6_shortest 4 = .ok (.aload_n 0, 1) := by decide +kernel
theorem dX6_shortest_5 : decode cX6_shortest 5 = .ok (.getfield 28, 3) := by decide +kernel
theorem dX6_shortest_8 : decode cX6_shortest 8 = .ok (.getfield 169, 3) := by decide +kernel
theorem dX6_shortest_11 : decode cX6_shortest 11 = .ok (.invokevirtual 184, 3) := by decide +kernel
theorem dX6_shortest_14 : decode cX6_shortest 14 = .ok (.ireturn, 1) := by decide +kernel
set_option maxRecDepth 20000 in
theorem ggX6_longest_X6_needExplored : GoodIn wsX6_longest wsX6_needExplored := goodIn_ca (goodIn_r _ [7, 8, 9, 1, 10, 11, 12, 13, 14, 15, 16, 24, 25, 26, 27, 28, 29, 30, 31, 32, 33, 34, 35, 36, 37, 38, 39] (by decide +kernel) (by decide +kernel)) (goodIn_sub (fun _ h => List.mem_cons_of_mem _ (List.mem_append_right _ h)) (by decide +kernel))
set_option maxRecDepth 20000 in
theorem gX6_longest_X6_needExplored : GoodIn wsX6_longest (wsV RX6 157 RX6 yX6_needExplored wsX6_needExplored) := goodIn_app (goodIn_of _ (by decide +kernel)) ggX6_longest_X6_needExplored
set_option maxRecDepth 20000 in
theorem ggX6_longest_X3_mostPlays : GoodIn wsX6_longest wsX3_mostPlays := goodIn_r _ [21, 22, 23, 40, 41, 42, 43, 44, 45, 46, 47] (by decide +kernel) (by decide +kernel)
set_option maxRecDepth 20000 in
theorem gX6_longest_X3_mostPlays : GoodIn wsX6_longest (wsV RX6 187 RX3 yX3_mostPlays wsX3_mostPlays) := goodIn_app (goodIn_of _ (by decide +kernel)) ggX6_longest_X3_mostPlays
theorem dX6_longest_0 : decode cX6_longest 0 = .ok (.aload_n 0, 1) := by decide +kernel
theorem dX6_longest_1 : decode cX6_longest 1 = .ok (.invokevirtual 157, 3) := by decide +kernel
theorem dX6_longest_4 : decode cX6_longest 4 = .ok (.aload_n 0, 1) := by decide +kernel
theorem dX6_longest_5 : decode cX6_longest 5 = .ok (.getfield 28, 3) := by decide +kernel
theorem dX6_longest_8 : decode cX6_longest 8 = .ok (.getfield 160, 3) := by decide +kernel
theorem dX6_longest_11 : decode cX6_longest 11 = .ok (.invokevirtual 187, 3) := by decide +kernel
theorem dX6_longest_14 : decode cX6_longest 14 = .ok (.ireturn, 1) := by decide +kernel
set_option maxRecDepth 20000 in
theorem ggX6_ways_X6_needExplored : GoodIn wsX6_ways wsX6_needExplored := goodIn_ca (goodIn_r _ [7, 8, 9, 1, 10, 11, 12, 13, 14, 15, 16, 25, 26, 27, 28, 29, 30, 31, 32, 33, 34, 35, 36, 37, 38, 39, 40] (by decide +kernel) (by decide +kernel)) (goodIn_sub (fun _ h => List.mem_cons_of_mem _ (List.mem_append_right _ h)) (by decide +kernel))
set_option maxRecDepth 20000 in
theorem gX6_ways_X6_needExplored : GoodIn wsX6_ways (wsV RX6 157 RX6 yX6_needExplored wsX6_needExplored) := goodIn_app (goodIn_of _ (by decide +kernel)) ggX6_ways_X6_needExplored
set_option maxRecDepth 20000 in
theorem ggX6_ways_X3_wayCount : GoodIn wsX6_ways wsX3_wayCount := goodIn_r _ [21, 22, 23, 24, 41, 42, 43, 44, 45, 46, 47, 48] (by decide +kernel) (by decide +kernel)
set_option maxRecDepth 20000 in
theorem gX6_ways_X3_wayCount : GoodIn wsX6_ways (wsV RX6 190 RX3 yX3_wayCount wsX3_wayCount) := goodIn_app (goodIn_of _ (by decide +kernel)) ggX6_ways_X3_wayCount
theorem dX6_ways_0 : decode cX6_ways 0 = .ok (.aload_n 0, 1) := by decide +kernel
theorem dX6_ways_1 : decode cX6_ways 1 = .ok (.invokevirtual 157, 3) := by decide +kernel
theorem dX6_ways_4 : decode cX6_ways 4 = .ok (.aload_n 0, 1) := by decide +kernel
theorem dX6_ways_5 : decode cX6_ways 5 = .ok (.getfield 28, 3) := by decide +kernel
theorem dX6_ways_8 : decode cX6_ways 8 = .ok (.getfield 160, 3) := by decide +kernel
theorem dX6_ways_11 : decode cX6_ways 11 = .ok (.invokevirtual 190, 3) := by decide +kernel
theorem dX6_ways_14 : decode cX6_ways 14 = .ok (.lreturn, 1) := by decide +kernel
set_option maxRecDepth 20000 in
theorem ggX6_circular_X2_inCircles : GoodIn wsX6_circular wsX2_inCircles := goodIn_r _ [6, 7, 8, 9, 10, 5, 11, 12, 13, 14, 15, 16, 17, 18, 19, 20, 21, 22, 23, 24, 25, 26, 27, 28, 29, 30, 31, 32, 33, 34, 35, 36, 41, 42, 43, 44, 45, 46, 47, 48, 49, 50, 51, 52, 53, 54, 55, 56] (by decide +kernel) (by decide +kernel)
set_option maxRecDepth 20000 in
theorem gX6_circular_X2_inCircles : GoodIn wsX6_circular (wsV RX6 205 RX2 yX2_inCircles wsX2_inCircles) := goodIn_app (goodIn_of _ (by decide +kernel)) ggX6_circular_X2_inCircles
theorem dX6_circular_0 : decode cX6_circular 0 = .ok (.aload_n 0, 1) := by decide +kernel
theorem dX6_circular_1 : decode cX6_circular 1 = .ok (.getfield 21, 3) := by decide +kernel
theorem dX6_circular_4 : decode cX6_circular 4 = .ok (.invokevirtual 205, 3) := by decide +kernel
theorem dX6_circular_7 : decode cX6_circular 7 = .ok (.ireturn, 1) := by decide +kernel
set_option maxRecDepth 20000 in
theorem ggX6_conflictCount_X2_countConflicts : GoodIn wsX6_conflictCount wsX2_countConflicts := goodIn_r _ [6, 7, 8, 9, 5, 10, 11, 12, 13, 14, 15, 16, 17, 18, 19, 20, 21, 22, 23, 24, 25, 26, 27, 28, 29, 30, 31, 32, 33, 34, 35, 36, 37, 38, 39, 40, 41, 42, 43, 44, 45, 46, 47, 48, 49, 50, 51, 52, 53, 54, 55, 56, 57, 58, 59, 60, 61, 66, 67, 68, 69, 70, 71, 72, 73, 74, 75, 76, 77, 78, 79, 80, 81] (by decide +kernel) (by decide +kernel)
set_option maxRecDepth 20000 in
theorem gX6_conflictCount_X2_countConflicts : GoodIn wsX6_conflictCount (wsV RX6 214 RX2 yX2_countConflicts wsX2_countConflicts) := goodIn_app (goodIn_of _ (by decide +kernel)) ggX6_conflictCount_X2_countConflicts
theorem dX6_conflictCount_0 : decode cX6_conflictCount 0 = .ok (.aload_n 0, 1) := by decide +kernel
theorem dX6_conflictCount_1 : decode cX6_conflictCount 1 = .ok (.getfield 21, 3) := by decide +kernel
theorem dX6_conflictCount_4 : decode cX6_conflictCount 4 = .ok (.invokevirtual 214, 3) := by decide +kernel
theorem dX6_conflictCount_7 : decode cX6_conflictCount 7 = .ok (.ireturn, 1) := by decide +kernel
set_option maxRecDepth 20000 in
theorem ggX6_ruleAt_X5_ruleOrNull : GoodIn wsX6_ruleAt wsX5_ruleOrNull := goodIn_r _ [8, 9, 10, 15, 16, 17] (by decide +kernel) (by decide +kernel)
set_option maxRecDepth 20000 in
theorem gX6_ruleAt_X5_ruleOrNull : GoodIn wsX6_ruleAt (wsV RX6 230 RX5 yX5_ruleOrNull wsX5_ruleOrNull) := goodIn_app (goodIn_of _ (by decide +kernel)) ggX6_ruleAt_X5_ruleOrNull
theorem dX6_ruleAt_0 : decode cX6_ruleAt 0 = .ok (.aload_n 0, 1) := by decide +kernel
theorem dX6_ruleAt_1 : decode cX6_ruleAt 1 = .ok (.getfield 10, 3) := by decide +kernel
theorem dX6_ruleAt_4 : decode cX6_ruleAt 4 = .ok (.iload_n 1, 1) := by decide +kernel
theorem dX6_ruleAt_5 : decode cX6_ruleAt 5 = .ok (.invokevirtual 230, 3) := by decide +kernel
theorem dX6_ruleAt_8 : decode cX6_ruleAt 8 = .ok (.astore_n 2, 1) := by decide +kernel
theorem dX6_ruleAt_9 : decode cX6_ruleAt 9 = .ok (.aload_n 2, 1) := by decide +kernel
theorem dX6_ruleAt_10 : decode cX6_ruleAt 10 = .ok (.ifnonnull 13, 3) := by decide +kernel
theorem dX6_ruleAt_13 : decode cX6_ruleAt 13 = .ok (.new 179, 3) := by decide +kernel
theorem dX6_ruleAt_16 : decode cX6_ruleAt 16 = .ok (.dup, 1) := by decide +kernel
