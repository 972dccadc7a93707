theorem dX7_disturbs_13 : decode cX7_disturbs 13 = .ok (.if_icmp .ge 103, 3) := by decide +kernel
theorem dX7_disturbs_16 : decode cX7_disturbs 16 = .ok (.aload_n 0, 1) := by decide +kernel
theorem dX7_disturbs_17 : decode cX7_disturbs 17 = .ok (.getfield 22, 3) := by decide +kernel
theorem dX7_disturbs_20 : decode cX7_disturbs 20 = .ok (.iconst 4, 1) := by decide +kernel
theorem dX7_disturbs_21 : decode cX7_disturbs 21 = .ok (.iload_n 1, 1) := by decide +kernel
theorem dX7_disturbs_22 : decode cX7_disturbs 22 = .ok (.imul, 1) := by decide +kernel
theorem dX7_disturbs_23 : decode cX7_disturbs 23 = .ok (.iload 4, 2) := by decide +kernel
theorem dX7_disturbs_25 : decode cX7_disturbs 25 = .ok (.iadd, 1) := by decide +kernel
theorem dX7_disturbs_26 : decode cX7_disturbs 26 = .ok (.iaload, 1) := by decide +kernel
theorem dX7_disturbs_27 : decode cX7_disturbs 27 = .ok (.istore 5, 2) := by decide +kernel
theorem dX7_disturbs_29 : decode cX7_disturbs 29 = .ok (.iload_n 3, 1) := by decide +kernel
theorem dX7_disturbs_30 : decode cX7_disturbs 30 = .ok (.ifCond .ne 26, 3) := by decide +kernel
theorem dX7_disturbs_33 : decode cX7_disturbs 33 = .ok (.aload_n 0, 1) := by decide +kernel
theorem dX7_disturbs_34 : decode cX7_disturbs 34 = .ok (.getfield 13, 3) := by decide +kernel
theorem dX7_disturbs_37 : decode cX7_disturbs 37 = .ok (.iload_n 2, 1) := by decide +kernel
theorem dX7_disturbs_38 : decode cX7_disturbs 38 = .ok (.iaload, 1) := by decide +kernel
theorem dX7_disturbs_39 : decode cX7_disturbs 39 = .ok (.aload_n 0, 1) := by decide +kernel
theorem dX7_disturbs_40 : decode cX7_disturbs 40 = .ok (.getfield 16, 3) := by decide +kernel
theorem dX7_disturbs_43 : decode cX7_disturbs 43 = .ok (.iload_n 2, 1) := by decide +kernel
theorem dX7_disturbs_44 : decode cX7_disturbs 44 = .ok (.iaload, 1) := by decide +kernel
theorem dX7_disturbs_45 : decode cX7_disturbs 45 = .ok (.ior, 1) := by decide +kernel
theorem dX7_disturbs_46 : decode cX7_disturbs 46 = .ok (.iload 5, 2) := by decide +kernel
theorem dX7_disturbs_48 : decode cX7_disturbs 48 = .ok (.iconst 2, 1) := by decide +kernel
theorem dX7_disturbs_49 : decode cX7_disturbs 49 = .ok (.idiv, 1) := by decide +kernel
theorem dX7_disturbs_50 : decode cX7_disturbs 50 = .ok (.invokestatic 77, 3) := by decide +kernel
theorem dX7_disturbs_53 : decode cX7_disturbs 53 = .ok (.ifCond .eq 7, 3) := by decide +kernel
theorem dX7_disturbs_56 : decode cX7_disturbs 56 = .ok (.iconst 1, 1) := by decide +kernel
theorem dX7_disturbs_57 : decode cX7_disturbs 57 = .ok (.goto 4, 3) := by decide +kernel
theorem dX7_disturbs_60 : decode cX7_disturbs 60 = .ok (.iconst 0, 1) := by decide +kernel
theorem dX7_disturbs_61 : decode cX7_disturbs 61 = .ok (.istore_n 3, 1) := by decide +kernel
theorem dX7_disturbs_62 : decode cX7_disturbs 62 = .ok (.iconst 0, 1) := by decide +kernel
theorem dX7_disturbs_63 : decode cX7_disturbs 63 = .ok (.istore 6, 2) := by decide +kernel
theorem dX7_disturbs_65 : decode cX7_disturbs 65 = .ok (.iload 6, 2) := by decide +kernel
theorem dX7_disturbs_67 : decode cX7_disturbs 67 = .ok (.aload_n 0, 1) := by decide +kernel
theorem dX7_disturbs_68 : decode cX7_disturbs 68 = .ok (.getfield 19, 3) := by decide +kernel
theorem dX7_disturbs_71 : decode cX7_disturbs 71 = .ok (.iload_n 2, 1) := by decide +kernel
theorem dX7_disturbs_72 : decode cX7_disturbs 72 = .ok (.iaload, 1) := by decide +kernel
theorem dX7_disturbs_73 : decode cX7_disturbs 73 = .ok (.if_icmp .ge 37, 3) := by decide +kernel
theorem dX7_disturbs_76 : decode cX7_disturbs 76 = .ok (.iload_n 3, 1) := by decide +kernel
theorem dX7_disturbs_77 : decode cX7_disturbs 77 = .ok (.ifCond .ne 21, 3) := by decide +kernel
theorem dX7_disturbs_80 : decode cX7_disturbs 80 = .ok (.aload_n 0, 1) := by decide +kernel
theorem dX7_disturbs_81 : decode cX7_disturbs 81 = .ok (.getfield 22, 3) := by decide +kernel
theorem dX7_disturbs_84 : decode cX7_disturbs 84 = .ok (.iconst 4, 1) := by decide +kernel
theorem dX7_disturbs_85 : decode cX7_disturbs 85 = .ok (.iload_n 2, 1) := by decide +kernel
theorem dX7_disturbs_86 : decode cX7_disturbs 86 = .ok (.imul, 1) := by decide +kernel
theorem dX7_disturbs_87 : decode cX7_disturbs 87 = .ok (.iload 6, 2) := by decide +kernel
theorem dX7_disturbs_89 : decode cX7_disturbs 89 = .ok (.iadd, 1) := by decide +kernel
theorem dX7_disturbs_90 : decode cX7_disturbs 90 = .ok (.iaload, 1) := by decide +kernel
theorem dX7_disturbs_91 : decode cX7_disturbs 91 = .ok (.iload 5, 2) := by decide +kernel
theorem dX7_disturbs_93 : decode cX7_disturbs 93 = .ok (.iconst 1, 1) := by decide +kernel
theorem dX7_disturbs_94 : decode cX7_disturbs 94 = .ok (.ixor, 1) := by decide +kernel
theorem dX7_disturbs_95 : decode cX7_disturbs 95 = .ok (.if_icmp .ne 7, 3) := by decide +kernel
theorem dX7_disturbs_98 : decode cX7_disturbs 98 = .ok (.iconst 1, 1) := by decide +kernel
theorem dX7_disturbs_99 : decode cX7_disturbs 99 = .ok (.goto 4, 3) := by decide +kernel
theorem dX7_disturbs_102 : decode cX7_disturbs 102 = .ok (.iconst 0, 1) := by decide +kernel
theorem dX7_disturbs_103 : decode cX7_disturbs 103 = .ok (.istore_n 3, 1) := by decide +kernel
theorem dX7_disturbs_104 : decode cX7_disturbs 104 = .ok (.iinc 6 1, 3) := by decide +kernel
theorem dX7_disturbs_107 : decode cX7_disturbs 107 = .ok (.goto (-42), 3) := by decide +kernel
theorem dX7_disturbs_110 : decode cX7_disturbs 110 = .ok (.iinc 4 1, 3) := by decide +kernel
theorem dX7_disturbs_113 : decode cX7_disturbs 113 = .ok (.goto (-108), 3) := by decide +kernel
theorem dX7_disturbs_116 : decode cX7_disturbs 116 = .ok (.iload_n 3, 1) := by decide +kernel
theorem dX7_disturbs_117 : decode cX7_disturbs 117 = .ok (.ireturn, 1) := by decide +kernel
set_option maxRecDepth 20000 in
theorem ggX7_doCommute_X7_triggers : GoodIn wsX7_doCommute wsX7_triggers := goodIn_r _ [6, 7, 8, 1, 9, 10, 20, 21, 22, 23, 24, 25, 26, 27, 28, 29, 30, 31, 32, 33, 34, 35, 36, 37] (by decide +kernel) (by decide +kernel)
set_option maxRecDepth 20000 in
theorem gX7_doCommute_X7_triggers : GoodIn wsX7_doCommute (wsV RX7 154 RX7 yX7_triggers wsX7_triggers) := goodIn_app (goodIn_of _ (by decide +kernel)) ggX7_doCommute_X7_triggers
set_option maxRecDepth 20000 in
theorem ggX7_doCommute_X7_disturbs : GoodIn wsX7_doCommute wsX7_disturbs := goodIn_r _ [14, 8, 9, 15, 16, 17, 18, 5, 19, 20, 21, 22, 23, 24, 25, 26, 27, 28, 29, 30, 31, 32, 33, 34, 35, 36, 37] (by decide +kernel) (by decide +kernel)
set_option maxRecDepth 20000 in
theorem gX7_doCommute_X7_disturbs : GoodIn wsX7_doCommute (wsV RX7 157 RX7 yX7_disturbs wsX7_disturbs) := goodIn_app (goodIn_of _ (by decide +kernel)) ggX7_doCommute_X7_disturbs
theorem dX7_doCommute_0 : decode cX7_doCommute 0 = .ok (.aload_n 0, 1) := by decide +kernel
theorem dX7_doCommute_1 : decode cX7_doCommute 1 = .ok (.getfield 25, 3) := by decide +kernel
theorem dX7_doCommute_4 : decode cX7_doCommute 4 = .ok (.iload_n 1, 1) := by decide +kernel
theorem dX7_doCommute_5 : decode cX7_doCommute 5 = .ok (.baload, 1) := by decide +kernel
theorem dX7_doCommute_6 : decode cX7_doCommute 6 = .ok (.ifCond .eq 12, 3) := by decide +kernel
theorem dX7_doCommute_9 : decode cX7_doCommute 9 = .ok (.aload_n 0, 1) := by decide +kernel
theorem dX7_doCommute_10 : decode cX7_doCommute 10 = .ok (.getfield 25, 3) := by decide +kernel
theorem dX7_doCommute_13 : decode cX7_doCommute 13 = .ok (.iload_n 2, 1) := by decide +kernel
theorem dX7_doCommute_14 : decode cX7_doCommute 14 = .ok (.baload, 1) := by decide +kernel
theorem dX7_doCommute_15 : decode cX7_doCommute 15 = .ok (.ifCond .ne 5, 3) := by decide +kernel
theorem dX7_doCommute_18 : decode cX7_doCommute 18 = .ok (.iconst 1, 1) := by decide +kernel
theorem dX7_doCommute_19 : decode cX7_doCommute 19 = .ok (.ireturn, 1) := by decide +kernel
theorem dX7_doCommute_20 : decode cX7_doCommute 20 = .ok (.aload_n 0, 1) := by decide +kernel
theorem dX7_doCommute_21 : decode cX7_doCommute 21 = .ok (.iload_n 1, 1) := by decide +kernel
theorem dX7_doCommute_22 : decode cX7_doCommute 22 = .ok (.invokevirtual 154, 3) := by decide +kernel
theorem dX7_doCommute_25 : decode cX7_doCommute 25 = .ok (.aload_n 0, 1) := by decide +kernel
theorem dX7_doCommute_26 : decode cX7_doCommute 26 = .ok (.iload_n 2, 1) := by decide +kernel
theorem dX7_doCommute_27 : decode cX7_doCommute 27 = .ok (.invokevirtual 154, 3) := by decide +kernel
theorem dX7_doCommute_30 : decode cX7_doCommute 30 = .ok (.ior, 1) := by decide +kernel
theorem dX7_doCommute_31 : decode cX7_doCommute 31 = .ok (.iconst 1, 1) := by decide +kernel
theorem dX7_doCommute_32 : decode cX7_doCommute 32 = .ok (.iload_n 1, 1) := by decide +kernel
theorem dX7_doCommute_33 : decode cX7_doCommute 33 = .ok (.ishl, 1) := by decide +kernel
theorem dX7_doCommute_34 : decode cX7_doCommute 34 = .ok (.iconst 1, 1) := by decide +kernel
theorem dX7_doCommute_35 : decode cX7_doCommute 35 = .ok (.iload_n 2, 1) := by decide +kernel
theorem dX7_doCommute_36 : decode cX7_doCommute 36 = .ok (.ishl, 1) := by decide +kernel
theorem dX7_doCommute_37 : decode cX7_doCommute 37 = .ok (.ior, 1) := by decide +kernel
theorem dX7_doCommute_38 : decode cX7_doCommute 38 = .ok (.iand, 1) := by decide +kernel
theorem dX7_doCommute_39 : decode cX7_doCommute 39 = .ok (.ifCond .ne 25, 3) := by decide +kernel
theorem dX7_doCommute_42 : decode cX7_doCommute 42 = .ok (.aload_n 0, 1) := by decide +kernel
theorem dX7_doCommute_43 : decode cX7_doCommute 43 = .ok (.iload_n 1, 1) := by decide +kernel
theorem dX7_doCommute_44 : decode cX7_doCommute 44 = .ok (.iload_n 2, 1) := by decide +kernel
theorem dX7_doCommute_45 : decode cX7_doCommute 45 = .ok (.invokevirtual 157, 3) := by decide +kernel
theorem dX7_doCommute_48 : decode cX7_doCommute 48 = .ok (.ifCond .ne 16, 3) := by decide +kernel
theorem dX7_doCommute_51 : decode cX7_doCommute 51 = .ok (.aload_n 0, 1) := by decide +kernel
theorem dX7_doCommute_52 : decode cX7_doCommute 52 = .ok (.iload_n 2, 1) := by decide +kernel
theorem dX7_doCommute_53 : decode cX7_doCommute 53 = .ok (.iload_n 1, 1) := by decide +kernel
theorem dX7_doCommute_54 : decode cX7_doCommute 54 = .ok (.invokevirtual 157, 3) := by decide +kernel
theorem dX7_doCommute_57 : decode cX7_doCommute 57 = .ok (.ifCond .ne 7, 3) := by decide +kernel
theorem dX7_doCommute_60 : decode cX7_doCommute 60 = .ok (.iconst 1, 1) := by decide +kernel
theorem dX7_doCommute_61 : decode cX7_doCommute 61 = .ok (.goto 4, 3) := by decide +kernel
theorem dX7_doCommute_64 : decode cX7_doCommute 64 = .ok (.iconst 0, 1) := by decide +kernel
theorem dX7_doCommute_65 : decode cX7_doCommute 65 = .ok (.ireturn, 1) := by decide +kernel
set_option maxRecDepth 20000 in
theorem ggX7_commute_X7_isRule : GoodIn wsX7_commute wsX7_isRule := goodIn_r _ [6, 7, 29, 30, 31, 32, 33, 34, 35, 36, 37, 38, 39, 40, 41, 42, 43, 44, 45, 46] (by decide +kernel) (by decide +kernel)
set_option maxRecDepth 20000 in
theorem gX7_commute_X7_isRule : GoodIn wsX7_commute (wsV RX7 71 RX7 yX7_isRule wsX7_isRule) := goodIn_app (goodIn_of _ (by decide +kernel)) ggX7_commute_X7_isRule
set_option maxRecDepth 20000 in
theorem ggX7_commute_X7_doCommute : GoodIn wsX7_commute wsX7_doCommute := goodIn_r _ [11, 12, 13, 14, 15, 5, 16, 7, 17, 18, 19, 20, 21, 22, 23, 24, 25, 26, 27, 28, 29, 30, 31, 32, 33, 34, 35, 36, 37, 38, 39, 40, 41, 42, 43, 44, 45, 46] (by decide +kernel) (by decide +kernel)
set_option maxRecDepth 20000 in
theorem gX7_commute_X7_doCommute : GoodIn wsX7_commute (wsV RX7 160 RX7 yX7_doCommute wsX7_doCommute) := goodIn_app (goodIn_of _ (by decide +kernel)) ggX7_commute_X7_doCommute
theorem dX7_commute_0 : decode cX7_commute 0 = .ok (.aload_n 0, 1) := by decide +kernel
theorem dX7_commute_1 : decode cX7_commute 1 = .ok (.aload_n 0, 1) := by decide +kernel
theorem dX7_commute_2 : decode cX7_commute 2 = .ok (.iload_n 1, 1) := by decide +kernel
theorem dX7_commute_3 : decode cX7_commute 3 = .ok (.invokevirtual 71, 3) := by decide +kernel
theorem dX7_commute_6 : decode cX7_commute 6 = .ok (.ifCond .eq 11, 3) := by decide +kernel
theorem dX7_commute_9 : decode cX7_commute 9 = .ok (.aload_n 0, 1) := by decide +kernel
theorem dX7_commute_10 : decode cX7_commute 10 = .ok (.iload_n 2, 1) := by decide +kernel
theorem dX7_commute_11 : decode cX7_commute 11 = .ok (.invokevirtual 71, 3) := by decide +kernel
theorem dX7_commute_14 : decode cX7_commute 14 = .ok (.ifCond .ne 7, 3) := by decide +kernel
theorem dX7_commute_17 : decode cX7_commute 17 = .ok (.iconst 1, 1) := by decide +kernel
theorem dX7_commute_18 : decode cX7_commute 18 = .ok (.goto 13, 3) := by decide +kernel
theorem dX7_commute_21 : decode cX7_commute 21 = .ok (.iload_n 1, 1) := by decide +kernel
theorem dX7_commute_22 : decode cX7_commute 22 = .ok (.iload_n 2, 1) := by decide +kernel
theorem dX7_commute_23 : decode cX7_commute 23 = .ok (.if_icmp .ne 7, 3) := by decide +kernel
theorem dX7_commute_26 : decode cX7_commute 26 = .ok (.iconst 2, 1) := by decide +kernel
theorem dX7_commute_27 : decode cX7_commute 27 = .ok (.goto 4, 3) := by decide +kernel
theorem dX7_commute_30 : decode cX7_commute 30 = .ok (.iconst 0, 1) := by decide +kernel
theorem dX7_commute_31 : decode cX7_commute 31 = .ok (.putfield 45, 3) := by decide +kernel
theorem dX7_commute_34 : decode cX7_commute 34 = .ok (.aload_n 0, 1) := by decide +kernel
theorem dX7_commute_35 : decode cX7_commute 35 = .ok (.getfield 45, 3) := by decide +kernel
theorem dX7_commute_38 : decode cX7_commute 38 = .ok (.ifCond .ne 16, 3) := by decide +kernel
theorem dX7_commute_41 : decode cX7_commute 41 = .ok (.aload_n 0, 1) := by decide +kernel
theorem dX7_commute_42 : decode cX7_commute 42 = .ok (.iload_n 1, 1) := by decide +kernel
theorem dX7_commute_43 : decode cX7_commute 43 = .ok (.iload_n 2, 1) := by decide +kernel
theorem dX7_commute_44 : decode cX7_commute 44 = .ok (.invokevirtual 160, 3) := by decide +kernel
theorem dX7_commute_47 : decode cX7_commute 47 = .ok (.ifCond .eq 7, 3) := by decide +kernel
theorem dX7_commute_50 : decode cX7_commute 50 = .ok (.iconst 1, 1) := by decide +kernel
theorem dX7_commute_51 : decode cX7_commute 51 = .ok (.goto 4, 3) := by decide +kernel
theorem dX7_commute_54 : decode cX7_commute 54 = .ok (.iconst 0, 1) := by decide +kernel
theorem dX7_commute_55 : decode cX7_commute 55 = .ok (.ireturn, 1) := by decide +kernel
set_option maxRecDepth 20000 in
theorem ggX7_isConflict_X7_doCommute : GoodIn wsX7_isConflict wsX7_doCommute := goodIn_r _ [6, 7, 8, 9, 10, 5, 11, 12, 13, 14, 15, 16, 17, 18, 19, 20, 21, 22, 23, 24, 25, 26, 27, 28, 29, 30, 31, 32, 33, 34, 35, 36, 37, 38, 39, 40, 41, 42] (by decide +kernel) (by decide +kernel)
set_option maxRecDepth 20000 in
theorem gX7_isConflict_X7_doCommute : GoodIn wsX7_isConflict (wsV RX7 160 RX7 yX7_doCommute wsX7_doCommute) := goodIn_app (goodIn_of _ (by decide +kernel)) ggX7_isConflict_X7_doCommute
set_option maxRecDepth 20000 in
theorem ggX7_isConflict_X7_has : GoodIn wsX7_isConflict wsX7_has := goodIn_r _ [24] (by decide +kernel) (by decide +kernel)
set_option maxRecDepth 20000 in
theorem gX7_isConflict_X7_has : GoodIn wsX7_isConflict (va_wsS RX7 77 yX7_has wsX7_has) := goodIn_app (goodIn_of _ (by decide +kernel)) ggX7_isConflict_X7_has
theorem dX7_isConflict_0 : decode cX7_isConflict 0 = .ok (.aload_n 0, 1) := by decide +kernel
theorem dX7_isConflict_1 : decode cX7_isConflict 1 = .ok (.iload_n 1, 1) := by decide +kernel
theorem dX7_isConflict_2 : decode cX7_isConflict 2 = .ok (.iload_n 2, 1) := by decide +kernel
theorem dX7_isConflict_3 : decode cX7_isConflict 3 = .ok (.invokevirtual 160, 3) := by decide +kernel
theorem dX7_isConflict_6 : decode cX7_isConflict 6 = .ok (.ifCond .ne 33, 3) := by decide +kernel
theorem dX7_isConflict_9 : decode cX7_isConflict 9 = .ok (.aload_n 0, 1) := by decide +kernel
theorem dX7_isConflict_10 : decode cX7_isConflict 10 = .ok (.getfield 29, 3) := by decide +kernel
theorem dX7_isConflict_13 : decode cX7_isConflict 13 = .ok (.iload_n 1, 1) := by decide +kernel
theorem dX7_isConflict_14 : decode cX7_isConflict 14 = .ok (.iaload, 1) := by decide +kernel
theorem dX7_isConflict_15 : decode cX7_isConflict 15 = .ok (.iload_n 2, 1) := by decide +kernel
theorem dX7_isConflict_16 : decode cX7_isConflict 16 = .ok (.invokestatic 77, 3) := by decide +kernel
theorem dX7_isConflict_19 : decode cX7_isConflict 19 = .ok (.ifCond .ne 20, 3) := by decide +kernel
theorem dX7_isConflict_22 : decode cX7_isConflict 22 = .ok (.aload_n 0, 1) := by decide +kernel
theorem dX7_isConflict_23 : decode cX7_isConflict 23 = .ok (.getfield 29, 3) := by decide +kernel
theorem dX7_isConflict_26 : decode cX7_isConflict 26 = .ok (.iload_n 2, 1) := by decide +kernel
theorem dX7_isConflict_27 : decode cX7_isConflict 27 = .ok (.iaload, 1) := by decide +kernel
theorem dX7_isConflict_28 : decode cX7_isConflict 28 = .ok (.iload_n 1, 1) := by decide +kernel
theorem dX7_isConflict_29 : decode cX7_isConflict 29 = .ok (.invokestatic 77, 3) := by decide +kernel
theorem dX7_isConflict_32 : decode cX7_isConflict 32 = .ok (.ifCond .ne 7, 3) := by decide +kernel
theorem dX7_isConflict_35 : decode cX7_isConflict 35 = .ok (.iconst 1, 1) := by decide +kernel
theorem dX7_isConflict_36 : decode cX7_isConflict 36 = .ok (.goto 4, 3) := by decide +kernel
theorem dX7_isConflict_39 : decode cX7_isConflict 39 = .ok (.iconst 0, 1) := by decide +kernel
theorem dX7_isConflict_40 : decode cX7_isConflict 40 = .ok (.ireturn, 1) := by decide +kernel
set_option maxRecDepth 20000 in
theorem ggX7_conflictCount_X7_isConflict : GoodIn wsX7_conflictCount wsX7_isConflict := goodIn_r _ [7, 8, 9, 10, 11, 6, 12, 13, 14, 15, 16, 17, 2, 18, 19, 20, 21, 22, 23, 24, 25, 26, 27, 28, 29, 30, 31, 32, 33, 34, 35, 36, 37, 38, 39, 40, 41, 42, 43, 44, 45, 46, 47] (by decide +kernel) (by decide +kernel)
set_option maxRecDepth 20000 in
theorem gX7_conflictCount_X7_isConflict : GoodIn wsX7_conflictCount (wsV RX7 163 RX7 yX7_isConflict wsX7_isConflict) := goodIn_app (goodIn_of _ (by decide +kernel)) ggX7_conflictCount_X7_isConflict
theorem dX7_conflictCount_0 : decode cX7_conflictCount 0 = .ok (.aload_n 0, 1) := by decide +kernel
theorem dX7_conflictCount_1 : decode cX7_conflictCount 1 = .ok (.iconst 0, 1) := by decide +kernel
theorem dX7_conflictCount_2 : decode cX7_conflictCount 2 = .ok (.putfield 45, 3) := by decide +kernel
theorem dX7_conflictCount_5 : decode cX7_conflictCount 5 = .ok (.iconst 0, 1) := by decide +kernel
theorem dX7_conflictCount_6 : decode cX7_conflictCount 6 = .ok (.istore_n 1, 1) := by decide +kernel
theorem dX7_conflictCount_7 : decode cX7_conflictCount 7 = .ok (.iconst 0, 1) := by decide +kernel
theorem dX7_conflictCount_8 : decode cX7_conflictCount 8 = .ok (.istore_n 2, 1) := by decide +kernel
theorem dX7_conflictCount_9 : decode cX7_conflictCount 9 = .ok (.iload_n 2, 1) := by decide +kernel
theorem dX7_conflictCount_10 : decode cX7_conflictCount 10 = .ok (.aload_n 0, 1) := by decide +kernel
theorem dX7_conflictCount_11 : decode cX7_conflictCount 11 = .ok (.getfield 49, 3) := by decide +kernel
theorem dX7_conflictCount_14 : decode cX7_conflictCount 14 = .ok (.if_icmp .ge 44, 3) := by decide +kernel
theorem dX7_conflictCount_17 : decode cX7_conflictCount 17 = .ok (.iload_n 2, 1) := by decide +kernel
theorem dX7_conflictCount_18 : decode cX7_conflictCount 18 = .ok (.iconst 1, 1) := by decide +kernel
theorem dX7_conflictCount_19 : decode cX7_conflictCount 19 = .ok (.iadd, 1) := by decide +kernel
theorem dX7_conflictCount_20 : decode cX7_conflictCount 20 = .ok (.istore_n 3, 1) := by decide +kernel
theorem dX7_conflictCount_21 : decode cX7_conflictCount 21 = .ok (.iload_n 3, 1) := by decide +kernel
theorem dX7_conflictCount_22 : decode cX7_conflictCount 22 = .ok (.aload_n 0, 1) := by decide +kernel
theorem dX7_conflictCount_23 : decode cX7_conflictCount 23 = .ok (.getfield 49, 3) := by decide +kernel
theorem dX7_conflictCount_26 : decode cX7_conflictCount 26 = .ok (.if_icmp .ge 26, 3) := by decide +kernel
theorem dX7_conflictCount_29 : decode cX7_conflictCount 29 = .ok (.iload_n 1, 1) := by decide +kernel
theorem dX7_conflictCount_30 : decode cX7_conflictCount 30 = .ok (.aload_n 0, 1) := by decide +kernel
theorem dX7_conflictCount_31 : decode cX7_conflictCount 31 = .ok (.iload_n 2, 1) := by decide +kernel
theorem dX7_conflictCount_32 : decode cX7_conflictCount 32 = .ok (.iload_n 3, 1) := by decide +kernel
theorem dX7_conflictCount_33 : decode cX7_conflictCount 33 = .ok (.invokevirtual 163, 3) := by decide +kernel
theorem dX7_conflictCount_36 : decode cX7_conflictCount 36 = .ok (.ifCond .eq 7, 3) := by decide +kernel
theorem dX7_conflictCount_39 : decode cX7_conflictCount 39 = .ok (.iconst 1, 1) := by decide +kernel
theorem dX7_conflictCount_40 : decode cX7_conflictCount 40 = .ok (.goto 4, 3) := by decide +kernel
theorem dX7_conflictCount_43 : decode cX7_conflictCount 43 = .ok (.iconst 0, 1) := by decide +kernel
theorem dX7_conflictCount_44 : decode cX7_conflictCount 44 = .ok (.iadd, 1) := by decide +kernel
theorem dX7_conflictCount_45 : decode cX7_conflictCount 45 = .ok (.istore_n 1, 1) := by decide +kernel
theorem dX7_conflictCount_46 : decode cX7_conflictCount 46 = .ok (.iinc 3 1, 3) := by decide +kernel
theorem dX7_conflictCount_49 : decode cX7_conflictCount 49 = .ok (.goto (-28), 3) := by decide +kernel
theorem dX7_conflictCount_52 : decode cX7_conflictCount 52 = .ok (.iinc 2 1, 3) := by decide +kernel
theorem dX7_conflictCount_55 : decode cX7_conflictCount 55 = .ok (.goto (-46), 3) := by decide +kernel
theorem dX7_conflictCount_58 : decode cX7_conflictCount 58 = .ok (.iload_n 1, 1) := by decide +kernel
theorem dX7_conflictCount_59 : decode cX7_conflictCount 59 = .ok (.ireturn, 1) := by decide +kernel
set_option maxRecDepth 20000 in
theorem ggX7_conflict_X7_isConflict : GoodIn wsX7_conflict wsX7_isConflict := goodIn_r _ [7, 8, 9, 10, 11, 6, 12, 13, 14, 15, 16, 17, 2, 18, 19, 20, 21, 22, 23, 24, 25, 26, 27, 28, 29, 34, 35, 36, 37, 38, 39, 40, 41, 42, 43, 44, 45, 46, 47, 48, 49, 50, 51] (by decide +kernel) (by decide +kernel)
set_option maxRecDepth 20000 in
theorem gX7_conflict_X7_isConflict : GoodIn wsX7_conflict (wsV RX7 163 RX7 yX7_isConflict wsX7_isConflict) := goodIn_app (goodIn_of _ (by decide +kernel)) ggX7_conflict_X7_isConflict
set_option maxRecDepth 20000 in
theorem ggX7_conflict_X7_fail : GoodIn wsX7_conflict wsX7_fail := goodIn_r _ [33, 1, 34, 35, 36, 37, 38, 39, 40, 41, 42, 43, 44, 45, 46, 47, 48, 49, 50, 51] (by decide +kernel) (by decide +kernel)
set_option maxRecDepth 20000 in
theorem gX7_conflict_X7_fail : GoodIn wsX7_conflict (wsV RX7 56 RX7 yX7_fail wsX7_fail) := goodIn_app (goodIn_of _ (by decide +kernel)) ggX7_conflict_X7_fail
theorem dX7_conflict_0 : decode cX7_conflict 0 = .ok (.aload_n 0, 1) := by decide +kernel
theorem dX7_conflict_1 : decode cX7_conflict 1 = .ok (.iconst 0, 1) := by decide +kernel
theorem dX7_conflict_2 : decode cX7_conflict 2 = .ok (.putfield 45, 3) := by decide +kernel
theorem dX7_conflict_5 : decode cX7_conflict 5 = .ok (.iload_n 1, 1) := by decide +kernel
theorem dX7_conflict_6 : decode cX7_conflict 6 = .ok (.istore_n 2, 1) := by decide +kernel
theorem dX7_conflict_7 : decode cX7_conflict 7 = .ok (.iconst 0, 1) := by decide +kernel
theorem dX7_conflict_8 : decode cX7_conflict 8 = .ok (.istore_n 3, 1) := by decide +kernel
theorem dX7_conflict_9 : decode cX7_conflict 9 = .ok (.iload_n 3, 1) := by decide +kernel
theorem dX7_conflict_10 : decode cX7_conflict 10 = .ok (.aload_n 0, 1) := by decide +kernel
theorem dX7_conflict_11 : decode cX7_conflict 11 = .ok (.getfield 49, 3) := by decide +kernel
theorem dX7_conflict_14 : decode cX7_conflict 14 = .ok (.if_icmp .ge 63, 3) := by decide +kernel
theorem dX7_conflict_17 : decode cX7_conflict 17 = .ok (.iload_n 3, 1) := by decide +kernel
theorem dX7_conflict_18 : decode cX7_conflict 18 = .ok (.iconst 1, 1) := by decide +kernel
theorem dX7_conflict_19 : decode cX7_conflict 19 = .ok (.iadd, 1) := by decide +kernel
theorem dX7_conflict_20 : decode cX7_conflict 20 = .ok (.istore 4, 2) := by decide +kernel
theorem dX7_conflict_22 : decode cX7_conflict 22 = .ok (.iload 4, 2) := by decide +kernel
theorem dX7_conflict_24 : decode cX7_conflict 24 = .ok (.aload_n 0, 1) := by decide +kernel
theorem dX7_conflict_25 : decode cX7_conflict 25 = .ok (.getfield 49, 3) := by decide +kernel
theorem dX7_conflict_28 : decode cX7_conflict 28 = .ok (.if_icmp .ge 43, 3) := by decide +kernel
theorem dX7_conflict_31 : decode cX7_conflict 31 = .ok (.iload_n 2, 1) := by decide +kernel
theorem dX7_conflict_32 : decode cX7_conflict 32 = .ok (.ifCond .lt 39, 3) := by decide +kernel
theorem dX7_conflict_35 : decode cX7_conflict 35 = .ok (.iload_n 2, 1) := by decide +kernel
theorem dX7_conflict_36 : decode cX7_conflict 36 = .ok (.aload_n 0, 1) := by decide +kernel
theorem dX7_conflict_37 : decode cX7_conflict 37 = .ok (.iload_n 3, 1) := by decide +kernel
theorem dX7_conflict_38 : decode cX7_conflict 38 = .ok (.iload 4, 2) := by decide +kernel
theorem dX7_conflict_40 : decode cX7_conflict 40 = .ok (.invokevirtual 163, 3) := by decide +kernel
theorem dX7_conflict_43 : decode cX7_conflict 43 = .ok (.ifCond .eq 7, 3) := by decide +kernel
theorem dX7_conflict_46 : decode cX7_conflict 46 = .ok (.iconst 1, 1) := by decide +kernel
theorem dX7_conflict_47 : decode cX7_conflict 47 = .ok (.goto 4, 3) := by decide +kernel
theorem dX7_conflict_50 : decode cX7_conflict 50 = .ok (.iconst 0, 1) := by decide +kernel
theorem dX7_conflict_51 : decode cX7_conflict 51 = .ok (.isub, 1) := by decide +kernel
theorem dX7_conflict_52 : decode cX7_conflict 52 = .ok (.istore_n 2, 1) := by decide +kernel
theorem dX7_conflict_53 : decode cX7_conflict 53 = .ok (.iload_n 2, 1) := by decide +kernel
theorem dX7_conflict_54 : decode cX7_conflict 54 = .ok (.ifCond .ge 11, 3) := by decide +kernel
theorem dX7_conflict_57 : decode cX7_conflict 57 = .ok (.bipush 10, 2) := by decide +kernel
theorem dX7_conflict_59 : decode cX7_conflict 59 = .ok (.iload_n 3, 1) := by decide +kernel
theorem dX7_conflict_60 : decode cX7_conflict 60 = .ok (.imul, 1) := by decide +kernel
theorem dX7_conflict_61 : decode cX7_conflict 61 = .ok (.iload 4, 2) := by decide +kernel
theorem dX7_conflict_63 : decode cX7_conflict 63 = .ok (.iadd, 1) := by decide +kernel
theorem dX7_conflict_64 : decode cX7_conflict 64 = .ok (.ireturn, 1) := by decide +kernel
theorem dX7_conflict_65 : decode cX7_conflict 65 = .ok (.iinc 4 1, 3) := by decide +kernel
theorem dX7_conflict_68 : decode cX7_conflict 68 = .ok (.goto (-46), 3) := by decide +kernel
theorem dX7_conflict_71 : decode cX7_conflict 71 = .ok (.iinc 3 1, 3) := by decide +kernel
theorem dX7_conflict_74 : decode cX7_conflict 74 = .ok (.goto (-65), 3) := by decide +kernel
theorem dX7_conflict_77 : decode cX7_conflict 77 = .ok (.aload_n 0, 1) := by decide +kernel
theorem dX7_conflict_78 : decode cX7_conflict 78 = .ok (.iconst 1, 1) := by decide +kernel
theorem dX7_conflict_79 : decode cX7_conflict 79 = .ok (.invokevirtual 56, 3) := by decide +kernel
theorem dX7_conflict_82 : decode cX7_conflict 82 = .ok (.ireturn, 1) := by decide +kernel
theorem dX7_digest_0 : decode cX7_digest 0 = .ok (.aload_n 0, 1) := by decide +kernel
theorem dX7_digest_1 : decode cX7_digest 1 = .ok (.iconst 0, 1) := by decide +kernel
theorem dX7_digest_2 : decode cX7_digest 2 = .ok (.putfield 45, 3) := by decide +kernel
theorem dX7_digest_5 : decode cX7_digest 5 = .ok (.ldc2_w 166, 3) := by decide +kernel
theorem dX7_digest_8 : decode cX7_digest 8 = .ok (.aload_n 0, 1) := by decide +kernel
theorem dX7_digest_9 : decode cX7_digest 9 = .ok (.getfield 49, 3) := by decide +kernel
theorem dX7_digest_12 : decode cX7_digest 12 = .ok (.i2l, 1) := by decide +kernel
theorem dX7_digest_13 : decode cX7_digest 13 = .ok (.ladd, 1) := by decide +kernel
theorem dX7_digest_14 : decode cX7_digest 14 = .ok (.lstore_n 1, 1) := by decide +kernel
theorem dX7_digest_15 : decode cX7_digest 15 = .ok (.iconst 0, 1) := by decide +kernel
theorem dX7_digest_16 : decode cX7_digest 16 = .ok (.istore_n 3, 1) := by decide +kernel
theorem dX7_digest_17 : decode cX7_digest 17 = .ok (.iload_n 3, 1) := by decide +kernel
theorem dX7_digest_18 : decode cX7_digest 18 = .ok (.aload_n 0, 1) := by decide +kernel
theorem dX7_digest_19 : decode cX7_digest 19 = .ok (.getfield 49, 3) := by decide +kernel
theorem dX7_digest_22 : decode cX7_digest 22 = .ok (.if_icmp .ge 131, 3) := by decide +kernel
theorem dX7_digest_25 : decode cX7_digest 25 = .ok (.lload_n 1, 1) := by decide +kernel
theorem dX7_digest_26 : decode cX7_digest 26 = .ok (.ldc2_w 168, 3) := by decide +kernel
theorem dX7_digest_29 : decode cX7_digest 29 = .ok (.lmul, 1) := by decide +kernel
theorem dX7_digest_30 : decode cX7_digest 30 = .ok (.aload_n 0, 1) := by decide +kernel
theorem dX7_digest_31 : decode cX7_digest 31 = .ok (.getfield 9, 3) := by decide +kernel
theorem dX7_digest_34 : decode cX7_digest 34 = .ok (.iload_n 3, 1) := by decide +kernel
theorem dX7_digest_35 : decode cX7_digest 35 = .ok (.iaload, 1) := by decide +kernel
theorem dX7_digest_36 : decode cX7_digest 36 = .ok (.i2l, 1) := by decide +kernel
theorem dX7_digest_37 : decode cX7_digest 37 = .ok (.ladd, 1) := by decide +kernel
theorem dX7_digest_38 : decode cX7_digest 38 = .ok (.ldc2_w 168, 3) := by decide +kernel
theorem dX7_digest_41 : decode cX7_digest 41 = .ok (.lmul, 1) := by decide +kernel
theorem dX7_digest_42 : decode cX7_digest 42 = .ok (.aload_n 0, 1) := by decide +kernel
theorem dX7_digest_43 : decode cX7_digest 43 = .ok (.getfield 13, 3) := by decide +kernel
theorem dX7_digest_46 : decode cX7_digest 46 = .ok (.iload_n 3, 1) := by decide +kernel
theorem dX7_digest_47 : decode cX7_digest 47 = .ok (.iaload, 1) := by decide +kernel
theorem dX7_digest_48 : decode cX7_digest 48 = .ok (.i2l, 1) := by decide +kernel
theorem dX7_digest_49 : decode cX7_digest 49 = .ok (.ladd, 1) := by decide +kernel
theorem dX7_digest_50 : decode cX7_digest 50 = .ok (.ldc2_w 168, 3) := by decide +kernel
theorem dX7_digest_53 : decode cX7_digest 53 = .ok (.lmul, 1) := by decide +kernel
theorem dX7_digest_54 : decode cX7_digest 54 = .ok (.aload_n 0, 1) := by decide +kernel
theorem dX7_digest_55 : decode cX7_digest 55 = .ok (.getfield 16, 3) := by decide +kernel
theorem dX7_digest_58 : decode cX7_digest 58 = .ok (.iload_n 3, 1) := by decide +kernel
theorem dX7_digest_59 : decode cX7_digest 59 = .ok (.iaload, 1) := by decide +kernel
theorem dX7_digest_60 : decode cX7_digest 60 = .ok (.i2l, 1) := by decide +kernel
theorem dX7_digest_61 : decode cX7_digest 61 = .ok (.ladd, 1) := by decide +kernel
theorem dX7_digest_62 : decode cX7_digest 62 = .ok (.ldc2_w 168, 3) := by decide +kernel
theorem dX7_digest_65 : decode cX7_digest 65 = .ok (.lmul, 1) := by decide +kernel
theorem dX7_digest_66 : decode cX7_digest 66 = .ok (.aload_n 0, 1) := by decide +kernel
theorem dX7_digest_67 : decode cX7_digest 67 = .ok (.getfield 19, 3) := by decide +kernel
theorem dX7_digest_70 : decode cX7_digest 70 = .ok (.iload_n 3, 1) := by decide +kernel
theorem dX7_digest_71 : decode cX7_digest 71 = .ok (.iaload, 1) := by decide +kernel
theorem dX7_digest_72 : decode cX7_digest 72 = .ok (.i2l, 1) := by decide +kernel
theorem dX7_digest_73 : decode cX7_digest 73 = .ok (.ladd, 1) := by decide +kernel
theorem dX7_digest_74 : decode cX7_digest 74 = .ok (.lstore_n 1, 1) := by decide +kernel
theorem dX7_digest_75 : decode cX7_digest 75 = .ok (.iconst 0, 1) := by decide +kernel
theorem dX7_digest_76 : decode cX7_digest 76 = .ok (.istore 4, 2) := by decide +kernel
theorem dX7_digest_78 : decode cX7_digest 78 = .ok (.iload 4, 2) := by decide +kernel
theorem dX7_digest_80 : decode cX7_digest 80 = .ok (.aload_n 0, 1) := by decide +kernel
theorem dX7_digest_81 : decode cX7_digest 81 = .ok (.getfield 19, 3) := by decide +kernel
theorem dX7_digest_84 : decode cX7_digest 84 = .ok (.iload_n 3, 1) := by decide +kernel
theorem dX7_digest_85 : decode cX7_digest 85 = .ok (.iaload, 1) := by decide +kernel
theorem dX7_digest_86 : decode cX7_digest 86 = .ok (.if_icmp .ge 28, 3) := by decide +kernel
theorem dX7_digest_89 : decode cX7_digest 89 = .ok (.lload_n 1, 1) := by decide +kernel
theorem dX7_digest_90 : decode cX7_digest 90 = .ok (.ldc2_w 168, 3) := by decide +kernel
theorem dX7_digest_93 : decode cX7_digest 93 = .ok (.lmul, 1) := by decide +kernel
theorem dX7_digest_94 : decode cX7_digest 94 = .ok (.aload_n 0, 1) := by decide +kernel
theorem dX7_digest_95 : decode cX7_digest 95 = .ok (.getfield 22, 3) := by decide +kernel
theorem dX7_digest_98 : decode cX7_digest 98 = .ok (.iconst 4, 1) := by decide +kernel
theorem dX7_digest_99 : decode cX7_digest 99 = .ok (.iload_n 3, 1) := by decide +kernel
theorem dX7_digest_100 : decode cX7_digest 100 = .ok (.imul, 1) := by decide +kernel
theorem dX7_digest_101 : decode cX7_digest 101 = .ok (.iload 4, 2) := by decide +kernel
theorem dX7_digest_103 : decode cX7_digest 103 = .ok (.iadd, 1) := by decide +kernel
theorem dX7_digest_104 : decode cX7_digest 104 = .ok (.iaload, 1) := by decide +kernel
theorem dX7_digest_105 : decode cX7_digest 105 = .ok (.i2l, 1) := by decide +kernel
theorem dX7_digest_106 : decode cX7_digest 106 = .ok (.ladd, 1) := by decide +kernel
theorem dX7_digest_107 : decode cX7_digest 107 = .ok (.lstore_n 1, 1) := by decide +kernel
theorem dX7_digest_108 : decode cX7_digest 108 = .ok (.iinc 4 1, 3) := by decide +kernel
theorem dX7_digest_111 : decode cX7_digest 111 = .ok (.goto (-33), 3) := by decide +kernel
theorem dX7_digest_114 : decode cX7_digest 114 = .ok (.lload_n 1, 1) := by decide +kernel
theorem dX7_digest_115 : decode cX7_digest 115 = .ok (.ldc2_w 168, 3) := by decide +kernel
theorem dX7_digest_118 : decode cX7_digest 118 = .ok (.lmul, 1) := by decide +kernel
theorem dX7_digest_119 : decode cX7_digest 119 = .ok (.aload_n 0, 1) := by decide +kernel
theorem dX7_digest_120 : decode cX7_digest 120 = .ok (.getfield 25, 3) := by decide +kernel
theorem dX7_digest_123 : decode cX7_digest 123 = .ok (.iload_n 3, 1) := by decide +kernel
theorem dX7_digest_124 : decode cX7_digest 124 = .ok (.baload, 1) := by decide +kernel
theorem dX7_digest_125 : decode cX7_digest 125 = .ok (.ifCond .eq 7, 3) := by decide +kernel
theorem dX7_digest_128 : decode cX7_digest 128 = .ok (.lconst 1, 1) := by decide +kernel
theorem dX7_digest_129 : decode cX7_digest 129 = .ok (.goto 4, 3) := by decide +kernel
theorem dX7_digest_132 : decode cX7_digest 132 = .ok (.lconst 0, 1) := by decide +kernel
theorem dX7_digest_133 : decode cX7_digest 133 = .ok (.ladd, 1) := by decide +kernel
theorem dX7_digest_134 : decode cX7_digest 134 = .ok (.ldc2_w 168, 3) := by decide +kernel
theorem dX7_digest_137 : decode cX7_digest 137 = .ok (.lmul, 1) := by decide +kernel
theorem dX7_digest_138 : decode cX7_digest 138 = .ok (.aload_n 0, 1) := by decide +kernel
theorem dX7_digest_139 : decode cX7_digest 139 = .ok (.getfield 29, 3) := by decide +kernel
theorem dX7_digest_142 : decode cX7_digest 142 = .ok (.iload_n 3, 1) := by decide +kernel
theorem dX7_digest_143 : decode cX7_digest 143 = .ok (.iaload, 1) := by decide +kernel
theorem dX7_digest_144 : decode cX7_digest 144 = .ok (.i2l, 1) := by decide +kernel
theorem dX7_digest_145 : decode cX7_digest 145 = .ok (.ladd, 1) := by decide +kernel
theorem dX7_digest_146 : decode cX7_digest 146 = .ok (.lstore_n 1, 1) := by decide +kernel
theorem dX7_digest_147 : decode cX7_digest 147 = .ok (.iinc 3 1, 3) := by decide +kernel
theorem dX7_digest_150 : decode cX7_digest 150 = .ok (.goto (-133), 3) := by decide +kernel
theorem dX7_digest_153 : decode cX7_digest 153 = .ok (.lload_n 1, 1) := by decide +kernel
theorem dX7_digest_154 : decode cX7_digest 154 = .ok (.ldc2_w 168, 3) := by decide +kernel
theorem dX7_digest_157 : decode cX7_digest 157 = .ok (.lmul, 1) := by decide +kernel
theorem dX7_digest_158 : decode cX7_digest 158 = .ok (.aload_n 0, 1) := by decide +kernel
theorem dX7_digest_159 : decode cX7_digest 159 = .ok (.getfield 91, 3) := by decide +kernel
theorem dX7_digest_162 : decode cX7_digest 162 = .ok (.i2l, 1) := by decide +kernel
theorem dX7_digest_163 : decode cX7_digest 163 = .ok (.ladd, 1) := by decide +kernel
theorem dX7_digest_164 : decode cX7_digest 164 = .ok (.ldc2_w 168, 3) := by decide +kernel
theorem dX7_digest_167 : decode cX7_digest 167 = .ok (.lmul, 1) := by decide +kernel
theorem dX7_digest_168 : decode cX7_digest 168 = .ok (.aload_n 0, 1) := by decide +kernel
theorem dX7_digest_169 : decode cX7_digest 169 = .ok (.getfield 74, 3) := by decide +kernel
theorem dX7_digest_172 : decode cX7_digest 172 = .ok (.i2l, 1) := by decide +kernel
theorem dX7_digest_173 : decode cX7_digest 173 = .ok (.ladd, 1) := by decide +kernel
theorem dX7_digest_174 : decode cX7_digest 174 = .ok (.lstore_n 1, 1) := by decide +kernel
theorem dX7_digest_175 : decode cX7_digest 175 = .ok (.aload_n 0, 1) := by decide +kernel
theorem dX7_digest_176 : decode cX7_digest 176 = .ok (.getfield 67, 3) := by decide +kernel
theorem dX7_digest_179 : decode cX7_digest 179 = .ok (.ifCond .eq 28, 3) := by decide +kernel
theorem dX7_digest_182 : decode cX7_digest 182 = .ok (.lload_n 1, 1) := by decide +kernel
theorem dX7_digest_183 : decode cX7_digest 183 = .ok (.ldc2_w 168, 3) := by decide +kernel
theorem dX7_digest_186 : decode cX7_digest 186 = .ok (.lmul, 1) := by decide +kernel
theorem dX7_digest_187 : decode cX7_digest 187 = .ok (.aload_n 0, 1) := by decide +kernel
theorem dX7_digest_188 : decode cX7_digest 188 = .ok (.getfield 116, 3) := by decide +kernel
theorem dX7_digest_191 : decode cX7_digest 191 = .ok (.ifCond .eq 7, 3) := by decide +kernel
theorem dX7_digest_194 : decode cX7_digest 194 = .ok (.iconst (-1), 1) := by decide +kernel
theorem dX7_digest_195 : decode cX7_digest 195 = .ok (.goto 7, 3) := by decide +kernel
theorem dX7_digest_198 : decode cX7_digest 198 = .ok (.aload_n 0, 1) := by decide +kernel
theorem dX7_digest_199 : decode cX7_digest 199 = .ok (.getfield 113, 3) := by decide +kernel
theorem dX7_digest_202 : decode cX7_digest 202 = .ok (.i2l, 1) := by decide +kernel
theorem dX7_digest_203 : decode cX7_digest 203 = .ok (.ladd, 1) := by decide +kernel
theorem dX7_digest_204 : decode cX7_digest 204 = .ok (.goto 4, 3) := by decide +kernel
theorem dX7_digest_207 : decode cX7_digest 207 = .ok (.lload_n 1, 1) := by decide +kernel
theorem dX7_digest_208 : decode cX7_digest 208 = .ok (.lreturn, 1) := by decide +kernel
theorem dJ6_numberOfTrailingZeros_0f7a4_0 : decode cJ6_numberOfTrailingZeros_0f7a4 0 = .ok (.iload_n 0, 1) := by decide +kernel
theorem dJ6_numberOfTrailingZeros_0f7a4_1 : decode cJ6_numberOfTrailingZeros_0f7a4 1 = .ok (.iconst (-1), 1) := by decide +kernel
theorem dJ6_numberOfTrailingZeros_0f7a4_2 : decode cJ6_numberOfTrailingZeros_0f7a4 2 = .ok (.ixor, 1) := by decide +kernel
theorem dJ6_numberOfTrailingZeros_0f7a4_3 : decode cJ6_numberOfTrailingZeros_0f7a4 3 = .ok (.iload_n 0, 1) := by decide +kernel
theorem dJ6_numberOfTrailingZeros_0f7a4_4 : decode cJ6_numberOfTrailingZeros_0f7a4 4 = .ok (.iconst 1, 1) := by decide +kernel
theorem dJ6_numberOfTrailingZeros_0f7a4_5 : decode cJ6_numberOfTrailingZeros_0f7a4 5 = .ok (.isub, 1) := by decide +kernel
theorem dJ6_numberOfTrailingZeros_0f7a4_6 : decode cJ6_numberOfTrailingZeros_0f7a4 6 = .ok (.iand, 1) := by decide +kernel
theorem dJ6_numberOfTrailingZeros_0f7a4_7 : decode cJ6_numberOfTrailingZeros_0f7a4 7 = .ok (.istore_n 0, 1) := by decide +kernel
theorem dJ6_numberOfTrailingZeros_0f7a4_8 : decode cJ6_numberOfTrailingZeros_0f7a4 8 = .ok (.iload_n 0, 1) := by decide +kernel
theorem dJ6_numberOfTrailingZeros_0f7a4_9 : decode cJ6_numberOfTrailingZeros_0f7a4 9 = .ok (.ifCond .gt 8, 3) := by decide +kernel
theorem dJ6_numberOfTrailingZeros_0f7a4_12 : decode cJ6_numberOfTrailingZeros_0f7a4 12 = .ok (.iload_n 0, 1) := by decide +kernel
theorem dJ6_numberOfTrailingZeros_0f7a4_13 : decode cJ6_numberOfTrailingZeros_0f7a4 13 = .ok (.bipush 32, 2) := by decide +kernel
theorem dJ6_numberOfTrailingZeros_0f7a4_15 : decode cJ6_numberOfTrailingZeros_0f7a4 15 = .ok (.iand, 1) := by decide +kernel
theorem dJ6_numberOfTrailingZeros_0f7a4_16 : decode cJ6_numberOfTrailingZeros_0f7a4 16 = .ok (.ireturn, 1) := by decide +kernel
theorem dJ6_numberOfTrailingZeros_0f7a4_17 : decode cJ6_numberOfTrailingZeros_0f7a4 17 = .ok (.iconst 1, 1) := by decide +kernel
theorem dJ6_numberOfTrailingZeros_0f7a4_18 : decode cJ6_numberOfTrailingZeros_0f7a4 18 = .ok (.istore_n 1, 1) := by decide +kernel
theorem dJ6_numberOfTrailingZeros_0f7a4_19 : decode cJ6_numberOfTrailingZeros_0f7a4 19 = .ok (.iload_n 0, 1) := by decide +kernel
theorem dJ6_numberOfTrailingZeros_0f7a4_20 : decode cJ6_numberOfTrailingZeros_0f7a4 20 = .ok (.ldc_w 264, 3) := by decide +kernel
theorem dJ6_numberOfTrailingZeros_0f7a4_23 : decode cJ6_numberOfTrailingZeros_0f7a4 23 = .ok (.if_icmp .le 11, 3) := by decide +kernel
theorem dJ6_numberOfTrailingZeros_0f7a4_26 : decode cJ6_numberOfTrailingZeros_0f7a4 26 = .ok (.iinc 1 16, 3) := by decide +kernel
theorem dJ6_numberOfTrailingZeros_0f7a4_29 : decode cJ6_numberOfTrailingZeros_0f7a4 29 = .ok (.iload_n 0, 1) := by decide +kernel
theorem dJ6_numberOfTrailingZeros_0f7a4_30 : decode cJ6_numberOfTrailingZeros_0f7a4 30 = .ok (.bipush 16, 2) := by decide +kernel
theorem dJ6_numberOfTrailingZeros_0f7a4_32 : decode cJ6_numberOfTrailingZeros_0f7a4 32 = .ok (.iushr, 1) := by decide +kernel
theorem dJ6_numberOfTrailingZeros_0f7a4_33 : decode cJ6_numberOfTrailingZeros_0f7a4 33 = .ok (.istore_n 0, 1) := by decide +kernel
theorem dJ6_numberOfTrailingZeros_0f7a4_34 : decode cJ6_numberOfTrailingZeros_0f7a4 34 = .ok (.iload_n 0, 1) := by decide +kernel
theorem dJ6_numberOfTrailingZeros_0f7a4_35 : decode cJ6_numberOfTrailingZeros_0f7a4 35 = .ok (.sipush 256, 3) := by decide +kernel
theorem dJ6_numberOfTrailingZeros_0f7a4_38 : decode cJ6_numberOfTrailingZeros_0f7a4 38 = .ok (.if_icmp .le 11, 3) := by decide +kernel
theorem dJ6_numberOfTrailingZeros_0f7a4_41 : decode cJ6_numberOfTrailingZeros_0f7a4 41 = .ok (.iinc 1 8, 3) := by decide +kernel
theorem dJ6_numberOfTrailingZeros_0f7a4_44 : decode cJ6_numberOfTrailingZeros_0f7a4 44 = .ok (.iload_n 0, 1) := by decide +kernel
theorem dJ6_numberOfTrailingZeros_0f7a4_45 : decode cJ6_numberOfTrailingZeros_0f7a4 45 = .ok (.bipush 8, 2) := by decide +kernel
theorem dJ6_numberOfTrailingZeros_0f7a4_47 : decode cJ6_numberOfTrailingZeros_0f7a4 47 = .ok (.iushr, 1) := by decide +kernel
theorem dJ6_numberOfTrailingZeros_0f7a4_48 : decode cJ6_numberOfTrailingZeros_0f7a4 48 = .ok (.istore_n 0, 1) := by decide +kernel
theorem dJ6_numberOfTrailingZeros_0f7a4_49 : decode cJ6_numberOfTrailingZeros_0f7a4 49 = .ok (.iload_n 0, 1) := by decide +kernel
theorem dJ6_numberOfTrailingZeros_0f7a4_50 : decode cJ6_numberOfTrailingZeros_0f7a4 50 = .ok (.bipush 16, 2) := by decide +kernel
theorem dJ6_numberOfTrailingZeros_0f7a4_52 : decode cJ6_numberOfTrailingZeros_0f7a4 52 = .ok (.if_icmp .le 10, 3) := by decide +kernel
theorem dJ6_numberOfTrailingZeros_0f7a4_55 : decode cJ6_numberOfTrailingZeros_0f7a4 55 = .ok (.iinc 1 4, 3) := by decide +kernel
theorem dJ6_numberOfTrailingZeros_0f7a4_58 : decode cJ6_numberOfTrailingZeros_0f7a4 58 = .ok (.iload_n 0, 1) := by decide +kernel
theorem dJ6_numberOfTrailingZeros_0f7a4_59 : decode cJ6_numberOfTrailingZeros_0f7a4 59 = .ok (.iconst 4, 1) := by decide +kernel
theorem dJ6_numberOfTrailingZeros_0f7a4_60 : decode cJ6_numberOfTrailingZeros_0f7a4 60 = .ok (.iushr, 1) := by decide +kernel
theorem dJ6_numberOfTrailingZeros_0f7a4_61 : decode cJ6_numberOfTrailingZeros_0f7a4 61 = .ok (.istore_n 0, 1) := by decide +kernel
theorem dJ6_numberOfTrailingZeros_0f7a4_62 : decode cJ6_numberOfTrailingZeros_0f7a4 62 = .ok (.iload_n 0, 1) := by decide +kernel
theorem dJ6_numberOfTrailingZeros_0f7a4_63 : decode cJ6_numberOfTrailingZeros_0f7a4 63 = .ok (.iconst 4, 1) := by decide +kernel
theorem dJ6_numberOfTrailingZeros_0f7a4_64 : decode cJ6_numberOfTrailingZeros_0f7a4 64 = .ok (.if_icmp .le 10, 3) := by decide +kernel
theorem dJ6_numberOfTrailingZeros_0f7a4_67 : decode cJ6_numberOfTrailingZeros_0f7a4 67 = .ok (.iinc 1 2, 3) := by decide +kernel
theorem dJ6_numberOfTrailingZeros_0f7a4_70 : decode cJ6_numberOfTrailingZeros_0f7a4 70 = .ok (.iload_n 0, 1) := by decide +kernel
theorem dJ6_numberOfTrailingZeros_0f7a4_71 : decode cJ6_numberOfTrailingZeros_0f7a4 71 = .ok (.iconst 2, 1) := by decide +kernel
theorem dJ6_numberOfTrailingZeros_0f7a4_72 : decode cJ6_numberOfTrailingZeros_0f7a4 72 = .ok (.iushr, 1) := by decide +kernel
theorem dJ6_numberOfTrailingZeros_0f7a4_73 : decode cJ6_numberOfTrailingZeros_0f7a4 73 = .ok (.istore_n 0, 1) := by decide +kernel
theorem dJ6_numberOfTrailingZeros_0f7a4_74 : decode cJ6_numberOfTrailingZeros_0f7a4 74 = .ok (.iload_n 1, 1) := by decide +kernel
theorem dJ6_numberOfTrailingZeros_0f7a4_75 : decode cJ6_numberOfTrailingZeros_0f7a4 75 = .ok (.iload_n 0, 1) := by decide +kernel
theorem dJ6_numberOfTrailingZeros_0f7a4_76 : decode cJ6_numberOfTrailingZeros_0f7a4 76 = .ok (.iconst 1, 1) := by decide +kernel
theorem dJ6_numberOfTrailingZeros_0f7a4_77 : decode cJ6_numberOfTrailingZeros_0f7a4 77 = .ok (.iushr, 1) := by decide +kernel
theorem dJ6_numberOfTrailingZeros_0f7a4_78 : decode cJ6_numberOfTrailingZeros_0f7a4 78 = .ok (.iadd, 1) := by decide +kernel
theorem dJ6_numberOfTrailingZeros_0f7a4_79 : decode cJ6_numberOfTrailingZeros_0f7a4 79 = .ok (.ireturn, 1) := by decide +kernel
theorem dJ6_bitCount_0f7a4_0 : decode cJ6_bitCount_0f7a4 0 = .ok (.iload_n 0, 1) := by decide +kernel
theorem dJ6_bitCount_0f7a4_1 : decode cJ6_bitCount_0f7a4 1 = .ok (.iload_n 0, 1) := by decide +kernel
theorem dJ6_bitCount_0f7a4_2 : decode cJ6_bitCount_0f7a4 2 = .ok (.iconst 1, 1) := by decide +kernel
theorem dJ6_bitCount_0f7a4_3 : decode cJ6_bitCount_0f7a4 3 = .ok (.iushr, 1) := by decide +kernel
theorem dJ6_bitCount_0f7a4_4 : decode cJ6_bitCount_0f7a4 4 = .ok (.ldc_w 265, 3) := by decide +kernel
theorem dJ6_bitCount_0f7a4_7 : decode cJ6_bitCount_0f7a4 7 = .ok (.iand, 1) := by decide +kernel
theorem dJ6_bitCount_0f7a4_8 : decode cJ6_bitCount_0f7a4 8 = .ok (.isub, 1) := by decide +kernel
theorem dJ6_bitCount_0f7a4_9 : decode cJ6_bitCount_0f7a4 9 = .ok (.istore_n 0, 1) := by decide +kernel
theorem dJ6_bitCount_0f7a4_10 : decode cJ6_bitCount_0f7a4 10 = .ok (.iload_n 0, 1) := by decide +kernel
theorem dJ6_bitCount_0f7a4_11 : decode cJ6_bitCount_0f7a4 11 = .ok (.ldc_w 266, 3) := by decide +kernel
theorem dJ6_bitCount_0f7a4_14 : decode cJ6_bitCount_0f7a4 14 = .ok (.iand, 1) := by decide +kernel
theorem dJ6_bitCount_0f7a4_15 : decode cJ6_bitCount_0f7a4 15 = .ok (.iload_n 0, 1) := by decide +kernel
theorem dJ6_bitCount_0f7a4_16 : decode cJ6_bitCount_0f7a4 16 = .ok (.iconst 2, 1) := by decide +kernel
theorem dJ6_bitCount_0f7a4_17 : decode cJ6_bitCount_0f7a4 17 = .ok (.iushr, 1) := by decide +kernel
theorem dJ6_bitCount_0f7a4_18 : decode cJ6_bitCount_0f7a4 18 = .ok (.ldc_w 266, 3) := by decide +kernel
theorem dJ6_bitCount_0f7a4_21 : decode cJ6_bitCount_0f7a4 21 = .ok (.iand, 1) := by decide +kernel
theorem dJ6_bitCount_0f7a4_22 : decode cJ6_bitCount_0f7a4 22 = .ok (.iadd, 1) := by decide +kernel
theorem dJ6_bitCount_0f7a4_23 : decode cJ6_bitCount_0f7a4 23 = .ok (.istore_n 0, 1) := by decide +kernel
theorem dJ6_bitCount_0f7a4_24 : decode cJ6_bitCount_0f7a4 24 = .ok (.iload_n 0, 1) := by decide +kernel
theorem dJ6_bitCount_0f7a4_25 : decode cJ6_bitCount_0f7a4 25 = .ok (.iload_n 0, 1) := by decide +kernel
theorem dJ6_bitCount_0f7a4_26 : decode cJ6_bitCount_0f7a4 26 = .ok (.iconst 4, 1) := by decide +kernel
theorem dJ6_bitCount_0f7a4_27 : decode cJ6_bitCount_0f7a4 27 = .ok (.iushr, 1) := by decide +kernel
theorem dJ6_bitCount_0f7a4_28 : decode cJ6_bitCount_0f7a4 28 = .ok (.iadd, 1) := by decide +kernel
theorem dJ6_bitCount_0f7a4_29 : decode cJ6_bitCount_0f7a4 29 = .ok (.ldc_w 267, 3) := by decide +kernel
theorem dJ6_bitCount_0f7a4_32 : decode cJ6_bitCount_0f7a4 32 = .ok (.iand, 1) := by decide +kernel
theorem dJ6_bitCount_0f7a4_33 : decode cJ6_bitCount_0f7a4 33 = .ok (.istore_n 0, 1) := by decide +kernel
theorem dJ6_bitCount_0f7a4_34 : decode cJ6_bitCount_0f7a4 34 = .ok (.iload_n 0, 1) := by decide +kernel
theorem dJ6_bitCount_0f7a4_35 : decode cJ6_bitCount_0f7a4 35 = .ok (.iload_n 0, 1) := by decide +kernel
theorem dJ6_bitCount_0f7a4_36 : decode cJ6_bitCount_0f7a4 36 = .ok (.bipush 8, 2) := by decide +kernel
theorem dJ6_bitCount_0f7a4_38 : decode cJ6_bitCount_0f7a4 38 = .ok (.iushr, 1) := by decide +kernel
theorem dJ6_bitCount_0f7a4_39 : decode cJ6_bitCount_0f7a4 39 = .ok (.iadd, 1) := by decide +kernel
theorem dJ6_bitCount_0f7a4_40 : decode cJ6_bitCount_0f7a4 40 = .ok (.istore_n 0, 1) := by decide +kernel
theorem dJ6_bitCount_0f7a4_41 : decode cJ6_bitCount_0f7a4 41 = .ok (.iload_n 0, 1) := by decide +kernel
theorem dJ6_bitCount_0f7a4_42 : decode cJ6_bitCount_0f7a4 42 = .ok (.iload_n 0, 1) := by decide +kernel
theorem dJ6_bitCount_0f7a4_43 : decode cJ6_bitCount_0f7a4 43 = .ok (.bipush 16, 2) := by decide +kernel
theorem dJ6_bitCount_0f7a4_45 : decode cJ6_bitCount_0f7a4 45 = .ok (.iushr, 1) := by decide +kernel
theorem dJ6_bitCount_0f7a4_46 : decode cJ6_bitCount_0f7a4 46 = .ok (.iadd, 1) := by decide +kernel
theorem dJ6_bitCount_0f7a4_47 : decode cJ6_bitCount_0f7a4 47 = .ok (.istore_n 0, 1) := by decide +kernel
theorem dJ6_bitCount_0f7a4_48 : decode cJ6_bitCount_0f7a4 48 = .ok (.iload_n 0, 1) := by decide +kernel
theorem dJ6_bitCount_0f7a4_49 : decode cJ6_bitCount_0f7a4 49 = .ok (.bipush 63, 2) := by decide +kernel
theorem dJ6_bitCount_0f7a4_51 : decode cJ6_bitCount_0f7a4 51 = .ok (.iand, 1) := by decide +kernel
theorem dJ6_bitCount_0f7a4_52 : decode cJ6_bitCount_0f7a4 52 = .ok (.ireturn, 1) := by decide +kernel
theorem dJ9_max_7cf53_0 : decode cJ9_max_7cf53 0 = .ok (.iload_n 0, 1) := by decide +kernel
theorem dJ9_max_7cf53_1 : decode cJ9_max_7cf53 1 = .ok (.iload_n 1, 1) := by decide +kernel
theorem dJ9_max_7cf53_2 : decode cJ9_max_7cf53 2 = .ok (.if_icmp .lt 7, 3) := by decide +kernel
theorem dJ9_max_7cf53_5 : decode cJ9_max_7cf53 5 = .ok (.iload_n 0, 1) := by decide +kernel
theorem dJ9_max_7cf53_6 : decode cJ9_max_7cf53 6 = .ok (.goto 4, 3) := by decide +kernel
theorem dJ9_max_7cf53_9 : decode cJ9_max_7cf53 9 = .ok (.iload_n 1, 1) := by decide +kernel
theorem dJ9_max_7cf53_10 : decode cJ9_max_7cf53 10 = .ok (.ireturn, 1) := by decide +kernel
set_option maxRecDepth 20000 in
theorem ggL_addRule_X6_addRule : GoodIn wsL_addRule wsX6_addRule := goodIn_ca (goodIn_ca (goodIn_ca (goodIn_r _ [8, 9, 10, 11, 12, 13, 14, 7, 15, 16, 17, 18, 19, 20, 21, 22, 23, 24, 25, 26, 27, 28, 29, 30, 31, 32, 33, 34, 35, 36, 37, 38, 39, 40, 41, 42, 43, 44, 45, 46, 47, 48, 49, 50, 51, 52, 53, 54, 55, 56, 57, 58, 59, 60, 61, 62, 63, 64, 65, 66, 67, 68, 69, 70, 71, 72, 73, 74, 75, 76, 77, 78, 79, 80, 81, 82] (by decide +kernel) (by decide +kernel)) (goodIn_sub (fun _ h => List.mem_cons_of_mem _ (List.mem_append_left _ (List.mem_append_left _ (List.mem_append_right _ h)))) (by decide +kernel))) (goodIn_sub (fun _ h => List.mem_cons_of_mem _ (List.mem_append_left _ (List.mem_append_right _ h))) (by decide +kernel))) (goodIn_sub (fun _ h => List.mem_cons_of_mem _ (List.mem_append_right _ h)) (by decide +kernel))
set_option maxRecDepth 20000 in
theorem gL_addRule_X6_addRule : GoodIn wsL_addRule (wsV RL 7 RX6 yX6_addRule wsX6_addRule) := goodIn_app (goodIn_of _ (by decide +kernel)) ggL_addRule_X6_addRule
theorem dL_addRule_0 : decode cL_addRule 0 = .ok (.aload 5, 2) := by decide +kernel
theorem dL_addRule_2 : decode cL_addRule 2 = .ok (.iconst 0, 1) := by decide +kernel
theorem dL_addRule_3 : decode cL_addRule 3 = .ok (.aload_n 0, 1) := by decide +kernel
theorem dL_addRule_4 : decode cL_addRule 4 = .ok (.iload_n 1, 1) := by decide +kernel
theorem dL_addRule_5 : decode cL_addRule 5 = .ok (.iload_n 2, 1) := by decide +kernel
theorem dL_addRule_6 : decode cL_addRule 6 = .ok (.iload_n 3, 1) := by decide +kernel
theorem dL_addRule_7 : decode cL_addRule 7 = .ok (.iload 4, 2) := by decide +kernel
theorem dL_addRule_9 : decode cL_addRule 9 = .ok (.invokevirtual 7, 3) := by decide +kernel
theorem dL_addRule_12 : decode cL_addRule 12 = .ok (.i2l, 1) := by decide +kernel
theorem dL_addRule_13 : decode cL_addRule 13 = .ok (.lastore, 1) := by decide +kernel
theorem dL_addRule_14 : decode cL_addRule 14 = .ok (.goto 15, 3) := by decide +kernel
theorem dL_addRule_17 : decode cL_addRule 17 = .ok (.astore 6, 2) := by decide +kernel
theorem dL_addRule_19 : decode cL_addRule 19 = .ok (.iconst 1, 1) := by decide +kernel
theorem dL_addRule_20 : decode cL_addRule 20 = .ok (.ireturn, 1) := by decide +kernel
theorem dL_addRule_21 : decode cL_addRule 21 = .ok (.astore 6, 2) := by decide +kernel
theorem dL_addRule_23 : decode cL_addRule 23 = .ok (.iconst 2, 1) := by decide +kernel
theorem dL_addRule_24 : decode cL_addRule 24 = .ok (.ireturn, 1) := by decide +kernel
theorem dL_addRule_25 : decode cL_addRule 25 = .ok (.astore 6, 2) := by decide +kernel
theorem dL_addRule_27 : decode cL_addRule 27 = .ok (.iconst 3, 1) := by decide +kernel
theorem dL_addRule_28 : decode cL_addRule 28 = .ok (.ireturn, 1) := by decide +kernel
theorem dL_addRule_29 : decode cL_addRule 29 = .ok (.iconst 0, 1) := by decide +kernel
theorem dL_addRule_30 : decode cL_addRule 30 = .ok (.ireturn, 1) := by decide +kernel
set_option maxRecDepth 20000 in
theorem ggL_addAction_X6_addAction : GoodIn wsL_addAction wsX6_addAction := goodIn_ca (goodIn_ca (goodIn_r _ [7, 8, 9, 10, 11, 12, 13, 14, 6, 15, 16, 17, 18, 19, 20, 21, 22, 23, 24, 25, 26, 27, 28, 29, 30, 31, 32, 33, 34, 35, 36, 37, 38, 39, 40, 41, 42, 43, 44, 45, 46, 47, 48, 49, 50, 51, 52, 53, 54, 55, 56, 57, 58, 59, 60, 61, 62, 63, 64, 65, 66, 67, 68, 69, 70, 71, 72, 73, 74, 75, 76, 77, 78, 79, 80] (by decide +kernel) (by decide +kernel)) (goodIn_sub (fun _ h => List.mem_cons_of_mem _ (List.mem_append_left _ (List.mem_append_right _ h))) (by decide +kernel))) (goodIn_sub (fun _ h => List.mem_cons_of_mem _ (List.mem_append_right _ h)) (by decide +kernel))
set_option maxRecDepth 20000 in
theorem gL_addAction_X6_addAction : GoodIn wsL_addAction (wsV RL 19 RX6 yX6_addAction wsX6_addAction) := goodIn_app (goodIn_of _ (by decide +kernel)) ggL_addAction_X6_addAction
theorem dL_addAction_0 : decode cL_addAction 0 = .ok (.aload 4, 2) := by decide +kernel
theorem dL_addAction_2 : decode cL_addAction 2 = .ok (.iconst 0, 1) := by decide +kernel
theorem dL_addAction_3 : decode cL_addAction 3 = .ok (.aload_n 0, 1) := by decide +kernel
theorem dL_addAction_4 : decode cL_addAction 4 = .ok (.iload_n 1, 1) := by decide +kernel
theorem dL_addAction_5 : decode cL_addAction 5 = .ok (.iload_n 2, 1) := by decide +kernel
theorem dL_addAction_6 : decode cL_addAction 6 = .ok (.iload_n 3, 1) := by decide +kernel
theorem dL_addAction_7 : decode cL_addAction 7 = .ok (.invokevirtual 19, 3) := by decide +kernel
theorem dL_addAction_10 : decode cL_addAction 10 = .ok (.i2l, 1) := by decide +kernel
theorem dL_addAction_11 : decode cL_addAction 11 = .ok (.lastore, 1) := by decide +kernel
theorem dL_addAction_12 : decode cL_addAction 12 = .ok (.goto 11, 3) := by decide +kernel
theorem dL_addAction_15 : decode cL_addAction 15 = .ok (.astore 5, 2) := by decide +kernel
theorem dL_addAction_17 : decode cL_addAction 17 = .ok (.iconst 1, 1) := by decide +kernel
theorem dL_addAction_18 : decode cL_addAction 18 = .ok (.ireturn, 1) := by decide +kernel
theorem dL_addAction_19 : decode cL_addAction 19 = .ok (.astore 5, 2) := by decide +kernel
theorem dL_addAction_21 : decode cL_addAction 21 = .ok (.iconst 2, 1) := by decide +kernel
theorem dL_addAction_22 : decode cL_addAction 22 = .ok (.ireturn, 1) := by decide +kernel
theorem dL_addAction_23 : decode cL_addAction 23 = .ok (.iconst 0, 1) := by decide +kernel
theorem dL_addAction_24 : decode cL_addAction 24 = .ok (.ireturn, 1) := by decide +kernel
set_option maxRecDepth 20000 in
theorem ggL_turn_X6_turn : GoodIn wsL_turn wsX6_turn := goodIn_ca (goodIn_r _ [6, 7, 8, 9, 10, 11, 12, 13, 14, 5, 15, 16, 17, 18, 19, 20, 21, 22, 23, 24, 25, 26, 27, 28, 29, 30, 31, 32, 33, 34, 35, 36, 37, 38, 39, 40, 41, 42, 43, 44, 45, 46, 47, 48, 49, 50, 51, 52, 53, 54, 55, 56, 57, 58, 59, 60, 61, 62, 63, 64, 65, 66, 67, 68, 69, 70, 71, 72, 73, 74, 75, 76, 77] (by decide +kernel) (by decide +kernel)) (goodIn_sub (fun _ h => List.mem_cons_of_mem _ (List.mem_append_right _ h)) (by decide +kernel))
set_option maxRecDepth 20000 in
theorem gL_turn_X6_turn : GoodIn wsL_turn (wsV RL 23 RX6 yX6_turn wsX6_turn) := goodIn_app (goodIn_of _ (by decide +kernel)) ggL_turn_X6_turn
theorem dL_turn_0 : decode cL_turn 0 = .ok (.aload_n 3, 1) := by decide +kernel
theorem dL_turn_1 : decode cL_turn 1 = .ok (.iconst 0, 1) := by decide +kernel
theorem dL_turn_2 : decode cL_turn 2 = .ok (.aload_n 0, 1) := by decide +kernel
theorem dL_turn_3 : decode cL_turn 3 = .ok (.iload_n 1, 1) := by decide +kernel
theorem dL_turn_4 : decode cL_turn 4 = .ok (.iload_n 2, 1) := by decide +kernel
theorem dL_turn_5 : decode cL_turn 5 = .ok (.invokevirtual 23, 3) := by decide +kernel
theorem dL_turn_8 : decode cL_turn 8 = .ok (.ifCond .eq 7, 3) := by decide +kernel
theorem dL_turn_11 : decode cL_turn 11 = .ok (.lconst 1, 1) := by decide +kernel
theorem dL_turn_12 : decode cL_turn 12 = .ok (.goto 4, 3) := by decide +kernel
theorem dL_turn_15 : decode cL_turn 15 = .ok (.lconst 0, 1) := by decide +kernel
theorem dL_turn_16 : decode cL_turn 16 = .ok (.lastore, 1) := by decide +kernel
theorem dL_turn_17 : decode cL_turn 17 = .ok (.goto 7, 3) := by decide +kernel
theorem dL_turn_20 : decode cL_turn 20 = .ok (.astore 4, 2) := by decide +kernel
theorem dL_turn_22 : decode cL_turn 22 = .ok (.iconst 1, 1) := by decide +kernel
theorem dL_turn_23 : decode cL_turn 23 = .ok (.ireturn, 1) := by decide +kernel
theorem dL_turn_24 : decode cL_turn 24 = .ok (.iconst 0, 1) := by decide +kernel
theorem dL_turn_25 : decode cL_turn 25 = .ok (.ireturn, 1) := by decide +kernel
set_option maxRecDepth 20000 in
theorem ggL_rank_X6_rank : GoodIn wsL_rank wsX6_rank := goodIn_ca (goodIn_ca (goodIn_r _ [7, 8, 9, 10, 11, 12, 13, 14, 6, 15, 16, 17, 18, 19, 20, 21, 22, 23, 24, 25, 26, 27, 28, 29, 30, 31, 32, 33, 34, 35, 36, 37, 38, 39, 40, 41, 42, 43, 44, 45, 46, 47, 48, 49, 50, 51, 52, 53, 54, 55, 56, 57, 58, 59, 60, 61, 62, 63, 64, 65, 66, 67, 68, 69, 70, 71, 72, 73, 74] (by decide +kernel) (by decide +kernel)) (goodIn_sub (fun _ h => List.mem_cons_of_mem _ (List.mem_append_left _ (List.mem_append_right _ h))) (by decide +kernel))) (goodIn_sub (fun _ h => List.mem_cons_of_mem _ (List.mem_append_right _ h)) (by decide +kernel))
set_option maxRecDepth 20000 in
theorem gL_rank_X6_rank : GoodIn wsL_rank (wsV RL 27 RX6 yX6_rank wsX6_rank) := goodIn_app (goodIn_of _ (by decide +kernel)) ggL_rank_X6_rank
theorem dL_rank_0 : decode cL_rank 0 = .ok (.aload_n 3, 1) := by decide +kernel
theorem dL_rank_1 : decode cL_rank 1 = .ok (.iconst 0, 1) := by decide +kernel
theorem dL_rank_2 : decode cL_rank 2 = .ok (.aload_n 0, 1) := by decide +kernel
theorem dL_rank_3 : decode cL_rank 3 = .ok (.iload_n 1, 1) := by decide +kernel
theorem dL_rank_4 : decode cL_rank 4 = .ok (.iload_n 2, 1) := by decide +kernel
theorem dL_rank_5 : decode cL_rank 5 = .ok (.invokevirtual 27, 3) := by decide +kernel
theorem dL_rank_8 : decode cL_rank 8 = .ok (.ifCond .eq 7, 3) := by decide +kernel
theorem dL_rank_11 : decode cL_rank 11 = .ok (.lconst 1, 1) := by decide +kernel
theorem dL_rank_12 : decode cL_rank 12 = .ok (.goto 4, 3) := by decide +kernel
theorem dL_rank_15 : decode cL_rank 15 = .ok (.lconst 0, 1) := by decide +kernel
theorem dL_rank_16 : decode cL_rank 16 = .ok (.lastore, 1) := by decide +kernel
theorem dL_rank_17 : decode cL_rank 17 = .ok (.goto 11, 3) := by decide +kernel
theorem dL_rank_20 : decode cL_rank 20 = .ok (.astore 4, 2) := by decide +kernel
theorem dL_rank_22 : decode cL_rank 22 = .ok (.iconst 1, 1) := by decide +kernel
theorem dL_rank_23 : decode cL_rank 23 = .ok (.ireturn, 1) := by decide +kernel
theorem dL_rank_24 : decode cL_rank 24 = .ok (.astore 4, 2) := by decide +kernel
theorem dL_rank_26 : decode cL_rank 26 = .ok (.iconst 2, 1) := by decide +kernel
theorem dL_rank_27 : decode cL_rank 27 = .ok (.ireturn, 1) := by decide +kernel
theorem dL_rank_28 : decode cL_rank 28 = .ok (.iconst 0, 1) := by decide +kernel
theorem dL_rank_29 : decode cL_rank 29 = .ok (.ireturn, 1) := by decide +kernel
set_option maxRecDepth 20000 in
theorem ggL_isAbove_X6_isAbove : GoodIn wsL_isAbove wsX6_isAbove := goodIn_ca (goodIn_r _ [6, 7, 8, 9, 5, 10, 11, 12, 13, 14, 15, 16, 17, 18, 19, 20, 21, 22, 23, 24, 25, 26, 27, 28, 29, 30, 31, 32, 33, 34, 35, 36, 37, 38, 39, 40, 41, 42, 43, 44, 45] (by decide +kernel) (by decide +kernel)) (goodIn_sub (fun _ h => List.mem_cons_of_mem _ (List.mem_append_right _ h)) (by decide +kernel))
set_option maxRecDepth 20000 in
theorem gL_isAbove_X6_isAbove : GoodIn wsL_isAbove (wsV RL 31 RX6 yX6_isAbove wsX6_isAbove) := goodIn_app (goodIn_of _ (by decide +kernel)) ggL_isAbove_X6_isAbove
theorem dL_isAbove_0 : decode cL_isAbove 0 = .ok (.aload_n 3, 1) := by decide +kernel
theorem dL_isAbove_1 : decode cL_isAbove 1 = .ok (.iconst 0, 1) := by decide +kernel
theorem dL_isAbove_2 : decode cL_isAbove 2 = .ok (.aload_n 0, 1) := by decide +kernel
theorem dL_isAbove_3 : decode cL_isAbove 3 = .ok (.iload_n 1, 1) := by decide +kernel
theorem dL_isAbove_4 : decode cL_isAbove 4 = .ok (.iload_n 2, 1) := by decide +kernel
theorem dL_isAbove_5 : decode cL_isAbove 5 = .ok (.invokevirtual 31, 3) := by decide +kernel
theorem dL_isAbove_8 : decode cL_isAbove 8 = .ok (.ifCond .eq 7, 3) := by decide +kernel
theorem dL_isAbove_11 : decode cL_isAbove 11 = .ok (.lconst 1, 1) := by decide +kernel
theorem dL_isAbove_12 : decode cL_isAbove 12 = .ok (.goto 4, 3) := by decide +kernel
theorem dL_isAbove_15 : decode cL_isAbove 15 = .ok (.lconst 0, 1) := by decide +kernel
theorem dL_isAbove_16 : decode cL_isAbove 16 = .ok (.lastore, 1) := by decide +kernel
theorem dL_isAbove_17 : decode cL_isAbove 17 = .ok (.goto 7, 3) := by decide +kernel
theorem dL_isAbove_20 : decode cL_isAbove 20 = .ok (.astore 4, 2) := by decide +kernel
theorem dL_isAbove_22 : decode cL_isAbove 22 = .ok (.iconst 1, 1) := by decide +kernel
theorem dL_isAbove_23 : decode cL_isAbove 23 = .ok (.ireturn, 1) := by decide +kernel
theorem dL_isAbove_24 : decode cL_isAbove 24 = .ok (.iconst 0, 1) := by decide +kernel
theorem dL_isAbove_25 : decode cL_isAbove 25 = .ok (.ireturn, 1) := by decide +kernel
set_option maxRecDepth 20000 in
theorem ggL_put_X6_put : GoodIn wsL_put wsX6_put := goodIn_ca (goodIn_r _ [6, 7, 8, 9, 10, 5, 11, 12, 13, 14, 15, 16, 17, 18, 19, 20, 21, 22, 23, 24, 25, 26, 27, 28, 29, 30, 31, 32, 33, 34, 35, 36, 37, 38, 39, 40, 41] (by decide +kernel) (by decide +kernel)) (goodIn_sub (fun _ h => List.mem_cons_of_mem _ (List.mem_append_right _ h)) (by decide +kernel))
set_option maxRecDepth 20000 in
theorem gL_put_X6_put : GoodIn wsL_put (wsV RL 34 RX6 yX6_put wsX6_put) := goodIn_app (goodIn_of _ (by decide +kernel)) ggL_put_X6_put
theorem dL_put_0 : decode cL_put 0 = .ok (.aload_n 2, 1) := by decide +kernel
theorem dL_put_1 : decode cL_put 1 = .ok (.iconst 0, 1) := by decide +kernel
theorem dL_put_2 : decode cL_put 2 = .ok (.aload_n 0, 1) := by decide +kernel
theorem dL_put_3 : decode cL_put 3 = .ok (.iload_n 1, 1) := by decide +kernel
theorem dL_put_4 : decode cL_put 4 = .ok (.invokevirtual 34, 3) := by decide +kernel
theorem dL_put_7 : decode cL_put 7 = .ok (.i2l, 1) := by decide +kernel
theorem dL_put_8 : decode cL_put 8 = .ok (.lastore, 1) := by decide +kernel
theorem dL_put_9 : decode cL_put 9 = .ok (.goto 6, 3) := by decide +kernel
theorem dL_put_12 : decode cL_put 12 = .ok (.astore_n 3, 1) := by decide +kernel
theorem dL_put_13 : decode cL_put 13 = .ok (.iconst 1, 1) := by decide +kernel
theorem dL_put_14 : decode cL_put 14 = .ok (.ireturn, 1) := by decide +kernel
theorem dL_put_15 : decode cL_put 15 = .ok (.iconst 0, 1) := by decide +kernel
theorem dL_put_16 : decode cL_put 16 = .ok (.ireturn, 1) := by decide +kernel
set_option maxRecDepth 20000 in
theorem ggL_change_X6_change : GoodIn wsL_change wsX6_change := goodIn_ca (goodIn_r _ [6, 7, 8, 9, 10, 11, 5, 12, 13, 14, 15, 16, 17, 18, 19, 20, 21, 22, 23, 24, 25, 26, 27, 28, 29, 30, 31, 32, 33, 34, 35, 36, 37, 38, 39, 40, 41, 42, 43, 44, 45, 46, 47, 48, 49, 50, 51, 52, 53, 54, 55, 56, 57, 58, 59] (by decide +kernel) (by decide +kernel)) (goodIn_sub (fun _ h => List.mem_cons_of_mem _ (List.mem_append_right _ h)) (by decide +kernel))
set_option maxRecDepth 20000 in
theorem gL_change_X6_change : GoodIn wsL_change (wsV RL 38 RX6 yX6_change wsX6_change) := goodIn_app (goodIn_of _ (by decide +kernel)) ggL_change_X6_change
theorem dL_change_0 : decode cL_change 0 = .ok (.aload_n 3, 1) := by decide +kernel
theorem dL_change_1 : decode cL_change 1 = .ok (.iconst 0, 1) := by decide +kernel
theorem dL_change_2 : decode cL_change 2 = .ok (.aload_n 0, 1) := by decide +kernel
theorem dL_change_3 : decode cL_change 3 = .ok (.iload_n 1, 1) := by decide +kernel
theorem dL_change_4 : decode cL_change 4 = .ok (.iload_n 2, 1) := by decide +kernel
theorem dL_change_5 : decode cL_change 5 = .ok (.invokevirtual 38, 3) := by decide +kernel
theorem dL_change_8 : decode cL_change 8 = .ok (.i2l, 1) := by decide +kernel
theorem dL_change_9 : decode cL_change 9 = .ok (.lastore, 1) := by decide +kernel
theorem dL_change_10 : decode cL_change 10 = .ok (.goto 7, 3) := by decide +kernel
theorem dL_change_13 : decode cL_change 13 = .ok (.astore 4, 2) := by decide +kernel
theorem dL_change_15 : decode cL_change 15 = .ok (.iconst 1, 1) := by decide +kernel
theorem dL_change_16 : decode cL_change 16 = .ok (.ireturn, 1) := by decide +kernel
theorem dL_change_17 : decode cL_change 17 = .ok (.iconst 0, 1) := by decide +kernel
theorem dL_change_18 : decode cL_change 18 = .ok (.ireturn, 1) := by decide +kernel
set_option maxRecDepth 20000 in
theorem ggL_play_X6_play : GoodIn wsL_play wsX6_play := goodIn_ca (goodIn_ca (goodIn_r _ [7, 8, 9, 10, 11, 12, 13, 14, 15, 6, 16, 17, 18, 19, 20, 21, 22, 23, 24, 25, 26, 27, 28, 29, 30, 31, 32, 33, 34, 35, 36, 37, 38, 39, 40, 41, 42, 43, 44, 45, 46, 47, 48, 49, 50, 51, 52, 53, 54, 55, 56, 57, 58, 59, 60, 61, 62, 63, 64, 65, 66, 67, 68, 69, 70, 71, 72, 73, 74, 75, 76, 77, 78, 79, 80, 81, 82, 83, 84, 85, 86, 87, 88, 89, 90, 91, 92, 93, 94, 95, 96, 97, 98, 99, 100, 101] (by decide +kernel) (by decide +kernel)) (goodIn_sub (fun _ h => List.mem_cons_of_mem _ (List.mem_append_left _ (List.mem_append_right _ h))) (by decide +kernel))) (goodIn_sub (fun _ h => List.mem_cons_of_mem _ (List.mem_append_right _ h)) (by decide +kernel))
set_option maxRecDepth 20000 in
theorem gL_play_X6_play : GoodIn wsL_play (wsV RL 42 RX6 yX6_play wsX6_play) := goodIn_app (goodIn_of _ (by decide +kernel)) ggL_play_X6_play
theorem dL_play_0 : decode cL_play 0 = .ok (.aload_n 2, 1) := by decide +kernel
theorem dL_play_1 : decode cL_play 1 = .ok (.iconst 0, 1) := by decide +kernel
theorem dL_play_2 : decode cL_play 2 = .ok (.aload_n 0, 1) := by decide +kernel
theorem dL_play_3 : decode cL_play 3 = .ok (.iload_n 1, 1) := by decide +kernel
theorem dL_play_4 : decode cL_play 4 = .ok (.invokevirtual 42, 3) := by decide +kernel
theorem dL_play_7 : decode cL_play 7 = .ok (.ifCond .eq 7, 3) := by decide +kernel
theorem dL_play_10 : decode cL_play 10 = .ok (.lconst 1, 1) := by decide +kernel
theorem dL_play_11 : decode cL_play 11 = .ok (.goto 4, 3) := by decide +kernel
theorem dL_play_14 : decode cL_play 14 = .ok (.lconst 0, 1) := by decide +kernel
theorem dL_play_15 : decode cL_play 15 = .ok (.lastore, 1) := by decide +kernel
theorem dL_play_16 : decode cL_play 16 = .ok (.goto 9, 3) := by decide +kernel
theorem dL_play_19 : decode cL_play 19 = .ok (.astore_n 3, 1) := by decide +kernel
theorem dL_play_20 : decode cL_play 20 = .ok (.iconst 1, 1) := by decide +kernel
theorem dL_play_21 : decode cL_play 21 = .ok (.ireturn, 1) := by decide +kernel
theorem dL_play_22 : decode cL_play 22 = .ok (.astore_n 3, 1) := by decide +kernel
theorem dL_play_23 : decode cL_play 23 = .ok (.iconst 2, 1) := by decide +kernel
theorem dL_play_24 : decode cL_play 24 = .ok (.ireturn, 1) := by decide +kernel
theorem dL_play_25 : decode cL_play 25 = .ok (.iconst 0, 1) := by decide +kernel
theorem dL_play_26 : decode cL_play 26 = .ok (.ireturn, 1) := by decide +kernel
set_option maxRecDepth 20000 in
theorem ggL_run_X6_run : GoodIn wsL_run wsX6_run := goodIn_ca (goodIn_r _ [6, 7, 8, 9, 10, 11, 12, 13, 14, 15, 16, 17, 18, 19, 20, 21, 22, 23, 24, 25, 26, 27, 28, 29, 30, 31, 5, 32, 33, 34, 35, 36, 37, 38, 39, 40, 41, 42, 43, 44, 45, 46, 47, 48, 49, 50, 51, 52, 53, 54, 55, 56, 57, 58, 59, 60, 61, 62, 63, 64, 65, 66, 67, 68, 69, 70, 71, 72, 73, 74, 75, 76, 77, 78, 79, 80, 81, 82, 83, 84, 85, 86, 87, 88, 89, 90, 91, 92] (by decide +kernel) (by decide +kernel)) (goodIn_sub (fun _ h => List.mem_cons_of_mem _ (List.mem_append_right _ h)) (by decide +kernel))
set_option maxRecDepth 20000 in
theorem gL_run_X6_run : GoodIn wsL_run (wsV RL 46 RX6 yX6_run wsX6_run) := goodIn_app (goodIn_of _ (by decide +kernel)) ggL_run_X6_run
theorem dL_run_0 : decode cL_run 0 = .ok (.aload_n 2, 1) := by decide +kernel
theorem dL_run_1 : decode cL_run 1 = .ok (.iconst 0, 1) := by decide +kernel
theorem dL_run_2 : decode cL_run 2 = .ok (.aload_n 0, 1) := by decide +kernel
theorem dL_run_3 : decode cL_run 3 = .ok (.iload_n 1, 1) := by decide +kernel
theorem dL_run_4 : decode cL_run 4 = .ok (.invokevirtual 46, 3) := by decide +kernel
theorem dL_run_7 : decode cL_run 7 = .ok (.i2l, 1) := by decide +kernel
theorem dL_run_8 : decode cL_run 8 = .ok (.lastore, 1) := by decide +kernel
theorem dL_run_9 : decode cL_run 9 = .ok (.goto 6, 3) := by decide +kernel
theorem dL_run_12 : decode cL_run 12 = .ok (.astore_n 3, 1) := by decide +kernel
theorem dL_run_13 : decode cL_run 13 = .ok (.iconst 1, 1) := by decide +kernel
theorem dL_run_14 : decode cL_run 14 = .ok (.ireturn, 1) := by decide +kernel
theorem dL_run_15 : decode cL_run 15 = .ok (.iconst 0, 1) := by decide +kernel
theorem dL_run_16 : decode cL_run 16 = .ok (.ireturn, 1) := by decide +kernel
set_option maxRecDepth 20000 in
theorem ggL_factsOf_X6_factsOf : GoodIn wsL_factsOf wsX6_factsOf := goodIn_ca (goodIn_ca (goodIn_r _ [7, 8, 9, 10, 6, 11, 12, 13, 14, 15, 16, 17, 18, 19, 20, 21, 22, 23, 24, 25, 26, 27, 28, 29, 30, 31, 32, 33, 34, 35, 36, 37, 38, 39, 40, 41, 42, 43, 44, 45, 46, 47, 48, 49, 50, 51, 52] (by decide +kernel) (by decide +kernel)) (goodIn_sub (fun _ h => List.mem_cons_of_mem _ (List.mem_append_left _ (List.mem_append_right _ h))) (by decide +kernel))) (goodIn_sub (fun _ h => List.mem_cons_of_mem _ (List.mem_append_right _ h)) (by decide +kernel))
set_option maxRecDepth 20000 in
theorem gL_factsOf_X6_factsOf : GoodIn wsL_factsOf (wsV RL 49 RX6 yX6_factsOf wsX6_factsOf) := goodIn_app (goodIn_of _ (by decide +kernel)) ggL_factsOf_X6_factsOf
theorem dL_factsOf_0 : decode cL_factsOf 0 = .ok (.aload_n 2, 1) := by decide +kernel
theorem dL_factsOf_1 : decode cL_factsOf 1 = .ok (.iconst 0, 1) := by decide +kernel
theorem dL_factsOf_2 : decode cL_factsOf 2 = .ok (.aload_n 0, 1) := by decide +kernel
theorem dL_factsOf_3 : decode cL_factsOf 3 = .ok (.iload_n 1, 1) := by decide +kernel
theorem dL_factsOf_4 : decode cL_factsOf 4 = .ok (.invokevirtual 49, 3) := by decide +kernel
theorem dL_factsOf_7 : decode cL_factsOf 7 = .ok (.i2l, 1) := by decide +kernel
theorem dL_factsOf_8 : decode cL_factsOf 8 = .ok (.lastore, 1) := by decide +kernel
theorem dL_factsOf_9 : decode cL_factsOf 9 = .ok (.goto 9, 3) := by decide +kernel
theorem dL_factsOf_12 : decode cL_factsOf 12 = .ok (.astore_n 3, 1) := by decide +kernel
theorem dL_factsOf_13 : decode cL_factsOf 13 = .ok (.iconst 1, 1) := by decide +kernel
theorem dL_factsOf_14 : decode cL_factsOf 14 = .ok (.ireturn, 1) := by decide +kernel
theorem dL_factsOf_15 : decode cL_factsOf 15 = .ok (.astore_n 3, 1) := by decide +kernel
theorem dL_factsOf_16 : decode cL_factsOf 16 = .ok (.iconst 2, 1) := by decide +kernel
theorem dL_factsOf_17 : decode cL_factsOf 17 = .ok (.ireturn, 1) := by decide +kernel
theorem dL_factsOf_18 : decode cL_factsOf 18 = .ok (.iconst 0, 1) := by decide +kernel
theorem dL_factsOf_19 : decode cL_factsOf 19 = .ok (.ireturn, 1) := by decide +kernel
set_option maxRecDepth 20000 in
theorem ggL_triggeredOf_X6_triggeredOf : GoodIn wsL_triggeredOf wsX6_triggeredOf := goodIn_ca (goodIn_ca (goodIn_r _ [7, 8, 9, 10, 6, 11, 12, 13, 14, 15, 16, 17, 18, 19, 20, 21, 22, 23, 24, 25, 26, 27, 28, 29, 30, 31, 32, 33, 34, 35, 36, 37, 38, 39, 40, 41, 42, 43, 44, 45, 46, 47, 48, 49, 50, 51, 52] (by decide +kernel) (by decide +kernel)) (goodIn_sub (fun _ h => List.mem_cons_of_mem _ (List.mem_append_left _ (List.mem_append_right _ h))) (by decide +kernel))) (goodIn_sub (fun _ h => List.mem_cons_of_mem _ (List.mem_append_right _ h)) (by decide +kernel))
set_option maxRecDepth 20000 in
theorem gL_triggeredOf_X6_triggeredOf : GoodIn wsL_triggeredOf (wsV RL 52 RX6 yX6_triggeredOf wsX6_triggeredOf) := goodIn_app (goodIn_of _ (by decide +kernel)) ggL_triggeredOf_X6_triggeredOf
theorem dL_triggeredOf_0 : decode cL_triggeredOf 0 = .ok (.aload_n 2, 1) := by decide +kernel
theorem dL_triggeredOf_1 : decode cL_triggeredOf 1 = .ok (.iconst 0, 1) := by decide +kernel
theorem dL_triggeredOf_2 : decode cL_triggeredOf 2 = .ok (.aload_n 0, 1) := by decide +kernel
theorem dL_triggeredOf_3 : decode cL_triggeredOf 3 = .ok (.iload_n 1, 1) := by decide +kernel
theorem dL_triggeredOf_4 : decode cL_triggeredOf 4 = .ok (.invokevirtual 52, 3) := by decide +kernel
theorem dL_triggeredOf_7 : decode cL_triggeredOf 7 = .ok (.i2l, 1) := by decide +kernel
theorem dL_triggeredOf_8 : decode cL_triggeredOf 8 = .ok (.lastore, 1) := by decide +kernel
theorem dL_triggeredOf_9 : decode cL_triggeredOf 9 = .ok (.goto 9, 3) := by decide +kernel
theorem dL_triggeredOf_12 : decode cL_triggeredOf 12 = .ok (.astore_n 3, 1) := by decide +kernel
theorem dL_triggeredOf_13 : decode cL_triggeredOf 13 = .ok (.iconst 1, 1) := by decide +kernel
theorem dL_triggeredOf_14 : decode cL_triggeredOf 14 = .ok (.ireturn, 1) := by decide +kernel
theorem dL_triggeredOf_15 : decode cL_triggeredOf 15 = .ok (.astore_n 3, 1) := by decide +kernel
theorem dL_triggeredOf_16 : decode cL_triggeredOf 16 = .ok (.iconst 2, 1) := by decide +kernel
theorem dL_triggeredOf_17 : decode cL_triggeredOf 17 = .ok (.ireturn, 1) := by decide +kernel
theorem dL_triggeredOf_18 : decode cL_triggeredOf 18 = .ok (.iconst 0, 1) := by decide +kernel
theorem dL_triggeredOf_19 : decode cL_triggeredOf 19 = .ok (.ireturn, 1) := by decide +kernel
set_option maxRecDepth 20000 in
theorem ggL_after_X6_after : GoodIn wsL_after wsX6_after := goodIn_ca (goodIn_ca (goodIn_r _ [7, 8, 9, 10, 11, 6, 12, 13, 14, 15, 16, 17, 18, 19, 20, 21, 22, 23, 24, 25, 26, 27, 28, 29, 30, 31, 32, 33, 34, 35, 36, 37, 38, 39, 40, 41, 42, 43, 44, 45, 46, 47, 48, 49, 50, 51, 52, 53, 54, 55, 56, 57, 58, 59, 60, 61, 62, 63, 64, 65, 66, 67, 68, 69] (by decide +kernel) (by decide +kernel)) (goodIn_sub (fun _ h => List.mem_cons_of_mem _ (List.mem_append_left _ (List.mem_append_right _ h))) (by decide +kernel))) (goodIn_sub (fun _ h => List.mem_cons_of_mem _ (List.mem_append_right _ h)) (by decide +kernel))
set_option maxRecDepth 20000 in
theorem gL_after_X6_after : GoodIn wsL_after (wsV RL 55 RX6 yX6_after wsX6_after) := goodIn_app (goodIn_of _ (by decide +kernel)) ggL_after_X6_after
theorem dL_after_0 : decode cL_after 0 = .ok (.aload_n 3, 1) := by decide +kernel
theorem dL_after_1 : decode cL_after 1 = .ok (.iconst 0, 1) := by decide +kernel
theorem dL_after_2 : decode cL_after 2 = .ok (.aload_n 0, 1) := by decide +kernel
theorem dL_after_3 : decode cL_after 3 = .ok (.iload_n 1, 1) := by decide +kernel
theorem dL_after_4 : decode cL_after 4 = .ok (.iload_n 2, 1) := by decide +kernel
theorem dL_after_5 : decode cL_after 5 = .ok (.invokevirtual 55, 3) := by decide +kernel
theorem dL_after_8 : decode cL_after 8 = .ok (.i2l, 1) := by decide +kernel
theorem dL_after_9 : decode cL_after 9 = .ok (.lastore, 1) := by decide +kernel
theorem dL_after_10 : decode cL_after 10 = .ok (.goto 11, 3) := by decide +kernel
theorem dL_after_13 : decode cL_after 13 = .ok (.astore 4, 2) := by decide +kernel
theorem dL_after_15 : decode cL_after 15 = .ok (.iconst 1, 1) := by decide +kernel
theorem dL_after_16 : decode cL_after 16 = .ok (.ireturn, 1) := by decide +kernel
theorem dL_after_17 : decode cL_after 17 = .ok (.astore 4, 2) := by decide +kernel
theorem dL_after_19 : decode cL_after 19 = .ok (.iconst 2, 1) := by decide +kernel
theorem dL_after_20 : decode cL_after 20 = .ok (.ireturn, 1) := by decide +kernel
theorem dL_after_21 : decode cL_after 21 = .ok (.iconst 0, 1) := by decide +kernel
theorem dL_after_22 : decode cL_after 22 = .ok (.ireturn, 1) := by decide +kernel
set_option maxRecDepth 20000 in
theorem ggL_terminates_X6_terminates : GoodIn wsL_terminates wsX6_terminates := goodIn_ca (goodIn_r _ [6, 7, 8, 9, 10, 11, 5, 12, 13, 14, 15, 16, 17, 18, 19, 20, 21, 22, 23, 24, 25, 26, 27, 28, 29, 30, 31, 32, 33, 34, 35, 36, 37, 38, 39, 40, 41, 42, 43, 44, 45, 46, 47, 48, 49, 50, 51] (by decide +kernel) (by decide +kernel)) (goodIn_sub (fun _ h => List.mem_cons_of_mem _ (List.mem_append_right _ h)) (by decide +kernel))
set_option maxRecDepth 20000 in
theorem gL_terminates_X6_terminates : GoodIn wsL_terminates (wsV RL 59 RX6 yX6_terminates wsX6_terminates) := goodIn_app (goodIn_of _ (by decide +kernel)) ggL_terminates_X6_terminates
theorem dL_terminates_0 : decode cL_terminates 0 = .ok (.aload_n 1, 1) := by decide +kernel
theorem dL_terminates_1 : decode cL_terminates 1 = .ok (.iconst 0, 1) := by decide +kernel
theorem dL_terminates_2 : decode cL_terminates 2 = .ok (.aload_n 0, 1) := by decide +kernel
theorem dL_terminates_3 : decode cL_terminates 3 = .ok (.invokevirtual 59, 3) := by decide +kernel
theorem dL_terminates_6 : decode cL_terminates 6 = .ok (.ifCond .eq 7, 3) := by decide +kernel
theorem dL_terminates_9 : decode cL_terminates 9 = .ok (.lconst 1, 1) := by decide +kernel
theorem dL_terminates_10 : decode cL_terminates 10 = .ok (.goto 4, 3) := by decide +kernel
theorem dL_terminates_13 : decode cL_terminates 13 = .ok (.lconst 0, 1) := by decide +kernel
theorem dL_terminates_14 : decode cL_terminates 14 = .ok (.lastore, 1) := by decide +kernel
theorem dL_terminates_15 : decode cL_terminates 15 = .ok (.goto 6, 3) := by decide +kernel
theorem dL_terminates_18 : decode cL_terminates 18 = .ok (.astore_n 2, 1) := by decide +kernel
theorem dL_terminates_19 : decode cL_terminates 19 = .ok (.iconst 1, 1) := by decide +kernel
theorem dL_terminates_20 : decode cL_terminates 20 = .ok (.ireturn, 1) := by decide +kernel
theorem dL_terminates_21 : decode cL_terminates 21 = .ok (.iconst 0, 1) := by decide +kernel
theorem dL_terminates_22 : decode cL_terminates 22 = .ok (.ireturn, 1) := by decide +kernel
set_option maxRecDepth 20000 in
theorem ggL_endCount_X6_endCount : GoodIn wsL_endCount wsX6_endCount := goodIn_ca (goodIn_r _ [6, 7, 8, 9, 10, 11, 5, 12, 13, 14, 15, 16, 17, 18, 19, 20, 21, 22, 23, 24, 25, 26, 27, 28, 29, 30, 31, 32, 33, 34, 35, 36, 37, 38, 39, 40, 41, 42, 43, 44, 45, 46] (by decide +kernel) (by decide +kernel)) (goodIn_sub (fun _ h => List.mem_cons_of_mem _ (List.mem_append_right _ h)) (by decide +kernel))
set_option maxRecDepth 20000 in
theorem gL_endCount_X6_endCount : GoodIn wsL_endCount (wsV RL 63 RX6 yX6_endCount wsX6_endCount) := goodIn_app (goodIn_of _ (by decide +kernel)) ggL_endCount_X6_endCount
theorem dL_endCount_0 : decode cL_endCount 0 = .ok (.aload_n 1, 1) := by decide +kernel
theorem dL_endCount_1 : decode cL_endCount 1 = .ok (.iconst 0, 1) := by decide +kernel
theorem dL_endCount_2 : decode cL_endCount 2 = .ok (.aload_n 0, 1) := by decide +kernel
theorem dL_endCount_3 : decode cL_endCount 3 = .ok (.invokevirtual 63, 3) := by decide +kernel
theorem dL_endCount_6 : decode cL_endCount 6 = .ok (.i2l, 1) := by decide +kernel
theorem dL_endCount_7 : decode cL_endCount 7 = .ok (.lastore, 1) := by decide +kernel
theorem dL_endCount_8 : decode cL_endCount 8 = .ok (.goto 6, 3) := by decide +kernel
theorem dL_endCount_11 : decode cL_endCount 11 = .ok (.astore_n 2, 1) := by decide +kernel
theorem dL_endCount_12 : decode cL_endCount 12 = .ok (.iconst 1, 1) := by decide +kernel
theorem dL_endCount_13 : decode cL_endCount 13 = .ok (.ireturn, 1) := by decide +kernel
theorem dL_endCount_14 : decode cL_endCount 14 = .ok (.iconst 0, 1) := by decide +kernel
theorem dL_endCount_15 : decode cL_endCount 15 = .ok (.ireturn, 1) := by decide +kernel
set_option maxRecDepth 20000 in
theorem ggL_end_X6_end : GoodIn wsL_end wsX6_end := goodIn_ca (goodIn_ca (goodIn_r _ [7, 8, 9, 10, 11, 12, 13, 14, 6, 15, 16, 17, 18, 19, 20, 21, 22, 23, 24, 25, 26, 27, 28, 29, 30, 31, 32, 33, 34, 35, 36, 37, 38, 39, 40, 41, 42, 43, 44, 45, 46, 47, 48, 49, 50] (by decide +kernel) (by decide +kernel)) (goodIn_sub (fun _ h => List.mem_cons_of_mem _ (List.mem_append_left _ (List.mem_append_right _ h))) (by decide +kernel))) (goodIn_sub (fun _ h => List.mem_cons_of_mem _ (List.mem_append_right _ h)) (by decide +kernel))
set_option maxRecDepth 20000 in
theorem gL_end_X6_end : GoodIn wsL_end (wsV RL 67 RX6 yX6_end wsX6_end) := goodIn_app (goodIn_of _ (by decide +kernel)) ggL_end_X6_end
theorem dL_end_0 : decode cL_end 0 = .ok (.aload_n 2, 1) := by decide +kernel
theorem dL_end_1 : decode cL_end 1 = .ok (.iconst 0, 1) := by decide +kernel
theorem dL_end_2 : decode cL_end 2 = .ok (.aload_n 0, 1) := by decide +kernel
theorem dL_end_3 : decode cL_end 3 = .ok (.iload_n 1, 1) := by decide +kernel
theorem dL_end_4 : decode cL_end 4 = .ok (.invokevirtual 67, 3) := by decide +kernel
theorem dL_end_7 : decode cL_end 7 = .ok (.i2l, 1) := by decide +kernel
theorem dL_end_8 : decode cL_end 8 = .ok (.lastore, 1) := by decide +kernel
theorem dL_end_9 : decode cL_end 9 = .ok (.goto 9, 3) := by decide +kernel
theorem dL_end_12 : decode cL_end 12 = .ok (.astore_n 3, 1) := by decide +kernel
theorem dL_end_13 : decode cL_end 13 = .ok (.iconst 1, 1) := by decide +kernel
theorem dL_end_14 : decode cL_end 14 = .ok (.ireturn, 1) := by decide +kernel
theorem dL_end_15 : decode cL_end 15 = .ok (.astore_n 3, 1) := by decide +kernel
theorem dL_end_16 : decode cL_end 16 = .ok (.iconst 2, 1) := by decide +kernel
theorem dL_end_17 : decode cL_end 17 = .ok (.ireturn, 1) := by decide +kernel
theorem dL_end_18 : decode cL_end 18 = .ok (.iconst 0, 1) := by decide +kernel
theorem dL_end_19 : decode cL_end 19 = .ok (.ireturn, 1) := by decide +kernel
set_option maxRecDepth 20000 in
theorem ggL_shortest_X6_shortest : GoodIn wsL_shortest wsX6_shortest := goodIn_ca (goodIn_r _ [6, 7, 8, 9, 10, 11, 5, 12, 13, 14, 15, 16, 17, 18, 19, 20, 21, 22, 23, 24, 25, 26, 27, 28, 29, 30, 31, 32, 33, 34, 35, 36, 37, 38, 39, 40, 41, 42, 43, 44, 45, 46] (by decide +kernel) (by decide +kernel)) (goodIn_sub (fun _ h => List.mem_cons_of_mem _ (List.mem_append_right _ h)) (by decide +kernel))
set_option maxRecDepth 20000 in
theorem gL_shortest_X6_shortest : GoodIn wsL_shortest (wsV RL 70 RX6 yX6_shortest wsX6_shortest) := goodIn_app (goodIn_of _ (by decide +kernel)) ggL_shortest_X6_shortest
theorem dL_shortest_0 : decode cL_shortest 0 = .ok (.aload_n 1, 1) := by decide +kernel
theorem dL_shortest_1 : decode cL_shortest 1 = .ok (.iconst 0, 1) := by decide +kernel
theorem dL_shortest_2 : decode cL_shortest 2 = .ok (.aload_n 0, 1) := by decide +kernel
theorem dL_shortest_3 : decode cL_shortest 3 = .ok (.invokevirtual 70, 3) := by decide +kernel
theorem dL_shortest_6 : decode cL_shortest 6 = .ok (.i2l, 1) := by decide +kernel
theorem dL_shortest_7 : decode cL_shortest 7 = .ok (.lastore, 1) := by decide +kernel
theorem dL_shortest_8 : decode cL_shortest 8 = .ok (.goto 6, 3) := by decide +kernel
theorem dL_shortest_11 : decode cL_shortest 11 = .ok (.astore_n 2, 1) := by decide +kernel
theorem dL_shortest_12 : decode cL_shortest 12 = .ok (.iconst 1, 1) := by decide +kernel
theorem dL_shortest_13 : decode cL_shortest 13 = .ok (.ireturn, 1) := by decide +kernel
theorem dL_shortest_14 : decode cL_shortest 14 = .ok (.iconst 0, 1) := by decide +kernel
theorem dL_shortest_15 : decode cL_shortest 15 = .ok (.ireturn, 1) := by decide +kernel
set_option maxRecDepth 20000 in
theorem ggL_longest_X6_longest : GoodIn wsL_longest wsX6_longest := goodIn_ca (goodIn_r _ [6, 7, 8, 9, 10, 11, 5, 12, 13, 14, 15, 16, 17, 18, 19, 20, 21, 22, 23, 24, 25, 26, 27, 28, 29, 30, 31, 32, 33, 34, 35, 36, 37, 38, 39, 40, 41, 42, 43, 44, 45, 46, 47, 48, 49, 50, 51, 52] (by decide +kernel) (by decide +kernel)) (goodIn_sub (fun _ h => List.mem_cons_of_mem _ (List.mem_append_right _ h)) (by decide +kernel))
set_option maxRecDepth 20000 in
theorem gL_longest_X6_longest : GoodIn wsL_longest (wsV RL 73 RX6 yX6_longest wsX6_longest) := goodIn_app (goodIn_of _ (by decide +kernel)) ggL_longest_X6_longest
theorem dL_longest_0 : decode cL_longest 0 = .ok (.aload_n 1, 1) := by decide +kernel
theorem dL_longest_1 : decode cL_longest 1 = .ok (.iconst 0, 1) := by decide +kernel
theorem dL_longest_2 : decode cL_longest 2 = .ok (.aload_n 0, 1) := by decide +kernel
theorem dL_longest_3 : decode cL_longest 3 = .ok (.invokevirtual 73, 3) := by decide +kernel
theorem dL_longest_6 : decode cL_longest 6 = .ok (.i2l, 1) := by decide +kernel
theorem dL_longest_7 : decode cL_longest 7 = .ok (.lastore, 1) := by decide +kernel
theorem dL_longest_8 : decode cL_longest 8 = .ok (.goto 6, 3) := by decide +kernel
theorem dL_longest_11 : decode cL_longest 11 = .ok (.astore_n 2, 1) := by decide +kernel
theorem dL_longest_12 : decode cL_longest 12 = .ok (.iconst 1, 1) := by decide +kernel
theorem dL_longest_13 : decode cL_longest 13 = .ok (.ireturn, 1) := by decide +kernel
theorem dL_longest_14 : decode cL_longest 14 = .ok (.iconst 0, 1) := by decide +kernel
theorem dL_longest_15 : decode cL_longest 15 = .ok (.ireturn, 1) := by decide +kernel
set_option maxRecDepth 20000 in
theorem ggL_ways_X6_ways : GoodIn wsL_ways wsX6_ways := goodIn_ca (goodIn_r _ [6, 7, 8, 9, 10, 11, 5, 12, 13, 14, 15, 16, 17, 18, 19, 20, 21, 22, 23, 24, 25, 26, 27, 28, 29, 30, 31, 32, 33, 34, 35, 36, 37, 38, 39, 40, 41, 42, 43, 44, 45, 46, 47, 48, 49, 50, 51, 52, 53] (by decide +kernel) (by decide +kernel)) (goodIn_sub (fun _ h => List.mem_cons_of_mem _ (List.mem_append_right _ h)) (by decide +kernel))
set_option maxRecDepth 20000 in
theorem gL_ways_X6_ways : GoodIn wsL_ways (wsV RL 76 RX6 yX6_ways wsX6_ways) := goodIn_app (goodIn_of _ (by decide +kernel)) ggL_ways_X6_ways
theorem dL_ways_0 : decode cL_ways 0 = .ok (.aload_n 1, 1) := by decide +kernel
theorem dL_ways_1 : decode cL_ways 1 = .ok (.iconst 0, 1) := by decide +kernel
theorem dL_ways_2 : decode cL_ways 2 = .ok (.aload_n 0, 1) := by decide +kernel
theorem dL_ways_3 : decode cL_ways 3 = .ok (.invokevirtual 76, 3) := by decide +kernel
theorem dL_ways_6 : decode cL_ways 6 = .ok (.lastore, 1) := by decide +kernel
theorem dL_ways_7 : decode cL_ways 7 = .ok (.goto 6, 3) := by decide +kernel
theorem dL_ways_10 : decode cL_ways 10 = .ok (.astore_n 2, 1) := by decide +kernel
theorem dL_ways_11 : decode cL_ways 11 = .ok (.iconst 1, 1) := by decide +kernel
theorem dL_ways_12 : decode cL_ways 12 = .ok (.ireturn, 1) := by decide +kernel
theorem dL_ways_13 : decode cL_ways 13 = .ok (.iconst 0, 1) := by decide +kernel
theorem dL_ways_14 : decode cL_ways 14 = .ok (.ireturn, 1) := by decide +kernel
set_option maxRecDepth 20000 in
theorem ggL_isPlayed_X6_isPlayed : GoodIn wsL_isPlayed wsX6_isPlayed := goodIn_ca (goodIn_ca (goodIn_r _ [7, 8, 9, 10, 11, 12, 6, 13, 14, 15, 16, 17, 18, 19, 20, 21, 22, 23, 24, 25, 26, 27, 28, 29, 30, 31, 32, 33, 34, 35, 36, 37, 38, 39, 40, 41, 42, 43, 44, 45, 46, 47, 48, 49, 50, 51, 52, 53, 54, 55, 56, 57, 58, 59, 60, 61, 62, 63, 64, 65, 66, 67, 68, 69, 70, 71] (by decide +kernel) (by decide +kernel)) (goodIn_sub (fun _ h => List.mem_cons_of_mem _ (List.mem_append_left _ (List.mem_append_right _ h))) (by decide +kernel))) (goodIn_sub (fun _ h => List.mem_cons_of_mem _ (List.mem_append_right _ h)) (by decide +kernel))
set_option maxRecDepth 20000 in
theorem gL_isPlayed_X6_isPlayed : GoodIn wsL_isPlayed (wsV RL 80 RX6 yX6_isPlayed wsX6_isPlayed) := goodIn_app (goodIn_of _ (by decide +kernel)) ggL_isPlayed_X6_isPlayed
theorem dL_isPlayed_0 : decode cL_isPlayed 0 = .ok (.aload_n 2, 1) := by decide +kernel
theorem dL_isPlayed_1 : decode cL_isPlayed 1 = .ok (.iconst 0, 1) := by decide +kernel
theorem dL_isPlayed_2 : decode cL_isPlayed 2 = .ok (.aload_n 0, 1) := by decide +kernel
theorem dL_isPlayed_3 : decode cL_isPlayed 3 = .ok (.iload_n 1, 1) := by decide +kernel
theorem dL_isPlayed_4 : decode cL_isPlayed 4 = .ok (.invokevirtual 80, 3) := by decide +kernel
theorem dL_isPlayed_7 : decode cL_isPlayed 7 = .ok (.ifCond .eq 7, 3) := by decide +kernel
theorem dL_isPlayed_10 : decode cL_isPlayed 10 = .ok (.lconst 1, 1) := by decide +kernel
theorem dL_isPlayed_11 : decode cL_isPlayed 11 = .ok (.goto 4, 3) := by decide +kernel
theorem dL_isPlayed_14 : decode cL_isPlayed 14 = .ok (.lconst 0, 1) := by decide +kernel
theorem dL_isPlayed_15 : decode cL_isPlayed 15 = .ok (.lastore, 1) := by decide +kernel
theorem dL_isPlayed_16 : decode cL_isPlayed 16 = .ok (.goto 9, 3) := by decide +kernel
theorem dL_isPlayed_19 : decode cL_isPlayed 19 = .ok (.astore_n 3, 1) := by decide +kernel
theorem dL_isPlayed_20 : decode cL_isPlayed 20 = .ok (.iconst 1, 1) := by decide +kernel
theorem dL_isPlayed_21 : decode cL_isPlayed 21 = .ok (.ireturn, 1) := by decide +kernel
theorem dL_isPlayed_22 : decode cL_isPlayed 22 = .ok (.astore_n 3, 1) := by decide +kernel
theorem dL_isPlayed_23 : decode cL_isPlayed 23 = .ok (.iconst 2, 1) := by decide +kernel
theorem dL_isPlayed_24 : decode cL_isPlayed 24 = .ok (.ireturn, 1) := by decide +kernel
theorem dL_isPlayed_25 : decode cL_isPlayed 25 = .ok (.iconst 0, 1) := by decide +kernel
theorem dL_isPlayed_26 : decode cL_isPlayed 26 = .ok (.ireturn, 1) := by decide +kernel
set_option maxRecDepth 20000 in
theorem ggL_choice_X6_choice : GoodIn wsL_choice wsX6_choice := goodIn_ca (goodIn_r _ [6, 7, 8, 9, 10, 5, 11, 12, 13, 14, 15, 16, 17, 18, 19, 20, 21, 22, 23, 24, 25, 26, 27, 28, 29, 30, 31, 32, 33, 34, 35, 36, 37, 38, 39, 40, 41, 42] (by decide +kernel) (by decide +kernel)) (goodIn_sub (fun _ h => List.mem_cons_of_mem _ (List.mem_append_right _ h)) (by decide +kernel))
set_option maxRecDepth 20000 in
theorem gL_choice_X6_choice : GoodIn wsL_choice (wsV RL 83 RX6 yX6_choice wsX6_choice) := goodIn_app (goodIn_of _ (by decide +kernel)) ggL_choice_X6_choice
theorem dL_choice_0 : decode cL_choice 0 = .ok (.aload_n 1, 1) := by decide +kernel
theorem dL_choice_1 : decode cL_choice 1 = .ok (.iconst 0, 1) := by decide +kernel
theorem dL_choice_2 : decode cL_choice 2 = .ok (.aload_n 0, 1) := by decide +kernel
theorem dL_choice_3 : decode cL_choice 3 = .ok (.invokevirtual 83, 3) := by decide +kernel
theorem dL_choice_6 : decode cL_choice 6 = .ok (.dastore, 1) := by decide +kernel
theorem dL_choice_7 : decode cL_choice 7 = .ok (.goto 6, 3) := by decide +kernel
theorem dL_choice_10 : decode cL_choice 10 = .ok (.astore_n 2, 1) := by decide +kernel
theorem dL_choice_11 : decode cL_choice 11 = .ok (.iconst 1, 1) := by decide +kernel
theorem dL_choice_12 : decode cL_choice 12 = .ok (.ireturn, 1) := by decide +kernel
theorem dL_choice_13 : decode cL_choice 13 = .ok (.iconst 0, 1) := by decide +kernel
theorem dL_choice_14 : decode cL_choice 14 = .ok (.ireturn, 1) := by decide +kernel
set_option maxRecDepth 20000 in
theorem ggL_canTrigger_X6_canTrigger : GoodIn wsL_canTrigger wsX6_canTrigger := goodIn_ca (goodIn_r _ [6, 7, 8, 9, 10, 5, 11, 12, 13, 14, 15, 16, 17, 18, 19, 20, 21, 22, 23, 24, 25, 26, 27, 28, 29, 30, 31, 32, 33, 34, 35, 36, 37, 38, 39, 40, 41, 42, 43, 44, 45, 46, 47, 48, 49, 50, 51, 52, 53, 54, 55] (by decide +kernel) (by decide +kernel)) (goodIn_sub (fun _ h => List.mem_cons_of_mem _ (List.mem_append_right _ h)) (by decide +kernel))
set_option maxRecDepth 20000 in
theorem gL_canTrigger_X6_canTrigger : GoodIn wsL_canTrigger (wsV RL 87 RX6 yX6_canTrigger wsX6_canTrigger) := goodIn_app (goodIn_of _ (by decide +kernel)) ggL_canTrigger_X6_canTrigger
theorem dL_canTrigger_0 : decode cL_canTrigger 0 = .ok (.aload_n 2, 1) := by decide +kernel
theorem dL_canTrigger_1 : decode cL_canTrigger 1 = .ok (.iconst 0, 1) := by decide +kernel
theorem dL_canTrigger_2 : decode cL_canTrigger 2 = .ok (.aload_n 0, 1) := by decide +kernel
theorem dL_canTrigger_3 : decode cL_canTrigger 3 = .ok (.iload_n 1, 1) := by decide +kernel
theorem dL_canTrigger_4 : decode cL_canTrigger 4 = .ok (.invokevirtual 87, 3) := by decide +kernel
theorem dL_canTrigger_7 : decode cL_canTrigger 7 = .ok (.i2l, 1) := by decide +kernel
theorem dL_canTrigger_8 : decode cL_canTrigger 8 = .ok (.lastore, 1) := by decide +kernel
theorem dL_canTrigger_9 : decode cL_canTrigger 9 = .ok (.goto 6, 3) := by decide +kernel
theorem dL_canTrigger_12 : decode cL_canTrigger 12 = .ok (.astore_n 3, 1) := by decide +kernel
theorem dL_canTrigger_13 : decode cL_canTrigger 13 = .ok (.iconst 1, 1) := by decide +kernel
theorem dL_canTrigger_14 : decode cL_canTrigger 14 = .ok (.ireturn, 1) := by decide +kernel
theorem dL_canTrigger_15 : decode cL_canTrigger 15 = .ok (.iconst 0, 1) := by decide +kernel
theorem dL_canTrigger_16 : decode cL_canTrigger 16 = .ok (.ireturn, 1) := by decide +kernel
set_option maxRecDepth 20000 in
theorem ggL_commute_X6_commute : GoodIn wsL_commute wsX6_commute := goodIn_ca (goodIn_ca (goodIn_r _ [7, 8, 9, 10, 11, 12, 13, 6, 14, 15, 16, 17, 18, 19, 20, 21, 22, 23, 24, 25, 26, 27, 28, 29, 30, 31, 32, 33, 34, 35, 36, 37, 38, 39, 40, 41, 42, 43, 44, 45, 46, 47, 48, 49, 50, 51, 52, 53, 54, 55, 56, 57, 58, 59, 60, 61, 62, 63, 64, 65, 66, 67, 68, 69, 70, 71, 72, 73, 74, 75, 76, 77, 78, 79, 80, 81, 82, 83] (by decide +kernel) (by decide +kernel)) (goodIn_sub (fun _ h => List.mem_cons_of_mem _ (List.mem_append_left _ (List.mem_append_right _ h))) (by decide +kernel))) (goodIn_sub (fun _ h => List.mem_cons_of_mem _ (List.mem_append_right _ h)) (by decide +kernel))
set_option maxRecDepth 20000 in
theorem gL_commute_X6_commute : GoodIn wsL_commute (wsV RL 90 RX6 yX6_commute wsX6_commute) := goodIn_app (goodIn_of _ (by decide +kernel)) ggL_commute_X6_commute
theorem dL_commute_0 : decode cL_commute 0 = .ok (.aload_n 3, 1) := by decide +kernel
theorem dL_commute_1 : decode cL_commute 1 = .ok (.iconst 0, 1) := by decide +kernel
theorem dL_commute_2 : decode cL_commute 2 = .ok (.aload_n 0, 1) := by decide +kernel
theorem dL_commute_3 : decode cL_commute 3 = .ok (.iload_n 1, 1) := by decide +kernel
theorem dL_commute_4 : decode cL_commute 4 = .ok (.iload_n 2, 1) := by decide +kernel
theorem dL_commute_5 : decode cL_commute 5 = .ok (.invokevirtual 90, 3) := by decide +kernel
theorem dL_commute_8 : decode cL_commute 8 = .ok (.ifCond .eq 7, 3) := by decide +kernel
theorem dL_commute_11 : decode cL_commute 11 = .ok (.lconst 1, 1) := by decide +kernel
theorem dL_commute_12 : decode cL_commute 12 = .ok (.goto 4, 3) := by decide +kernel
theorem dL_commute_15 : decode cL_commute 15 = .ok (.lconst 0, 1) := by decide +kernel
theorem dL_commute_16 : decode cL_commute 16 = .ok (.lastore, 1) := by decide +kernel
theorem dL_commute_17 : decode cL_commute 17 = .ok (.goto 11, 3) := by decide +kernel
theorem dL_commute_20 : decode cL_commute 20 = .ok (.astore 4, 2) := by decide +kernel
theorem dL_commute_22 : decode cL_commute 22 = .ok (.iconst 1, 1) := by decide +kernel
theorem dL_commute_23 : decode cL_commute 23 = .ok (.ireturn, 1) := by decide +kernel
theorem dL_commute_24 : decode cL_commute 24 = .ok (.astore 4, 2) := by decide +kernel
theorem dL_commute_26 : decode cL_commute 26 = .ok (.iconst 2, 1) := by decide +kernel
theorem dL_commute_27 : decode cL_commute 27 = .ok (.ireturn, 1) := by decide +kernel
theorem dL_commute_28 : decode cL_commute 28 = .ok (.iconst 0, 1) := by decide +kernel
theorem dL_commute_29 : decode cL_commute 29 = .ok (.ireturn, 1) := by decide +kernel
set_option maxRecDepth 20000 in
theorem ggL_conflict_X6_conflict : GoodIn wsL_conflict wsX6_conflict := goodIn_ca (goodIn_r _ [6, 7, 8, 9, 10, 11, 12, 13, 14, 15, 16, 17, 18, 19, 20, 21, 22, 23, 24, 25, 26, 27, 28, 29, 30, 31, 32, 33, 34, 35, 36, 37, 38, 39, 40, 41, 42, 43, 44, 45, 46, 47, 48, 49, 50, 51, 52, 53, 54, 55, 56, 57, 58, 59, 60, 61, 62, 63, 64, 65, 66, 67, 68, 69, 70, 71, 72, 73, 74, 75, 76, 77, 78, 79, 80, 81, 82, 83, 84, 85, 86, 87, 88, 89] (by decide +kernel) (by decide +kernel)) (goodIn_sub (fun _ h => List.mem_cons_of_mem _ (List.mem_append_right _ h)) (by decide +kernel))
set_option maxRecDepth 20000 in
theorem gL_conflict_X6_conflict : GoodIn wsL_conflict (wsV RL 93 RX6 yX6_conflict wsX6_conflict) := goodIn_app (goodIn_of _ (by decide +kernel)) ggL_conflict_X6_conflict
theorem dL_conflict_0 : decode cL_conflict 0 = .ok (.aload_n 2, 1) := by decide +kernel
theorem dL_conflict_1 : decode cL_conflict 1 = .ok (.iconst 0, 1) := by decide +kernel
theorem dL_conflict_2 : decode cL_conflict 2 = .ok (.aload_n 0, 1) := by decide +kernel
theorem dL_conflict_3 : decode cL_conflict 3 = .ok (.iload_n 1, 1) := by decide +kernel
theorem dL_conflict_4 : decode cL_conflict 4 = .ok (.invokevirtual 93, 3) := by decide +kernel
theorem dL_conflict_7 : decode cL_conflict 7 = .ok (.i2l, 1) := by decide +kernel
theorem dL_conflict_8 : decode cL_conflict 8 = .ok (.lastore, 1) := by decide +kernel
theorem dL_conflict_9 : decode cL_conflict 9 = .ok (.goto 6, 3) := by decide +kernel
theorem dL_conflict_12 : decode cL_conflict 12 = .ok (.astore_n 3, 1) := by decide +kernel
theorem dL_conflict_13 : decode cL_conflict 13 = .ok (.iconst 1, 1) := by decide +kernel
theorem dL_conflict_14 : decode cL_conflict 14 = .ok (.ireturn, 1) := by decide +kernel
theorem dL_conflict_15 : decode cL_conflict 15 = .ok (.iconst 0, 1) := by decide +kernel
theorem dL_conflict_16 : decode cL_conflict 16 = .ok (.ireturn, 1) := by decide +kernel
set_option maxRecDepth 20000 in
theorem ggL_law_X6_init : GoodIn wsL_law wsX6_init := goodIn_r _ [10, 11, 12, 13, 14, 15, 16, 17, 18, 19, 20, 21, 22, 23, 24, 25, 26, 27, 28, 29, 30, 31, 32, 33, 34, 35, 36, 37, 38, 39, 40, 41, 42, 43, 44, 45, 46, 47, 48, 49, 50, 51, 52, 53, 54, 55, 56, 57, 58, 59, 60, 61, 62, 63, 64, 65, 66, 67, 68, 69, 70, 71, 72, 73, 74, 75, 76, 6, 77, 78, 882, 883, 884, 860, 861, 862, 863, 885, 886, 887, 888, 889, 890, 891, 892, 893, 894, 895, 896, 897, 898, 899, 900, 901, 902, 903, 904, 905, 906, 907, 908, 909, 910, 911, 912, 913, 914, 915, 916, 917, 918, 919, 920] (by decide +kernel) (by decide +kernel)
set_option maxRecDepth 20000 in
theorem gL_law_X6_init : GoodIn wsL_law (wsX6_init) := ggL_law_X6_init
set_option maxRecDepth 20000 in
theorem ggL_law_X7_init : GoodIn wsL_law wsX7_init := goodIn_r _ [81, 82, 12, 13, 32, 83, 84, 85, 86, 87, 88, 89, 90, 91, 92, 93, 6, 94, 864, 865, 866, 867, 868, 869, 870, 871, 872, 873, 874, 875, 876, 877, 878, 879, 880, 881] (by decide +kernel) (by decide +kernel)
set_option maxRecDepth 20000 in
theorem gL_law_X7_init : GoodIn wsL_law (wsX7_init) := ggL_law_X7_init
set_option maxRecDepth 20000 in
theorem ggL_law_L_addRule : GoodIn wsL_law wsL_addRule := goodIn_ca (goodIn_ca (goodIn_ca (goodIn_r _ [98, 99, 100, 101, 102, 103, 104, 2, 105, 106, 107, 17, 25, 108, 109, 110, 111, 112, 113, 114, 115, 116, 117, 118, 119, 120, 16, 121, 122, 31, 123, 124, 125, 24, 126, 127, 128, 129, 130, 131, 132, 133, 134, 135, 136, 137, 138, 139, 140, 141, 142, 33, 143, 860, 861, 862, 863, 882, 883, 884, 887, 888, 889, 890, 891, 892, 893, 894, 895, 896, 897, 898, 899, 900, 901, 902, 903, 904, 905, 906, 907, 908, 909] (by decide +kernel) (by decide +kernel)) (goodIn_sub (fun _ h => List.mem_append_left _ (List.mem_append_left _ (List.mem_append_right _ h))) (by decide +kernel))) (goodIn_sub (fun _ h => List.mem_append_left _ (List.mem_append_right _ h)) (by decide +kernel))) (goodIn_sub (fun _ h => List.mem_append_right _ h) (by decide +kernel))
set_option maxRecDepth 20000 in
theorem gL_law_L_addRule : GoodIn wsL_law (va_wsS RL 100 yL_addRule wsL_addRule) := goodIn_app (goodIn_of _ (by decide +kernel)) ggL_law_L_addRule
set_option maxRecDepth 20000 in
theorem ggL_law_X7_addRule : GoodIn wsL_law wsX7_addRule := goodIn_r _ [147, 148, 149, 83, 84, 85, 86, 89, 90, 150, 151, 152, 5, 153, 154, 155, 156, 157, 158, 159, 160, 161, 162, 163, 864, 865, 866, 867, 868, 869, 870, 871, 872, 873, 874, 875, 876, 877, 878, 879, 880, 881] (by decide +kernel) (by decide +kernel)
set_option maxRecDepth 20000 in
theorem gL_law_X7_addRule : GoodIn wsL_law (wsV RL 105 RX7 yX7_addRule wsX7_addRule) := goodIn_app (goodIn_of _ (by decide +kernel)) ggL_law_X7_addRule
set_option maxRecDepth 20000 in
theorem ggL_law_X7_thrown : GoodIn wsL_law wsX7_thrown := goodIn_r _ [167, 148, 864, 865, 866, 867, 868, 869, 870, 871, 872, 873, 874, 875, 876, 877, 878, 879, 880, 881] (by decide +kernel) (by decide +kernel)
set_option maxRecDepth 20000 in
theorem gL_law_X7_thrown : GoodIn wsL_law (wsV RL 106 RX7 yX7_thrown wsX7_thrown) := goodIn_app (goodIn_of _ (by decide +kernel)) ggL_law_X7_thrown
set_option maxRecDepth 20000 in
theorem ggL_law_L_addAction : GoodIn wsL_law wsL_addAction := goodIn_ca (goodIn_ca (goodIn_r _ [170, 99, 101, 171, 172, 173, 2, 174, 106, 107, 25, 175, 176, 177, 178, 179, 111, 112, 17, 180, 181, 182, 16, 183, 122, 31, 108, 109, 110, 184, 185, 186, 35, 187, 188, 40, 123, 124, 125, 24, 126, 127, 128, 129, 130, 189, 190, 191, 192, 193, 194, 860, 861, 862, 863, 899, 900, 901, 902, 903, 904, 905, 906, 907, 908, 909, 882, 883, 884, 887, 888, 889, 890, 891, 892, 893, 894, 895, 896, 897, 898] (by decide +kernel) (by decide +kernel)) (goodIn_sub (fun _ h => List.mem_append_left _ (List.mem_append_left _ (List.mem_append_right _ h))) (by decide +kernel))) (goodIn_sub (fun _ h => List.mem_append_left _ (List.mem_append_right _ h)) (by decide +kernel))
set_option maxRecDepth 20000 in
theorem gL_law_L_addAction : GoodIn wsL_law (va_wsS RL 109 yL_addAction wsL_addAction) := goodIn_app (goodIn_of _ (by decide +kernel)) ggL_law_L_addAction
set_option maxRecDepth 20000 in
theorem ggL_law_X7_addAction : GoodIn wsL_law wsX7_addAction := goodIn_r _ [198, 148, 86, 87, 150, 199, 200, 201, 5, 202, 149, 151, 152, 153, 154, 155, 156, 157, 161, 162, 163, 864, 865, 866, 867, 868, 869, 870, 871, 872, 873, 874, 875, 876, 877, 878, 879, 880, 881] (by decide +kernel) (by decide +kernel)
set_option maxRecDepth 20000 in
theorem gL_law_X7_addAction : GoodIn wsL_law (wsV RL 112 RX7 yX7_addAction wsX7_addAction) := goodIn_app (goodIn_of _ (by decide +kernel)) ggL_law_X7_addAction
set_option maxRecDepth 20000 in
theorem ggL_law_L_turn : GoodIn wsL_law wsL_turn := goodIn_ca (goodIn_r _ [205, 99, 206, 207, 208, 2, 209, 210, 25, 17, 211, 212, 176, 177, 178, 179, 111, 112, 180, 181, 182, 16, 183, 122, 31, 123, 124, 125, 24, 126, 127, 213, 139, 140, 141, 142, 135, 33, 143, 214, 215, 216, 217, 218, 219, 220, 221, 222, 899, 900, 901, 902, 903, 904, 905, 906, 907, 908, 909, 860, 861, 862, 863, 882, 883, 884, 887, 888, 889, 890, 891, 892, 893, 894, 895, 896, 897, 898] (by decide +kernel) (by decide +kernel)) (goodIn_sub (fun _ h => List.mem_append_left _ (List.mem_append_right _ h)) (by decide +kernel))
set_option maxRecDepth 20000 in
theorem gL_law_L_turn : GoodIn wsL_law (va_wsS RL 113 yL_turn wsL_turn) := goodIn_app (goodIn_of _ (by decide +kernel)) ggL_law_L_turn
set_option maxRecDepth 20000 in
theorem ggL_law_X7_turn : GoodIn wsL_law wsX7_turn := goodIn_r _ [226, 148, 89, 227, 150, 199, 200, 201, 5, 202, 149, 864, 865, 866, 867, 868, 869, 870, 871, 872, 873, 874, 875, 876, 877, 878, 879, 880, 881] (by decide +kernel) (by decide +kernel)
set_option maxRecDepth 20000 in
theorem gL_law_X7_turn : GoodIn wsL_law (wsV RL 116 RX7 yX7_turn wsX7_turn) := goodIn_app (goodIn_of _ (by decide +kernel)) ggL_law_X7_turn
set_option maxRecDepth 20000 in
theorem ggL_law_L_rank : GoodIn wsL_law wsL_rank := goodIn_ca (goodIn_ca (goodIn_r _ [230, 99, 100, 231, 232, 233, 2, 234, 116, 117, 25, 17, 176, 177, 178, 179, 111, 112, 180, 181, 182, 16, 183, 122, 31, 235, 236, 237, 35, 238, 239, 41, 123, 124, 125, 24, 126, 127, 240, 241, 242, 243, 244, 143, 245, 860, 861, 862, 863, 882, 883, 884, 899, 900, 901, 902, 903, 904, 905, 906, 907, 908, 909, 887, 888, 889, 890, 891, 892, 893, 894, 895, 896, 897, 898] (by decide +kernel) (by decide +kernel)) (goodIn_sub (fun _ h => List.mem_append_right _ h) (by decide +kernel))) (goodIn_sub (fun _ h => List.mem_append_left _ (List.mem_append_right _ h)) (by decide +kernel))
set_option maxRecDepth 20000 in
theorem gL_law_L_rank : GoodIn wsL_law (va_wsS RL 117 yL_rank wsL_rank) := goodIn_app (goodIn_of _ (by decide +kernel)) ggL_law_L_rank
set_option maxRecDepth 20000 in
theorem ggL_law_X7_rank : GoodIn wsL_law wsX7_rank := goodIn_r _ [249, 90, 148, 149, 150, 199, 200, 201, 5, 202, 250, 251, 252, 864, 865, 866, 867, 868, 869, 870, 871, 872, 873, 874, 875, 876, 877, 878, 879, 880, 881] (by decide +kernel) (by decide +kernel)
set_option maxRecDepth 20000 in
theorem gL_law_X7_rank : GoodIn wsL_law (wsV RL 120 RX7 yX7_rank wsX7_rank) := goodIn_app (goodIn_of _ (by decide +kernel)) ggL_law_X7_rank
set_option maxRecDepth 20000 in
theorem ggL_law_L_isAbove : GoodIn wsL_law wsL_isAbove := goodIn_ca (goodIn_r _ [255, 99, 256, 257, 258, 2, 259, 176, 177, 178, 179, 111, 112, 17, 180, 181, 182, 16, 183, 122, 31, 235, 236, 237, 35, 238, 239, 41, 860, 861, 862, 863, 882, 883, 884, 899, 900, 901, 902, 903, 904, 905, 906, 907, 908, 909] (by decide +kernel) (by decide +kernel)) (goodIn_sub (fun _ h => List.mem_append_left _ (List.mem_append_right _ h)) (by decide +kernel))
set_option maxRecDepth 20000 in
theorem gL_law_L_isAbove : GoodIn wsL_law (va_wsS RL 121 yL_isAbove wsL_isAbove) := goodIn_app (goodIn_of _ (by decide +kernel)) ggL_law_L_isAbove
set_option maxRecDepth 20000 in
theorem ggL_law_X7_isAbove : GoodIn wsL_law wsX7_isAbove := goodIn_r _ [263, 148, 90, 199, 200, 201, 5, 202, 149, 250, 251, 252, 864, 865, 866, 867, 868, 869, 870, 871, 872, 873, 874, 875, 876, 877, 878, 879, 880, 881] (by decide +kernel) (by decide +kernel)
set_option maxRecDepth 20000 in
theorem gL_law_X7_isAbove : GoodIn wsL_law (wsV RL 123 RX7 yX7_isAbove wsX7_isAbove) := goodIn_app (goodIn_of _ (by decide +kernel)) ggL_law_X7_isAbove
set_option maxRecDepth 20000 in
theorem ggL_law_X6_ruleCount : GoodIn wsL_law wsX6_ruleCount := goodIn_r _ [267, 17, 268, 269, 270, 16, 271, 122, 860, 861, 862, 863, 882, 883, 884] (by decide +kernel) (by decide +kernel)
set_option maxRecDepth 20000 in
theorem gL_law_X6_ruleCount : GoodIn wsL_law (wsV RL 124 RX6 yX6_ruleCount wsX6_ruleCount) := goodIn_app (goodIn_of _ (by decide +kernel)) ggL_law_X6_ruleCount
set_option maxRecDepth 20000 in
theorem ggL_law_X7_ruleCount : GoodIn wsL_law wsX7_ruleCount := goodIn_r _ [275, 148, 149, 864, 865, 866, 867, 868, 869, 870, 871, 872, 873, 874, 875, 876, 877, 878, 879, 880, 881] (by decide +kernel) (by decide +kernel)
set_option maxRecDepth 20000 in
theorem gL_law_X7_ruleCount : GoodIn wsL_law (wsV RL 127 RX7 yX7_ruleCount wsX7_ruleCount) := goodIn_app (goodIn_of _ (by decide +kernel)) ggL_law_X7_ruleCount
set_option maxRecDepth 20000 in
theorem ggL_law_L_put : GoodIn wsL_law wsL_put := goodIn_ca (goodIn_r _ [278, 100, 279, 280, 281, 2, 282, 211, 25, 113, 114, 115, 116, 117, 214, 215, 216, 123, 124, 125, 24, 126, 127, 220, 221, 222, 860, 861, 862, 863, 887, 888, 889, 890, 891, 892, 893, 894, 895, 896, 897, 898] (by decide +kernel) (by decide +kernel)) (goodIn_sub (fun _ h => List.mem_append_right _ h) (by decide +kernel))
set_option maxRecDepth 20000 in
theorem gL_law_L_put : GoodIn wsL_law (va_wsS RL 128 yL_put wsL_put) := goodIn_app (goodIn_of _ (by decide +kernel)) ggL_law_L_put
set_option maxRecDepth 20000 in
theorem ggL_law_X7_put : GoodIn wsL_law wsX7_put := goodIn_r _ [286, 148, 287, 227, 150, 158, 159, 5, 160, 154, 155, 156, 157, 864, 865, 866, 867, 868, 869, 870, 871, 872, 873, 874, 875, 876, 877, 878, 879, 880, 881] (by decide +kernel) (by decide +kernel)
set_option maxRecDepth 20000 in
theorem gL_law_X7_put : GoodIn wsL_law (wsV RL 131 RX7 yX7_put wsX7_put) := goodIn_app (goodIn_of _ (by decide +kernel)) ggL_law_X7_put
set_option maxRecDepth 20000 in
theorem ggL_law_L_change : GoodIn wsL_law wsL_change := goodIn_ca (goodIn_r _ [290, 99, 291, 292, 293, 2, 294, 25, 17, 211, 108, 109, 110, 111, 112, 123, 124, 125, 24, 126, 127, 128, 129, 130, 295, 296, 297, 16, 298, 218, 219, 299, 300, 301, 302, 33, 215, 216, 221, 222, 217, 860, 861, 862, 863, 887, 888, 889, 890, 891, 892, 893, 894, 895, 896, 897, 898, 882, 883, 884] (by decide +kernel) (by decide +kernel)) (goodIn_sub (fun _ h => List.mem_append_left _ (List.mem_append_right _ h)) (by decide +kernel))
set_option maxRecDepth 20000 in
theorem gL_law_L_change : GoodIn wsL_law (va_wsS RL 132 yL_change wsL_change) := goodIn_app (goodIn_of _ (by decide +kernel)) ggL_law_L_change
set_option maxRecDepth 20000 in
theorem ggL_law_X7_change : GoodIn wsL_law wsX7_change := goodIn_r _ [306, 148, 150, 227, 151, 152, 5, 153, 154, 155, 156, 157, 307, 308, 309, 310, 287, 161, 162, 163, 311, 312, 313, 314, 149, 89, 83, 315, 316, 317, 318, 319, 320, 321, 864, 865, 866, 867, 868, 869, 870, 871, 872, 873, 874, 875, 876, 877, 878, 879, 880, 881] (by decide +kernel) (by decide +kernel)
set_option maxRecDepth 20000 in
theorem gL_law_X7_change : GoodIn wsL_law (wsV RL 134 RX7 yX7_change wsX7_change) := goodIn_app (goodIn_of _ (by decide +kernel)) ggL_law_X7_change
set_option maxRecDepth 20000 in
theorem ggL_law_X6_facts : GoodIn wsL_law wsX6_facts := goodIn_r _ [325, 211, 214, 215, 2, 216, 860, 861, 862, 863] (by decide +kernel) (by decide +kernel)
set_option maxRecDepth 20000 in
theorem gL_law_X6_facts : GoodIn wsL_law (wsV RL 135 RX6 yX6_facts wsX6_facts) := goodIn_app (goodIn_of _ (by decide +kernel)) ggL_law_X6_facts
set_option maxRecDepth 20000 in
theorem ggL_law_X7_facts : GoodIn wsL_law wsX7_facts := goodIn_r _ [329, 148, 287, 864, 865, 866, 867, 868, 869, 870, 871, 872, 873, 874, 875, 876, 877, 878, 879, 880, 881] (by decide +kernel) (by decide +kernel)
set_option maxRecDepth 20000 in
theorem gL_law_X7_facts : GoodIn wsL_law (wsV RL 138 RX7 yX7_facts wsX7_facts) := goodIn_app (goodIn_of _ (by decide +kernel)) ggL_law_X7_facts
set_option maxRecDepth 20000 in
theorem ggL_law_X6_triggered : GoodIn wsL_law wsX6_triggered := goodIn_r _ [333, 211, 217, 218, 2, 219, 860, 861, 862, 863] (by decide +kernel) (by decide +kernel)
set_option maxRecDepth 20000 in
theorem gL_law_X6_triggered : GoodIn wsL_law (wsV RL 139 RX6 yX6_triggered wsX6_triggered) := goodIn_app (goodIn_of _ (by decide +kernel)) ggL_law_X6_triggered
set_option maxRecDepth 20000 in
theorem ggL_law_X7_triggered : GoodIn wsL_law wsX7_triggered := goodIn_r _ [337, 148, 227, 864, 865, 866, 867, 868, 869, 870, 871, 872, 873, 874, 875, 876, 877, 878, 879, 880, 881] (by decide +kernel) (by decide +kernel)
set_option maxRecDepth 20000 in
theorem gL_law_X7_triggered : GoodIn wsL_law (wsV RL 142 RX7 yX7_triggered wsX7_triggered) := goodIn_app (goodIn_of _ (by decide +kernel)) ggL_law_X7_triggered
set_option maxRecDepth 20000 in
theorem ggL_law_X6_ready : GoodIn wsL_law wsX6_ready := goodIn_r _ [341, 17, 211, 342, 343, 344, 16, 345, 31, 143, 346, 347, 348, 35, 349, 41, 350, 218, 2, 219, 860, 861, 862, 863, 882, 883, 884, 899, 900, 901, 902, 903, 904, 905, 906, 907, 908, 909] (by decide +kernel) (by decide +kernel)
set_option maxRecDepth 20000 in
theorem gL_law_X6_ready : GoodIn wsL_law (wsV RL 143 RX6 yX6_ready wsX6_ready) := goodIn_app (goodIn_of _ (by decide +kernel)) ggL_law_X6_ready
set_option maxRecDepth 20000 in
theorem ggL_law_X7_ready : GoodIn wsL_law wsX7_ready := goodIn_r _ [354, 148, 307, 308, 309, 5, 310, 287, 227, 355, 356, 357, 358, 149, 90, 319, 320, 321, 250, 251, 252, 864, 865, 866, 867, 868, 869, 870, 871, 872, 873, 874, 875, 876, 877, 878, 879, 880, 881] (by decide +kernel) (by decide +kernel)
set_option maxRecDepth 20000 in
theorem gL_law_X7_ready : GoodIn wsL_law (wsV RL 146 RX7 yX7_ready wsX7_ready) := goodIn_app (goodIn_of _ (by decide +kernel)) ggL_law_X7_ready
set_option maxRecDepth 20000 in
theorem ggL_law_L_play : GoodIn wsL_law wsL_play := goodIn_ca (goodIn_ca (goodIn_r _ [361, 99, 101, 362, 363, 364, 2, 365, 106, 107, 211, 25, 17, 176, 177, 178, 179, 111, 112, 180, 181, 182, 16, 183, 122, 31, 366, 347, 348, 35, 349, 41, 350, 218, 219, 367, 368, 369, 370, 371, 372, 215, 216, 123, 124, 125, 24, 126, 127, 373, 374, 375, 376, 143, 377, 221, 222, 378, 379, 380, 381, 382, 40, 383, 296, 297, 298, 299, 300, 301, 302, 33, 860, 861, 862, 863, 882, 883, 884, 899, 900, 901, 902, 903, 904, 905, 906, 907, 908, 909, 887, 888, 889, 890, 891, 892, 893, 894, 895, 896, 897, 898] (by decide +kernel) (by decide +kernel)) (goodIn_sub (fun _ h => List.mem_append_left _ (List.mem_append_left _ (List.mem_append_right _ h))) (by decide +kernel))) (goodIn_sub (fun _ h => List.mem_append_left _ (List.mem_append_right _ h)) (by decide +kernel))
set_option maxRecDepth 20000 in
theorem gL_law_L_play : GoodIn wsL_law (va_wsS RL 147 yL_play wsL_play) := goodIn_app (goodIn_of _ (by decide +kernel)) ggL_law_L_play
set_option maxRecDepth 20000 in
theorem ggL_law_X7_play : GoodIn wsL_law wsX7_play := goodIn_r _ [387, 148, 150, 199, 200, 201, 5, 202, 149, 307, 308, 309, 310, 287, 227, 355, 356, 357, 358, 90, 319, 320, 321, 250, 251, 252, 388, 389, 390, 391, 84, 85, 392, 393, 394, 395, 86, 87, 311, 312, 313, 314, 89, 83, 315, 316, 317, 318, 864, 865, 866, 867, 868, 869, 870, 871, 872, 873, 874, 875, 876, 877, 878, 879, 880, 881] (by decide +kernel) (by decide +kernel)
set_option maxRecDepth 20000 in
theorem gL_law_X7_play : GoodIn wsL_law (wsV RL 149 RX7 yX7_play wsX7_play) := goodIn_app (goodIn_of _ (by decide +kernel)) ggL_law_X7_play
set_option maxRecDepth 20000 in
theorem ggL_law_L_run : GoodIn wsL_law wsL_run := goodIn_ca (goodIn_r _ [398, 100, 399, 400, 401, 2, 402, 116, 117, 25, 17, 211, 123, 124, 125, 24, 126, 127, 403, 404, 405, 16, 406, 31, 346, 347, 348, 35, 349, 41, 350, 218, 219, 373, 374, 375, 376, 143, 377, 215, 216, 221, 222, 378, 368, 369, 370, 371, 372, 379, 380, 381, 382, 40, 383, 296, 297, 298, 299, 300, 301, 302, 33, 860, 861, 862, 863, 887, 888, 889, 890, 891, 892, 893, 894, 895, 896, 897, 898, 882, 883, 884, 899, 900, 901, 902, 903, 904, 905, 906, 907, 908, 909] (by decide +kernel) (by decide +kernel)) (goodIn_sub (fun _ h => List.mem_append_right _ h) (by decide +kernel))
set_option maxRecDepth 20000 in
theorem gL_law_L_run : GoodIn wsL_law (va_wsS RL 150 yL_run wsL_run) := goodIn_app (goodIn_of _ (by decide +kernel)) ggL_law_L_run
set_option maxRecDepth 20000 in
theorem ggL_law_X7_run : GoodIn wsL_law wsX7_run := goodIn_r _ [410, 148, 227, 150, 307, 308, 309, 5, 310, 287, 355, 356, 357, 358, 149, 90, 319, 320, 321, 250, 251, 252, 411, 412, 413, 414, 415, 392, 393, 394, 395, 86, 87, 388, 389, 390, 391, 84, 85, 311, 312, 313, 314, 89, 83, 315, 316, 317, 318, 864, 865, 866, 867, 868, 869, 870, 871, 872, 873, 874, 875, 876, 877, 878, 879, 880, 881] (by decide +kernel) (by decide +kernel)
set_option maxRecDepth 20000 in
theorem gL_law_X7_run : GoodIn wsL_law (wsV RL 152 RX7 yX7_run wsX7_run) := goodIn_app (goodIn_of _ (by decide +kernel)) ggL_law_X7_run
set_option maxRecDepth 20000 in
theorem ggL_law_X6_explore : GoodIn wsL_law wsX6_explore := goodIn_r _ [419, 25, 211, 420, 421, 422, 24, 423, 127, 424, 425, 426, 427, 428, 429, 63, 430, 431, 432, 433, 52, 434, 435, 59, 436, 437, 438, 439, 55, 440, 441, 442, 58, 443, 444, 70, 445, 446, 447, 448, 53, 449, 450, 451, 452, 64, 453, 454, 343, 344, 16, 345, 31, 143, 346, 347, 348, 35, 349, 41, 350, 218, 2, 219, 455, 456, 413, 457, 458, 459, 460, 215, 216, 461, 462, 463, 464, 69, 465, 181, 182, 183, 122, 466, 374, 375, 376, 377, 221, 222, 378, 368, 369, 370, 371, 372, 379, 380, 381, 382, 40, 383, 296, 297, 298, 299, 300, 301, 302, 33, 467, 468, 469, 470, 54, 471, 472, 473, 62, 474, 475, 78, 476, 477, 478, 479, 480, 75, 76, 77, 481, 482, 483, 484, 485, 486, 487, 488, 489, 490, 491, 492, 493, 494, 495, 496, 497, 498, 499, 500, 501, 502, 503, 504, 505, 506, 507, 508, 509, 510, 511, 512, 513, 514, 860, 861, 862, 863, 887, 888, 889, 890, 891, 892, 893, 894, 895, 896, 897, 898, 910, 911, 912, 899, 900, 901, 902, 903, 904, 905, 906, 907, 908, 909, 882, 883, 884, 913, 914, 915, 916, 917, 918, 919, 920] (by decide +kernel) (by decide +kernel)
set_option maxRecDepth 20000 in
theorem gL_law_X6_explore : GoodIn wsL_law (wsV RL 153 RX6 yX6_explore wsX6_explore) := goodIn_app (goodIn_of _ (by decide +kernel)) ggL_law_X6_explore
set_option maxRecDepth 20000 in
theorem ggL_law_X7_explore : GoodIn wsL_law wsX7_explore := goodIn_r _ [518, 148, 150, 519, 520, 521, 522, 523, 5, 524, 91, 92, 307, 308, 309, 310, 287, 227, 355, 356, 357, 358, 149, 90, 319, 320, 321, 250, 251, 252, 392, 393, 394, 395, 86, 87, 388, 389, 390, 391, 84, 85, 311, 312, 313, 314, 89, 83, 525, 526, 527, 528, 864, 865, 866, 867, 868, 869, 870, 871, 872, 873, 874, 875, 876, 877, 878, 879, 880, 881] (by decide +kernel) (by decide +kernel)
set_option maxRecDepth 20000 in
theorem gL_law_X7_explore : GoodIn wsL_law (wsV RL 156 RX7 yX7_explore wsX7_explore) := goodIn_app (goodIn_of _ (by decide +kernel)) ggL_law_X7_explore
set_option maxRecDepth 20000 in
theorem ggL_law_L_factsOf : GoodIn wsL_law wsL_factsOf := goodIn_ca (goodIn_ca (goodIn_r _ [531, 101, 99, 532, 533, 534, 2, 535, 536, 537, 538, 539, 111, 112, 25, 540, 541, 542, 543, 106, 107, 544, 545, 546, 24, 547, 127, 429, 548, 549, 550, 551, 428, 52, 214, 215, 216, 860, 861, 862, 863, 887, 888, 889, 890, 891, 892, 893, 894, 895, 896, 897, 898] (by decide +kernel) (by decide +kernel)) (goodIn_sub (fun _ h => List.mem_append_left _ (List.mem_append_right _ h)) (by decide +kernel))) (goodIn_sub (fun _ h => List.mem_append_left _ (List.mem_append_left _ (List.mem_append_right _ h))) (by decide +kernel))
set_option maxRecDepth 20000 in
theorem gL_law_L_factsOf : GoodIn wsL_law (va_wsS RL 157 yL_factsOf wsL_factsOf) := goodIn_app (goodIn_of _ (by decide +kernel)) ggL_law_L_factsOf
set_option maxRecDepth 20000 in
theorem ggL_law_X7_factsOf : GoodIn wsL_law wsX7_factsOf := goodIn_r _ [555, 520, 91, 556, 557, 558, 5, 559, 148, 560, 561, 562, 563, 150, 519, 864, 865, 866, 867, 868, 869, 870, 871, 872, 873, 874, 875, 876, 877, 878, 879, 880, 881] (by decide +kernel) (by decide +kernel)
set_option maxRecDepth 20000 in
theorem gL_law_X7_factsOf : GoodIn wsL_law (wsV RL 159 RX7 yX7_factsOf wsX7_factsOf) := goodIn_app (goodIn_of _ (by decide +kernel)) ggL_law_X7_factsOf
set_option maxRecDepth 20000 in
theorem ggL_law_L_triggeredOf : GoodIn wsL_law wsL_triggeredOf := goodIn_ca (goodIn_ca (goodIn_r _ [566, 101, 99, 567, 568, 569, 2, 570, 536, 537, 538, 539, 111, 112, 25, 540, 541, 542, 543, 106, 107, 544, 545, 546, 24, 547, 127, 429, 548, 549, 550, 551, 428, 52, 217, 218, 219, 860, 861, 862, 863, 887, 888, 889, 890, 891, 892, 893, 894, 895, 896, 897, 898] (by decide +kernel) (by decide +kernel)) (goodIn_sub (fun _ h => List.mem_append_left _ (List.mem_append_right _ h)) (by decide +kernel))) (goodIn_sub (fun _ h => List.mem_append_left _ (List.mem_append_left _ (List.mem_append_right _ h))) (by decide +kernel))
set_option maxRecDepth 20000 in
theorem gL_law_L_triggeredOf : GoodIn wsL_law (va_wsS RL 160 yL_triggeredOf wsL_triggeredOf) := goodIn_app (goodIn_of _ (by decide +kernel)) ggL_law_L_triggeredOf
set_option maxRecDepth 20000 in
theorem ggL_law_X7_triggeredOf : GoodIn wsL_law wsX7_triggeredOf := goodIn_r _ [574, 520, 91, 556, 557, 558, 5, 559, 148, 560, 561, 562, 563, 150, 519, 319, 320, 321, 864, 865, 866, 867, 868, 869, 870, 871, 872, 873, 874, 875, 876, 877, 878, 879, 880, 881] (by decide +kernel) (by decide +kernel)
set_option maxRecDepth 20000 in
theorem gL_law_X7_triggeredOf : GoodIn wsL_law (wsV RL 162 RX7 yX7_triggeredOf wsX7_triggeredOf) := goodIn_app (goodIn_of _ (by decide +kernel)) ggL_law_X7_triggeredOf
set_option maxRecDepth 20000 in
theorem ggL_law_L_after : GoodIn wsL_law wsL_after := goodIn_ca (goodIn_ca (goodIn_r _ [577, 101, 99, 578, 579, 580, 2, 581, 25, 536, 537, 538, 539, 111, 112, 540, 541, 542, 543, 106, 107, 544, 545, 546, 24, 547, 127, 429, 548, 549, 550, 551, 428, 52, 176, 177, 178, 179, 17, 180, 181, 182, 16, 183, 122, 31, 582, 486, 487, 488, 54, 860, 861, 862, 863, 887, 888, 889, 890, 891, 892, 893, 894, 895, 896, 897, 898, 882, 883, 884] (by decide +kernel) (by decide +kernel)) (goodIn_sub (fun _ h => List.mem_append_left _ (List.mem_append_right _ h)) (by decide +kernel))) (goodIn_sub (fun _ h => List.mem_append_left _ (List.mem_append_left _ (List.mem_append_right _ h))) (by decide +kernel))
set_option maxRecDepth 20000 in
theorem gL_law_L_after : GoodIn wsL_law (va_wsS RL 163 yL_after wsL_after) := goodIn_app (goodIn_of _ (by decide +kernel)) ggL_law_L_after
set_option maxRecDepth 20000 in
theorem ggL_law_X7_after : GoodIn wsL_law wsX7_after := goodIn_r _ [586, 520, 149, 92, 556, 557, 558, 5, 559, 148, 560, 561, 562, 563, 150, 519, 864, 865, 866, 867, 868, 869, 870, 871, 872, 873, 874, 875, 876, 877, 878, 879, 880, 881] (by decide +kernel) (by decide +kernel)
set_option maxRecDepth 20000 in
theorem gL_law_X7_after : GoodIn wsL_law (wsV RL 165 RX7 yX7_after wsX7_after) := goodIn_app (goodIn_of _ (by decide +kernel)) ggL_law_X7_after
set_option maxRecDepth 20000 in
theorem ggL_law_L_terminates : GoodIn wsL_law wsL_terminates := goodIn_ca (goodIn_r _ [589, 101, 590, 591, 592, 2, 593, 25, 594, 540, 541, 542, 543, 106, 107, 544, 545, 546, 24, 547, 127, 429, 595, 596, 597, 62, 598, 476, 860, 861, 862, 863, 887, 888, 889, 890, 891, 892, 893, 894, 895, 896, 897, 898, 913, 914, 915, 916, 917, 918, 919, 920] (by decide +kernel) (by decide +kernel)) (goodIn_sub (fun _ h => List.mem_append_left _ (List.mem_append_left _ (List.mem_append_right _ h))) (by decide +kernel))
set_option maxRecDepth 20000 in
theorem gL_law_L_terminates : GoodIn wsL_law (va_wsS RL 166 yL_terminates wsL_terminates) := goodIn_app (goodIn_of _ (by decide +kernel)) ggL_law_L_terminates
set_option maxRecDepth 20000 in
theorem ggL_law_X7_terminates : GoodIn wsL_law wsX7_terminates := goodIn_r _ [602, 556, 557, 558, 5, 559, 148, 560, 561, 562, 563, 150, 519, 603, 604, 605, 606, 520, 93, 94, 149, 92, 607, 504, 505, 506, 608, 609, 610, 611, 612, 613, 614, 615, 91, 319, 320, 321, 864, 865, 866, 867, 868, 869, 870, 871, 872, 873, 874, 875, 876, 877, 878, 879, 880, 881] (by decide +kernel) (by decide +kernel)
set_option maxRecDepth 20000 in
theorem gL_law_X7_terminates : GoodIn wsL_law (wsV RL 169 RX7 yX7_terminates wsX7_terminates) := goodIn_app (goodIn_of _ (by decide +kernel)) ggL_law_X7_terminates
set_option maxRecDepth 20000 in
theorem ggL_law_L_endCount : GoodIn wsL_law wsL_endCount := goodIn_ca (goodIn_r _ [618, 101, 619, 620, 621, 2, 622, 25, 623, 540, 541, 542, 543, 106, 107, 544, 545, 546, 24, 547, 127, 429, 624, 625, 626, 58, 627, 444, 860, 861, 862, 863, 887, 888, 889, 890, 891, 892, 893, 894, 895, 896, 897, 898, 910, 911, 912] (by decide +kernel) (by decide +kernel)) (goodIn_sub (fun _ h => List.mem_append_left _ (List.mem_append_left _ (List.mem_append_right _ h))) (by decide +kernel))
set_option maxRecDepth 20000 in
theorem gL_law_L_endCount : GoodIn wsL_law (va_wsS RL 170 yL_endCount wsL_endCount) := goodIn_app (goodIn_of _ (by decide +kernel)) ggL_law_L_endCount
set_option maxRecDepth 20000 in
theorem ggL_law_X7_endCount : GoodIn wsL_law wsX7_endCount := goodIn_r _ [631, 520, 556, 557, 558, 5, 559, 148, 560, 561, 562, 563, 150, 519, 612, 613, 614, 615, 91, 319, 320, 321, 864, 865, 866, 867, 868, 869, 870, 871, 872, 873, 874, 875, 876, 877, 878, 879, 880, 881] (by decide +kernel) (by decide +kernel)
set_option maxRecDepth 20000 in
theorem gL_law_X7_endCount : GoodIn wsL_law (wsV RL 172 RX7 yX7_endCount wsX7_endCount) := goodIn_app (goodIn_of _ (by decide +kernel)) ggL_law_X7_endCount
set_option maxRecDepth 20000 in
theorem ggL_law_L_end : GoodIn wsL_law wsL_end := goodIn_ca (goodIn_ca (goodIn_r _ [634, 101, 99, 635, 636, 637, 2, 638, 111, 112, 25, 623, 540, 541, 542, 543, 106, 107, 544, 545, 546, 24, 547, 127, 429, 639, 640, 641, 58, 642, 444, 69, 860, 861, 862, 863, 887, 888, 889, 890, 891, 892, 893, 894, 895, 896, 897, 898, 910, 911, 912] (by decide +kernel) (by decide +kernel)) (goodIn_sub (fun _ h => List.mem_append_left _ (List.mem_append_right _ h)) (by decide +kernel))) (goodIn_sub (fun _ h => List.mem_append_left _ (List.mem_append_left _ (List.mem_append_right _ h))) (by decide +kernel))
set_option maxRecDepth 20000 in
theorem gL_law_L_end : GoodIn wsL_law (va_wsS RL 173 yL_end wsL_end) := goodIn_app (goodIn_of _ (by decide +kernel)) ggL_law_L_end
set_option maxRecDepth 20000 in
theorem ggL_law_X7_end : GoodIn wsL_law wsX7_end := goodIn_r _ [646, 91, 647, 629, 630, 5, 631, 520, 556, 557, 558, 559, 148, 560, 561, 562, 563, 150, 519, 612, 613, 614, 615, 319, 320, 321, 864, 865, 866, 867, 868, 869, 870, 871, 872, 873, 874, 875, 876, 877, 878, 879, 880, 881] (by decide +kernel) (by decide +kernel)
set_option maxRecDepth 20000 in
theorem gL_law_X7_end : GoodIn wsL_law (wsV RL 175 RX7 yX7_end wsX7_end) := goodIn_app (goodIn_of _ (by decide +kernel)) ggL_law_X7_end
set_option maxRecDepth 20000 in
theorem ggL_law_L_shortest : GoodIn wsL_law wsL_shortest := goodIn_ca (goodIn_r _ [650, 101, 651, 652, 653, 2, 654, 25, 623, 540, 541, 542, 543, 106, 107, 544, 545, 546, 24, 547, 127, 429, 655, 656, 657, 58, 658, 70, 860, 861, 862, 863, 887, 888, 889, 890, 891, 892, 893, 894, 895, 896, 897, 898, 910, 911, 912] (by decide +kernel) (by decide +kernel)) (goodIn_sub (fun _ h => List.mem_append_left _ (List.mem_append_left _ (List.mem_append_right _ h))) (by decide +kernel))
