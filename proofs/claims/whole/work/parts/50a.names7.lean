theorem dX7_init_0 : decode cX7_init 0 = .ok (.aload_n 0, 1) := by decide +kernel
theorem dX7_init_1 : decode cX7_init 1 = .ok (.invokespecial 3, 3) := by decide +kernel
theorem dX7_init_4 : decode cX7_init 4 = .ok (.aload_n 0, 1) := by decide +kernel
theorem dX7_init_5 : decode cX7_init 5 = .ok (.bipush 8, 2) := by decide +kernel
theorem dX7_init_7 : decode cX7_init 7 = .ok (.newarray .int, 2) := by decide +kernel
theorem dX7_init_9 : decode cX7_init 9 = .ok (.putfield 9, 3) := by decide +kernel
theorem dX7_init_12 : decode cX7_init 12 = .ok (.aload_n 0, 1) := by decide +kernel
theorem dX7_init_13 : decode cX7_init 13 = .ok (.bipush 8, 2) := by decide +kernel
theorem dX7_init_15 : decode cX7_init 15 = .ok (.newarray .int, 2) := by decide +kernel
theorem dX7_init_17 : decode cX7_init 17 = .ok (.putfield 13, 3) := by decide +kernel
theorem dX7_init_20 : decode cX7_init 20 = .ok (.aload_n 0, 1) := by decide +kernel
theorem dX7_init_21 : decode cX7_init 21 = .ok (.bipush 8, 2) := by decide +kernel
theorem dX7_init_23 : decode cX7_init 23 = .ok (.newarray .int, 2) := by decide +kernel
theorem dX7_init_25 : decode cX7_init 25 = .ok (.putfield 16, 3) := by decide +kernel
theorem dX7_init_28 : decode cX7_init 28 = .ok (.aload_n 0, 1) := by decide +kernel
theorem dX7_init_29 : decode cX7_init 29 = .ok (.bipush 8, 2) := by decide +kernel
theorem dX7_init_31 : decode cX7_init 31 = .ok (.newarray .int, 2) := by decide +kernel
theorem dX7_init_33 : decode cX7_init 33 = .ok (.putfield 19, 3) := by decide +kernel
theorem dX7_init_36 : decode cX7_init 36 = .ok (.aload_n 0, 1) := by decide +kernel
theorem dX7_init_37 : decode cX7_init 37 = .ok (.bipush 32, 2) := by decide +kernel
theorem dX7_init_39 : decode cX7_init 39 = .ok (.newarray .int, 2) := by decide +kernel
theorem dX7_init_41 : decode cX7_init 41 = .ok (.putfield 22, 3) := by decide +kernel
theorem dX7_init_44 : decode cX7_init 44 = .ok (.aload_n 0, 1) := by decide +kernel
theorem dX7_init_45 : decode cX7_init 45 = .ok (.bipush 8, 2) := by decide +kernel
theorem dX7_init_47 : decode cX7_init 47 = .ok (.newarray .boolean, 2) := by decide +kernel
theorem dX7_init_49 : decode cX7_init 49 = .ok (.putfield 25, 3) := by decide +kernel
theorem dX7_init_52 : decode cX7_init 52 = .ok (.aload_n 0, 1) := by decide +kernel
theorem dX7_init_53 : decode cX7_init 53 = .ok (.bipush 8, 2) := by decide +kernel
theorem dX7_init_55 : decode cX7_init 55 = .ok (.newarray .int, 2) := by decide +kernel
theorem dX7_init_57 : decode cX7_init 57 = .ok (.putfield 29, 3) := by decide +kernel
theorem dX7_init_60 : decode cX7_init 60 = .ok (.aload_n 0, 1) := by decide +kernel
theorem dX7_init_61 : decode cX7_init 61 = .ok (.sipush 1000, 3) := by decide +kernel
theorem dX7_init_64 : decode cX7_init 64 = .ok (.newarray .int, 2) := by decide +kernel
theorem dX7_init_66 : decode cX7_init 66 = .ok (.putfield 32, 3) := by decide +kernel
theorem dX7_init_69 : decode cX7_init 69 = .ok (.aload_n 0, 1) := by decide +kernel
theorem dX7_init_70 : decode cX7_init 70 = .ok (.sipush 8000, 3) := by decide +kernel
theorem dX7_init_73 : decode cX7_init 73 = .ok (.newarray .int, 2) := by decide +kernel
theorem dX7_init_75 : decode cX7_init 75 = .ok (.putfield 35, 3) := by decide +kernel
theorem dX7_init_78 : decode cX7_init 78 = .ok (.aload_n 0, 1) := by decide +kernel
theorem dX7_init_79 : decode cX7_init 79 = .ok (.sipush 1000, 3) := by decide +kernel
theorem dX7_init_82 : decode cX7_init 82 = .ok (.newarray .int, 2) := by decide +kernel
theorem dX7_init_84 : decode cX7_init 84 = .ok (.putfield 38, 3) := by decide +kernel
theorem dX7_init_87 : decode cX7_init 87 = .ok (.aload_n 0, 1) := by decide +kernel
theorem dX7_init_88 : decode cX7_init 88 = .ok (.sipush 1000, 3) := by decide +kernel
theorem dX7_init_91 : decode cX7_init 91 = .ok (.newarray .long, 2) := by decide +kernel
theorem dX7_init_93 : decode cX7_init 93 = .ok (.putfield 41, 3) := by decide +kernel
theorem dX7_init_96 : decode cX7_init 96 = .ok (.return_, 1) := by decide +kernel
theorem dX7_thrown_0 : decode cX7_thrown 0 = .ok (.aload_n 0, 1) := by decide +kernel
theorem dX7_thrown_1 : decode cX7_thrown 1 = .ok (.getfield 45, 3) := by decide +kernel
theorem dX7_thrown_4 : decode cX7_thrown 4 = .ok (.ireturn, 1) := by decide +kernel
theorem dX7_fail_0 : decode cX7_fail 0 = .ok (.aload_n 0, 1) := by decide +kernel
theorem dX7_fail_1 : decode cX7_fail 1 = .ok (.iload_n 1, 1) := by decide +kernel
theorem dX7_fail_2 : decode cX7_fail 2 = .ok (.putfield 45, 3) := by decide +kernel
theorem dX7_fail_5 : decode cX7_fail 5 = .ok (.iconst 0, 1) := by decide +kernel
theorem dX7_fail_6 : decode cX7_fail 6 = .ok (.ireturn, 1) := by decide +kernel
theorem dX7_isRule_0 : decode cX7_isRule 0 = .ok (.iload_n 1, 1) := by decide +kernel
theorem dX7_isRule_1 : decode cX7_isRule 1 = .ok (.ifCond .lt 15, 3) := by decide +kernel
theorem dX7_isRule_4 : decode cX7_isRule 4 = .ok (.iload_n 1, 1) := by decide +kernel
theorem dX7_isRule_5 : decode cX7_isRule 5 = .ok (.aload_n 0, 1) := by decide +kernel
theorem dX7_isRule_6 : decode cX7_isRule 6 = .ok (.getfield 49, 3) := by decide +kernel
theorem dX7_isRule_9 : decode cX7_isRule 9 = .ok (.if_icmp .ge 7, 3) := by decide +kernel
theorem dX7_isRule_12 : decode cX7_isRule 12 = .ok (.iconst 1, 1) := by decide +kernel
theorem dX7_isRule_13 : decode cX7_isRule 13 = .ok (.goto 4, 3) := by decide +kernel
theorem dX7_isRule_16 : decode cX7_isRule 16 = .ok (.iconst 0, 1) := by decide +kernel
theorem dX7_isRule_17 : decode cX7_isRule 17 = .ok (.ireturn, 1) := by decide +kernel
theorem dX7_isFact_0 : decode cX7_isFact 0 = .ok (.iload_n 0, 1) := by decide +kernel
theorem dX7_isFact_1 : decode cX7_isFact 1 = .ok (.ifCond .lt 13, 3) := by decide +kernel
theorem dX7_isFact_4 : decode cX7_isFact 4 = .ok (.iload_n 0, 1) := by decide +kernel
theorem dX7_isFact_5 : decode cX7_isFact 5 = .ok (.bipush 6, 2) := by decide +kernel
theorem dX7_isFact_7 : decode cX7_isFact 7 = .ok (.if_icmp .ge 7, 3) := by decide +kernel
theorem dX7_isFact_10 : decode cX7_isFact 10 = .ok (.iconst 1, 1) := by decide +kernel
theorem dX7_isFact_11 : decode cX7_isFact 11 = .ok (.goto 4, 3) := by decide +kernel
theorem dX7_isFact_14 : decode cX7_isFact 14 = .ok (.iconst 0, 1) := by decide +kernel
theorem dX7_isFact_15 : decode cX7_isFact 15 = .ok (.ireturn, 1) := by decide +kernel
theorem dX7_isSet_0 : decode cX7_isSet 0 = .ok (.iload_n 0, 1) := by decide +kernel
theorem dX7_isSet_1 : decode cX7_isSet 1 = .ok (.ifCond .lt 13, 3) := by decide +kernel
theorem dX7_isSet_4 : decode cX7_isSet 4 = .ok (.iload_n 0, 1) := by decide +kernel
theorem dX7_isSet_5 : decode cX7_isSet 5 = .ok (.bipush 64, 2) := by decide +kernel
theorem dX7_isSet_7 : decode cX7_isSet 7 = .ok (.if_icmp .ge 7, 3) := by decide +kernel
theorem dX7_isSet_10 : decode cX7_isSet 10 = .ok (.iconst 1, 1) := by decide +kernel
theorem dX7_isSet_11 : decode cX7_isSet 11 = .ok (.goto 4, 3) := by decide +kernel
theorem dX7_isSet_14 : decode cX7_isSet 14 = .ok (.iconst 0, 1) := by decide +kernel
theorem dX7_isSet_15 : decode cX7_isSet 15 = .ok (.ireturn, 1) := by decide +kernel
theorem dX7_has_0 : decode cX7_has 0 = .ok (.iload_n 0, 1) := by decide +kernel
theorem dX7_has_1 : decode cX7_has 1 = .ok (.iload_n 1, 1) := by decide +kernel
theorem dX7_has_2 : decode cX7_has 2 = .ok (.ishr, 1) := by decide +kernel
theorem dX7_has_3 : decode cX7_has 3 = .ok (.iconst 1, 1) := by decide +kernel
theorem dX7_has_4 : decode cX7_has 4 = .ok (.iand, 1) := by decide +kernel
theorem dX7_has_5 : decode cX7_has 5 = .ok (.iconst 1, 1) := by decide +kernel
theorem dX7_has_6 : decode cX7_has 6 = .ok (.if_icmp .ne 7, 3) := by decide +kernel
theorem dX7_has_9 : decode cX7_has 9 = .ok (.iconst 1, 1) := by decide +kernel
theorem dX7_has_10 : decode cX7_has 10 = .ok (.goto 4, 3) := by decide +kernel
theorem dX7_has_13 : decode cX7_has 13 = .ok (.iconst 0, 1) := by decide +kernel
theorem dX7_has_14 : decode cX7_has 14 = .ok (.ireturn, 1) := by decide +kernel
theorem dX7_literal_0 : decode cX7_literal 0 = .ok (.iconst 2, 1) := by decide +kernel
theorem dX7_literal_1 : decode cX7_literal 1 = .ok (.iload_n 0, 1) := by decide +kernel
theorem dX7_literal_2 : decode cX7_literal 2 = .ok (.imul, 1) := by decide +kernel
theorem dX7_literal_3 : decode cX7_literal 3 = .ok (.iload_n 1, 1) := by decide +kernel
theorem dX7_literal_4 : decode cX7_literal 4 = .ok (.ifCond .eq 7, 3) := by decide +kernel
theorem dX7_literal_7 : decode cX7_literal 7 = .ok (.iconst 1, 1) := by decide +kernel
theorem dX7_literal_8 : decode cX7_literal 8 = .ok (.goto 4, 3) := by decide +kernel
theorem dX7_literal_11 : decode cX7_literal 11 = .ok (.iconst 0, 1) := by decide +kernel
theorem dX7_literal_12 : decode cX7_literal 12 = .ok (.iadd, 1) := by decide +kernel
theorem dX7_literal_13 : decode cX7_literal 13 = .ok (.ireturn, 1) := by decide +kernel
set_option maxRecDepth 20000 in
theorem ggX7_addRule_X7_isFact : GoodIn wsX7_addRule wsX7_isFact := goodIn_r _ [13] (by decide +kernel) (by decide +kernel)
set_option maxRecDepth 20000 in
theorem gX7_addRule_X7_isFact : GoodIn wsX7_addRule (va_wsS RX7 52 yX7_isFact wsX7_isFact) := goodIn_app (goodIn_of _ (by decide +kernel)) ggX7_addRule_X7_isFact
set_option maxRecDepth 20000 in
theorem ggX7_addRule_X7_fail : GoodIn wsX7_addRule wsX7_fail := goodIn_r _ [17, 1, 24, 25, 26, 27, 28, 29, 30, 31, 32, 33, 34, 35, 36, 37, 38, 39, 40, 41] (by decide +kernel) (by decide +kernel)
set_option maxRecDepth 20000 in
theorem gX7_addRule_X7_fail : GoodIn wsX7_addRule (wsV RX7 56 RX7 yX7_fail wsX7_fail) := goodIn_app (goodIn_of _ (by decide +kernel)) ggX7_addRule_X7_fail
set_option maxRecDepth 20000 in
theorem ggX7_addRule_X7_isSet : GoodIn wsX7_addRule wsX7_isSet := goodIn_r _ [20] (by decide +kernel) (by decide +kernel)
set_option maxRecDepth 20000 in
theorem gX7_addRule_X7_isSet : GoodIn wsX7_addRule (va_wsS RX7 60 yX7_isSet wsX7_isSet) := goodIn_app (goodIn_of _ (by decide +kernel)) ggX7_addRule_X7_isSet
set_option maxRecDepth 20000 in
theorem ggX7_addRule_X7_literal : GoodIn wsX7_addRule wsX7_literal := goodIn_r _ [23] (by decide +kernel) (by decide +kernel)
set_option maxRecDepth 20000 in
theorem gX7_addRule_X7_literal : GoodIn wsX7_addRule (va_wsS RX7 63 yX7_literal wsX7_literal) := goodIn_app (goodIn_of _ (by decide +kernel)) ggX7_addRule_X7_literal
theorem dX7_addRule_0 : decode cX7_addRule 0 = .ok (.aload_n 0, 1) := by decide +kernel
theorem dX7_addRule_1 : decode cX7_addRule 1 = .ok (.iconst 0, 1) := by decide +kernel
theorem dX7_addRule_2 : decode cX7_addRule 2 = .ok (.putfield 45, 3) := by decide +kernel
theorem dX7_addRule_5 : decode cX7_addRule 5 = .ok (.iload_n 1, 1) := by decide +kernel
theorem dX7_addRule_6 : decode cX7_addRule 6 = .ok (.invokestatic 52, 3) := by decide +kernel
theorem dX7_addRule_9 : decode cX7_addRule 9 = .ok (.ifCond .ne 9, 3) := by decide +kernel
theorem dX7_addRule_12 : decode cX7_addRule 12 = .ok (.aload_n 0, 1) := by decide +kernel
theorem dX7_addRule_13 : decode cX7_addRule 13 = .ok (.iconst 1, 1) := by decide +kernel
theorem dX7_addRule_14 : decode cX7_addRule 14 = .ok (.invokevirtual 56, 3) := by decide +kernel
theorem dX7_addRule_17 : decode cX7_addRule 17 = .ok (.ireturn, 1) := by decide +kernel
theorem dX7_addRule_18 : decode cX7_addRule 18 = .ok (.iload_n 3, 1) := by decide +kernel
theorem dX7_addRule_19 : decode cX7_addRule 19 = .ok (.invokestatic 60, 3) := by decide +kernel
theorem dX7_addRule_22 : decode cX7_addRule 22 = .ok (.ifCond .eq 11, 3) := by decide +kernel
theorem dX7_addRule_25 : decode cX7_addRule 25 = .ok (.iload 4, 2) := by decide +kernel
theorem dX7_addRule_27 : decode cX7_addRule 27 = .ok (.invokestatic 60, 3) := by decide +kernel
theorem dX7_addRule_30 : decode cX7_addRule 30 = .ok (.ifCond .ne 9, 3) := by decide +kernel
theorem dX7_addRule_33 : decode cX7_addRule 33 = .ok (.aload_n 0, 1) := by decide +kernel
theorem dX7_addRule_34 : decode cX7_addRule 34 = .ok (.iconst 2, 1) := by decide +kernel
theorem dX7_addRule_35 : decode cX7_addRule 35 = .ok (.invokevirtual 56, 3) := by decide +kernel
theorem dX7_addRule_38 : decode cX7_addRule 38 = .ok (.ireturn, 1) := by decide +kernel
theorem dX7_addRule_39 : decode cX7_addRule 39 = .ok (.aload_n 0, 1) := by decide +kernel
theorem dX7_addRule_40 : decode cX7_addRule 40 = .ok (.getfield 49, 3) := by decide +kernel
theorem dX7_addRule_43 : decode cX7_addRule 43 = .ok (.bipush 8, 2) := by decide +kernel
theorem dX7_addRule_45 : decode cX7_addRule 45 = .ok (.if_icmp .ne 9, 3) := by decide +kernel
theorem dX7_addRule_48 : decode cX7_addRule 48 = .ok (.aload_n 0, 1) := by decide +kernel
theorem dX7_addRule_49 : decode cX7_addRule 49 = .ok (.iconst 3, 1) := by decide +kernel
theorem dX7_addRule_50 : decode cX7_addRule 50 = .ok (.invokevirtual 56, 3) := by decide +kernel
theorem dX7_addRule_53 : decode cX7_addRule 53 = .ok (.ireturn, 1) := by decide +kernel
theorem dX7_addRule_54 : decode cX7_addRule 54 = .ok (.aload_n 0, 1) := by decide +kernel
theorem dX7_addRule_55 : decode cX7_addRule 55 = .ok (.getfield 9, 3) := by decide +kernel
theorem dX7_addRule_58 : decode cX7_addRule 58 = .ok (.aload_n 0, 1) := by decide +kernel
theorem dX7_addRule_59 : decode cX7_addRule 59 = .ok (.getfield 49, 3) := by decide +kernel
theorem dX7_addRule_62 : decode cX7_addRule 62 = .ok (.iload_n 1, 1) := by decide +kernel
theorem dX7_addRule_63 : decode cX7_addRule 63 = .ok (.iload_n 2, 1) := by decide +kernel
theorem dX7_addRule_64 : decode cX7_addRule 64 = .ok (.invokestatic 63, 3) := by decide +kernel
theorem dX7_addRule_67 : decode cX7_addRule 67 = .ok (.iastore, 1) := by decide +kernel
theorem dX7_addRule_68 : decode cX7_addRule 68 = .ok (.aload_n 0, 1) := by decide +kernel
theorem dX7_addRule_69 : decode cX7_addRule 69 = .ok (.getfield 13, 3) := by decide +kernel
theorem dX7_addRule_72 : decode cX7_addRule 72 = .ok (.aload_n 0, 1) := by decide +kernel
theorem dX7_addRule_73 : decode cX7_addRule 73 = .ok (.getfield 49, 3) := by decide +kernel
theorem dX7_addRule_76 : decode cX7_addRule 76 = .ok (.iload_n 3, 1) := by decide +kernel
theorem dX7_addRule_77 : decode cX7_addRule 77 = .ok (.iastore, 1) := by decide +kernel
theorem dX7_addRule_78 : decode cX7_addRule 78 = .ok (.aload_n 0, 1) := by decide +kernel
theorem dX7_addRule_79 : decode cX7_addRule 79 = .ok (.getfield 16, 3) := by decide +kernel
theorem dX7_addRule_82 : decode cX7_addRule 82 = .ok (.aload_n 0, 1) := by decide +kernel
theorem dX7_addRule_83 : decode cX7_addRule 83 = .ok (.getfield 49, 3) := by decide +kernel
theorem dX7_addRule_86 : decode cX7_addRule 86 = .ok (.iload 4, 2) := by decide +kernel
theorem dX7_addRule_88 : decode cX7_addRule 88 = .ok (.iastore, 1) := by decide +kernel
theorem dX7_addRule_89 : decode cX7_addRule 89 = .ok (.aload_n 0, 1) := by decide +kernel
theorem dX7_addRule_90 : decode cX7_addRule 90 = .ok (.getfield 19, 3) := by decide +kernel
theorem dX7_addRule_93 : decode cX7_addRule 93 = .ok (.aload_n 0, 1) := by decide +kernel
theorem dX7_addRule_94 : decode cX7_addRule 94 = .ok (.getfield 49, 3) := by decide +kernel
theorem dX7_addRule_97 : decode cX7_addRule 97 = .ok (.iconst 0, 1) := by decide +kernel
theorem dX7_addRule_98 : decode cX7_addRule 98 = .ok (.iastore, 1) := by decide +kernel
theorem dX7_addRule_99 : decode cX7_addRule 99 = .ok (.aload_n 0, 1) := by decide +kernel
theorem dX7_addRule_100 : decode cX7_addRule 100 = .ok (.getfield 25, 3) := by decide +kernel
theorem dX7_addRule_103 : decode cX7_addRule 103 = .ok (.aload_n 0, 1) := by decide +kernel
theorem dX7_addRule_104 : decode cX7_addRule 104 = .ok (.getfield 49, 3) := by decide +kernel
theorem dX7_addRule_107 : decode cX7_addRule 107 = .ok (.iconst 1, 1) := by decide +kernel
theorem dX7_addRule_108 : decode cX7_addRule 108 = .ok (.bastore, 1) := by decide +kernel
theorem dX7_addRule_109 : decode cX7_addRule 109 = .ok (.aload_n 0, 1) := by decide +kernel
theorem dX7_addRule_110 : decode cX7_addRule 110 = .ok (.getfield 29, 3) := by decide +kernel
theorem dX7_addRule_113 : decode cX7_addRule 113 = .ok (.aload_n 0, 1) := by decide +kernel
theorem dX7_addRule_114 : decode cX7_addRule 114 = .ok (.getfield 49, 3) := by decide +kernel
theorem dX7_addRule_117 : decode cX7_addRule 117 = .ok (.iconst 0, 1) := by decide +kernel
theorem dX7_addRule_118 : decode cX7_addRule 118 = .ok (.iastore, 1) := by decide +kernel
theorem dX7_addRule_119 : decode cX7_addRule 119 = .ok (.aload_n 0, 1) := by decide +kernel
theorem dX7_addRule_120 : decode cX7_addRule 120 = .ok (.dup, 1) := by decide +kernel
theorem dX7_addRule_121 : decode cX7_addRule 121 = .ok (.getfield 49, 3) := by decide +kernel
theorem dX7_addRule_124 : decode cX7_addRule 124 = .ok (.iconst 1, 1) := by decide +kernel
theorem dX7_addRule_125 : decode cX7_addRule 125 = .ok (.iadd, 1) := by decide +kernel
theorem dX7_addRule_126 : decode cX7_addRule 126 = .ok (.putfield 49, 3) := by decide +kernel
theorem dX7_addRule_129 : decode cX7_addRule 129 = .ok (.aload_n 0, 1) := by decide +kernel
theorem dX7_addRule_130 : decode cX7_addRule 130 = .ok (.iconst 0, 1) := by decide +kernel
theorem dX7_addRule_131 : decode cX7_addRule 131 = .ok (.putfield 67, 3) := by decide +kernel
theorem dX7_addRule_134 : decode cX7_addRule 134 = .ok (.aload_n 0, 1) := by decide +kernel
theorem dX7_addRule_135 : decode cX7_addRule 135 = .ok (.getfield 49, 3) := by decide +kernel
theorem dX7_addRule_138 : decode cX7_addRule 138 = .ok (.iconst 1, 1) := by decide +kernel
theorem dX7_addRule_139 : decode cX7_addRule 139 = .ok (.isub, 1) := by decide +kernel
theorem dX7_addRule_140 : decode cX7_addRule 140 = .ok (.ireturn, 1) := by decide +kernel
set_option maxRecDepth 20000 in
theorem ggX7_addAction_X7_isRule : GoodIn wsX7_addAction wsX7_isRule := goodIn_r _ [9, 10, 21, 22, 23, 24, 25, 26, 27, 28, 29, 30, 31, 32, 33, 34, 35, 36, 37, 38] (by decide +kernel) (by decide +kernel)
set_option maxRecDepth 20000 in
theorem gX7_addAction_X7_isRule : GoodIn wsX7_addAction (wsV RX7 71 RX7 yX7_isRule wsX7_isRule) := goodIn_app (goodIn_of _ (by decide +kernel)) ggX7_addAction_X7_isRule
set_option maxRecDepth 20000 in
theorem ggX7_addAction_X7_isFact : GoodIn wsX7_addAction wsX7_isFact := goodIn_r _ [13] (by decide +kernel) (by decide +kernel)
set_option maxRecDepth 20000 in
theorem gX7_addAction_X7_isFact : GoodIn wsX7_addAction (va_wsS RX7 52 yX7_isFact wsX7_isFact) := goodIn_app (goodIn_of _ (by decide +kernel)) ggX7_addAction_X7_isFact
set_option maxRecDepth 20000 in
theorem ggX7_addAction_X7_fail : GoodIn wsX7_addAction wsX7_fail := goodIn_r _ [17, 1, 21, 22, 23, 24, 25, 26, 27, 28, 29, 30, 31, 32, 33, 34, 35, 36, 37, 38] (by decide +kernel) (by decide +kernel)
set_option maxRecDepth 20000 in
theorem gX7_addAction_X7_fail : GoodIn wsX7_addAction (wsV RX7 56 RX7 yX7_fail wsX7_fail) := goodIn_app (goodIn_of _ (by decide +kernel)) ggX7_addAction_X7_fail
set_option maxRecDepth 20000 in
theorem ggX7_addAction_X7_literal : GoodIn wsX7_addAction wsX7_literal := goodIn_r _ [20] (by decide +kernel) (by decide +kernel)
set_option maxRecDepth 20000 in
theorem gX7_addAction_X7_literal : GoodIn wsX7_addAction (va_wsS RX7 63 yX7_literal wsX7_literal) := goodIn_app (goodIn_of _ (by decide +kernel)) ggX7_addAction_X7_literal
theorem dX7_addAction_0 : decode cX7_addAction 0 = .ok (.aload_n 0, 1) := by decide +kernel
theorem dX7_addAction_1 : decode cX7_addAction 1 = .ok (.iconst 0, 1) := by decide +kernel
theorem dX7_addAction_2 : decode cX7_addAction 2 = .ok (.putfield 45, 3) := by decide +kernel
theorem dX7_addAction_5 : decode cX7_addAction 5 = .ok (.aload_n 0, 1) := by decide +kernel
theorem dX7_addAction_6 : decode cX7_addAction 6 = .ok (.iload_n 1, 1) := by decide +kernel
theorem dX7_addAction_7 : decode cX7_addAction 7 = .ok (.invokevirtual 71, 3) := by decide +kernel
theorem dX7_addAction_10 : decode cX7_addAction 10 = .ok (.ifCond .eq 10, 3) := by decide +kernel
theorem dX7_addAction_13 : decode cX7_addAction 13 = .ok (.iload_n 2, 1) := by decide +kernel
theorem dX7_addAction_14 : decode cX7_addAction 14 = .ok (.invokestatic 52, 3) := by decide +kernel
theorem dX7_addAction_17 : decode cX7_addAction 17 = .ok (.ifCond .ne 9, 3) := by decide +kernel
theorem dX7_addAction_20 : decode cX7_addAction 20 = .ok (.aload_n 0, 1) := by decide +kernel
theorem dX7_addAction_21 : decode cX7_addAction 21 = .ok (.iconst 1, 1) := by decide +kernel
theorem dX7_addAction_22 : decode cX7_addAction 22 = .ok (.invokevirtual 56, 3) := by decide +kernel
theorem dX7_addAction_25 : decode cX7_addAction 25 = .ok (.ireturn, 1) := by decide +kernel
theorem dX7_addAction_26 : decode cX7_addAction 26 = .ok (.aload_n 0, 1) := by decide +kernel
theorem dX7_addAction_27 : decode cX7_addAction 27 = .ok (.getfield 19, 3) := by decide +kernel
theorem dX7_addAction_30 : decode cX7_addAction 30 = .ok (.iload_n 1, 1) := by decide +kernel
theorem dX7_addAction_31 : decode cX7_addAction 31 = .ok (.iaload, 1) := by decide +kernel
theorem dX7_addAction_32 : decode cX7_addAction 32 = .ok (.iconst 4, 1) := by decide +kernel
theorem dX7_addAction_33 : decode cX7_addAction 33 = .ok (.if_icmp .ne 9, 3) := by decide +kernel
theorem dX7_addAction_36 : decode cX7_addAction 36 = .ok (.aload_n 0, 1) := by decide +kernel
theorem dX7_addAction_37 : decode cX7_addAction 37 = .ok (.iconst 2, 1) := by decide +kernel
theorem dX7_addAction_38 : decode cX7_addAction 38 = .ok (.invokevirtual 56, 3) := by decide +kernel
theorem dX7_addAction_41 : decode cX7_addAction 41 = .ok (.ireturn, 1) := by decide +kernel
theorem dX7_addAction_42 : decode cX7_addAction 42 = .ok (.aload_n 0, 1) := by decide +kernel
theorem dX7_addAction_43 : decode cX7_addAction 43 = .ok (.getfield 22, 3) := by decide +kernel
theorem dX7_addAction_46 : decode cX7_addAction 46 = .ok (.iconst 4, 1) := by decide +kernel
theorem dX7_addAction_47 : decode cX7_addAction 47 = .ok (.iload_n 1, 1) := by decide +kernel
theorem dX7_addAction_48 : decode cX7_addAction 48 = .ok (.imul, 1) := by decide +kernel
theorem dX7_addAction_49 : decode cX7_addAction 49 = .ok (.aload_n 0, 1) := by decide +kernel
theorem dX7_addAction_50 : decode cX7_addAction 50 = .ok (.getfield 19, 3) := by decide +kernel
theorem dX7_addAction_53 : decode cX7_addAction 53 = .ok (.iload_n 1, 1) := by decide +kernel
theorem dX7_addAction_54 : decode cX7_addAction 54 = .ok (.iaload, 1) := by decide +kernel
theorem dX7_addAction_55 : decode cX7_addAction 55 = .ok (.iadd, 1) := by decide +kernel
theorem dX7_addAction_56 : decode cX7_addAction 56 = .ok (.iload_n 2, 1) := by decide +kernel
theorem dX7_addAction_57 : decode cX7_addAction 57 = .ok (.iload_n 3, 1) := by decide +kernel
theorem dX7_addAction_58 : decode cX7_addAction 58 = .ok (.invokestatic 63, 3) := by decide +kernel
theorem dX7_addAction_61 : decode cX7_addAction 61 = .ok (.iastore, 1) := by decide +kernel
theorem dX7_addAction_62 : decode cX7_addAction 62 = .ok (.aload_n 0, 1) := by decide +kernel
theorem dX7_addAction_63 : decode cX7_addAction 63 = .ok (.getfield 19, 3) := by decide +kernel
theorem dX7_addAction_66 : decode cX7_addAction 66 = .ok (.iload_n 1, 1) := by decide +kernel
theorem dX7_addAction_67 : decode cX7_addAction 67 = .ok (.dup2, 1) := by decide +kernel
theorem dX7_addAction_68 : decode cX7_addAction 68 = .ok (.iaload, 1) := by decide +kernel
theorem dX7_addAction_69 : decode cX7_addAction 69 = .ok (.iconst 1, 1) := by decide +kernel
theorem dX7_addAction_70 : decode cX7_addAction 70 = .ok (.iadd, 1) := by decide +kernel
theorem dX7_addAction_71 : decode cX7_addAction 71 = .ok (.iastore, 1) := by decide +kernel
theorem dX7_addAction_72 : decode cX7_addAction 72 = .ok (.aload_n 0, 1) := by decide +kernel
theorem dX7_addAction_73 : decode cX7_addAction 73 = .ok (.iconst 0, 1) := by decide +kernel
theorem dX7_addAction_74 : decode cX7_addAction 74 = .ok (.putfield 67, 3) := by decide +kernel
theorem dX7_addAction_77 : decode cX7_addAction 77 = .ok (.aload_n 0, 1) := by decide +kernel
theorem dX7_addAction_78 : decode cX7_addAction 78 = .ok (.getfield 19, 3) := by decide +kernel
theorem dX7_addAction_81 : decode cX7_addAction 81 = .ok (.iload_n 1, 1) := by decide +kernel
theorem dX7_addAction_82 : decode cX7_addAction 82 = .ok (.iaload, 1) := by decide +kernel
theorem dX7_addAction_83 : decode cX7_addAction 83 = .ok (.ireturn, 1) := by decide +kernel
set_option maxRecDepth 20000 in
theorem ggX7_turn_X7_isRule : GoodIn wsX7_turn wsX7_isRule := goodIn_r _ [9, 10, 11, 12, 13, 14, 15, 16, 17, 18, 19, 20, 21, 22, 23, 24, 25, 26, 27, 28] (by decide +kernel) (by decide +kernel)
set_option maxRecDepth 20000 in
theorem gX7_turn_X7_isRule : GoodIn wsX7_turn (wsV RX7 71 RX7 yX7_isRule wsX7_isRule) := goodIn_app (goodIn_of _ (by decide +kernel)) ggX7_turn_X7_isRule
theorem dX7_turn_0 : decode cX7_turn 0 = .ok (.aload_n 0, 1) := by decide +kernel
theorem dX7_turn_1 : decode cX7_turn 1 = .ok (.aload_n 0, 1) := by decide +kernel
theorem dX7_turn_2 : decode cX7_turn 2 = .ok (.iload_n 1, 1) := by decide +kernel
theorem dX7_turn_3 : decode cX7_turn 3 = .ok (.invokevirtual 71, 3) := by decide +kernel
theorem dX7_turn_6 : decode cX7_turn 6 = .ok (.ifCond .eq 7, 3) := by decide +kernel
theorem dX7_turn_9 : decode cX7_turn 9 = .ok (.iconst 0, 1) := by decide +kernel
theorem dX7_turn_10 : decode cX7_turn 10 = .ok (.goto 4, 3) := by decide +kernel
theorem dX7_turn_13 : decode cX7_turn 13 = .ok (.iconst 1, 1) := by decide +kernel
theorem dX7_turn_14 : decode cX7_turn 14 = .ok (.putfield 45, 3) := by decide +kernel
theorem dX7_turn_17 : decode cX7_turn 17 = .ok (.aload_n 0, 1) := by decide +kernel
theorem dX7_turn_18 : decode cX7_turn 18 = .ok (.getfield 45, 3) := by decide +kernel
theorem dX7_turn_21 : decode cX7_turn 21 = .ok (.ifCond .eq 5, 3) := by decide +kernel
theorem dX7_turn_24 : decode cX7_turn 24 = .ok (.iconst 0, 1) := by decide +kernel
theorem dX7_turn_25 : decode cX7_turn 25 = .ok (.ireturn, 1) := by decide +kernel
theorem dX7_turn_26 : decode cX7_turn 26 = .ok (.aload_n 0, 1) := by decide +kernel
theorem dX7_turn_27 : decode cX7_turn 27 = .ok (.getfield 25, 3) := by decide +kernel
theorem dX7_turn_30 : decode cX7_turn 30 = .ok (.iload_n 1, 1) := by decide +kernel
theorem dX7_turn_31 : decode cX7_turn 31 = .ok (.baload, 1) := by decide +kernel
theorem dX7_turn_32 : decode cX7_turn 32 = .ok (.istore_n 3, 1) := by decide +kernel
theorem dX7_turn_33 : decode cX7_turn 33 = .ok (.aload_n 0, 1) := by decide +kernel
theorem dX7_turn_34 : decode cX7_turn 34 = .ok (.getfield 25, 3) := by decide +kernel
theorem dX7_turn_37 : decode cX7_turn 37 = .ok (.iload_n 1, 1) := by decide +kernel
theorem dX7_turn_38 : decode cX7_turn 38 = .ok (.iload_n 2, 1) := by decide +kernel
theorem dX7_turn_39 : decode cX7_turn 39 = .ok (.bastore, 1) := by decide +kernel
theorem dX7_turn_40 : decode cX7_turn 40 = .ok (.iload_n 2, 1) := by decide +kernel
theorem dX7_turn_41 : decode cX7_turn 41 = .ok (.ifCond .ne 17, 3) := by decide +kernel
theorem dX7_turn_44 : decode cX7_turn 44 = .ok (.aload_n 0, 1) := by decide +kernel
theorem dX7_turn_45 : decode cX7_turn 45 = .ok (.dup, 1) := by decide +kernel
theorem dX7_turn_46 : decode cX7_turn 46 = .ok (.getfield 74, 3) := by decide +kernel
theorem dX7_turn_49 : decode cX7_turn 49 = .ok (.iconst 1, 1) := by decide +kernel
theorem dX7_turn_50 : decode cX7_turn 50 = .ok (.iload_n 1, 1) := by decide +kernel
theorem dX7_turn_51 : decode cX7_turn 51 = .ok (.ishl, 1) := by decide +kernel
theorem dX7_turn_52 : decode cX7_turn 52 = .ok (.iconst (-1), 1) := by decide +kernel
theorem dX7_turn_53 : decode cX7_turn 53 = .ok (.ixor, 1) := by decide +kernel
theorem dX7_turn_54 : decode cX7_turn 54 = .ok (.iand, 1) := by decide +kernel
theorem dX7_turn_55 : decode cX7_turn 55 = .ok (.putfield 74, 3) := by decide +kernel
theorem dX7_turn_58 : decode cX7_turn 58 = .ok (.aload_n 0, 1) := by decide +kernel
theorem dX7_turn_59 : decode cX7_turn 59 = .ok (.iconst 0, 1) := by decide +kernel
theorem dX7_turn_60 : decode cX7_turn 60 = .ok (.putfield 67, 3) := by decide +kernel
theorem dX7_turn_63 : decode cX7_turn 63 = .ok (.iload_n 3, 1) := by decide +kernel
theorem dX7_turn_64 : decode cX7_turn 64 = .ok (.ireturn, 1) := by decide +kernel
set_option maxRecDepth 20000 in
theorem ggX7_rank_X7_isRule : GoodIn wsX7_rank wsX7_isRule := goodIn_r _ [9, 3, 13, 14, 15, 16, 17, 18, 19, 20, 21, 22, 23, 24, 25, 26, 27, 28, 29, 30] (by decide +kernel) (by decide +kernel)
set_option maxRecDepth 20000 in
theorem gX7_rank_X7_isRule : GoodIn wsX7_rank (wsV RX7 71 RX7 yX7_isRule wsX7_isRule) := goodIn_app (goodIn_of _ (by decide +kernel)) ggX7_rank_X7_isRule
set_option maxRecDepth 20000 in
theorem ggX7_rank_X7_has : GoodIn wsX7_rank wsX7_has := goodIn_r _ [12] (by decide +kernel) (by decide +kernel)
set_option maxRecDepth 20000 in
theorem gX7_rank_X7_has : GoodIn wsX7_rank (va_wsS RX7 77 yX7_has wsX7_has) := goodIn_app (goodIn_of _ (by decide +kernel)) ggX7_rank_X7_has
theorem dX7_rank_0 : decode cX7_rank 0 = .ok (.aload_n 0, 1) := by decide +kernel
theorem dX7_rank_1 : decode cX7_rank 1 = .ok (.aload_n 0, 1) := by decide +kernel
theorem dX7_rank_2 : decode cX7_rank 2 = .ok (.iload_n 1, 1) := by decide +kernel
theorem dX7_rank_3 : decode cX7_rank 3 = .ok (.invokevirtual 71, 3) := by decide +kernel
theorem dX7_rank_6 : decode cX7_rank 6 = .ok (.ifCond .eq 11, 3) := by decide +kernel
theorem dX7_rank_9 : decode cX7_rank 9 = .ok (.aload_n 0, 1) := by decide +kernel
theorem dX7_rank_10 : decode cX7_rank 10 = .ok (.iload_n 2, 1) := by decide +kernel
theorem dX7_rank_11 : decode cX7_rank 11 = .ok (.invokevirtual 71, 3) := by decide +kernel
theorem dX7_rank_14 : decode cX7_rank 14 = .ok (.ifCond .ne 7, 3) := by decide +kernel
theorem dX7_rank_17 : decode cX7_rank 17 = .ok (.iconst 1, 1) := by decide +kernel
theorem dX7_rank_18 : decode cX7_rank 18 = .ok (.goto 26, 3) := by decide +kernel
theorem dX7_rank_21 : decode cX7_rank 21 = .ok (.iload_n 1, 1) := by decide +kernel
theorem dX7_rank_22 : decode cX7_rank 22 = .ok (.iload_n 2, 1) := by decide +kernel
theorem dX7_rank_23 : decode cX7_rank 23 = .ok (.if_icmp .eq 16, 3) := by decide +kernel
theorem dX7_rank_26 : decode cX7_rank 26 = .ok (.aload_n 0, 1) := by decide +kernel
theorem dX7_rank_27 : decode cX7_rank 27 = .ok (.getfield 29, 3) := by decide +kernel
theorem dX7_rank_30 : decode cX7_rank 30 = .ok (.iload_n 2, 1) := by decide +kernel
theorem dX7_rank_31 : decode cX7_rank 31 = .ok (.iaload, 1) := by decide +kernel
theorem dX7_rank_32 : decode cX7_rank 32 = .ok (.iload_n 1, 1) := by decide +kernel
theorem dX7_rank_33 : decode cX7_rank 33 = .ok (.invokestatic 77, 3) := by decide +kernel
theorem dX7_rank_36 : decode cX7_rank 36 = .ok (.ifCond .eq 7, 3) := by decide +kernel
theorem dX7_rank_39 : decode cX7_rank 39 = .ok (.iconst 2, 1) := by decide +kernel
theorem dX7_rank_40 : decode cX7_rank 40 = .ok (.goto 4, 3) := by decide +kernel
theorem dX7_rank_43 : decode cX7_rank 43 = .ok (.iconst 0, 1) := by decide +kernel
theorem dX7_rank_44 : decode cX7_rank 44 = .ok (.putfield 45, 3) := by decide +kernel
theorem dX7_rank_47 : decode cX7_rank 47 = .ok (.aload_n 0, 1) := by decide +kernel
theorem dX7_rank_48 : decode cX7_rank 48 = .ok (.getfield 45, 3) := by decide +kernel
theorem dX7_rank_51 : decode cX7_rank 51 = .ok (.ifCond .eq 5, 3) := by decide +kernel
theorem dX7_rank_54 : decode cX7_rank 54 = .ok (.iconst 0, 1) := by decide +kernel
theorem dX7_rank_55 : decode cX7_rank 55 = .ok (.ireturn, 1) := by decide +kernel
theorem dX7_rank_56 : decode cX7_rank 56 = .ok (.aload_n 0, 1) := by decide +kernel
theorem dX7_rank_57 : decode cX7_rank 57 = .ok (.getfield 29, 3) := by decide +kernel
theorem dX7_rank_60 : decode cX7_rank 60 = .ok (.iload_n 1, 1) := by decide +kernel
theorem dX7_rank_61 : decode cX7_rank 61 = .ok (.iaload, 1) := by decide +kernel
theorem dX7_rank_62 : decode cX7_rank 62 = .ok (.iload_n 2, 1) := by decide +kernel
theorem dX7_rank_63 : decode cX7_rank 63 = .ok (.invokestatic 77, 3) := by decide +kernel
theorem dX7_rank_66 : decode cX7_rank 66 = .ok (.ifCond .ne 7, 3) := by decide +kernel
theorem dX7_rank_69 : decode cX7_rank 69 = .ok (.iconst 1, 1) := by decide +kernel
theorem dX7_rank_70 : decode cX7_rank 70 = .ok (.goto 4, 3) := by decide +kernel
theorem dX7_rank_73 : decode cX7_rank 73 = .ok (.iconst 0, 1) := by decide +kernel
theorem dX7_rank_74 : decode cX7_rank 74 = .ok (.istore_n 3, 1) := by decide +kernel
theorem dX7_rank_75 : decode cX7_rank 75 = .ok (.aload_n 0, 1) := by decide +kernel
theorem dX7_rank_76 : decode cX7_rank 76 = .ok (.getfield 29, 3) := by decide +kernel
theorem dX7_rank_79 : decode cX7_rank 79 = .ok (.iload_n 2, 1) := by decide +kernel
theorem dX7_rank_80 : decode cX7_rank 80 = .ok (.iaload, 1) := by decide +kernel
theorem dX7_rank_81 : decode cX7_rank 81 = .ok (.iconst 1, 1) := by decide +kernel
theorem dX7_rank_82 : decode cX7_rank 82 = .ok (.iload_n 2, 1) := by decide +kernel
theorem dX7_rank_83 : decode cX7_rank 83 = .ok (.ishl, 1) := by decide +kernel
theorem dX7_rank_84 : decode cX7_rank 84 = .ok (.ior, 1) := by decide +kernel
theorem dX7_rank_85 : decode cX7_rank 85 = .ok (.istore 4, 2) := by decide +kernel
theorem dX7_rank_87 : decode cX7_rank 87 = .ok (.iconst 0, 1) := by decide +kernel
theorem dX7_rank_88 : decode cX7_rank 88 = .ok (.istore 5, 2) := by decide +kernel
theorem dX7_rank_90 : decode cX7_rank 90 = .ok (.iload 5, 2) := by decide +kernel
theorem dX7_rank_92 : decode cX7_rank 92 = .ok (.aload_n 0, 1) := by decide +kernel
theorem dX7_rank_93 : decode cX7_rank 93 = .ok (.getfield 49, 3) := by decide +kernel
theorem dX7_rank_96 : decode cX7_rank 96 = .ok (.if_icmp .ge 41, 3) := by decide +kernel
theorem dX7_rank_99 : decode cX7_rank 99 = .ok (.iload 5, 2) := by decide +kernel
theorem dX7_rank_101 : decode cX7_rank 101 = .ok (.iload_n 1, 1) := by decide +kernel
theorem dX7_rank_102 : decode cX7_rank 102 = .ok (.if_icmp .eq 17, 3) := by decide +kernel
theorem dX7_rank_105 : decode cX7_rank 105 = .ok (.aload_n 0, 1) := by decide +kernel
theorem dX7_rank_106 : decode cX7_rank 106 = .ok (.getfield 29, 3) := by decide +kernel
theorem dX7_rank_109 : decode cX7_rank 109 = .ok (.iload 5, 2) := by decide +kernel
theorem dX7_rank_111 : decode cX7_rank 111 = .ok (.iaload, 1) := by decide +kernel
theorem dX7_rank_112 : decode cX7_rank 112 = .ok (.iload_n 1, 1) := by decide +kernel
theorem dX7_rank_113 : decode cX7_rank 113 = .ok (.invokestatic 77, 3) := by decide +kernel
theorem dX7_rank_116 : decode cX7_rank 116 = .ok (.ifCond .eq 15, 3) := by decide +kernel
theorem dX7_rank_119 : decode cX7_rank 119 = .ok (.aload_n 0, 1) := by decide +kernel
theorem dX7_rank_120 : decode cX7_rank 120 = .ok (.getfield 29, 3) := by decide +kernel
theorem dX7_rank_123 : decode cX7_rank 123 = .ok (.iload 5, 2) := by decide +kernel
theorem dX7_rank_125 : decode cX7_rank 125 = .ok (.dup2, 1) := by decide +kernel
theorem dX7_rank_126 : decode cX7_rank 126 = .ok (.iaload, 1) := by decide +kernel
theorem dX7_rank_127 : decode cX7_rank 127 = .ok (.iload 4, 2) := by decide +kernel
theorem dX7_rank_129 : decode cX7_rank 129 = .ok (.ior, 1) := by decide +kernel
theorem dX7_rank_130 : decode cX7_rank 130 = .ok (.iastore, 1) := by decide +kernel
theorem dX7_rank_131 : decode cX7_rank 131 = .ok (.iinc 5 1, 3) := by decide +kernel
theorem dX7_rank_134 : decode cX7_rank 134 = .ok (.goto (-44), 3) := by decide +kernel
theorem dX7_rank_137 : decode cX7_rank 137 = .ok (.aload_n 0, 1) := by decide +kernel
theorem dX7_rank_138 : decode cX7_rank 138 = .ok (.iconst 0, 1) := by decide +kernel
theorem dX7_rank_139 : decode cX7_rank 139 = .ok (.putfield 67, 3) := by decide +kernel
theorem dX7_rank_142 : decode cX7_rank 142 = .ok (.iload_n 3, 1) := by decide +kernel
theorem dX7_rank_143 : decode cX7_rank 143 = .ok (.ireturn, 1) := by decide +kernel
set_option maxRecDepth 20000 in
theorem ggX7_isAbove_X7_isRule : GoodIn wsX7_isAbove wsX7_isRule := goodIn_r _ [7, 8, 12, 13, 14, 15, 16, 17, 18, 19, 20, 21, 22, 23, 24, 25, 26, 27, 28, 29] (by decide +kernel) (by decide +kernel)
set_option maxRecDepth 20000 in
theorem gX7_isAbove_X7_isRule : GoodIn wsX7_isAbove (wsV RX7 71 RX7 yX7_isRule wsX7_isRule) := goodIn_app (goodIn_of _ (by decide +kernel)) ggX7_isAbove_X7_isRule
set_option maxRecDepth 20000 in
theorem ggX7_isAbove_X7_has : GoodIn wsX7_isAbove wsX7_has := goodIn_r _ [11] (by decide +kernel) (by decide +kernel)
set_option maxRecDepth 20000 in
theorem gX7_isAbove_X7_has : GoodIn wsX7_isAbove (va_wsS RX7 77 yX7_has wsX7_has) := goodIn_app (goodIn_of _ (by decide +kernel)) ggX7_isAbove_X7_has
theorem dX7_isAbove_0 : decode cX7_isAbove 0 = .ok (.aload_n 0, 1) := by decide +kernel
theorem dX7_isAbove_1 : decode cX7_isAbove 1 = .ok (.aload_n 0, 1) := by decide +kernel
theorem dX7_isAbove_2 : decode cX7_isAbove 2 = .ok (.iload_n 1, 1) := by decide +kernel
theorem dX7_isAbove_3 : decode cX7_isAbove 3 = .ok (.invokevirtual 71, 3) := by decide +kernel
theorem dX7_isAbove_6 : decode cX7_isAbove 6 = .ok (.ifCond .eq 15, 3) := by decide +kernel
theorem dX7_isAbove_9 : decode cX7_isAbove 9 = .ok (.aload_n 0, 1) := by decide +kernel
theorem dX7_isAbove_10 : decode cX7_isAbove 10 = .ok (.iload_n 2, 1) := by decide +kernel
theorem dX7_isAbove_11 : decode cX7_isAbove 11 = .ok (.invokevirtual 71, 3) := by decide +kernel
theorem dX7_isAbove_14 : decode cX7_isAbove 14 = .ok (.ifCond .eq 7, 3) := by decide +kernel
theorem dX7_isAbove_17 : decode cX7_isAbove 17 = .ok (.iconst 0, 1) := by decide +kernel
theorem dX7_isAbove_18 : decode cX7_isAbove 18 = .ok (.goto 4, 3) := by decide +kernel
theorem dX7_isAbove_21 : decode cX7_isAbove 21 = .ok (.iconst 1, 1) := by decide +kernel
theorem dX7_isAbove_22 : decode cX7_isAbove 22 = .ok (.putfield 45, 3) := by decide +kernel
theorem dX7_isAbove_25 : decode cX7_isAbove 25 = .ok (.aload_n 0, 1) := by decide +kernel
theorem dX7_isAbove_26 : decode cX7_isAbove 26 = .ok (.getfield 45, 3) := by decide +kernel
theorem dX7_isAbove_29 : decode cX7_isAbove 29 = .ok (.ifCond .ne 20, 3) := by decide +kernel
theorem dX7_isAbove_32 : decode cX7_isAbove 32 = .ok (.aload_n 0, 1) := by decide +kernel
theorem dX7_isAbove_33 : decode cX7_isAbove 33 = .ok (.getfield 29, 3) := by decide +kernel
theorem dX7_isAbove_36 : decode cX7_isAbove 36 = .ok (.iload_n 1, 1) := by decide +kernel
theorem dX7_isAbove_37 : decode cX7_isAbove 37 = .ok (.iaload, 1) := by decide +kernel
theorem dX7_isAbove_38 : decode cX7_isAbove 38 = .ok (.iload_n 2, 1) := by decide +kernel
theorem dX7_isAbove_39 : decode cX7_isAbove 39 = .ok (.invokestatic 77, 3) := by decide +kernel
theorem dX7_isAbove_42 : decode cX7_isAbove 42 = .ok (.ifCond .eq 7, 3) := by decide +kernel
theorem dX7_isAbove_45 : decode cX7_isAbove 45 = .ok (.iconst 1, 1) := by decide +kernel
theorem dX7_isAbove_46 : decode cX7_isAbove 46 = .ok (.goto 4, 3) := by decide +kernel
theorem dX7_isAbove_49 : decode cX7_isAbove 49 = .ok (.iconst 0, 1) := by decide +kernel
theorem dX7_isAbove_50 : decode cX7_isAbove 50 = .ok (.ireturn, 1) := by decide +kernel
theorem dX7_ruleCount_0 : decode cX7_ruleCount 0 = .ok (.aload_n 0, 1) := by decide +kernel
theorem dX7_ruleCount_1 : decode cX7_ruleCount 1 = .ok (.iconst 0, 1) := by decide +kernel
theorem dX7_ruleCount_2 : decode cX7_ruleCount 2 = .ok (.putfield 45, 3) := by decide +kernel
theorem dX7_ruleCount_5 : decode cX7_ruleCount 5 = .ok (.aload_n 0, 1) := by decide +kernel
theorem dX7_ruleCount_6 : decode cX7_ruleCount 6 = .ok (.getfield 49, 3) := by decide +kernel
theorem dX7_ruleCount_9 : decode cX7_ruleCount 9 = .ok (.ireturn, 1) := by decide +kernel
theorem dX7_behind_0 : decode cX7_behind 0 = .ok (.sipush 256, 3) := by decide +kernel
theorem dX7_behind_3 : decode cX7_behind 3 = .ok (.iload_n 2, 1) := by decide +kernel
theorem dX7_behind_4 : decode cX7_behind 4 = .ok (.iconst 2, 1) := by decide +kernel
theorem dX7_behind_5 : decode cX7_behind 5 = .ok (.idiv, 1) := by decide +kernel
theorem dX7_behind_6 : decode cX7_behind 6 = .ok (.ishl, 1) := by decide +kernel
theorem dX7_behind_7 : decode cX7_behind 7 = .ok (.istore_n 3, 1) := by decide +kernel
theorem dX7_behind_8 : decode cX7_behind 8 = .ok (.iload_n 2, 1) := by decide +kernel
theorem dX7_behind_9 : decode cX7_behind 9 = .ok (.iconst 2, 1) := by decide +kernel
theorem dX7_behind_10 : decode cX7_behind 10 = .ok (.irem, 1) := by decide +kernel
theorem dX7_behind_11 : decode cX7_behind 11 = .ok (.iconst 1, 1) := by decide +kernel
theorem dX7_behind_12 : decode cX7_behind 12 = .ok (.if_icmp .ne 7, 3) := by decide +kernel
theorem dX7_behind_15 : decode cX7_behind 15 = .ok (.iconst 1, 1) := by decide +kernel
theorem dX7_behind_16 : decode cX7_behind 16 = .ok (.goto 4, 3) := by decide +kernel
theorem dX7_behind_19 : decode cX7_behind 19 = .ok (.iconst 0, 1) := by decide +kernel
theorem dX7_behind_20 : decode cX7_behind 20 = .ok (.istore 4, 2) := by decide +kernel
theorem dX7_behind_22 : decode cX7_behind 22 = .ok (.iload_n 1, 1) := by decide +kernel
theorem dX7_behind_23 : decode cX7_behind 23 = .ok (.iload_n 3, 1) := by decide +kernel
theorem dX7_behind_24 : decode cX7_behind 24 = .ok (.iand, 1) := by decide +kernel
theorem dX7_behind_25 : decode cX7_behind 25 = .ok (.ifCond .eq 7, 3) := by decide +kernel
theorem dX7_behind_28 : decode cX7_behind 28 = .ok (.iconst 1, 1) := by decide +kernel
theorem dX7_behind_29 : decode cX7_behind 29 = .ok (.goto 4, 3) := by decide +kernel
theorem dX7_behind_32 : decode cX7_behind 32 = .ok (.iconst 0, 1) := by decide +kernel
theorem dX7_behind_33 : decode cX7_behind 33 = .ok (.iload 4, 2) := by decide +kernel
theorem dX7_behind_35 : decode cX7_behind 35 = .ok (.if_icmp .ne 5, 3) := by decide +kernel
theorem dX7_behind_38 : decode cX7_behind 38 = .ok (.iload_n 1, 1) := by decide +kernel
theorem dX7_behind_39 : decode cX7_behind 39 = .ok (.ireturn, 1) := by decide +kernel
theorem dX7_behind_40 : decode cX7_behind 40 = .ok (.iload_n 1, 1) := by decide +kernel
theorem dX7_behind_41 : decode cX7_behind 41 = .ok (.iload_n 3, 1) := by decide +kernel
theorem dX7_behind_42 : decode cX7_behind 42 = .ok (.ixor, 1) := by decide +kernel
theorem dX7_behind_43 : decode cX7_behind 43 = .ok (.istore 5, 2) := by decide +kernel
theorem dX7_behind_45 : decode cX7_behind 45 = .ok (.iconst 0, 1) := by decide +kernel
theorem dX7_behind_46 : decode cX7_behind 46 = .ok (.istore 6, 2) := by decide +kernel
theorem dX7_behind_48 : decode cX7_behind 48 = .ok (.iload 6, 2) := by decide +kernel
theorem dX7_behind_50 : decode cX7_behind 50 = .ok (.aload_n 0, 1) := by decide +kernel
theorem dX7_behind_51 : decode cX7_behind 51 = .ok (.getfield 49, 3) := by decide +kernel
theorem dX7_behind_54 : decode cX7_behind 54 = .ok (.if_icmp .ge 39, 3) := by decide +kernel
theorem dX7_behind_57 : decode cX7_behind 57 = .ok (.aload_n 0, 1) := by decide +kernel
theorem dX7_behind_58 : decode cX7_behind 58 = .ok (.getfield 25, 3) := by decide +kernel
theorem dX7_behind_61 : decode cX7_behind 61 = .ok (.iload 6, 2) := by decide +kernel
theorem dX7_behind_63 : decode cX7_behind 63 = .ok (.baload, 1) := by decide +kernel
theorem dX7_behind_64 : decode cX7_behind 64 = .ok (.ifCond .eq 23, 3) := by decide +kernel
theorem dX7_behind_67 : decode cX7_behind 67 = .ok (.aload_n 0, 1) := by decide +kernel
theorem dX7_behind_68 : decode cX7_behind 68 = .ok (.getfield 9, 3) := by decide +kernel
theorem dX7_behind_71 : decode cX7_behind 71 = .ok (.iload 6, 2) := by decide +kernel
theorem dX7_behind_73 : decode cX7_behind 73 = .ok (.iaload, 1) := by decide +kernel
theorem dX7_behind_74 : decode cX7_behind 74 = .ok (.iload_n 2, 1) := by decide +kernel
theorem dX7_behind_75 : decode cX7_behind 75 = .ok (.if_icmp .ne 12, 3) := by decide +kernel
theorem dX7_behind_78 : decode cX7_behind 78 = .ok (.iload 5, 2) := by decide +kernel
theorem dX7_behind_80 : decode cX7_behind 80 = .ok (.iconst 1, 1) := by decide +kernel
theorem dX7_behind_81 : decode cX7_behind 81 = .ok (.iload 6, 2) := by decide +kernel
theorem dX7_behind_83 : decode cX7_behind 83 = .ok (.ishl, 1) := by decide +kernel
theorem dX7_behind_84 : decode cX7_behind 84 = .ok (.ior, 1) := by decide +kernel
theorem dX7_behind_85 : decode cX7_behind 85 = .ok (.istore 5, 2) := by decide +kernel
theorem dX7_behind_87 : decode cX7_behind 87 = .ok (.iinc 6 1, 3) := by decide +kernel
theorem dX7_behind_90 : decode cX7_behind 90 = .ok (.goto (-42), 3) := by decide +kernel
theorem dX7_behind_93 : decode cX7_behind 93 = .ok (.iload 5, 2) := by decide +kernel
theorem dX7_behind_95 : decode cX7_behind 95 = .ok (.ireturn, 1) := by decide +kernel
theorem dX7_triggeredIn_0 : decode cX7_triggeredIn 0 = .ok (.iload_n 0, 1) := by decide +kernel
theorem dX7_triggeredIn_1 : decode cX7_triggeredIn 1 = .ok (.sipush 255, 3) := by decide +kernel
theorem dX7_triggeredIn_4 : decode cX7_triggeredIn 4 = .ok (.iand, 1) := by decide +kernel
theorem dX7_triggeredIn_5 : decode cX7_triggeredIn 5 = .ok (.ireturn, 1) := by decide +kernel
set_option maxRecDepth 20000 in
theorem ggX7_readyIn_X7_triggeredIn : GoodIn wsX7_readyIn wsX7_triggeredIn := goodIn_r _ [6] (by decide +kernel) (by decide +kernel)
set_option maxRecDepth 20000 in
theorem gX7_readyIn_X7_triggeredIn : GoodIn wsX7_readyIn (va_wsS RX7 81 yX7_triggeredIn wsX7_triggeredIn) := goodIn_app (goodIn_of _ (by decide +kernel)) ggX7_readyIn_X7_triggeredIn
set_option maxRecDepth 20000 in
theorem ggX7_readyIn_X7_has : GoodIn wsX7_readyIn wsX7_has := goodIn_r _ [9] (by decide +kernel) (by decide +kernel)
set_option maxRecDepth 20000 in
theorem gX7_readyIn_X7_has : GoodIn wsX7_readyIn (va_wsS RX7 77 yX7_has wsX7_has) := goodIn_app (goodIn_of _ (by decide +kernel)) ggX7_readyIn_X7_has
theorem dX7_readyIn_0 : decode cX7_readyIn 0 = .ok (.iload_n 1, 1) := by decide +kernel
theorem dX7_readyIn_1 : decode cX7_readyIn 1 = .ok (.invokestatic 81, 3) := by decide +kernel
theorem dX7_readyIn_4 : decode cX7_readyIn 4 = .ok (.istore_n 2, 1) := by decide +kernel
theorem dX7_readyIn_5 : decode cX7_readyIn 5 = .ok (.iload_n 2, 1) := by decide +kernel
theorem dX7_readyIn_6 : decode cX7_readyIn 6 = .ok (.istore_n 3, 1) := by decide +kernel
theorem dX7_readyIn_7 : decode cX7_readyIn 7 = .ok (.iconst 0, 1) := by decide +kernel
theorem dX7_readyIn_8 : decode cX7_readyIn 8 = .ok (.istore 4, 2) := by decide +kernel
theorem dX7_readyIn_10 : decode cX7_readyIn 10 = .ok (.iload 4, 2) := by decide +kernel
theorem dX7_readyIn_12 : decode cX7_readyIn 12 = .ok (.aload_n 0, 1) := by decide +kernel
theorem dX7_readyIn_13 : decode cX7_readyIn 13 = .ok (.getfield 49, 3) := by decide +kernel
theorem dX7_readyIn_16 : decode cX7_readyIn 16 = .ok (.if_icmp .ge 30, 3) := by decide +kernel
theorem dX7_readyIn_19 : decode cX7_readyIn 19 = .ok (.iload_n 2, 1) := by decide +kernel
theorem dX7_readyIn_20 : decode cX7_readyIn 20 = .ok (.iload 4, 2) := by decide +kernel
theorem dX7_readyIn_22 : decode cX7_readyIn 22 = .ok (.invokestatic 77, 3) := by decide +kernel
theorem dX7_readyIn_25 : decode cX7_readyIn 25 = .ok (.ifCond .eq 15, 3) := by decide +kernel
theorem dX7_readyIn_28 : decode cX7_readyIn 28 = .ok (.iload_n 3, 1) := by decide +kernel
theorem dX7_readyIn_29 : decode cX7_readyIn 29 = .ok (.aload_n 0, 1) := by decide +kernel
theorem dX7_readyIn_30 : decode cX7_readyIn 30 = .ok (.getfield 29, 3) := by decide +kernel
theorem dX7_readyIn_33 : decode cX7_readyIn 33 = .ok (.iload 4, 2) := by decide +kernel
theorem dX7_readyIn_35 : decode cX7_readyIn 35 = .ok (.iaload, 1) := by decide +kernel
theorem dX7_readyIn_36 : decode cX7_readyIn 36 = .ok (.iconst (-1), 1) := by decide +kernel
theorem dX7_readyIn_37 : decode cX7_readyIn 37 = .ok (.ixor, 1) := by decide +kernel
theorem dX7_readyIn_38 : decode cX7_readyIn 38 = .ok (.iand, 1) := by decide +kernel
theorem dX7_readyIn_39 : decode cX7_readyIn 39 = .ok (.istore_n 3, 1) := by decide +kernel
theorem dX7_readyIn_40 : decode cX7_readyIn 40 = .ok (.iinc 4 1, 3) := by decide +kernel
theorem dX7_readyIn_43 : decode cX7_readyIn 43 = .ok (.goto (-33), 3) := by decide +kernel
theorem dX7_readyIn_46 : decode cX7_readyIn 46 = .ok (.iload_n 3, 1) := by decide +kernel
theorem dX7_readyIn_47 : decode cX7_readyIn 47 = .ok (.ireturn, 1) := by decide +kernel
theorem dX7_isTrue_0 : decode cX7_isTrue 0 = .ok (.iload_n 2, 1) := by decide +kernel
theorem dX7_isTrue_1 : decode cX7_isTrue 1 = .ok (.bipush 8, 2) := by decide +kernel
theorem dX7_isTrue_3 : decode cX7_isTrue 3 = .ok (.ishr, 1) := by decide +kernel
theorem dX7_isTrue_4 : decode cX7_isTrue 4 = .ok (.istore_n 3, 1) := by decide +kernel
theorem dX7_isTrue_5 : decode cX7_isTrue 5 = .ok (.aload_n 0, 1) := by decide +kernel
theorem dX7_isTrue_6 : decode cX7_isTrue 6 = .ok (.getfield 13, 3) := by decide +kernel
theorem dX7_isTrue_9 : decode cX7_isTrue 9 = .ok (.iload_n 1, 1) := by decide +kernel
theorem dX7_isTrue_10 : decode cX7_isTrue 10 = .ok (.iaload, 1) := by decide +kernel
theorem dX7_isTrue_11 : decode cX7_isTrue 11 = .ok (.iload_n 3, 1) := by decide +kernel
theorem dX7_isTrue_12 : decode cX7_isTrue 12 = .ok (.iconst (-1), 1) := by decide +kernel
theorem dX7_isTrue_13 : decode cX7_isTrue 13 = .ok (.ixor, 1) := by decide +kernel
theorem dX7_isTrue_14 : decode cX7_isTrue 14 = .ok (.iand, 1) := by decide +kernel
theorem dX7_isTrue_15 : decode cX7_isTrue 15 = .ok (.ifCond .ne 18, 3) := by decide +kernel
theorem dX7_isTrue_18 : decode cX7_isTrue 18 = .ok (.aload_n 0, 1) := by decide +kernel
theorem dX7_isTrue_19 : decode cX7_isTrue 19 = .ok (.getfield 16, 3) := by decide +kernel
theorem dX7_isTrue_22 : decode cX7_isTrue 22 = .ok (.iload_n 1, 1) := by decide +kernel
theorem dX7_isTrue_23 : decode cX7_isTrue 23 = .ok (.iaload, 1) := by decide +kernel
theorem dX7_isTrue_24 : decode cX7_isTrue 24 = .ok (.iload_n 3, 1) := by decide +kernel
theorem dX7_isTrue_25 : decode cX7_isTrue 25 = .ok (.iand, 1) := by decide +kernel
theorem dX7_isTrue_26 : decode cX7_isTrue 26 = .ok (.ifCond .ne 7, 3) := by decide +kernel
theorem dX7_isTrue_29 : decode cX7_isTrue 29 = .ok (.iconst 1, 1) := by decide +kernel
theorem dX7_isTrue_30 : decode cX7_isTrue 30 = .ok (.goto 4, 3) := by decide +kernel
theorem dX7_isTrue_33 : decode cX7_isTrue 33 = .ok (.iconst 0, 1) := by decide +kernel
theorem dX7_isTrue_34 : decode cX7_isTrue 34 = .ok (.ireturn, 1) := by decide +kernel
set_option maxRecDepth 20000 in
theorem ggX7_playIn_X7_isTrue : GoodIn wsX7_playIn wsX7_isTrue := goodIn_r _ [7, 8, 9, 17, 18, 19, 20, 21, 22, 23, 24, 25, 26, 27, 28, 29, 30, 31, 32, 33, 34] (by decide +kernel) (by decide +kernel)
set_option maxRecDepth 20000 in
theorem gX7_playIn_X7_isTrue : GoodIn wsX7_playIn (wsV RX7 84 RX7 yX7_isTrue wsX7_isTrue) := goodIn_app (goodIn_of _ (by decide +kernel)) ggX7_playIn_X7_isTrue
set_option maxRecDepth 20000 in
theorem ggX7_playIn_X7_behind : GoodIn wsX7_playIn wsX7_behind := goodIn_r _ [13, 14, 15, 16, 17, 18, 19, 20, 21, 22, 23, 24, 25, 26, 27, 28, 29, 30, 31, 32, 33, 34] (by decide +kernel) (by decide +kernel)
set_option maxRecDepth 20000 in
theorem gX7_playIn_X7_behind : GoodIn wsX7_playIn (wsV RX7 87 RX7 yX7_behind wsX7_behind) := goodIn_app (goodIn_of _ (by decide +kernel)) ggX7_playIn_X7_behind
theorem dX7_playIn_0 : decode cX7_playIn 0 = .ok (.iload_n 1, 1) := by decide +kernel
theorem dX7_playIn_1 : decode cX7_playIn 1 = .ok (.iconst 1, 1) := by decide +kernel
theorem dX7_playIn_2 : decode cX7_playIn 2 = .ok (.iload_n 2, 1) := by decide +kernel
theorem dX7_playIn_3 : decode cX7_playIn 3 = .ok (.ishl, 1) := by decide +kernel
theorem dX7_playIn_4 : decode cX7_playIn 4 = .ok (.iconst (-1), 1) := by decide +kernel
theorem dX7_playIn_5 : decode cX7_playIn 5 = .ok (.ixor, 1) := by decide +kernel
theorem dX7_playIn_6 : decode cX7_playIn 6 = .ok (.iand, 1) := by decide +kernel
theorem dX7_playIn_7 : decode cX7_playIn 7 = .ok (.istore_n 3, 1) := by decide +kernel
theorem dX7_playIn_8 : decode cX7_playIn 8 = .ok (.aload_n 0, 1) := by decide +kernel
theorem dX7_playIn_9 : decode cX7_playIn 9 = .ok (.iload_n 2, 1) := by decide +kernel
theorem dX7_playIn_10 : decode cX7_playIn 10 = .ok (.iload_n 1, 1) := by decide +kernel
theorem dX7_playIn_11 : decode cX7_playIn 11 = .ok (.invokevirtual 84, 3) := by decide +kernel
theorem dX7_playIn_14 : decode cX7_playIn 14 = .ok (.ifCond .ne 5, 3) := by decide +kernel
theorem dX7_playIn_17 : decode cX7_playIn 17 = .ok (.iload_n 3, 1) := by decide +kernel
theorem dX7_playIn_18 : decode cX7_playIn 18 = .ok (.ireturn, 1) := by decide +kernel
theorem dX7_playIn_19 : decode cX7_playIn 19 = .ok (.iconst 0, 1) := by decide +kernel
theorem dX7_playIn_20 : decode cX7_playIn 20 = .ok (.istore 4, 2) := by decide +kernel
theorem dX7_playIn_22 : decode cX7_playIn 22 = .ok (.iload 4, 2) := by decide +kernel
theorem dX7_playIn_24 : decode cX7_playIn 24 = .ok (.aload_n 0, 1) := by decide +kernel
theorem dX7_playIn_25 : decode cX7_playIn 25 = .ok (.getfield 19, 3) := by decide +kernel
theorem dX7_playIn_28 : decode cX7_playIn 28 = .ok (.iload_n 2, 1) := by decide +kernel
theorem dX7_playIn_29 : decode cX7_playIn 29 = .ok (.iaload, 1) := by decide +kernel
theorem dX7_playIn_30 : decode cX7_playIn 30 = .ok (.if_icmp .ge 26, 3) := by decide +kernel
theorem dX7_playIn_33 : decode cX7_playIn 33 = .ok (.aload_n 0, 1) := by decide +kernel
theorem dX7_playIn_34 : decode cX7_playIn 34 = .ok (.iload_n 3, 1) := by decide +kernel
theorem dX7_playIn_35 : decode cX7_playIn 35 = .ok (.aload_n 0, 1) := by decide +kernel
theorem dX7_playIn_36 : decode cX7_playIn 36 = .ok (.getfield 22, 3) := by decide +kernel
theorem dX7_playIn_39 : decode cX7_playIn 39 = .ok (.iconst 4, 1) := by decide +kernel
theorem dX7_playIn_40 : decode cX7_playIn 40 = .ok (.iload_n 2, 1) := by decide +kernel
theorem dX7_playIn_41 : decode cX7_playIn 41 = .ok (.imul, 1) := by decide +kernel
theorem dX7_playIn_42 : decode cX7_playIn 42 = .ok (.iload 4, 2) := by decide +kernel
theorem dX7_playIn_44 : decode cX7_playIn 44 = .ok (.iadd, 1) := by decide +kernel
theorem dX7_playIn_45 : decode cX7_playIn 45 = .ok (.iaload, 1) := by decide +kernel
theorem dX7_playIn_46 : decode cX7_playIn 46 = .ok (.invokevirtual 87, 3) := by decide +kernel
theorem dX7_playIn_49 : decode cX7_playIn 49 = .ok (.istore_n 3, 1) := by decide +kernel
theorem dX7_playIn_50 : decode cX7_playIn 50 = .ok (.iinc 4 1, 3) := by decide +kernel
theorem dX7_playIn_53 : decode cX7_playIn 53 = .ok (.goto (-31), 3) := by decide +kernel
theorem dX7_playIn_56 : decode cX7_playIn 56 = .ok (.iload_n 3, 1) := by decide +kernel
theorem dX7_playIn_57 : decode cX7_playIn 57 = .ok (.ireturn, 1) := by decide +kernel
theorem dX7_now_0 : decode cX7_now 0 = .ok (.sipush 256, 3) := by decide +kernel
theorem dX7_now_3 : decode cX7_now 3 = .ok (.aload_n 0, 1) := by decide +kernel
theorem dX7_now_4 : decode cX7_now 4 = .ok (.getfield 91, 3) := by decide +kernel
theorem dX7_now_7 : decode cX7_now 7 = .ok (.imul, 1) := by decide +kernel
theorem dX7_now_8 : decode cX7_now 8 = .ok (.aload_n 0, 1) := by decide +kernel
theorem dX7_now_9 : decode cX7_now 9 = .ok (.getfield 74, 3) := by decide +kernel
theorem dX7_now_12 : decode cX7_now 12 = .ok (.iadd, 1) := by decide +kernel
theorem dX7_now_13 : decode cX7_now 13 = .ok (.ireturn, 1) := by decide +kernel
set_option maxRecDepth 20000 in
theorem ggX7_become_X7_triggeredIn : GoodIn wsX7_become wsX7_triggeredIn := goodIn_r _ [6] (by decide +kernel) (by decide +kernel)
set_option maxRecDepth 20000 in
theorem gX7_become_X7_triggeredIn : GoodIn wsX7_become (va_wsS RX7 81 yX7_triggeredIn wsX7_triggeredIn) := goodIn_app (goodIn_of _ (by decide +kernel)) ggX7_become_X7_triggeredIn
theorem dX7_become_0 : decode cX7_become 0 = .ok (.aload_n 0, 1) := by decide +kernel
theorem dX7_become_1 : decode cX7_become 1 = .ok (.iload_n 1, 1) := by decide +kernel
theorem dX7_become_2 : decode cX7_become 2 = .ok (.bipush 8, 2) := by decide +kernel
theorem dX7_become_4 : decode cX7_become 4 = .ok (.ishr, 1) := by decide +kernel
theorem dX7_become_5 : decode cX7_become 5 = .ok (.putfield 91, 3) := by decide +kernel
theorem dX7_become_8 : decode cX7_become 8 = .ok (.aload_n 0, 1) := by decide +kernel
theorem dX7_become_9 : decode cX7_become 9 = .ok (.iload_n 1, 1) := by decide +kernel
theorem dX7_become_10 : decode cX7_become 10 = .ok (.invokestatic 81, 3) := by decide +kernel
theorem dX7_become_13 : decode cX7_become 13 = .ok (.putfield 74, 3) := by decide +kernel
theorem dX7_become_16 : decode cX7_become 16 = .ok (.return_, 1) := by decide +kernel
set_option maxRecDepth 20000 in
theorem ggX7_put_X7_isSet : GoodIn wsX7_put wsX7_isSet := goodIn_r _ [8] (by decide +kernel) (by decide +kernel)
set_option maxRecDepth 20000 in
theorem gX7_put_X7_isSet : GoodIn wsX7_put (va_wsS RX7 60 yX7_isSet wsX7_isSet) := goodIn_app (goodIn_of _ (by decide +kernel)) ggX7_put_X7_isSet
set_option maxRecDepth 20000 in
theorem ggX7_put_X7_fail : GoodIn wsX7_put wsX7_fail := goodIn_r _ [12, 1, 13, 14, 15, 16, 17, 18, 19, 20, 21, 22, 23, 24, 25, 26, 27, 28, 29, 30] (by decide +kernel) (by decide +kernel)
set_option maxRecDepth 20000 in
theorem gX7_put_X7_fail : GoodIn wsX7_put (wsV RX7 56 RX7 yX7_fail wsX7_fail) := goodIn_app (goodIn_of _ (by decide +kernel)) ggX7_put_X7_fail
theorem dX7_put_0 : decode cX7_put 0 = .ok (.aload_n 0, 1) := by decide +kernel
theorem dX7_put_1 : decode cX7_put 1 = .ok (.iconst 0, 1) := by decide +kernel
theorem dX7_put_2 : decode cX7_put 2 = .ok (.putfield 45, 3) := by decide +kernel
theorem dX7_put_5 : decode cX7_put 5 = .ok (.iload_n 1, 1) := by decide +kernel
theorem dX7_put_6 : decode cX7_put 6 = .ok (.invokestatic 60, 3) := by decide +kernel
theorem dX7_put_9 : decode cX7_put 9 = .ok (.ifCond .ne 9, 3) := by decide +kernel
theorem dX7_put_12 : decode cX7_put 12 = .ok (.aload_n 0, 1) := by decide +kernel
theorem dX7_put_13 : decode cX7_put 13 = .ok (.iconst 1, 1) := by decide +kernel
theorem dX7_put_14 : decode cX7_put 14 = .ok (.invokevirtual 56, 3) := by decide +kernel
theorem dX7_put_17 : decode cX7_put 17 = .ok (.ireturn, 1) := by decide +kernel
theorem dX7_put_18 : decode cX7_put 18 = .ok (.aload_n 0, 1) := by decide +kernel
theorem dX7_put_19 : decode cX7_put 19 = .ok (.getfield 91, 3) := by decide +kernel
theorem dX7_put_22 : decode cX7_put 22 = .ok (.istore_n 2, 1) := by decide +kernel
theorem dX7_put_23 : decode cX7_put 23 = .ok (.aload_n 0, 1) := by decide +kernel
theorem dX7_put_24 : decode cX7_put 24 = .ok (.iload_n 1, 1) := by decide +kernel
theorem dX7_put_25 : decode cX7_put 25 = .ok (.putfield 91, 3) := by decide +kernel
theorem dX7_put_28 : decode cX7_put 28 = .ok (.aload_n 0, 1) := by decide +kernel
theorem dX7_put_29 : decode cX7_put 29 = .ok (.iconst 0, 1) := by decide +kernel
theorem dX7_put_30 : decode cX7_put 30 = .ok (.putfield 74, 3) := by decide +kernel
theorem dX7_put_33 : decode cX7_put 33 = .ok (.aload_n 0, 1) := by decide +kernel
theorem dX7_put_34 : decode cX7_put 34 = .ok (.iconst 0, 1) := by decide +kernel
theorem dX7_put_35 : decode cX7_put 35 = .ok (.putfield 67, 3) := by decide +kernel
theorem dX7_put_38 : decode cX7_put 38 = .ok (.iload_n 2, 1) := by decide +kernel
theorem dX7_put_39 : decode cX7_put 39 = .ok (.ireturn, 1) := by decide +kernel
set_option maxRecDepth 20000 in
theorem ggX7_change_X7_isFact : GoodIn wsX7_change wsX7_isFact := goodIn_r _ [7] (by decide +kernel) (by decide +kernel)
set_option maxRecDepth 20000 in
theorem gX7_change_X7_isFact : GoodIn wsX7_change (va_wsS RX7 52 yX7_isFact wsX7_isFact) := goodIn_app (goodIn_of _ (by decide +kernel)) ggX7_change_X7_isFact
set_option maxRecDepth 20000 in
theorem ggX7_change_X7_fail : GoodIn wsX7_change wsX7_fail := goodIn_r _ [11, 1, 34, 35, 36, 37, 38, 39, 40, 41, 42, 43, 44, 45, 46, 47, 48, 49, 50, 51] (by decide +kernel) (by decide +kernel)
set_option maxRecDepth 20000 in
theorem gX7_change_X7_fail : GoodIn wsX7_change (wsV RX7 56 RX7 yX7_fail wsX7_fail) := goodIn_app (goodIn_of _ (by decide +kernel)) ggX7_change_X7_fail
set_option maxRecDepth 20000 in
theorem ggX7_change_X7_now : GoodIn wsX7_change wsX7_now := goodIn_r _ [15, 16, 3, 34, 35, 36, 37, 38, 39, 40, 41, 42, 43, 44, 45, 46, 47, 48, 49, 50, 51] (by decide +kernel) (by decide +kernel)
set_option maxRecDepth 20000 in
theorem gX7_change_X7_now : GoodIn wsX7_change (wsV RX7 94 RX7 yX7_now wsX7_now) := goodIn_app (goodIn_of _ (by decide +kernel)) ggX7_change_X7_now
set_option maxRecDepth 20000 in
theorem ggX7_change_X7_literal : GoodIn wsX7_change wsX7_literal := goodIn_r _ [19] (by decide +kernel) (by decide +kernel)
set_option maxRecDepth 20000 in
theorem gX7_change_X7_literal : GoodIn wsX7_change (va_wsS RX7 63 yX7_literal wsX7_literal) := goodIn_app (goodIn_of _ (by decide +kernel)) ggX7_change_X7_literal
set_option maxRecDepth 20000 in
theorem ggX7_change_X7_behind : GoodIn wsX7_change wsX7_behind := goodIn_r _ [23, 24, 25, 26, 34, 35, 36, 37, 38, 39, 40, 41, 42, 43, 44, 45, 46, 47, 48, 49, 50, 51] (by decide +kernel) (by decide +kernel)
set_option maxRecDepth 20000 in
theorem gX7_change_X7_behind : GoodIn wsX7_change (wsV RX7 87 RX7 yX7_behind wsX7_behind) := goodIn_app (goodIn_of _ (by decide +kernel)) ggX7_change_X7_behind
set_option maxRecDepth 20000 in
theorem ggX7_change_X7_become : GoodIn wsX7_change wsX7_become := goodIn_r _ [30, 16, 3, 31, 32, 6, 33, 34, 35, 36, 37, 38, 39, 40, 41, 42, 43, 44, 45, 46, 47, 48, 49, 50, 51] (by decide +kernel) (by decide +kernel)
set_option maxRecDepth 20000 in
theorem gX7_change_X7_become : GoodIn wsX7_change (wsV RX7 98 RX7 yX7_become wsX7_become) := goodIn_app (goodIn_of _ (by decide +kernel)) ggX7_change_X7_become
theorem dX7_change_0 : decode cX7_change 0 = .ok (.aload_n 0, 1) := by decide +kernel
theorem dX7_change_1 : decode cX7_change 1 = .ok (.iconst 0, 1) := by decide +kernel
theorem dX7_change_2 : decode cX7_change 2 = .ok (.putfield 45, 3) := by decide +kernel
theorem dX7_change_5 : decode cX7_change 5 = .ok (.iload_n 1, 1) := by decide +kernel
theorem dX7_change_6 : decode cX7_change 6 = .ok (.invokestatic 52, 3) := by decide +kernel
theorem dX7_change_9 : decode cX7_change 9 = .ok (.ifCond .ne 9, 3) := by decide +kernel
theorem dX7_change_12 : decode cX7_change 12 = .ok (.aload_n 0, 1) := by decide +kernel
theorem dX7_change_13 : decode cX7_change 13 = .ok (.iconst 1, 1) := by decide +kernel
theorem dX7_change_14 : decode cX7_change 14 = .ok (.invokevirtual 56, 3) := by decide +kernel
theorem dX7_change_17 : decode cX7_change 17 = .ok (.ireturn, 1) := by decide +kernel
theorem dX7_change_18 : decode cX7_change 18 = .ok (.aload_n 0, 1) := by decide +kernel
theorem dX7_change_19 : decode cX7_change 19 = .ok (.aload_n 0, 1) := by decide +kernel
theorem dX7_change_20 : decode cX7_change 20 = .ok (.aload_n 0, 1) := by decide +kernel
theorem dX7_change_21 : decode cX7_change 21 = .ok (.invokevirtual 94, 3) := by decide +kernel
theorem dX7_change_24 : decode cX7_change 24 = .ok (.iload_n 1, 1) := by decide +kernel
theorem dX7_change_25 : decode cX7_change 25 = .ok (.iload_n 2, 1) := by decide +kernel
theorem dX7_change_26 : decode cX7_change 26 = .ok (.invokestatic 63, 3) := by decide +kernel
theorem dX7_change_29 : decode cX7_change 29 = .ok (.invokevirtual 87, 3) := by decide +kernel
theorem dX7_change_32 : decode cX7_change 32 = .ok (.invokevirtual 98, 3) := by decide +kernel
theorem dX7_change_35 : decode cX7_change 35 = .ok (.aload_n 0, 1) := by decide +kernel
theorem dX7_change_36 : decode cX7_change 36 = .ok (.iconst 0, 1) := by decide +kernel
theorem dX7_change_37 : decode cX7_change 37 = .ok (.putfield 67, 3) := by decide +kernel
theorem dX7_change_40 : decode cX7_change 40 = .ok (.aload_n 0, 1) := by decide +kernel
theorem dX7_change_41 : decode cX7_change 41 = .ok (.getfield 74, 3) := by decide +kernel
theorem dX7_change_44 : decode cX7_change 44 = .ok (.ireturn, 1) := by decide +kernel
theorem dX7_facts_0 : decode cX7_facts 0 = .ok (.aload_n 0, 1) := by decide +kernel
theorem dX7_facts_1 : decode cX7_facts 1 = .ok (.iconst 0, 1) := by decide +kernel
theorem dX7_facts_2 : decode cX7_facts 2 = .ok (.putfield 45, 3) := by decide +kernel
theorem dX7_facts_5 : decode cX7_facts 5 = .ok (.aload_n 0, 1) := by decide +kernel
theorem dX7_facts_6 : decode cX7_facts 6 = .ok (.getfield 91, 3) := by decide +kernel
theorem dX7_facts_9 : decode cX7_facts 9 = .ok (.ireturn, 1) := by decide +kernel
theorem dX7_triggered_0 : decode cX7_triggered 0 = .ok (.aload_n 0, 1) := by decide +kernel
theorem dX7_triggered_1 : decode cX7_triggered 1 = .ok (.iconst 0, 1) := by decide +kernel
theorem dX7_triggered_2 : decode cX7_triggered 2 = .ok (.putfield 45, 3) := by decide +kernel
theorem dX7_triggered_5 : decode cX7_triggered 5 = .ok (.aload_n 0, 1) := by decide +kernel
theorem dX7_triggered_6 : decode cX7_triggered 6 = .ok (.getfield 74, 3) := by decide +kernel
theorem dX7_triggered_9 : decode cX7_triggered 9 = .ok (.ireturn, 1) := by decide +kernel
set_option maxRecDepth 20000 in
theorem ggX7_ready_X7_now : GoodIn wsX7_ready wsX7_now := goodIn_r _ [6, 7, 8, 21, 22, 23, 24, 25, 26, 27, 28, 29, 30, 31, 32, 33, 34, 35, 36, 37, 38] (by decide +kernel) (by decide +kernel)
set_option maxRecDepth 20000 in
theorem gX7_ready_X7_now : GoodIn wsX7_ready (wsV RX7 94 RX7 yX7_now wsX7_now) := goodIn_app (goodIn_of _ (by decide +kernel)) ggX7_ready_X7_now
set_option maxRecDepth 20000 in
theorem ggX7_ready_X7_readyIn : GoodIn wsX7_ready wsX7_readyIn := goodIn_r _ [12, 13, 14, 15, 16, 5, 17, 18, 19, 20, 21, 22, 23, 24, 25, 26, 27, 28, 29, 30, 31, 32, 33, 34, 35, 36, 37, 38] (by decide +kernel) (by decide +kernel)
set_option maxRecDepth 20000 in
theorem gX7_ready_X7_readyIn : GoodIn wsX7_ready (wsV RX7 102 RX7 yX7_readyIn wsX7_readyIn) := goodIn_app (goodIn_of _ (by decide +kernel)) ggX7_ready_X7_readyIn
theorem dX7_ready_0 : decode cX7_ready 0 = .ok (.aload_n 0, 1) := by decide +kernel
theorem dX7_ready_1 : decode cX7_ready 1 = .ok (.iconst 0, 1) := by decide +kernel
theorem dX7_ready_2 : decode cX7_ready 2 = .ok (.putfield 45, 3) := by decide +kernel
theorem dX7_ready_5 : decode cX7_ready 5 = .ok (.aload_n 0, 1) := by decide +kernel
theorem dX7_ready_6 : decode cX7_ready 6 = .ok (.aload_n 0, 1) := by decide +kernel
theorem dX7_ready_7 : decode cX7_ready 7 = .ok (.invokevirtual 94, 3) := by decide +kernel
theorem dX7_ready_10 : decode cX7_ready 10 = .ok (.invokevirtual 102, 3) := by decide +kernel
theorem dX7_ready_13 : decode cX7_ready 13 = .ok (.ireturn, 1) := by decide +kernel
set_option maxRecDepth 20000 in
theorem ggX7_play_X7_isRule : GoodIn wsX7_play wsX7_isRule := goodIn_r _ [7, 8, 48, 49, 50, 51, 52, 53, 54, 55, 56, 57, 58, 59, 60, 61, 62, 63, 64, 65] (by decide +kernel) (by decide +kernel)
set_option maxRecDepth 20000 in
theorem gX7_play_X7_isRule : GoodIn wsX7_play (wsV RX7 71 RX7 yX7_isRule wsX7_isRule) := goodIn_app (goodIn_of _ (by decide +kernel)) ggX7_play_X7_isRule
set_option maxRecDepth 20000 in
theorem ggX7_play_X7_now : GoodIn wsX7_play wsX7_now := goodIn_r _ [12, 13, 14, 48, 49, 50, 51, 52, 53, 54, 55, 56, 57, 58, 59, 60, 61, 62, 63, 64, 65] (by decide +kernel) (by decide +kernel)
set_option maxRecDepth 20000 in
theorem gX7_play_X7_now : GoodIn wsX7_play (wsV RX7 94 RX7 yX7_now wsX7_now) := goodIn_app (goodIn_of _ (by decide +kernel)) ggX7_play_X7_now
set_option maxRecDepth 20000 in
theorem ggX7_play_X7_readyIn : GoodIn wsX7_play wsX7_readyIn := goodIn_r _ [18, 8, 19, 20, 21, 6, 22, 23, 24, 25, 48, 49, 50, 51, 52, 53, 54, 55, 56, 57, 58, 59, 60, 61, 62, 63, 64, 65] (by decide +kernel) (by decide +kernel)
set_option maxRecDepth 20000 in
theorem gX7_play_X7_readyIn : GoodIn wsX7_play (wsV RX7 102 RX7 yX7_readyIn wsX7_readyIn) := goodIn_app (goodIn_of _ (by decide +kernel)) ggX7_play_X7_readyIn
set_option maxRecDepth 20000 in
theorem ggX7_play_X7_has : GoodIn wsX7_play wsX7_has := goodIn_r _ [25] (by decide +kernel) (by decide +kernel)
set_option maxRecDepth 20000 in
theorem gX7_play_X7_has : GoodIn wsX7_play (va_wsS RX7 77 yX7_has wsX7_has) := goodIn_app (goodIn_of _ (by decide +kernel)) ggX7_play_X7_has
set_option maxRecDepth 20000 in
theorem ggX7_play_X7_isTrue : GoodIn wsX7_play wsX7_isTrue := goodIn_r _ [29, 30, 31, 48, 49, 50, 51, 52, 53, 54, 55, 56, 57, 58, 59, 60, 61, 62, 63, 64, 65] (by decide +kernel) (by decide +kernel)
set_option maxRecDepth 20000 in
theorem gX7_play_X7_isTrue : GoodIn wsX7_play (wsV RX7 84 RX7 yX7_isTrue wsX7_isTrue) := goodIn_app (goodIn_of _ (by decide +kernel)) ggX7_play_X7_isTrue
set_option maxRecDepth 20000 in
theorem ggX7_play_X7_playIn : GoodIn wsX7_play wsX7_playIn := goodIn_r _ [35, 36, 37, 26, 27, 28, 6, 29, 30, 31, 38, 39, 40, 41, 8, 42, 43, 48, 49, 50, 51, 52, 53, 54, 55, 56, 57, 58, 59, 60, 61, 62, 63, 64, 65] (by decide +kernel) (by decide +kernel)
set_option maxRecDepth 20000 in
theorem gX7_play_X7_playIn : GoodIn wsX7_play (wsV RX7 105 RX7 yX7_playIn wsX7_playIn) := goodIn_app (goodIn_of _ (by decide +kernel)) ggX7_play_X7_playIn
set_option maxRecDepth 20000 in
theorem ggX7_play_X7_become : GoodIn wsX7_play wsX7_become := goodIn_r _ [47, 13, 14, 20, 21, 6, 22, 48, 49, 50, 51, 52, 53, 54, 55, 56, 57, 58, 59, 60, 61, 62, 63, 64, 65] (by decide +kernel) (by decide +kernel)
set_option maxRecDepth 20000 in
theorem gX7_play_X7_become : GoodIn wsX7_play (wsV RX7 98 RX7 yX7_become wsX7_become) := goodIn_app (goodIn_of _ (by decide +kernel)) ggX7_play_X7_become
theorem dX7_play_0 : decode cX7_play 0 = .ok (.aload_n 0, 1) := by decide +kernel
theorem dX7_play_1 : decode cX7_play 1 = .ok (.aload_n 0, 1) := by decide +kernel
theorem dX7_play_2 : decode cX7_play 2 = .ok (.iload_n 1, 1) := by decide +kernel
theorem dX7_play_3 : decode cX7_play 3 = .ok (.invokevirtual 71, 3) := by decide +kernel
theorem dX7_play_6 : decode cX7_play 6 = .ok (.ifCond .ne 7, 3) := by decide +kernel
theorem dX7_play_9 : decode cX7_play 9 = .ok (.iconst 1, 1) := by decide +kernel
theorem dX7_play_10 : decode cX7_play 10 = .ok (.goto 23, 3) := by decide +kernel
theorem dX7_play_13 : decode cX7_play 13 = .ok (.aload_n 0, 1) := by decide +kernel
theorem dX7_play_14 : decode cX7_play 14 = .ok (.aload_n 0, 1) := by decide +kernel
theorem dX7_play_15 : decode cX7_play 15 = .ok (.invokevirtual 94, 3) := by decide +kernel
theorem dX7_play_18 : decode cX7_play 18 = .ok (.invokevirtual 102, 3) := by decide +kernel
theorem dX7_play_21 : decode cX7_play 21 = .ok (.iload_n 1, 1) := by decide +kernel
theorem dX7_play_22 : decode cX7_play 22 = .ok (.invokestatic 77, 3) := by decide +kernel
theorem dX7_play_25 : decode cX7_play 25 = .ok (.ifCond .ne 7, 3) := by decide +kernel
theorem dX7_play_28 : decode cX7_play 28 = .ok (.iconst 2, 1) := by decide +kernel
theorem dX7_play_29 : decode cX7_play 29 = .ok (.goto 4, 3) := by decide +kernel
theorem dX7_play_32 : decode cX7_play 32 = .ok (.iconst 0, 1) := by decide +kernel
theorem dX7_play_33 : decode cX7_play 33 = .ok (.putfield 45, 3) := by decide +kernel
theorem dX7_play_36 : decode cX7_play 36 = .ok (.aload_n 0, 1) := by decide +kernel
theorem dX7_play_37 : decode cX7_play 37 = .ok (.getfield 45, 3) := by decide +kernel
theorem dX7_play_40 : decode cX7_play 40 = .ok (.ifCond .eq 5, 3) := by decide +kernel
theorem dX7_play_43 : decode cX7_play 43 = .ok (.iconst 0, 1) := by decide +kernel
theorem dX7_play_44 : decode cX7_play 44 = .ok (.ireturn, 1) := by decide +kernel
theorem dX7_play_45 : decode cX7_play 45 = .ok (.aload_n 0, 1) := by decide +kernel
theorem dX7_play_46 : decode cX7_play 46 = .ok (.iload_n 1, 1) := by decide +kernel
theorem dX7_play_47 : decode cX7_play 47 = .ok (.aload_n 0, 1) := by decide +kernel
theorem dX7_play_48 : decode cX7_play 48 = .ok (.invokevirtual 94, 3) := by decide +kernel
theorem dX7_play_51 : decode cX7_play 51 = .ok (.invokevirtual 84, 3) := by decide +kernel
theorem dX7_play_54 : decode cX7_play 54 = .ok (.istore_n 2, 1) := by decide +kernel
theorem dX7_play_55 : decode cX7_play 55 = .ok (.aload_n 0, 1) := by decide +kernel
theorem dX7_play_56 : decode cX7_play 56 = .ok (.aload_n 0, 1) := by decide +kernel
theorem dX7_play_57 : decode cX7_play 57 = .ok (.aload_n 0, 1) := by decide +kernel
theorem dX7_play_58 : decode cX7_play 58 = .ok (.invokevirtual 94, 3) := by decide +kernel
theorem dX7_play_61 : decode cX7_play 61 = .ok (.iload_n 1, 1) := by decide +kernel
theorem dX7_play_62 : decode cX7_play 62 = .ok (.invokevirtual 105, 3) := by decide +kernel
theorem dX7_play_65 : decode cX7_play 65 = .ok (.invokevirtual 98, 3) := by decide +kernel
theorem dX7_play_68 : decode cX7_play 68 = .ok (.aload_n 0, 1) := by decide +kernel
theorem dX7_play_69 : decode cX7_play 69 = .ok (.iconst 0, 1) := by decide +kernel
theorem dX7_play_70 : decode cX7_play 70 = .ok (.putfield 67, 3) := by decide +kernel
theorem dX7_play_73 : decode cX7_play 73 = .ok (.iload_n 2, 1) := by decide +kernel
theorem dX7_play_74 : decode cX7_play 74 = .ok (.ireturn, 1) := by decide +kernel
set_option maxRecDepth 20000 in
theorem ggX7_run_X7_now : GoodIn wsX7_run wsX7_now := goodIn_r _ [8, 9, 2, 49, 50, 51, 52, 53, 54, 55, 56, 57, 58, 59, 60, 61, 62, 63, 64, 65, 66] (by decide +kernel) (by decide +kernel)
set_option maxRecDepth 20000 in
theorem gX7_run_X7_now : GoodIn wsX7_run (wsV RX7 94 RX7 yX7_now wsX7_now) := goodIn_app (goodIn_of _ (by decide +kernel)) ggX7_run_X7_now
set_option maxRecDepth 20000 in
theorem ggX7_run_X7_readyIn : GoodIn wsX7_run wsX7_readyIn := goodIn_r _ [13, 14, 15, 16, 17, 7, 18, 19, 20, 21, 49, 50, 51, 52, 53, 54, 55, 56, 57, 58, 59, 60, 61, 62, 63, 64, 65, 66] (by decide +kernel) (by decide +kernel)
set_option maxRecDepth 20000 in
theorem gX7_run_X7_readyIn : GoodIn wsX7_run (wsV RX7 102 RX7 yX7_readyIn wsX7_readyIn) := goodIn_app (goodIn_of _ (by decide +kernel)) ggX7_run_X7_readyIn
set_option maxRecDepth 20000 in
theorem ggX7_run_J6_numberOfTrailingZeros_0f7a4 : GoodIn wsX7_run wsJ6_numberOfTrailingZeros_0f7a4 := goodIn_r _ [25, 26] (by decide +kernel) (by decide +kernel)
set_option maxRecDepth 20000 in
theorem gX7_run_J6_numberOfTrailingZeros_0f7a4 : GoodIn wsX7_run (va_wsS RX7 108 yJ6_numberOfTrailingZeros_0f7a4 wsJ6_numberOfTrailingZeros_0f7a4) := goodIn_app (goodIn_of _ (by decide +kernel)) ggX7_run_J6_numberOfTrailingZeros_0f7a4
set_option maxRecDepth 20000 in
theorem ggX7_run_X7_playIn : GoodIn wsX7_run wsX7_playIn := goodIn_r _ [30, 31, 32, 33, 34, 35, 7, 36, 37, 38, 39, 40, 41, 42, 14, 43, 44, 49, 50, 51, 52, 53, 54, 55, 56, 57, 58, 59, 60, 61, 62, 63, 64, 65, 66] (by decide +kernel) (by decide +kernel)
set_option maxRecDepth 20000 in
theorem gX7_run_X7_playIn : GoodIn wsX7_run (wsV RX7 105 RX7 yX7_playIn wsX7_playIn) := goodIn_app (goodIn_of _ (by decide +kernel)) ggX7_run_X7_playIn
set_option maxRecDepth 20000 in
theorem ggX7_run_X7_become : GoodIn wsX7_run wsX7_become := goodIn_r _ [48, 9, 2, 16, 17, 7, 18, 49, 50, 51, 52, 53, 54, 55, 56, 57, 58, 59, 60, 61, 62, 63, 64, 65, 66] (by decide +kernel) (by decide +kernel)
set_option maxRecDepth 20000 in
theorem gX7_run_X7_become : GoodIn wsX7_run (wsV RX7 98 RX7 yX7_become wsX7_become) := goodIn_app (goodIn_of _ (by decide +kernel)) ggX7_run_X7_become
theorem dX7_run_0 : decode cX7_run 0 = .ok (.aload_n 0, 1) := by decide +kernel
theorem dX7_run_1 : decode cX7_run 1 = .ok (.iload_n 1, 1) := by decide +kernel
theorem dX7_run_2 : decode cX7_run 2 = .ok (.ifCond .lt 10, 3) := by decide +kernel
theorem dX7_run_5 : decode cX7_run 5 = .ok (.iload_n 1, 1) := by decide +kernel
theorem dX7_run_6 : decode cX7_run 6 = .ok (.sipush 500, 3) := by decide +kernel
theorem dX7_run_9 : decode cX7_run 9 = .ok (.if_icmp .le 7, 3) := by decide +kernel
theorem dX7_run_12 : decode cX7_run 12 = .ok (.iconst 1, 1) := by decide +kernel
theorem dX7_run_13 : decode cX7_run 13 = .ok (.goto 4, 3) := by decide +kernel
theorem dX7_run_16 : decode cX7_run 16 = .ok (.iconst 0, 1) := by decide +kernel
theorem dX7_run_17 : decode cX7_run 17 = .ok (.putfield 45, 3) := by decide +kernel
theorem dX7_run_20 : decode cX7_run 20 = .ok (.aload_n 0, 1) := by decide +kernel
theorem dX7_run_21 : decode cX7_run 21 = .ok (.getfield 45, 3) := by decide +kernel
theorem dX7_run_24 : decode cX7_run 24 = .ok (.ifCond .eq 5, 3) := by decide +kernel
theorem dX7_run_27 : decode cX7_run 27 = .ok (.iconst 0, 1) := by decide +kernel
theorem dX7_run_28 : decode cX7_run 28 = .ok (.ireturn, 1) := by decide +kernel
theorem dX7_run_29 : decode cX7_run 29 = .ok (.iconst 0, 1) := by decide +kernel
theorem dX7_run_30 : decode cX7_run 30 = .ok (.istore_n 2, 1) := by decide +kernel
theorem dX7_run_31 : decode cX7_run 31 = .ok (.aload_n 0, 1) := by decide +kernel
theorem dX7_run_32 : decode cX7_run 32 = .ok (.getfield 74, 3) := by decide +kernel
theorem dX7_run_35 : decode cX7_run 35 = .ok (.ifCond .eq 37, 3) := by decide +kernel
theorem dX7_run_38 : decode cX7_run 38 = .ok (.iload_n 2, 1) := by decide +kernel
theorem dX7_run_39 : decode cX7_run 39 = .ok (.iload_n 1, 1) := by decide +kernel
theorem dX7_run_40 : decode cX7_run 40 = .ok (.if_icmp .ge 32, 3) := by decide +kernel
theorem dX7_run_43 : decode cX7_run 43 = .ok (.aload_n 0, 1) := by decide +kernel
theorem dX7_run_44 : decode cX7_run 44 = .ok (.aload_n 0, 1) := by decide +kernel
theorem dX7_run_45 : decode cX7_run 45 = .ok (.aload_n 0, 1) := by decide +kernel
theorem dX7_run_46 : decode cX7_run 46 = .ok (.invokevirtual 94, 3) := by decide +kernel
theorem dX7_run_49 : decode cX7_run 49 = .ok (.aload_n 0, 1) := by decide +kernel
theorem dX7_run_50 : decode cX7_run 50 = .ok (.aload_n 0, 1) := by decide +kernel
theorem dX7_run_51 : decode cX7_run 51 = .ok (.invokevirtual 94, 3) := by decide +kernel
theorem dX7_run_54 : decode cX7_run 54 = .ok (.invokevirtual 102, 3) := by decide +kernel
theorem dX7_run_57 : decode cX7_run 57 = .ok (.invokestatic 108, 3) := by decide +kernel
theorem dX7_run_60 : decode cX7_run 60 = .ok (.invokevirtual 105, 3) := by decide +kernel
theorem dX7_run_63 : decode cX7_run 63 = .ok (.invokevirtual 98, 3) := by decide +kernel
theorem dX7_run_66 : decode cX7_run 66 = .ok (.iinc 2 1, 3) := by decide +kernel
theorem dX7_run_69 : decode cX7_run 69 = .ok (.goto (-38), 3) := by decide +kernel
theorem dX7_run_72 : decode cX7_run 72 = .ok (.aload_n 0, 1) := by decide +kernel
theorem dX7_run_73 : decode cX7_run 73 = .ok (.iconst 0, 1) := by decide +kernel
theorem dX7_run_74 : decode cX7_run 74 = .ok (.putfield 67, 3) := by decide +kernel
theorem dX7_run_77 : decode cX7_run 77 = .ok (.iload_n 2, 1) := by decide +kernel
theorem dX7_run_78 : decode cX7_run 78 = .ok (.ireturn, 1) := by decide +kernel
theorem dX7_numberOf_0 : decode cX7_numberOf 0 = .ok (.iconst 0, 1) := by decide +kernel
theorem dX7_numberOf_1 : decode cX7_numberOf 1 = .ok (.istore_n 2, 1) := by decide +kernel
theorem dX7_numberOf_2 : decode cX7_numberOf 2 = .ok (.iload_n 2, 1) := by decide +kernel
theorem dX7_numberOf_3 : decode cX7_numberOf 3 = .ok (.aload_n 0, 1) := by decide +kernel
theorem dX7_numberOf_4 : decode cX7_numberOf 4 = .ok (.getfield 113, 3) := by decide +kernel
theorem dX7_numberOf_7 : decode cX7_numberOf 7 = .ok (.if_icmp .ge 21, 3) := by decide +kernel
theorem dX7_numberOf_10 : decode cX7_numberOf 10 = .ok (.aload_n 0, 1) := by decide +kernel
theorem dX7_numberOf_11 : decode cX7_numberOf 11 = .ok (.getfield 32, 3) := by decide +kernel
theorem dX7_numberOf_14 : decode cX7_numberOf 14 = .ok (.iload_n 2, 1) := by decide +kernel
theorem dX7_numberOf_15 : decode cX7_numberOf 15 = .ok (.iaload, 1) := by decide +kernel
theorem dX7_numberOf_16 : decode cX7_numberOf 16 = .ok (.iload_n 1, 1) := by decide +kernel
theorem dX7_numberOf_17 : decode cX7_numberOf 17 = .ok (.if_icmp .ne 5, 3) := by decide +kernel
theorem dX7_numberOf_20 : decode cX7_numberOf 20 = .ok (.iload_n 2, 1) := by decide +kernel
theorem dX7_numberOf_21 : decode cX7_numberOf 21 = .ok (.ireturn, 1) := by decide +kernel
theorem dX7_numberOf_22 : decode cX7_numberOf 22 = .ok (.iinc 2 1, 3) := by decide +kernel
theorem dX7_numberOf_25 : decode cX7_numberOf 25 = .ok (.goto (-23), 3) := by decide +kernel
theorem dX7_numberOf_28 : decode cX7_numberOf 28 = .ok (.iconst (-1), 1) := by decide +kernel
theorem dX7_numberOf_29 : decode cX7_numberOf 29 = .ok (.ireturn, 1) := by decide +kernel
set_option maxRecDepth 20000 in
theorem ggX7_exploreAll_X7_now : GoodIn wsX7_exploreAll wsX7_now := goodIn_r _ [10, 11, 12, 47, 48, 49, 50, 51, 52, 53, 54, 55, 56, 57, 58, 59, 60, 61, 62, 63, 64] (by decide +kernel) (by decide +kernel)
set_option maxRecDepth 20000 in
theorem gX7_exploreAll_X7_now : GoodIn wsX7_exploreAll (wsV RX7 94 RX7 yX7_now wsX7_now) := goodIn_app (goodIn_of _ (by decide +kernel)) ggX7_exploreAll_X7_now
set_option maxRecDepth 20000 in
theorem ggX7_exploreAll_X7_readyIn : GoodIn wsX7_exploreAll wsX7_readyIn := goodIn_r _ [16, 17, 18, 19, 20, 9, 21, 22, 23, 24, 47, 48, 49, 50, 51, 52, 53, 54, 55, 56, 57, 58, 59, 60, 61, 62, 63, 64] (by decide +kernel) (by decide +kernel)
set_option maxRecDepth 20000 in
theorem gX7_exploreAll_X7_readyIn : GoodIn wsX7_exploreAll (wsV RX7 102 RX7 yX7_readyIn wsX7_readyIn) := goodIn_app (goodIn_of _ (by decide +kernel)) ggX7_exploreAll_X7_readyIn
set_option maxRecDepth 20000 in
theorem ggX7_exploreAll_X7_has : GoodIn wsX7_exploreAll wsX7_has := goodIn_r _ [24] (by decide +kernel) (by decide +kernel)
set_option maxRecDepth 20000 in
theorem gX7_exploreAll_X7_has : GoodIn wsX7_exploreAll (va_wsS RX7 77 yX7_has wsX7_has) := goodIn_app (goodIn_of _ (by decide +kernel)) ggX7_exploreAll_X7_has
set_option maxRecDepth 20000 in
theorem ggX7_exploreAll_X7_playIn : GoodIn wsX7_exploreAll wsX7_playIn := goodIn_r _ [28, 29, 30, 31, 32, 33, 9, 34, 35, 36, 37, 38, 39, 40, 17, 41, 42, 47, 48, 49, 50, 51, 52, 53, 54, 55, 56, 57, 58, 59, 60, 61, 62, 63, 64] (by decide +kernel) (by decide +kernel)
set_option maxRecDepth 20000 in
theorem gX7_exploreAll_X7_playIn : GoodIn wsX7_exploreAll (wsV RX7 105 RX7 yX7_playIn wsX7_playIn) := goodIn_app (goodIn_of _ (by decide +kernel)) ggX7_exploreAll_X7_playIn
set_option maxRecDepth 20000 in
theorem ggX7_exploreAll_X7_numberOf : GoodIn wsX7_exploreAll wsX7_numberOf := goodIn_r _ [46, 4, 3, 47, 48, 49, 50, 51, 52, 53, 54, 55, 56, 57, 58, 59, 60, 61, 62, 63, 64] (by decide +kernel) (by decide +kernel)
set_option maxRecDepth 20000 in
theorem gX7_exploreAll_X7_numberOf : GoodIn wsX7_exploreAll (wsV RX7 119 RX7 yX7_numberOf wsX7_numberOf) := goodIn_app (goodIn_of _ (by decide +kernel)) ggX7_exploreAll_X7_numberOf
theorem dX7_exploreAll_0 : decode cX7_exploreAll 0 = .ok (.aload_n 0, 1) := by decide +kernel
theorem dX7_exploreAll_1 : decode cX7_exploreAll 1 = .ok (.iconst 1, 1) := by decide +kernel
theorem dX7_exploreAll_2 : decode cX7_exploreAll 2 = .ok (.putfield 67, 3) := by decide +kernel
theorem dX7_exploreAll_5 : decode cX7_exploreAll 5 = .ok (.aload_n 0, 1) := by decide +kernel
theorem dX7_exploreAll_6 : decode cX7_exploreAll 6 = .ok (.iconst 0, 1) := by decide +kernel
theorem dX7_exploreAll_7 : decode cX7_exploreAll 7 = .ok (.putfield 116, 3) := by decide +kernel
theorem dX7_exploreAll_10 : decode cX7_exploreAll 10 = .ok (.aload_n 0, 1) := by decide +kernel
theorem dX7_exploreAll_11 : decode cX7_exploreAll 11 = .ok (.getfield 32, 3) := by decide +kernel
theorem dX7_exploreAll_14 : decode cX7_exploreAll 14 = .ok (.iconst 0, 1) := by decide +kernel
theorem dX7_exploreAll_15 : decode cX7_exploreAll 15 = .ok (.aload_n 0, 1) := by decide +kernel
theorem dX7_exploreAll_16 : decode cX7_exploreAll 16 = .ok (.invokevirtual 94, 3) := by decide +kernel
theorem dX7_exploreAll_19 : decode cX7_exploreAll 19 = .ok (.iastore, 1) := by decide +kernel
theorem dX7_exploreAll_20 : decode cX7_exploreAll 20 = .ok (.aload_n 0, 1) := by decide +kernel
theorem dX7_exploreAll_21 : decode cX7_exploreAll 21 = .ok (.iconst 1, 1) := by decide +kernel
theorem dX7_exploreAll_22 : decode cX7_exploreAll 22 = .ok (.putfield 113, 3) := by decide +kernel
theorem dX7_exploreAll_25 : decode cX7_exploreAll 25 = .ok (.iconst 0, 1) := by decide +kernel
theorem dX7_exploreAll_26 : decode cX7_exploreAll 26 = .ok (.istore_n 1, 1) := by decide +kernel
theorem dX7_exploreAll_27 : decode cX7_exploreAll 27 = .ok (.iload_n 1, 1) := by decide +kernel
theorem dX7_exploreAll_28 : decode cX7_exploreAll 28 = .ok (.aload_n 0, 1) := by decide +kernel
theorem dX7_exploreAll_29 : decode cX7_exploreAll 29 = .ok (.getfield 113, 3) := by decide +kernel
theorem dX7_exploreAll_32 : decode cX7_exploreAll 32 = .ok (.if_icmp .ge 141, 3) := by decide +kernel
theorem dX7_exploreAll_35 : decode cX7_exploreAll 35 = .ok (.iconst 0, 1) := by decide +kernel
theorem dX7_exploreAll_36 : decode cX7_exploreAll 36 = .ok (.istore_n 2, 1) := by decide +kernel
theorem dX7_exploreAll_37 : decode cX7_exploreAll 37 = .ok (.iload_n 2, 1) := by decide +kernel
theorem dX7_exploreAll_38 : decode cX7_exploreAll 38 = .ok (.bipush 8, 2) := by decide +kernel
theorem dX7_exploreAll_40 : decode cX7_exploreAll 40 = .ok (.if_icmp .ge 127, 3) := by decide +kernel
theorem dX7_exploreAll_43 : decode cX7_exploreAll 43 = .ok (.aload_n 0, 1) := by decide +kernel
theorem dX7_exploreAll_44 : decode cX7_exploreAll 44 = .ok (.getfield 35, 3) := by decide +kernel
theorem dX7_exploreAll_47 : decode cX7_exploreAll 47 = .ok (.bipush 8, 2) := by decide +kernel
theorem dX7_exploreAll_49 : decode cX7_exploreAll 49 = .ok (.iload_n 1, 1) := by decide +kernel
theorem dX7_exploreAll_50 : decode cX7_exploreAll 50 = .ok (.imul, 1) := by decide +kernel
theorem dX7_exploreAll_51 : decode cX7_exploreAll 51 = .ok (.iload_n 2, 1) := by decide +kernel
theorem dX7_exploreAll_52 : decode cX7_exploreAll 52 = .ok (.iadd, 1) := by decide +kernel
theorem dX7_exploreAll_53 : decode cX7_exploreAll 53 = .ok (.iconst (-1), 1) := by decide +kernel
theorem dX7_exploreAll_54 : decode cX7_exploreAll 54 = .ok (.iastore, 1) := by decide +kernel
theorem dX7_exploreAll_55 : decode cX7_exploreAll 55 = .ok (.aload_n 0, 1) := by decide +kernel
theorem dX7_exploreAll_56 : decode cX7_exploreAll 56 = .ok (.aload_n 0, 1) := by decide +kernel
theorem dX7_exploreAll_57 : decode cX7_exploreAll 57 = .ok (.getfield 32, 3) := by decide +kernel
theorem dX7_exploreAll_60 : decode cX7_exploreAll 60 = .ok (.iload_n 1, 1) := by decide +kernel
theorem dX7_exploreAll_61 : decode cX7_exploreAll 61 = .ok (.iaload, 1) := by decide +kernel
theorem dX7_exploreAll_62 : decode cX7_exploreAll 62 = .ok (.invokevirtual 102, 3) := by decide +kernel
theorem dX7_exploreAll_65 : decode cX7_exploreAll 65 = .ok (.iload_n 2, 1) := by decide +kernel
theorem dX7_exploreAll_66 : decode cX7_exploreAll 66 = .ok (.invokestatic 77, 3) := by decide +kernel
theorem dX7_exploreAll_69 : decode cX7_exploreAll 69 = .ok (.ifCond .ne 6, 3) := by decide +kernel
theorem dX7_exploreAll_72 : decode cX7_exploreAll 72 = .ok (.goto 89, 3) := by decide +kernel
theorem dX7_exploreAll_75 : decode cX7_exploreAll 75 = .ok (.aload_n 0, 1) := by decide +kernel
theorem dX7_exploreAll_76 : decode cX7_exploreAll 76 = .ok (.aload_n 0, 1) := by decide +kernel
theorem dX7_exploreAll_77 : decode cX7_exploreAll 77 = .ok (.getfield 32, 3) := by decide +kernel
theorem dX7_exploreAll_80 : decode cX7_exploreAll 80 = .ok (.iload_n 1, 1) := by decide +kernel
theorem dX7_exploreAll_81 : decode cX7_exploreAll 81 = .ok (.iaload, 1) := by decide +kernel
theorem dX7_exploreAll_82 : decode cX7_exploreAll 82 = .ok (.iload_n 2, 1) := by decide +kernel
theorem dX7_exploreAll_83 : decode cX7_exploreAll 83 = .ok (.invokevirtual 105, 3) := by decide +kernel
theorem dX7_exploreAll_86 : decode cX7_exploreAll 86 = .ok (.istore_n 3, 1) := by decide +kernel
theorem dX7_exploreAll_87 : decode cX7_exploreAll 87 = .ok (.aload_n 0, 1) := by decide +kernel
theorem dX7_exploreAll_88 : decode cX7_exploreAll 88 = .ok (.iload_n 3, 1) := by decide +kernel
theorem dX7_exploreAll_89 : decode cX7_exploreAll 89 = .ok (.invokevirtual 119, 3) := by decide +kernel
theorem dX7_exploreAll_92 : decode cX7_exploreAll 92 = .ok (.istore 4, 2) := by decide +kernel
theorem dX7_exploreAll_94 : decode cX7_exploreAll 94 = .ok (.iload 4, 2) := by decide +kernel
theorem dX7_exploreAll_96 : decode cX7_exploreAll 96 = .ok (.iconst (-1), 1) := by decide +kernel
theorem dX7_exploreAll_97 : decode cX7_exploreAll 97 = .ok (.if_icmp .ne 19, 3) := by decide +kernel
theorem dX7_exploreAll_100 : decode cX7_exploreAll 100 = .ok (.aload_n 0, 1) := by decide +kernel
theorem dX7_exploreAll_101 : decode cX7_exploreAll 101 = .ok (.getfield 113, 3) := by decide +kernel
theorem dX7_exploreAll_104 : decode cX7_exploreAll 104 = .ok (.sipush 1000, 3) := by decide +kernel
theorem dX7_exploreAll_107 : decode cX7_exploreAll 107 = .ok (.if_icmp .ne 9, 3) := by decide +kernel
theorem dX7_exploreAll_110 : decode cX7_exploreAll 110 = .ok (.aload_n 0, 1) := by decide +kernel
theorem dX7_exploreAll_111 : decode cX7_exploreAll 111 = .ok (.iconst 1, 1) := by decide +kernel
theorem dX7_exploreAll_112 : decode cX7_exploreAll 112 = .ok (.putfield 116, 3) := by decide +kernel
theorem dX7_exploreAll_115 : decode cX7_exploreAll 115 = .ok (.return_, 1) := by decide +kernel
theorem dX7_exploreAll_116 : decode cX7_exploreAll 116 = .ok (.iload 4, 2) := by decide +kernel
theorem dX7_exploreAll_118 : decode cX7_exploreAll 118 = .ok (.iconst (-1), 1) := by decide +kernel
theorem dX7_exploreAll_119 : decode cX7_exploreAll 119 = .ok (.if_icmp .ne 29, 3) := by decide +kernel
theorem dX7_exploreAll_122 : decode cX7_exploreAll 122 = .ok (.aload_n 0, 1) := by decide +kernel
theorem dX7_exploreAll_123 : decode cX7_exploreAll 123 = .ok (.getfield 113, 3) := by decide +kernel
theorem dX7_exploreAll_126 : decode cX7_exploreAll 126 = .ok (.istore 4, 2) := by decide +kernel
theorem dX7_exploreAll_128 : decode cX7_exploreAll 128 = .ok (.aload_n 0, 1) := by decide +kernel
theorem dX7_exploreAll_129 : decode cX7_exploreAll 129 = .ok (.getfield 32, 3) := by decide +kernel
theorem dX7_exploreAll_132 : decode cX7_exploreAll 132 = .ok (.aload_n 0, 1) := by decide +kernel
theorem dX7_exploreAll_133 : decode cX7_exploreAll 133 = .ok (.getfield 113, 3) := by decide +kernel
theorem dX7_exploreAll_136 : decode cX7_exploreAll 136 = .ok (.iload_n 3, 1) := by decide +kernel
theorem dX7_exploreAll_137 : decode cX7_exploreAll 137 = .ok (.iastore, 1) := by decide +kernel
theorem dX7_exploreAll_138 : decode cX7_exploreAll 138 = .ok (.aload_n 0, 1) := by decide +kernel
theorem dX7_exploreAll_139 : decode cX7_exploreAll 139 = .ok (.dup, 1) := by decide +kernel
theorem dX7_exploreAll_140 : decode cX7_exploreAll 140 = .ok (.getfield 113, 3) := by decide +kernel
theorem dX7_exploreAll_143 : decode cX7_exploreAll 143 = .ok (.iconst 1, 1) := by decide +kernel
theorem dX7_exploreAll_144 : decode cX7_exploreAll 144 = .ok (.iadd, 1) := by decide +kernel
theorem dX7_exploreAll_145 : decode cX7_exploreAll 145 = .ok (.putfield 113, 3) := by decide +kernel
theorem dX7_exploreAll_148 : decode cX7_exploreAll 148 = .ok (.aload_n 0, 1) := by decide +kernel
theorem dX7_exploreAll_149 : decode cX7_exploreAll 149 = .ok (.getfield 35, 3) := by decide +kernel
theorem dX7_exploreAll_152 : decode cX7_exploreAll 152 = .ok (.bipush 8, 2) := by decide +kernel
theorem dX7_exploreAll_154 : decode cX7_exploreAll 154 = .ok (.iload_n 1, 1) := by decide +kernel
theorem dX7_exploreAll_155 : decode cX7_exploreAll 155 = .ok (.imul, 1) := by decide +kernel
theorem dX7_exploreAll_156 : decode cX7_exploreAll 156 = .ok (.iload_n 2, 1) := by decide +kernel
theorem dX7_exploreAll_157 : decode cX7_exploreAll 157 = .ok (.iadd, 1) := by decide +kernel
theorem dX7_exploreAll_158 : decode cX7_exploreAll 158 = .ok (.iload 4, 2) := by decide +kernel
theorem dX7_exploreAll_160 : decode cX7_exploreAll 160 = .ok (.iastore, 1) := by decide +kernel
theorem dX7_exploreAll_161 : decode cX7_exploreAll 161 = .ok (.iinc 2 1, 3) := by decide +kernel
theorem dX7_exploreAll_164 : decode cX7_exploreAll 164 = .ok (.goto (-127), 3) := by decide +kernel
theorem dX7_exploreAll_167 : decode cX7_exploreAll 167 = .ok (.iinc 1 1, 3) := by decide +kernel
theorem dX7_exploreAll_170 : decode cX7_exploreAll 170 = .ok (.goto (-143), 3) := by decide +kernel
theorem dX7_exploreAll_173 : decode cX7_exploreAll 173 = .ok (.return_, 1) := by decide +kernel
set_option maxRecDepth 20000 in
theorem ggX7_explore_X7_exploreAll : GoodIn wsX7_explore wsX7_exploreAll := goodIn_r _ [9, 2, 3, 10, 4, 11, 12, 13, 14, 8, 15, 16, 17, 18, 19, 20, 21, 22, 23, 24, 25, 26, 27, 28, 29, 30, 31, 32, 33, 34, 35, 36, 37, 38, 39, 40, 41, 42, 43, 44, 45, 46, 47, 48, 49, 50, 51, 52, 53, 54, 55, 56, 57, 58, 59, 60, 61, 62, 63, 64, 65, 66, 67, 68, 69] (by decide +kernel) (by decide +kernel)
set_option maxRecDepth 20000 in
theorem gX7_explore_X7_exploreAll : GoodIn wsX7_explore (wsV RX7 122 RX7 yX7_exploreAll wsX7_exploreAll) := goodIn_app (goodIn_of _ (by decide +kernel)) ggX7_explore_X7_exploreAll
theorem dX7_explore_0 : decode cX7_explore 0 = .ok (.aload_n 0, 1) := by decide +kernel
theorem dX7_explore_1 : decode cX7_explore 1 = .ok (.iconst 0, 1) := by decide +kernel
theorem dX7_explore_2 : decode cX7_explore 2 = .ok (.putfield 45, 3) := by decide +kernel
theorem dX7_explore_5 : decode cX7_explore 5 = .ok (.aload_n 0, 1) := by decide +kernel
theorem dX7_explore_6 : decode cX7_explore 6 = .ok (.getfield 67, 3) := by decide +kernel
theorem dX7_explore_9 : decode cX7_explore 9 = .ok (.ifCond .ne 7, 3) := by decide +kernel
theorem dX7_explore_12 : decode cX7_explore 12 = .ok (.aload_n 0, 1) := by decide +kernel
theorem dX7_explore_13 : decode cX7_explore 13 = .ok (.invokevirtual 122, 3) := by decide +kernel
theorem dX7_explore_16 : decode cX7_explore 16 = .ok (.aload_n 0, 1) := by decide +kernel
theorem dX7_explore_17 : decode cX7_explore 17 = .ok (.getfield 116, 3) := by decide +kernel
theorem dX7_explore_20 : decode cX7_explore 20 = .ok (.ifCond .eq 7, 3) := by decide +kernel
theorem dX7_explore_23 : decode cX7_explore 23 = .ok (.iconst (-1), 1) := by decide +kernel
theorem dX7_explore_24 : decode cX7_explore 24 = .ok (.goto 7, 3) := by decide +kernel
theorem dX7_explore_27 : decode cX7_explore 27 = .ok (.aload_n 0, 1) := by decide +kernel
theorem dX7_explore_28 : decode cX7_explore 28 = .ok (.getfield 113, 3) := by decide +kernel
theorem dX7_explore_31 : decode cX7_explore 31 = .ok (.ireturn, 1) := by decide +kernel
theorem dX7_isWhole_0 : decode cX7_isWhole 0 = .ok (.aload_n 0, 1) := by decide +kernel
theorem dX7_isWhole_1 : decode cX7_isWhole 1 = .ok (.getfield 67, 3) := by decide +kernel
theorem dX7_isWhole_4 : decode cX7_isWhole 4 = .ok (.ifCond .eq 14, 3) := by decide +kernel
theorem dX7_isWhole_7 : decode cX7_isWhole 7 = .ok (.aload_n 0, 1) := by decide +kernel
theorem dX7_isWhole_8 : decode cX7_isWhole 8 = .ok (.getfield 116, 3) := by decide +kernel
theorem dX7_isWhole_11 : decode cX7_isWhole 11 = .ok (.ifCond .ne 7, 3) := by decide +kernel
theorem dX7_isWhole_14 : decode cX7_isWhole 14 = .ok (.iconst 1, 1) := by decide +kernel
theorem dX7_isWhole_15 : decode cX7_isWhole 15 = .ok (.goto 4, 3) := by decide +kernel
theorem dX7_isWhole_18 : decode cX7_isWhole 18 = .ok (.iconst 0, 1) := by decide +kernel
theorem dX7_isWhole_19 : decode cX7_isWhole 19 = .ok (.ireturn, 1) := by decide +kernel
set_option maxRecDepth 20000 in
theorem ggX7_asks_X7_isWhole : GoodIn wsX7_asks wsX7_isWhole := goodIn_r _ [6, 7, 8, 9, 10, 11, 12, 13, 14, 15, 16, 17, 18, 19, 20, 21, 22, 23, 24, 25, 26] (by decide +kernel) (by decide +kernel)
set_option maxRecDepth 20000 in
theorem gX7_asks_X7_isWhole : GoodIn wsX7_asks (wsV RX7 125 RX7 yX7_isWhole wsX7_isWhole) := goodIn_app (goodIn_of _ (by decide +kernel)) ggX7_asks_X7_isWhole
theorem dX7_asks_0 : decode cX7_asks 0 = .ok (.aload_n 0, 1) := by decide +kernel
theorem dX7_asks_1 : decode cX7_asks 1 = .ok (.aload_n 0, 1) := by decide +kernel
theorem dX7_asks_2 : decode cX7_asks 2 = .ok (.invokevirtual 125, 3) := by decide +kernel
theorem dX7_asks_5 : decode cX7_asks 5 = .ok (.ifCond .ne 7, 3) := by decide +kernel
theorem dX7_asks_8 : decode cX7_asks 8 = .ok (.iconst 1, 1) := by decide +kernel
theorem dX7_asks_9 : decode cX7_asks 9 = .ok (.goto 17, 3) := by decide +kernel
theorem dX7_asks_12 : decode cX7_asks 12 = .ok (.iload_n 1, 1) := by decide +kernel
theorem dX7_asks_13 : decode cX7_asks 13 = .ok (.ifCond .lt 8, 3) := by decide +kernel
theorem dX7_asks_16 : decode cX7_asks 16 = .ok (.iload_n 1, 1) := by decide +kernel
theorem dX7_asks_17 : decode cX7_asks 17 = .ok (.iload_n 2, 1) := by decide +kernel
theorem dX7_asks_18 : decode cX7_asks 18 = .ok (.if_icmp .lt 7, 3) := by decide +kernel
theorem dX7_asks_21 : decode cX7_asks 21 = .ok (.iconst 2, 1) := by decide +kernel
theorem dX7_asks_22 : decode cX7_asks 22 = .ok (.goto 4, 3) := by decide +kernel
theorem dX7_asks_25 : decode cX7_asks 25 = .ok (.iconst 0, 1) := by decide +kernel
theorem dX7_asks_26 : decode cX7_asks 26 = .ok (.putfield 45, 3) := by decide +kernel
theorem dX7_asks_29 : decode cX7_asks 29 = .ok (.aload_n 0, 1) := by decide +kernel
theorem dX7_asks_30 : decode cX7_asks 30 = .ok (.getfield 45, 3) := by decide +kernel
theorem dX7_asks_33 : decode cX7_asks 33 = .ok (.ifCond .ne 7, 3) := by decide +kernel
theorem dX7_asks_36 : decode cX7_asks 36 = .ok (.iconst 1, 1) := by decide +kernel
theorem dX7_asks_37 : decode cX7_asks 37 = .ok (.goto 4, 3) := by decide +kernel
theorem dX7_asks_40 : decode cX7_asks 40 = .ok (.iconst 0, 1) := by decide +kernel
theorem dX7_asks_41 : decode cX7_asks 41 = .ok (.ireturn, 1) := by decide +kernel
set_option maxRecDepth 20000 in
theorem ggX7_factsOf_X7_asks : GoodIn wsX7_factsOf wsX7_asks := goodIn_r _ [7, 8, 9, 10, 11, 6, 12, 13, 14, 15, 16, 17, 18, 19, 20, 21, 22, 23, 24, 25, 26, 27, 28, 29, 30, 31, 32] (by decide +kernel) (by decide +kernel)
set_option maxRecDepth 20000 in
theorem gX7_factsOf_X7_asks : GoodIn wsX7_factsOf (wsV RX7 129 RX7 yX7_asks wsX7_asks) := goodIn_app (goodIn_of _ (by decide +kernel)) ggX7_factsOf_X7_asks
theorem dX7_factsOf_0 : decode cX7_factsOf 0 = .ok (.aload_n 0, 1) := by decide +kernel
theorem dX7_factsOf_1 : decode cX7_factsOf 1 = .ok (.iload_n 1, 1) := by decide +kernel
theorem dX7_factsOf_2 : decode cX7_factsOf 2 = .ok (.aload_n 0, 1) := by decide +kernel
theorem dX7_factsOf_3 : decode cX7_factsOf 3 = .ok (.getfield 113, 3) := by decide +kernel
theorem dX7_factsOf_6 : decode cX7_factsOf 6 = .ok (.invokevirtual 129, 3) := by decide +kernel
theorem dX7_factsOf_9 : decode cX7_factsOf 9 = .ok (.ifCond .eq 15, 3) := by decide +kernel
theorem dX7_factsOf_12 : decode cX7_factsOf 12 = .ok (.aload_n 0, 1) := by decide +kernel
theorem dX7_factsOf_13 : decode cX7_factsOf 13 = .ok (.getfield 32, 3) := by decide +kernel
theorem dX7_factsOf_16 : decode cX7_factsOf 16 = .ok (.iload_n 1, 1) := by decide +kernel
theorem dX7_factsOf_17 : decode cX7_factsOf 17 = .ok (.iaload, 1) := by decide +kernel
theorem dX7_factsOf_18 : decode cX7_factsOf 18 = .ok (.bipush 8, 2) := by decide +kernel
theorem dX7_factsOf_20 : decode cX7_factsOf 20 = .ok (.ishr, 1) := by decide +kernel
theorem dX7_factsOf_21 : decode cX7_factsOf 21 = .ok (.goto 4, 3) := by decide +kernel
theorem dX7_factsOf_24 : decode cX7_factsOf 24 = .ok (.iconst 0, 1) := by decide +kernel
theorem dX7_factsOf_25 : decode cX7_factsOf 25 = .ok (.ireturn, 1) := by decide +kernel
set_option maxRecDepth 20000 in
theorem ggX7_triggeredOf_X7_asks : GoodIn wsX7_triggeredOf wsX7_asks := goodIn_r _ [7, 8, 9, 10, 11, 6, 12, 13, 14, 18, 19, 20, 21, 22, 23, 24, 25, 26, 27, 28, 29, 30, 31, 32, 33, 34, 35] (by decide +kernel) (by decide +kernel)
set_option maxRecDepth 20000 in
theorem gX7_triggeredOf_X7_asks : GoodIn wsX7_triggeredOf (wsV RX7 129 RX7 yX7_asks wsX7_asks) := goodIn_app (goodIn_of _ (by decide +kernel)) ggX7_triggeredOf_X7_asks
set_option maxRecDepth 20000 in
theorem ggX7_triggeredOf_X7_triggeredIn : GoodIn wsX7_triggeredOf wsX7_triggeredIn := goodIn_r _ [17] (by decide +kernel) (by decide +kernel)
set_option maxRecDepth 20000 in
theorem gX7_triggeredOf_X7_triggeredIn : GoodIn wsX7_triggeredOf (va_wsS RX7 81 yX7_triggeredIn wsX7_triggeredIn) := goodIn_app (goodIn_of _ (by decide +kernel)) ggX7_triggeredOf_X7_triggeredIn
theorem dX7_triggeredOf_0 : decode cX7_triggeredOf 0 = .ok (.aload_n 0, 1) := by decide +kernel
theorem dX7_triggeredOf_1 : decode cX7_triggeredOf 1 = .ok (.iload_n 1, 1) := by decide +kernel
theorem dX7_triggeredOf_2 : decode cX7_triggeredOf 2 = .ok (.aload_n 0, 1) := by decide +kernel
theorem dX7_triggeredOf_3 : decode cX7_triggeredOf 3 = .ok (.getfield 113, 3) := by decide +kernel
theorem dX7_triggeredOf_6 : decode cX7_triggeredOf 6 = .ok (.invokevirtual 129, 3) := by decide +kernel
theorem dX7_triggeredOf_9 : decode cX7_triggeredOf 9 = .ok (.ifCond .eq 15, 3) := by decide +kernel
theorem dX7_triggeredOf_12 : decode cX7_triggeredOf 12 = .ok (.aload_n 0, 1) := by decide +kernel
theorem dX7_triggeredOf_13 : decode cX7_triggeredOf 13 = .ok (.getfield 32, 3) := by decide +kernel
theorem dX7_triggeredOf_16 : decode cX7_triggeredOf 16 = .ok (.iload_n 1, 1) := by decide +kernel
theorem dX7_triggeredOf_17 : decode cX7_triggeredOf 17 = .ok (.iaload, 1) := by decide +kernel
theorem dX7_triggeredOf_18 : decode cX7_triggeredOf 18 = .ok (.invokestatic 81, 3) := by decide +kernel
theorem dX7_triggeredOf_21 : decode cX7_triggeredOf 21 = .ok (.goto 4, 3) := by decide +kernel
theorem dX7_triggeredOf_24 : decode cX7_triggeredOf 24 = .ok (.iconst 0, 1) := by decide +kernel
theorem dX7_triggeredOf_25 : decode cX7_triggeredOf 25 = .ok (.ireturn, 1) := by decide +kernel
set_option maxRecDepth 20000 in
theorem ggX7_after_X7_asks : GoodIn wsX7_after wsX7_asks := goodIn_r _ [8, 9, 10, 11, 12, 7, 13, 14, 15, 16, 17, 18, 19, 20, 21, 22, 23, 24, 25, 26, 27, 28, 29, 30, 31, 32, 33] (by decide +kernel) (by decide +kernel)
set_option maxRecDepth 20000 in
theorem gX7_after_X7_asks : GoodIn wsX7_after (wsV RX7 129 RX7 yX7_asks wsX7_asks) := goodIn_app (goodIn_of _ (by decide +kernel)) ggX7_after_X7_asks
theorem dX7_after_0 : decode cX7_after 0 = .ok (.aload_n 0, 1) := by decide +kernel
theorem dX7_after_1 : decode cX7_after 1 = .ok (.iload_n 1, 1) := by decide +kernel
theorem dX7_after_2 : decode cX7_after 2 = .ok (.aload_n 0, 1) := by decide +kernel
theorem dX7_after_3 : decode cX7_after 3 = .ok (.getfield 113, 3) := by decide +kernel
theorem dX7_after_6 : decode cX7_after 6 = .ok (.invokevirtual 129, 3) := by decide +kernel
