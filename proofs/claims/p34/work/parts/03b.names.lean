theorem dX1_expand_16 : decode cX1_expand 16 = .ok (.iload_n 1, 1) := by decide +kernel
theorem dX1_expand_17 : decode cX1_expand 17 = .ok (.iaload, 1) := by decide +kernel
theorem dX1_expand_18 : decode cX1_expand 18 = .ok (.istore_n 2, 1) := by decide +kernel
theorem dX1_expand_19 : decode cX1_expand 19 = .ok (.aload_n 0, 1) := by decide +kernel
theorem dX1_expand_20 : decode cX1_expand 20 = .ok (.getfield 38, 3) := by decide +kernel
theorem dX1_expand_23 : decode cX1_expand 23 = .ok (.iload_n 2, 1) := by decide +kernel
theorem dX1_expand_24 : decode cX1_expand 24 = .ok (.invokevirtual 79, 3) := by decide +kernel
theorem dX1_expand_27 : decode cX1_expand 27 = .ok (.istore_n 3, 1) := by decide +kernel
theorem dX1_expand_28 : decode cX1_expand 28 = .ok (.aload_n 0, 1) := by decide +kernel
theorem dX1_expand_29 : decode cX1_expand 29 = .ok (.dup, 1) := by decide +kernel
theorem dX1_expand_30 : decode cX1_expand 30 = .ok (.getfield 53, 3) := by decide +kernel
theorem dX1_expand_33 : decode cX1_expand 33 = .ok (.iload_n 3, 1) := by decide +kernel
theorem dX1_expand_34 : decode cX1_expand 34 = .ok (.ior, 1) := by decide +kernel
theorem dX1_expand_35 : decode cX1_expand 35 = .ok (.putfield 53, 3) := by decide +kernel
theorem dX1_expand_38 : decode cX1_expand 38 = .ok (.iload_n 3, 1) := by decide +kernel
theorem dX1_expand_39 : decode cX1_expand 39 = .ok (.invokestatic 85, 3) := by decide +kernel
theorem dX1_expand_42 : decode cX1_expand 42 = .ok (.iconst 1, 1) := by decide +kernel
theorem dX1_expand_43 : decode cX1_expand 43 = .ok (.if_icmp .le 13, 3) := by decide +kernel
theorem dX1_expand_46 : decode cX1_expand 46 = .ok (.aload_n 0, 1) := by decide +kernel
theorem dX1_expand_47 : decode cX1_expand 47 = .ok (.dup, 1) := by decide +kernel
theorem dX1_expand_48 : decode cX1_expand 48 = .ok (.getfield 56, 3) := by decide +kernel
theorem dX1_expand_51 : decode cX1_expand 51 = .ok (.iconst 1, 1) := by decide +kernel
theorem dX1_expand_52 : decode cX1_expand 52 = .ok (.iadd, 1) := by decide +kernel
theorem dX1_expand_53 : decode cX1_expand 53 = .ok (.putfield 56, 3) := by decide +kernel
theorem dX1_expand_56 : decode cX1_expand 56 = .ok (.iload_n 2, 1) := by decide +kernel
theorem dX1_expand_57 : decode cX1_expand 57 = .ok (.invokestatic 90, 3) := by decide +kernel
theorem dX1_expand_60 : decode cX1_expand 60 = .ok (.ifCond .ne 20, 3) := by decide +kernel
theorem dX1_expand_63 : decode cX1_expand 63 = .ok (.aload_n 0, 1) := by decide +kernel
theorem dX1_expand_64 : decode cX1_expand 64 = .ok (.getfield 27, 3) := by decide +kernel
theorem dX1_expand_67 : decode cX1_expand 67 = .ok (.iload_n 2, 1) := by decide +kernel
theorem dX1_expand_68 : decode cX1_expand 68 = .ok (.invokestatic 93, 3) := by decide +kernel
theorem dX1_expand_71 : decode cX1_expand 71 = .ok (.aload_n 0, 1) := by decide +kernel
theorem dX1_expand_72 : decode cX1_expand 72 = .ok (.getfield 15, 3) := by decide +kernel
theorem dX1_expand_75 : decode cX1_expand 75 = .ok (.iload_n 1, 1) := by decide +kernel
theorem dX1_expand_76 : decode cX1_expand 76 = .ok (.iaload, 1) := by decide +kernel
theorem dX1_expand_77 : decode cX1_expand 77 = .ok (.invokevirtual 96, 3) := by decide +kernel
theorem dX1_expand_80 : decode cX1_expand 80 = .ok (.iconst 0, 1) := by decide +kernel
theorem dX1_expand_81 : decode cX1_expand 81 = .ok (.istore 4, 2) := by decide +kernel
theorem dX1_expand_83 : decode cX1_expand 83 = .ok (.iload 4, 2) := by decide +kernel
theorem dX1_expand_85 : decode cX1_expand 85 = .ok (.bipush 8, 2) := by decide +kernel
theorem dX1_expand_87 : decode cX1_expand 87 = .ok (.if_icmp .ge 75, 3) := by decide +kernel
theorem dX1_expand_90 : decode cX1_expand 90 = .ok (.aload_n 0, 1) := by decide +kernel
theorem dX1_expand_91 : decode cX1_expand 91 = .ok (.getfield 38, 3) := by decide +kernel
theorem dX1_expand_94 : decode cX1_expand 94 = .ok (.iload 4, 2) := by decide +kernel
theorem dX1_expand_96 : decode cX1_expand 96 = .ok (.invokevirtual 99, 3) := by decide +kernel
theorem dX1_expand_99 : decode cX1_expand 99 = .ok (.astore 5, 2) := by decide +kernel
theorem dX1_expand_101 : decode cX1_expand 101 = .ok (.iconst (-1), 1) := by decide +kernel
theorem dX1_expand_102 : decode cX1_expand 102 = .ok (.istore 6, 2) := by decide +kernel
theorem dX1_expand_104 : decode cX1_expand 104 = .ok (.aload 5, 2) := by decide +kernel
theorem dX1_expand_106 : decode cX1_expand 106 = .ok (.ifnull 37, 3) := by decide +kernel
theorem dX1_expand_109 : decode cX1_expand 109 = .ok (.iload_n 3, 1) := by decide +kernel
theorem dX1_expand_110 : decode cX1_expand 110 = .ok (.aload 5, 2) := by decide +kernel
theorem dX1_expand_112 : decode cX1_expand 112 = .ok (.getfield 103, 3) := by decide +kernel
theorem dX1_expand_115 : decode cX1_expand 115 = .ok (.iand, 1) := by decide +kernel
theorem dX1_expand_116 : decode cX1_expand 116 = .ok (.ifCond .eq 27, 3) := by decide +kernel
theorem dX1_expand_119 : decode cX1_expand 119 = .ok (.aload_n 0, 1) := by decide +kernel
theorem dX1_expand_120 : decode cX1_expand 120 = .ok (.aload_n 0, 1) := by decide +kernel
theorem dX1_expand_121 : decode cX1_expand 121 = .ok (.getfield 38, 3) := by decide +kernel
theorem dX1_expand_124 : decode cX1_expand 124 = .ok (.iload_n 2, 1) := by decide +kernel
theorem dX1_expand_125 : decode cX1_expand 125 = .ok (.aload 5, 2) := by decide +kernel
theorem dX1_expand_127 : decode cX1_expand 127 = .ok (.invokevirtual 108, 3) := by decide +kernel
theorem dX1_expand_130 : decode cX1_expand 130 = .ok (.aload_n 0, 1) := by decide +kernel
theorem dX1_expand_131 : decode cX1_expand 131 = .ok (.getfield 15, 3) := by decide +kernel
theorem dX1_expand_134 : decode cX1_expand 134 = .ok (.iload_n 1, 1) := by decide +kernel
theorem dX1_expand_135 : decode cX1_expand 135 = .ok (.iaload, 1) := by decide +kernel
theorem dX1_expand_136 : decode cX1_expand 136 = .ok (.iconst 1, 1) := by decide +kernel
theorem dX1_expand_137 : decode cX1_expand 137 = .ok (.iadd, 1) := by decide +kernel
theorem dX1_expand_138 : decode cX1_expand 138 = .ok (.invokevirtual 62, 3) := by decide +kernel
theorem dX1_expand_141 : decode cX1_expand 141 = .ok (.istore 6, 2) := by decide +kernel
theorem dX1_expand_143 : decode cX1_expand 143 = .ok (.aload_n 0, 1) := by decide +kernel
theorem dX1_expand_144 : decode cX1_expand 144 = .ok (.iload_n 1, 1) := by decide +kernel
theorem dX1_expand_145 : decode cX1_expand 145 = .ok (.bipush 8, 2) := by decide +kernel
theorem dX1_expand_147 : decode cX1_expand 147 = .ok (.imul, 1) := by decide +kernel
theorem dX1_expand_148 : decode cX1_expand 148 = .ok (.iload 4, 2) := by decide +kernel
theorem dX1_expand_150 : decode cX1_expand 150 = .ok (.iadd, 1) := by decide +kernel
theorem dX1_expand_151 : decode cX1_expand 151 = .ok (.iload 6, 2) := by decide +kernel
theorem dX1_expand_153 : decode cX1_expand 153 = .ok (.invokevirtual 112, 3) := by decide +kernel
theorem dX1_expand_156 : decode cX1_expand 156 = .ok (.iinc 4 1, 3) := by decide +kernel
theorem dX1_expand_159 : decode cX1_expand 159 = .ok (.goto (-76), 3) := by decide +kernel
theorem dX1_expand_162 : decode cX1_expand 162 = .ok (.return_, 1) := by decide +kernel
theorem dX1_keepNext_0 : decode cX1_keepNext 0 = .ok (.iload_n 1, 1) := by decide +kernel
theorem dX1_keepNext_1 : decode cX1_keepNext 1 = .ok (.ifCond .lt 19, 3) := by decide +kernel
theorem dX1_keepNext_4 : decode cX1_keepNext 4 = .ok (.iload_n 1, 1) := by decide +kernel
theorem dX1_keepNext_5 : decode cX1_keepNext 5 = .ok (.aload_n 0, 1) := by decide +kernel
theorem dX1_keepNext_6 : decode cX1_keepNext 6 = .ok (.getfield 18, 3) := by decide +kernel
theorem dX1_keepNext_9 : decode cX1_keepNext 9 = .ok (.arraylength, 1) := by decide +kernel
theorem dX1_keepNext_10 : decode cX1_keepNext 10 = .ok (.if_icmp .ge 10, 3) := by decide +kernel
theorem dX1_keepNext_13 : decode cX1_keepNext 13 = .ok (.aload_n 0, 1) := by decide +kernel
theorem dX1_keepNext_14 : decode cX1_keepNext 14 = .ok (.getfield 18, 3) := by decide +kernel
theorem dX1_keepNext_17 : decode cX1_keepNext 17 = .ok (.iload_n 1, 1) := by decide +kernel
theorem dX1_keepNext_18 : decode cX1_keepNext 18 = .ok (.iload_n 2, 1) := by decide +kernel
theorem dX1_keepNext_19 : decode cX1_keepNext 19 = .ok (.iastore, 1) := by decide +kernel
theorem dX1_keepNext_20 : decode cX1_keepNext 20 = .ok (.return_, 1) := by decide +kernel
theorem dX2_init_0 : decode cX2_init 0 = .ok (.aload_n 0, 1) := by decide +kernel
theorem dX2_init_1 : decode cX2_init 1 = .ok (.invokespecial 3, 3) := by decide +kernel
theorem dX2_init_4 : decode cX2_init 4 = .ok (.aload_n 0, 1) := by decide +kernel
theorem dX2_init_5 : decode cX2_init 5 = .ok (.bipush 8, 2) := by decide +kernel
theorem dX2_init_7 : decode cX2_init 7 = .ok (.newarray .int, 2) := by decide +kernel
theorem dX2_init_9 : decode cX2_init 9 = .ok (.putfield 9, 3) := by decide +kernel
theorem dX2_init_12 : decode cX2_init 12 = .ok (.aload_n 0, 1) := by decide +kernel
theorem dX2_init_13 : decode cX2_init 13 = .ok (.aload_n 1, 1) := by decide +kernel
theorem dX2_init_14 : decode cX2_init 14 = .ok (.putfield 15, 3) := by decide +kernel
theorem dX2_init_17 : decode cX2_init 17 = .ok (.return_, 1) := by decide +kernel
set_option maxRecDepth 20000 in
theorem ggX2_inCircles_X2_spreadReach : GoodIn wsX2_inCircles wsX2_spreadReach := goodIn_r _ [6, 1, 7, 8, 9, 10, 11, 12, 13, 14, 15, 16, 17, 18, 19, 20, 21, 22, 23, 24, 25, 26, 27, 28, 29, 30, 31, 32, 33, 34, 35, 36, 37, 38, 39, 40, 41, 42, 43, 44, 45, 46, 47] (by decide +kernel) (by decide +kernel)
set_option maxRecDepth 20000 in
theorem gX2_inCircles_X2_spreadReach : GoodIn wsX2_inCircles (wsV RX2 19 RX2 yX2_spreadReach wsX2_spreadReach) := goodIn_app (goodIn_of _ (by decide +kernel)) ggX2_inCircles_X2_spreadReach
theorem dX2_inCircles_0 : decode cX2_inCircles 0 = .ok (.aload_n 0, 1) := by decide +kernel
theorem dX2_inCircles_1 : decode cX2_inCircles 1 = .ok (.invokevirtual 19, 3) := by decide +kernel
theorem dX2_inCircles_4 : decode cX2_inCircles 4 = .ok (.iconst 0, 1) := by decide +kernel
theorem dX2_inCircles_5 : decode cX2_inCircles 5 = .ok (.istore_n 1, 1) := by decide +kernel
theorem dX2_inCircles_6 : decode cX2_inCircles 6 = .ok (.iconst 0, 1) := by decide +kernel
theorem dX2_inCircles_7 : decode cX2_inCircles 7 = .ok (.istore_n 2, 1) := by decide +kernel
theorem dX2_inCircles_8 : decode cX2_inCircles 8 = .ok (.iload_n 2, 1) := by decide +kernel
theorem dX2_inCircles_9 : decode cX2_inCircles 9 = .ok (.aload_n 0, 1) := by decide +kernel
theorem dX2_inCircles_10 : decode cX2_inCircles 10 = .ok (.getfield 9, 3) := by decide +kernel
theorem dX2_inCircles_13 : decode cX2_inCircles 13 = .ok (.arraylength, 1) := by decide +kernel
theorem dX2_inCircles_14 : decode cX2_inCircles 14 = .ok (.if_icmp .ge 22, 3) := by decide +kernel
theorem dX2_inCircles_17 : decode cX2_inCircles 17 = .ok (.iload_n 1, 1) := by decide +kernel
theorem dX2_inCircles_18 : decode cX2_inCircles 18 = .ok (.aload_n 0, 1) := by decide +kernel
theorem dX2_inCircles_19 : decode cX2_inCircles 19 = .ok (.getfield 9, 3) := by decide +kernel
theorem dX2_inCircles_22 : decode cX2_inCircles 22 = .ok (.iload_n 2, 1) := by decide +kernel
theorem dX2_inCircles_23 : decode cX2_inCircles 23 = .ok (.iaload, 1) := by decide +kernel
theorem dX2_inCircles_24 : decode cX2_inCircles 24 = .ok (.iconst 1, 1) := by decide +kernel
theorem dX2_inCircles_25 : decode cX2_inCircles 25 = .ok (.iload_n 2, 1) := by decide +kernel
theorem dX2_inCircles_26 : decode cX2_inCircles 26 = .ok (.ishl, 1) := by decide +kernel
theorem dX2_inCircles_27 : decode cX2_inCircles 27 = .ok (.iand, 1) := by decide +kernel
theorem dX2_inCircles_28 : decode cX2_inCircles 28 = .ok (.ior, 1) := by decide +kernel
theorem dX2_inCircles_29 : decode cX2_inCircles 29 = .ok (.istore_n 1, 1) := by decide +kernel
theorem dX2_inCircles_30 : decode cX2_inCircles 30 = .ok (.iinc 2 1, 3) := by decide +kernel
theorem dX2_inCircles_33 : decode cX2_inCircles 33 = .ok (.goto (-25), 3) := by decide +kernel
theorem dX2_inCircles_36 : decode cX2_inCircles 36 = .ok (.iload_n 1, 1) := by decide +kernel
theorem dX2_inCircles_37 : decode cX2_inCircles 37 = .ok (.ireturn, 1) := by decide +kernel
set_option maxRecDepth 20000 in
theorem ggX2_spreadReach_X5_ruleOrNull : GoodIn wsX2_spreadReach wsX5_ruleOrNull := goodIn_r _ [7, 8, 9, 29, 30, 31] (by decide +kernel) (by decide +kernel)
set_option maxRecDepth 20000 in
theorem gX2_spreadReach_X5_ruleOrNull : GoodIn wsX2_spreadReach (wsV RX2 22 RX5 yX5_ruleOrNull wsX5_ruleOrNull) := goodIn_app (goodIn_of _ (by decide +kernel)) ggX2_spreadReach_X5_ruleOrNull
set_option maxRecDepth 20000 in
theorem ggX2_spreadReach_X5_triggerableBy : GoodIn wsX2_spreadReach wsX5_triggerableBy := goodIn_r _ [13, 14, 15, 16, 17, 18, 19, 20, 21, 22, 23, 24, 6, 25, 26, 32, 33, 34, 35, 36, 37, 38, 39, 40, 41, 42, 29, 30, 31] (by decide +kernel) (by decide +kernel)
set_option maxRecDepth 20000 in
theorem gX2_spreadReach_X5_triggerableBy : GoodIn wsX2_spreadReach (wsV RX2 28 RX5 yX5_triggerableBy wsX5_triggerableBy) := goodIn_app (goodIn_of _ (by decide +kernel)) ggX2_spreadReach_X5_triggerableBy
theorem dX2_spreadReach_0 : decode cX2_spreadReach 0 = .ok (.iconst 0, 1) := by decide +kernel
theorem dX2_spreadReach_1 : decode cX2_spreadReach 1 = .ok (.istore_n 1, 1) := by decide +kernel
theorem dX2_spreadReach_2 : decode cX2_spreadReach 2 = .ok (.iload_n 1, 1) := by decide +kernel
theorem dX2_spreadReach_3 : decode cX2_spreadReach 3 = .ok (.aload_n 0, 1) := by decide +kernel
theorem dX2_spreadReach_4 : decode cX2_spreadReach 4 = .ok (.getfield 9, 3) := by decide +kernel
theorem dX2_spreadReach_7 : decode cX2_spreadReach 7 = .ok (.arraylength, 1) := by decide +kernel
theorem dX2_spreadReach_8 : decode cX2_spreadReach 8 = .ok (.if_icmp .ge 40, 3) := by decide +kernel
theorem dX2_spreadReach_11 : decode cX2_spreadReach 11 = .ok (.aload_n 0, 1) := by decide +kernel
theorem dX2_spreadReach_12 : decode cX2_spreadReach 12 = .ok (.getfield 15, 3) := by decide +kernel
theorem dX2_spreadReach_15 : decode cX2_spreadReach 15 = .ok (.iload_n 1, 1) := by decide +kernel
theorem dX2_spreadReach_16 : decode cX2_spreadReach 16 = .ok (.invokevirtual 22, 3) := by decide +kernel
theorem dX2_spreadReach_19 : decode cX2_spreadReach 19 = .ok (.astore_n 2, 1) := by decide +kernel
theorem dX2_spreadReach_20 : decode cX2_spreadReach 20 = .ok (.aload_n 0, 1) := by decide +kernel
theorem dX2_spreadReach_21 : decode cX2_spreadReach 21 = .ok (.getfield 9, 3) := by decide +kernel
theorem dX2_spreadReach_24 : decode cX2_spreadReach 24 = .ok (.iload_n 1, 1) := by decide +kernel
theorem dX2_spreadReach_25 : decode cX2_spreadReach 25 = .ok (.aload_n 2, 1) := by decide +kernel
theorem dX2_spreadReach_26 : decode cX2_spreadReach 26 = .ok (.ifnonnull 7, 3) := by decide +kernel
theorem dX2_spreadReach_29 : decode cX2_spreadReach 29 = .ok (.iconst 0, 1) := by decide +kernel
theorem dX2_spreadReach_30 : decode cX2_spreadReach 30 = .ok (.goto 11, 3) := by decide +kernel
theorem dX2_spreadReach_33 : decode cX2_spreadReach 33 = .ok (.aload_n 0, 1) := by decide +kernel
theorem dX2_spreadReach_34 : decode cX2_spreadReach 34 = .ok (.getfield 15, 3) := by decide +kernel
theorem dX2_spreadReach_37 : decode cX2_spreadReach 37 = .ok (.aload_n 2, 1) := by decide +kernel
theorem dX2_spreadReach_38 : decode cX2_spreadReach 38 = .ok (.invokevirtual 28, 3) := by decide +kernel
theorem dX2_spreadReach_41 : decode cX2_spreadReach 41 = .ok (.iastore, 1) := by decide +kernel
theorem dX2_spreadReach_42 : decode cX2_spreadReach 42 = .ok (.iinc 1 1, 3) := by decide +kernel
theorem dX2_spreadReach_45 : decode cX2_spreadReach 45 = .ok (.goto (-43), 3) := by decide +kernel
theorem dX2_spreadReach_48 : decode cX2_spreadReach 48 = .ok (.iconst 0, 1) := by decide +kernel
theorem dX2_spreadReach_49 : decode cX2_spreadReach 49 = .ok (.istore_n 1, 1) := by decide +kernel
theorem dX2_spreadReach_50 : decode cX2_spreadReach 50 = .ok (.iload_n 1, 1) := by decide +kernel
theorem dX2_spreadReach_51 : decode cX2_spreadReach 51 = .ok (.aload_n 0, 1) := by decide +kernel
theorem dX2_spreadReach_52 : decode cX2_spreadReach 52 = .ok (.getfield 9, 3) := by decide +kernel
theorem dX2_spreadReach_55 : decode cX2_spreadReach 55 = .ok (.arraylength, 1) := by decide +kernel
theorem dX2_spreadReach_56 : decode cX2_spreadReach 56 = .ok (.if_icmp .ge 54, 3) := by decide +kernel
theorem dX2_spreadReach_59 : decode cX2_spreadReach 59 = .ok (.iconst 0, 1) := by decide +kernel
theorem dX2_spreadReach_60 : decode cX2_spreadReach 60 = .ok (.istore_n 2, 1) := by decide +kernel
theorem dX2_spreadReach_61 : decode cX2_spreadReach 61 = .ok (.iload_n 2, 1) := by decide +kernel
theorem dX2_spreadReach_62 : decode cX2_spreadReach 62 = .ok (.aload_n 0, 1) := by decide +kernel
theorem dX2_spreadReach_63 : decode cX2_spreadReach 63 = .ok (.getfield 9, 3) := by decide +kernel
theorem dX2_spreadReach_66 : decode cX2_spreadReach 66 = .ok (.arraylength, 1) := by decide +kernel
theorem dX2_spreadReach_67 : decode cX2_spreadReach 67 = .ok (.if_icmp .ge 37, 3) := by decide +kernel
theorem dX2_spreadReach_70 : decode cX2_spreadReach 70 = .ok (.aload_n 0, 1) := by decide +kernel
theorem dX2_spreadReach_71 : decode cX2_spreadReach 71 = .ok (.getfield 9, 3) := by decide +kernel
theorem dX2_spreadReach_74 : decode cX2_spreadReach 74 = .ok (.iload_n 2, 1) := by decide +kernel
theorem dX2_spreadReach_75 : decode cX2_spreadReach 75 = .ok (.iaload, 1) := by decide +kernel
theorem dX2_spreadReach_76 : decode cX2_spreadReach 76 = .ok (.iconst 1, 1) := by decide +kernel
theorem dX2_spreadReach_77 : decode cX2_spreadReach 77 = .ok (.iload_n 1, 1) := by decide +kernel
theorem dX2_spreadReach_78 : decode cX2_spreadReach 78 = .ok (.ishl, 1) := by decide +kernel
theorem dX2_spreadReach_79 : decode cX2_spreadReach 79 = .ok (.iand, 1) := by decide +kernel
theorem dX2_spreadReach_80 : decode cX2_spreadReach 80 = .ok (.ifCond .eq 18, 3) := by decide +kernel
theorem dX2_spreadReach_83 : decode cX2_spreadReach 83 = .ok (.aload_n 0, 1) := by decide +kernel
theorem dX2_spreadReach_84 : decode cX2_spreadReach 84 = .ok (.getfield 9, 3) := by decide +kernel
theorem dX2_spreadReach_87 : decode cX2_spreadReach 87 = .ok (.iload_n 2, 1) := by decide +kernel
theorem dX2_spreadReach_88 : decode cX2_spreadReach 88 = .ok (.dup2, 1) := by decide +kernel
theorem dX2_spreadReach_89 : decode cX2_spreadReach 89 = .ok (.iaload, 1) := by decide +kernel
theorem dX2_spreadReach_90 : decode cX2_spreadReach 90 = .ok (.aload_n 0, 1) := by decide +kernel
theorem dX2_spreadReach_91 : decode cX2_spreadReach 91 = .ok (.getfield 9, 3) := by decide +kernel
theorem dX2_spreadReach_94 : decode cX2_spreadReach 94 = .ok (.iload_n 1, 1) := by decide +kernel
theorem dX2_spreadReach_95 : decode cX2_spreadReach 95 = .ok (.iaload, 1) := by decide +kernel
theorem dX2_spreadReach_96 : decode cX2_spreadReach 96 = .ok (.ior, 1) := by decide +kernel
theorem dX2_spreadReach_97 : decode cX2_spreadReach 97 = .ok (.iastore, 1) := by decide +kernel
theorem dX2_spreadReach_98 : decode cX2_spreadReach 98 = .ok (.iinc 2 1, 3) := by decide +kernel
theorem dX2_spreadReach_101 : decode cX2_spreadReach 101 = .ok (.goto (-40), 3) := by decide +kernel
theorem dX2_spreadReach_104 : decode cX2_spreadReach 104 = .ok (.iinc 1 1, 3) := by decide +kernel
theorem dX2_spreadReach_107 : decode cX2_spreadReach 107 = .ok (.goto (-57), 3) := by decide +kernel
theorem dX2_spreadReach_110 : decode cX2_spreadReach 110 = .ok (.return_, 1) := by decide +kernel
set_option maxRecDepth 20000 in
theorem ggX2_areIndependent_X5_triggerableBy : GoodIn wsX2_areIndependent wsX5_triggerableBy := goodIn_r _ [10, 11, 12, 13, 14, 15, 16, 17, 18, 19, 20, 21, 9, 22, 23, 36, 37, 38, 39, 40, 41, 42, 43, 44, 45, 46, 49, 50, 51] (by decide +kernel) (by decide +kernel)
set_option maxRecDepth 20000 in
theorem gX2_areIndependent_X5_triggerableBy : GoodIn wsX2_areIndependent (wsV RX2 28 RX5 yX5_triggerableBy wsX5_triggerableBy) := goodIn_app (goodIn_of _ (by decide +kernel)) ggX2_areIndependent_X5_triggerableBy
set_option maxRecDepth 20000 in
theorem ggX2_areIndependent_X4_changedFacts : GoodIn wsX2_areIndependent wsX4_changedFacts := goodIn_r _ [27, 28, 29, 36, 37, 38, 39, 40, 41, 42, 43, 44, 45, 46] (by decide +kernel) (by decide +kernel)
set_option maxRecDepth 20000 in
theorem gX2_areIndependent_X4_changedFacts : GoodIn wsX2_areIndependent (wsV RX2 42 RX4 yX4_changedFacts wsX4_changedFacts) := goodIn_app (goodIn_of _ (by decide +kernel)) ggX2_areIndependent_X4_changedFacts
set_option maxRecDepth 20000 in
theorem ggX2_areIndependent_X4_conditionFacts : GoodIn wsX2_areIndependent wsX4_conditionFacts := goodIn_r _ [33, 34, 35, 36, 37, 38, 39, 40, 41, 42, 43, 44, 45, 46] (by decide +kernel) (by decide +kernel)
set_option maxRecDepth 20000 in
theorem gX2_areIndependent_X4_conditionFacts : GoodIn wsX2_areIndependent (wsV RX2 46 RX4 yX4_conditionFacts wsX4_conditionFacts) := goodIn_app (goodIn_of _ (by decide +kernel)) ggX2_areIndependent_X4_conditionFacts
theorem dX2_areIndependent_0 : decode cX2_areIndependent 0 = .ok (.aload_n 1, 1) := by decide +kernel
theorem dX2_areIndependent_1 : decode cX2_areIndependent 1 = .ok (.getfield 32, 3) := by decide +kernel
theorem dX2_areIndependent_4 : decode cX2_areIndependent 4 = .ok (.ifCond .eq 10, 3) := by decide +kernel
theorem dX2_areIndependent_7 : decode cX2_areIndependent 7 = .ok (.aload_n 2, 1) := by decide +kernel
theorem dX2_areIndependent_8 : decode cX2_areIndependent 8 = .ok (.getfield 32, 3) := by decide +kernel
theorem dX2_areIndependent_11 : decode cX2_areIndependent 11 = .ok (.ifCond .ne 5, 3) := by decide +kernel
theorem dX2_areIndependent_14 : decode cX2_areIndependent 14 = .ok (.iconst 1, 1) := by decide +kernel
theorem dX2_areIndependent_15 : decode cX2_areIndependent 15 = .ok (.ireturn, 1) := by decide +kernel
theorem dX2_areIndependent_16 : decode cX2_areIndependent 16 = .ok (.aload_n 0, 1) := by decide +kernel
theorem dX2_areIndependent_17 : decode cX2_areIndependent 17 = .ok (.getfield 15, 3) := by decide +kernel
theorem dX2_areIndependent_20 : decode cX2_areIndependent 20 = .ok (.aload_n 1, 1) := by decide +kernel
theorem dX2_areIndependent_21 : decode cX2_areIndependent 21 = .ok (.invokevirtual 28, 3) := by decide +kernel
theorem dX2_areIndependent_24 : decode cX2_areIndependent 24 = .ok (.aload_n 0, 1) := by decide +kernel
theorem dX2_areIndependent_25 : decode cX2_areIndependent 25 = .ok (.getfield 15, 3) := by decide +kernel
theorem dX2_areIndependent_28 : decode cX2_areIndependent 28 = .ok (.aload_n 2, 1) := by decide +kernel
theorem dX2_areIndependent_29 : decode cX2_areIndependent 29 = .ok (.invokevirtual 28, 3) := by decide +kernel
theorem dX2_areIndependent_32 : decode cX2_areIndependent 32 = .ok (.ior, 1) := by decide +kernel
theorem dX2_areIndependent_33 : decode cX2_areIndependent 33 = .ok (.istore_n 3, 1) := by decide +kernel
theorem dX2_areIndependent_34 : decode cX2_areIndependent 34 = .ok (.iload_n 3, 1) := by decide +kernel
theorem dX2_areIndependent_35 : decode cX2_areIndependent 35 = .ok (.aload_n 1, 1) := by decide +kernel
theorem dX2_areIndependent_36 : decode cX2_areIndependent 36 = .ok (.getfield 38, 3) := by decide +kernel
theorem dX2_areIndependent_39 : decode cX2_areIndependent 39 = .ok (.aload_n 2, 1) := by decide +kernel
theorem dX2_areIndependent_40 : decode cX2_areIndependent 40 = .ok (.getfield 38, 3) := by decide +kernel
theorem dX2_areIndependent_43 : decode cX2_areIndependent 43 = .ok (.ior, 1) := by decide +kernel
theorem dX2_areIndependent_44 : decode cX2_areIndependent 44 = .ok (.iand, 1) := by decide +kernel
theorem dX2_areIndependent_45 : decode cX2_areIndependent 45 = .ok (.ifCond .eq 5, 3) := by decide +kernel
theorem dX2_areIndependent_48 : decode cX2_areIndependent 48 = .ok (.iconst 0, 1) := by decide +kernel
theorem dX2_areIndependent_49 : decode cX2_areIndependent 49 = .ok (.ireturn, 1) := by decide +kernel
theorem dX2_areIndependent_50 : decode cX2_areIndependent 50 = .ok (.aload_n 1, 1) := by decide +kernel
theorem dX2_areIndependent_51 : decode cX2_areIndependent 51 = .ok (.invokevirtual 42, 3) := by decide +kernel
theorem dX2_areIndependent_54 : decode cX2_areIndependent 54 = .ok (.aload_n 2, 1) := by decide +kernel
theorem dX2_areIndependent_55 : decode cX2_areIndependent 55 = .ok (.invokevirtual 46, 3) := by decide +kernel
theorem dX2_areIndependent_58 : decode cX2_areIndependent 58 = .ok (.iand, 1) := by decide +kernel
theorem dX2_areIndependent_59 : decode cX2_areIndependent 59 = .ok (.ifCond .ne 15, 3) := by decide +kernel
theorem dX2_areIndependent_62 : decode cX2_areIndependent 62 = .ok (.aload_n 2, 1) := by decide +kernel
theorem dX2_areIndependent_63 : decode cX2_areIndependent 63 = .ok (.invokevirtual 42, 3) := by decide +kernel
theorem dX2_areIndependent_66 : decode cX2_areIndependent 66 = .ok (.aload_n 1, 1) := by decide +kernel
theorem dX2_areIndependent_67 : decode cX2_areIndependent 67 = .ok (.invokevirtual 46, 3) := by decide +kernel
theorem dX2_areIndependent_70 : decode cX2_areIndependent 70 = .ok (.iand, 1) := by decide +kernel
theorem dX2_areIndependent_71 : decode cX2_areIndependent 71 = .ok (.ifCond .eq 5, 3) := by decide +kernel
theorem dX2_areIndependent_74 : decode cX2_areIndependent 74 = .ok (.iconst 0, 1) := by decide +kernel
theorem dX2_areIndependent_75 : decode cX2_areIndependent 75 = .ok (.ireturn, 1) := by decide +kernel
theorem dX2_areIndependent_76 : decode cX2_areIndependent 76 = .ok (.aload_n 1, 1) := by decide +kernel
theorem dX2_areIndependent_77 : decode cX2_areIndependent 77 = .ok (.getfield 49, 3) := by decide +kernel
theorem dX2_areIndependent_80 : decode cX2_areIndependent 80 = .ok (.aload_n 2, 1) := by decide +kernel
theorem dX2_areIndependent_81 : decode cX2_areIndependent 81 = .ok (.getfield 52, 3) := by decide +kernel
theorem dX2_areIndependent_84 : decode cX2_areIndependent 84 = .ok (.iand, 1) := by decide +kernel
theorem dX2_areIndependent_85 : decode cX2_areIndependent 85 = .ok (.ifCond .ne 19, 3) := by decide +kernel
theorem dX2_areIndependent_88 : decode cX2_areIndependent 88 = .ok (.aload_n 1, 1) := by decide +kernel
theorem dX2_areIndependent_89 : decode cX2_areIndependent 89 = .ok (.getfield 52, 3) := by decide +kernel
theorem dX2_areIndependent_92 : decode cX2_areIndependent 92 = .ok (.aload_n 2, 1) := by decide +kernel
theorem dX2_areIndependent_93 : decode cX2_areIndependent 93 = .ok (.getfield 49, 3) := by decide +kernel
theorem dX2_areIndependent_96 : decode cX2_areIndependent 96 = .ok (.iand, 1) := by decide +kernel
theorem dX2_areIndependent_97 : decode cX2_areIndependent 97 = .ok (.ifCond .ne 7, 3) := by decide +kernel
theorem dX2_areIndependent_100 : decode cX2_areIndependent 100 = .ok (.iconst 1, 1) := by decide +kernel
theorem dX2_areIndependent_101 : decode cX2_areIndependent 101 = .ok (.goto 4, 3) := by decide +kernel
theorem dX2_areIndependent_104 : decode cX2_areIndependent 104 = .ok (.iconst 0, 1) := by decide +kernel
theorem dX2_areIndependent_105 : decode cX2_areIndependent 105 = .ok (.ireturn, 1) := by decide +kernel
set_option maxRecDepth 20000 in
theorem ggX2_areInConflict_X5_ruleOrNull : GoodIn wsX2_areInConflict wsX5_ruleOrNull := goodIn_r _ [6, 7, 8, 55, 56, 57] (by decide +kernel) (by decide +kernel)
set_option maxRecDepth 20000 in
theorem gX2_areInConflict_X5_ruleOrNull : GoodIn wsX2_areInConflict (wsV RX2 22 RX5 yX5_ruleOrNull wsX5_ruleOrNull) := goodIn_app (goodIn_of _ (by decide +kernel)) ggX2_areInConflict_X5_ruleOrNull
set_option maxRecDepth 20000 in
theorem ggX2_areInConflict_X4_isOver : GoodIn wsX2_areInConflict wsX4_isOver := goodIn_r _ [13, 14, 15, 58, 59, 60, 61, 62, 63, 64, 65, 66, 67, 68] (by decide +kernel) (by decide +kernel)
set_option maxRecDepth 20000 in
theorem gX2_areInConflict_X4_isOver : GoodIn wsX2_areInConflict (wsV RX2 55 RX4 yX4_isOver wsX4_isOver) := goodIn_app (goodIn_of _ (by decide +kernel)) ggX2_areInConflict_X4_isOver
set_option maxRecDepth 20000 in
theorem ggX2_areInConflict_X2_areIndependent : GoodIn wsX2_areInConflict wsX2_areIndependent := goodIn_r _ [20, 21, 1, 22, 23, 24, 25, 26, 27, 5, 28, 29, 30, 31, 32, 33, 12, 34, 35, 36, 37, 38, 39, 40, 41, 42, 43, 44, 45, 46, 47, 48, 49, 50, 51, 52, 58, 59, 60, 61, 62, 63, 64, 65, 66, 67, 68, 53, 54, 55, 56, 57] (by decide +kernel) (by decide +kernel)
set_option maxRecDepth 20000 in
theorem gX2_areInConflict_X2_areIndependent : GoodIn wsX2_areInConflict (wsV RX2 59 RX2 yX2_areIndependent wsX2_areIndependent) := goodIn_app (goodIn_of _ (by decide +kernel)) ggX2_areInConflict_X2_areIndependent
theorem dX2_areInConflict_0 : decode cX2_areInConflict 0 = .ok (.aload_n 0, 1) := by decide +kernel
theorem dX2_areInConflict_1 : decode cX2_areInConflict 1 = .ok (.getfield 15, 3) := by decide +kernel
theorem dX2_areInConflict_4 : decode cX2_areInConflict 4 = .ok (.iload_n 1, 1) := by decide +kernel
theorem dX2_areInConflict_5 : decode cX2_areInConflict 5 = .ok (.invokevirtual 22, 3) := by decide +kernel
theorem dX2_areInConflict_8 : decode cX2_areInConflict 8 = .ok (.astore_n 3, 1) := by decide +kernel
theorem dX2_areInConflict_9 : decode cX2_areInConflict 9 = .ok (.aload_n 0, 1) := by decide +kernel
theorem dX2_areInConflict_10 : decode cX2_areInConflict 10 = .ok (.getfield 15, 3) := by decide +kernel
theorem dX2_areInConflict_13 : decode cX2_areInConflict 13 = .ok (.iload_n 2, 1) := by decide +kernel
theorem dX2_areInConflict_14 : decode cX2_areInConflict 14 = .ok (.invokevirtual 22, 3) := by decide +kernel
theorem dX2_areInConflict_17 : decode cX2_areInConflict 17 = .ok (.astore 4, 2) := by decide +kernel
theorem dX2_areInConflict_19 : decode cX2_areInConflict 19 = .ok (.aload_n 3, 1) := by decide +kernel
theorem dX2_areInConflict_20 : decode cX2_areInConflict 20 = .ok (.ifnull 26, 3) := by decide +kernel
theorem dX2_areInConflict_23 : decode cX2_areInConflict 23 = .ok (.aload 4, 2) := by decide +kernel
theorem dX2_areInConflict_25 : decode cX2_areInConflict 25 = .ok (.ifnull 21, 3) := by decide +kernel
theorem dX2_areInConflict_28 : decode cX2_areInConflict 28 = .ok (.aload_n 3, 1) := by decide +kernel
theorem dX2_areInConflict_29 : decode cX2_areInConflict 29 = .ok (.aload 4, 2) := by decide +kernel
theorem dX2_areInConflict_31 : decode cX2_areInConflict 31 = .ok (.invokevirtual 55, 3) := by decide +kernel
theorem dX2_areInConflict_34 : decode cX2_areInConflict 34 = .ok (.ifCond .ne 12, 3) := by decide +kernel
theorem dX2_areInConflict_37 : decode cX2_areInConflict 37 = .ok (.aload 4, 2) := by decide +kernel
theorem dX2_areInConflict_39 : decode cX2_areInConflict 39 = .ok (.aload_n 3, 1) := by decide +kernel
theorem dX2_areInConflict_40 : decode cX2_areInConflict 40 = .ok (.invokevirtual 55, 3) := by decide +kernel
theorem dX2_areInConflict_43 : decode cX2_areInConflict 43 = .ok (.ifCond .eq 5, 3) := by decide +kernel
theorem dX2_areInConflict_46 : decode cX2_areInConflict 46 = .ok (.iconst 0, 1) := by decide +kernel
theorem dX2_areInConflict_47 : decode cX2_areInConflict 47 = .ok (.ireturn, 1) := by decide +kernel
theorem dX2_areInConflict_48 : decode cX2_areInConflict 48 = .ok (.aload_n 0, 1) := by decide +kernel
theorem dX2_areInConflict_49 : decode cX2_areInConflict 49 = .ok (.aload_n 3, 1) := by decide +kernel
theorem dX2_areInConflict_50 : decode cX2_areInConflict 50 = .ok (.aload 4, 2) := by decide +kernel
theorem dX2_areInConflict_52 : decode cX2_areInConflict 52 = .ok (.invokevirtual 59, 3) := by decide +kernel
theorem dX2_areInConflict_55 : decode cX2_areInConflict 55 = .ok (.ifCond .ne 7, 3) := by decide +kernel
theorem dX2_areInConflict_58 : decode cX2_areInConflict 58 = .ok (.iconst 1, 1) := by decide +kernel
theorem dX2_areInConflict_59 : decode cX2_areInConflict 59 = .ok (.goto 4, 3) := by decide +kernel
theorem dX2_areInConflict_62 : decode cX2_areInConflict 62 = .ok (.iconst 0, 1) := by decide +kernel
theorem dX2_areInConflict_63 : decode cX2_areInConflict 63 = .ok (.ireturn, 1) := by decide +kernel
set_option maxRecDepth 20000 in
theorem ggX2_countConflicts_X2_areInConflict : GoodIn wsX2_countConflicts wsX2_areInConflict := goodIn_r _ [5, 6, 7, 8, 9, 10, 11, 12, 13, 14, 15, 16, 17, 18, 19, 20, 21, 22, 23, 4, 24, 25, 26, 27, 28, 29, 30, 31, 32, 33, 34, 35, 36, 37, 38, 39, 40, 41, 42, 43, 44, 45, 46, 47, 48, 49, 50, 51, 52, 53, 54, 55, 56, 57, 58, 59, 60, 61, 62, 63, 64, 65, 66, 67, 68, 69, 70, 71, 72] (by decide +kernel) (by decide +kernel)
set_option maxRecDepth 20000 in
theorem gX2_countConflicts_X2_areInConflict : GoodIn wsX2_countConflicts (wsV RX2 63 RX2 yX2_areInConflict wsX2_areInConflict) := goodIn_app (goodIn_of _ (by decide +kernel)) ggX2_countConflicts_X2_areInConflict
theorem dX2_countConflicts_0 : decode cX2_countConflicts 0 = .ok (.iconst 0, 1) := by decide +kernel
theorem dX2_countConflicts_1 : decode cX2_countConflicts 1 = .ok (.istore_n 1, 1) := by decide +kernel
theorem dX2_countConflicts_2 : decode cX2_countConflicts 2 = .ok (.iconst 0, 1) := by decide +kernel
theorem dX2_countConflicts_3 : decode cX2_countConflicts 3 = .ok (.istore_n 2, 1) := by decide +kernel
theorem dX2_countConflicts_4 : decode cX2_countConflicts 4 = .ok (.iload_n 2, 1) := by decide +kernel
theorem dX2_countConflicts_5 : decode cX2_countConflicts 5 = .ok (.bipush 8, 2) := by decide +kernel
theorem dX2_countConflicts_7 : decode cX2_countConflicts 7 = .ok (.if_icmp .ge 37, 3) := by decide +kernel
theorem dX2_countConflicts_10 : decode cX2_countConflicts 10 = .ok (.iload_n 2, 1) := by decide +kernel
theorem dX2_countConflicts_11 : decode cX2_countConflicts 11 = .ok (.iconst 1, 1) := by decide +kernel
theorem dX2_countConflicts_12 : decode cX2_countConflicts 12 = .ok (.iadd, 1) := by decide +kernel
theorem dX2_countConflicts_13 : decode cX2_countConflicts 13 = .ok (.istore_n 3, 1) := by decide +kernel
theorem dX2_countConflicts_14 : decode cX2_countConflicts 14 = .ok (.iload_n 3, 1) := by decide +kernel
theorem dX2_countConflicts_15 : decode cX2_countConflicts 15 = .ok (.bipush 8, 2) := by decide +kernel
theorem dX2_countConflicts_17 : decode cX2_countConflicts 17 = .ok (.if_icmp .ge 21, 3) := by decide +kernel
theorem dX2_countConflicts_20 : decode cX2_countConflicts 20 = .ok (.aload_n 0, 1) := by decide +kernel
theorem dX2_countConflicts_21 : decode cX2_countConflicts 21 = .ok (.iload_n 2, 1) := by decide +kernel
theorem dX2_countConflicts_22 : decode cX2_countConflicts 22 = .ok (.iload_n 3, 1) := by decide +kernel
theorem dX2_countConflicts_23 : decode cX2_countConflicts 23 = .ok (.invokevirtual 63, 3) := by decide +kernel
theorem dX2_countConflicts_26 : decode cX2_countConflicts 26 = .ok (.ifCond .eq 6, 3) := by decide +kernel
theorem dX2_countConflicts_29 : decode cX2_countConflicts 29 = .ok (.iinc 1 1, 3) := by decide +kernel
theorem dX2_countConflicts_32 : decode cX2_countConflicts 32 = .ok (.iinc 3 1, 3) := by decide +kernel
theorem dX2_countConflicts_35 : decode cX2_countConflicts 35 = .ok (.goto (-21), 3) := by decide +kernel
theorem dX2_countConflicts_38 : decode cX2_countConflicts 38 = .ok (.iinc 2 1, 3) := by decide +kernel
theorem dX2_countConflicts_41 : decode cX2_countConflicts 41 = .ok (.goto (-37), 3) := by decide +kernel
theorem dX2_countConflicts_44 : decode cX2_countConflicts 44 = .ok (.iload_n 1, 1) := by decide +kernel
theorem dX2_countConflicts_45 : decode cX2_countConflicts 45 = .ok (.ireturn, 1) := by decide +kernel
theorem dX3_init_0 : decode cX3_init 0 = .ok (.aload_n 0, 1) := by decide +kernel
theorem dX3_init_1 : decode cX3_init 1 = .ok (.invokespecial 3, 3) := by decide +kernel
theorem dX3_init_4 : decode cX3_init 4 = .ok (.aload_n 0, 1) := by decide +kernel
theorem dX3_init_5 : decode cX3_init 5 = .ok (.sipush 1000, 3) := by decide +kernel
theorem dX3_init_8 : decode cX3_init 8 = .ok (.newarray .int, 2) := by decide +kernel
theorem dX3_init_10 : decode cX3_init 10 = .ok (.putfield 9, 3) := by decide +kernel
theorem dX3_init_13 : decode cX3_init 13 = .ok (.aload_n 0, 1) := by decide +kernel
theorem dX3_init_14 : decode cX3_init 14 = .ok (.sipush 1000, 3) := by decide +kernel
theorem dX3_init_17 : decode cX3_init 17 = .ok (.newarray .int, 2) := by decide +kernel
theorem dX3_init_19 : decode cX3_init 19 = .ok (.putfield 15, 3) := by decide +kernel
theorem dX3_init_22 : decode cX3_init 22 = .ok (.aload_n 0, 1) := by decide +kernel
theorem dX3_init_23 : decode cX3_init 23 = .ok (.sipush 1000, 3) := by decide +kernel
theorem dX3_init_26 : decode cX3_init 26 = .ok (.newarray .long, 2) := by decide +kernel
theorem dX3_init_28 : decode cX3_init 28 = .ok (.putfield 18, 3) := by decide +kernel
theorem dX3_init_31 : decode cX3_init 31 = .ok (.aload_n 0, 1) := by decide +kernel
theorem dX3_init_32 : decode cX3_init 32 = .ok (.sipush 1000, 3) := by decide +kernel
theorem dX3_init_35 : decode cX3_init 35 = .ok (.newarray .int, 2) := by decide +kernel
theorem dX3_init_37 : decode cX3_init 37 = .ok (.putfield 22, 3) := by decide +kernel
theorem dX3_init_40 : decode cX3_init 40 = .ok (.return_, 1) := by decide +kernel
theorem dX3_isFinite_0 : decode cX3_isFinite 0 = .ok (.aload_n 0, 1) := by decide +kernel
theorem dX3_isFinite_1 : decode cX3_isFinite 1 = .ok (.getfield 25, 3) := by decide +kernel
theorem dX3_isFinite_4 : decode cX3_isFinite 4 = .ok (.ireturn, 1) := by decide +kernel
theorem dX3_mostPlays_0 : decode cX3_mostPlays 0 = .ok (.aload_n 0, 1) := by decide +kernel
theorem dX3_mostPlays_1 : decode cX3_mostPlays 1 = .ok (.getfield 25, 3) := by decide +kernel
theorem dX3_mostPlays_4 : decode cX3_mostPlays 4 = .ok (.ifCond .eq 10, 3) := by decide +kernel
theorem dX3_mostPlays_7 : decode cX3_mostPlays 7 = .ok (.aload_n 0, 1) := by decide +kernel
theorem dX3_mostPlays_8 : decode cX3_mostPlays 8 = .ok (.getfield 29, 3) := by decide +kernel
theorem dX3_mostPlays_11 : decode cX3_mostPlays 11 = .ok (.goto 4, 3) := by decide +kernel
theorem dX3_mostPlays_14 : decode cX3_mostPlays 14 = .ok (.iconst (-1), 1) := by decide +kernel
theorem dX3_mostPlays_15 : decode cX3_mostPlays 15 = .ok (.ireturn, 1) := by decide +kernel
theorem dX3_wayCount_0 : decode cX3_wayCount 0 = .ok (.aload_n 0, 1) := by decide +kernel
theorem dX3_wayCount_1 : decode cX3_wayCount 1 = .ok (.getfield 25, 3) := by decide +kernel
theorem dX3_wayCount_4 : decode cX3_wayCount 4 = .ok (.ifCond .eq 10, 3) := by decide +kernel
theorem dX3_wayCount_7 : decode cX3_wayCount 7 = .ok (.aload_n 0, 1) := by decide +kernel
theorem dX3_wayCount_8 : decode cX3_wayCount 8 = .ok (.getfield 33, 3) := by decide +kernel
theorem dX3_wayCount_11 : decode cX3_wayCount 11 = .ok (.goto 6, 3) := by decide +kernel
theorem dX3_wayCount_14 : decode cX3_wayCount 14 = .ok (.ldc2_w 37, 3) := by decide +kernel
theorem dX3_wayCount_17 : decode cX3_wayCount 17 = .ok (.lreturn, 1) := by decide +kernel
set_option maxRecDepth 20000 in
theorem ggX3_study_X3_countIncoming : GoodIn wsX3_study wsX3_countIncoming := goodIn_r _ [8, 9, 10, 11, 12, 13, 14, 15, 16, 17, 18, 19, 20, 21, 22, 45, 46, 47, 48, 49, 50, 51, 52, 53, 54, 55, 56, 57, 58, 59, 60, 61, 62, 63, 64] (by decide +kernel) (by decide +kernel)
set_option maxRecDepth 20000 in
theorem gX3_study_X3_countIncoming : GoodIn wsX3_study (wsV RX3 39 RX3 yX3_countIncoming wsX3_countIncoming) := goodIn_app (goodIn_of _ (by decide +kernel)) ggX3_study_X3_countIncoming
set_option maxRecDepth 20000 in
theorem ggX3_study_X3_startAtFirst : GoodIn wsX3_study wsX3_startAtFirst := goodIn_r _ [26, 1, 27, 28, 11, 9, 29, 30, 31, 7, 32, 2, 45, 46, 47, 48, 49, 50, 51, 52] (by decide +kernel) (by decide +kernel)
set_option maxRecDepth 20000 in
theorem gX3_study_X3_startAtFirst : GoodIn wsX3_study (wsV RX3 43 RX3 yX3_startAtFirst wsX3_startAtFirst) := goodIn_app (goodIn_of _ (by decide +kernel)) ggX3_study_X3_startAtFirst
set_option maxRecDepth 20000 in
theorem ggX3_study_X3_take : GoodIn wsX3_study wsX3_take := goodIn_r _ [36, 10, 11, 27, 37, 38, 39, 40, 28, 18, 19, 20, 15, 21, 17, 22, 41, 42, 43, 7, 44, 9, 29, 30, 31, 32, 1, 2, 45, 46, 47, 48, 49, 50, 51, 52, 53, 54, 55, 56, 57, 58, 59, 60, 61, 62, 63, 64] (by decide +kernel) (by decide +kernel)
set_option maxRecDepth 20000 in
theorem gX3_study_X3_take : GoodIn wsX3_study (wsV RX3 49 RX3 yX3_take wsX3_take) := goodIn_app (goodIn_of _ (by decide +kernel)) ggX3_study_X3_take
set_option maxRecDepth 20000 in
theorem ggX3_study_X1_size : GoodIn wsX3_study wsX1_size := goodIn_r _ [16, 17, 53, 54, 55, 56, 57, 58, 59, 60, 61, 62, 63, 64] (by decide +kernel) (by decide +kernel)
set_option maxRecDepth 20000 in
theorem gX3_study_X1_size : GoodIn wsX3_study (wsV RX3 53 RX1 yX1_size wsX1_size) := goodIn_app (goodIn_of _ (by decide +kernel)) ggX3_study_X1_size
theorem dX3_study_0 : decode cX3_study 0 = .ok (.aload_n 0, 1) := by decide +kernel
theorem dX3_study_1 : decode cX3_study 1 = .ok (.aload_n 1, 1) := by decide +kernel
theorem dX3_study_2 : decode cX3_study 2 = .ok (.invokevirtual 39, 3) := by decide +kernel
theorem dX3_study_5 : decode cX3_study 5 = .ok (.aload_n 0, 1) := by decide +kernel
theorem dX3_study_6 : decode cX3_study 6 = .ok (.invokevirtual 43, 3) := by decide +kernel
theorem dX3_study_9 : decode cX3_study 9 = .ok (.iconst 0, 1) := by decide +kernel
theorem dX3_study_10 : decode cX3_study 10 = .ok (.istore_n 2, 1) := by decide +kernel
theorem dX3_study_11 : decode cX3_study 11 = .ok (.iload_n 2, 1) := by decide +kernel
theorem dX3_study_12 : decode cX3_study 12 = .ok (.aload_n 0, 1) := by decide +kernel
theorem dX3_study_13 : decode cX3_study 13 = .ok (.getfield 46, 3) := by decide +kernel
theorem dX3_study_16 : decode cX3_study 16 = .ok (.if_icmp .ge 27, 3) := by decide +kernel
theorem dX3_study_19 : decode cX3_study 19 = .ok (.iload_n 2, 1) := by decide +kernel
theorem dX3_study_20 : decode cX3_study 20 = .ok (.sipush 1000, 3) := by decide +kernel
theorem dX3_study_23 : decode cX3_study 23 = .ok (.if_icmp .ge 20, 3) := by decide +kernel
theorem dX3_study_26 : decode cX3_study 26 = .ok (.aload_n 0, 1) := by decide +kernel
theorem dX3_study_27 : decode cX3_study 27 = .ok (.aload_n 1, 1) := by decide +kernel
theorem dX3_study_28 : decode cX3_study 28 = .ok (.aload_n 0, 1) := by decide +kernel
theorem dX3_study_29 : decode cX3_study 29 = .ok (.getfield 22, 3) := by decide +kernel
theorem dX3_study_32 : decode cX3_study 32 = .ok (.iload_n 2, 1) := by decide +kernel
theorem dX3_study_33 : decode cX3_study 33 = .ok (.iaload, 1) := by decide +kernel
theorem dX3_study_34 : decode cX3_study 34 = .ok (.invokevirtual 49, 3) := by decide +kernel
theorem dX3_study_37 : decode cX3_study 37 = .ok (.iinc 2 1, 3) := by decide +kernel
theorem dX3_study_40 : decode cX3_study 40 = .ok (.goto (-29), 3) := by decide +kernel
theorem dX3_study_43 : decode cX3_study 43 = .ok (.aload_n 0, 1) := by decide +kernel
theorem dX3_study_44 : decode cX3_study 44 = .ok (.iload_n 2, 1) := by decide +kernel
theorem dX3_study_45 : decode cX3_study 45 = .ok (.aload_n 1, 1) := by decide +kernel
theorem dX3_study_46 : decode cX3_study 46 = .ok (.invokevirtual 53, 3) := by decide +kernel
theorem dX3_study_49 : decode cX3_study 49 = .ok (.if_icmp .ne 7, 3) := by decide +kernel
theorem dX3_study_52 : decode cX3_study 52 = .ok (.iconst 1, 1) := by decide +kernel
theorem dX3_study_53 : decode cX3_study 53 = .ok (.goto 4, 3) := by decide +kernel
theorem dX3_study_56 : decode cX3_study 56 = .ok (.iconst 0, 1) := by decide +kernel
theorem dX3_study_57 : decode cX3_study 57 = .ok (.putfield 25, 3) := by decide +kernel
theorem dX3_study_60 : decode cX3_study 60 = .ok (.return_, 1) := by decide +kernel
set_option maxRecDepth 20000 in
theorem ggX3_countIncoming_X1_size : GoodIn wsX3_countIncoming wsX1_size := goodIn_r _ [8, 9, 23, 24, 25, 26, 27, 28, 29, 30, 31, 32, 33, 34] (by decide +kernel) (by decide +kernel)
set_option maxRecDepth 20000 in
theorem gX3_countIncoming_X1_size : GoodIn wsX3_countIncoming (wsV RX3 53 RX1 yX1_size wsX1_size) := goodIn_app (goodIn_of _ (by decide +kernel)) ggX3_countIncoming_X1_size
set_option maxRecDepth 20000 in
theorem ggX3_countIncoming_X1_nextOf : GoodIn wsX3_countIncoming wsX1_nextOf := goodIn_r _ [13, 9, 14, 23, 24, 25, 26, 27, 28, 29, 30, 31, 32, 33, 34] (by decide +kernel) (by decide +kernel)
set_option maxRecDepth 20000 in
theorem gX3_countIncoming_X1_nextOf : GoodIn wsX3_countIncoming (wsV RX3 59 RX1 yX1_nextOf wsX1_nextOf) := goodIn_app (goodIn_of _ (by decide +kernel)) ggX3_countIncoming_X1_nextOf
theorem dX3_countIncoming_0 : decode cX3_countIncoming 0 = .ok (.iconst 0, 1) := by decide +kernel
theorem dX3_countIncoming_1 : decode cX3_countIncoming 1 = .ok (.istore_n 2, 1) := by decide +kernel
theorem dX3_countIncoming_2 : decode cX3_countIncoming 2 = .ok (.iload_n 2, 1) := by decide +kernel
theorem dX3_countIncoming_3 : decode cX3_countIncoming 3 = .ok (.aload_n 1, 1) := by decide +kernel
theorem dX3_countIncoming_4 : decode cX3_countIncoming 4 = .ok (.invokevirtual 53, 3) := by decide +kernel
theorem dX3_countIncoming_7 : decode cX3_countIncoming 7 = .ok (.if_icmp .ge 37, 3) := by decide +kernel
theorem dX3_countIncoming_10 : decode cX3_countIncoming 10 = .ok (.iload_n 2, 1) := by decide +kernel
theorem dX3_countIncoming_11 : decode cX3_countIncoming 11 = .ok (.sipush 1000, 3) := by decide +kernel
theorem dX3_countIncoming_14 : decode cX3_countIncoming 14 = .ok (.if_icmp .ge 30, 3) := by decide +kernel
theorem dX3_countIncoming_17 : decode cX3_countIncoming 17 = .ok (.aload_n 0, 1) := by decide +kernel
theorem dX3_countIncoming_18 : decode cX3_countIncoming 18 = .ok (.getfield 9, 3) := by decide +kernel
theorem dX3_countIncoming_21 : decode cX3_countIncoming 21 = .ok (.iload_n 2, 1) := by decide +kernel
theorem dX3_countIncoming_22 : decode cX3_countIncoming 22 = .ok (.iconst 0, 1) := by decide +kernel
theorem dX3_countIncoming_23 : decode cX3_countIncoming 23 = .ok (.iastore, 1) := by decide +kernel
theorem dX3_countIncoming_24 : decode cX3_countIncoming 24 = .ok (.aload_n 0, 1) := by decide +kernel
theorem dX3_countIncoming_25 : decode cX3_countIncoming 25 = .ok (.getfield 15, 3) := by decide +kernel
theorem dX3_countIncoming_28 : decode cX3_countIncoming 28 = .ok (.iload_n 2, 1) := by decide +kernel
theorem dX3_countIncoming_29 : decode cX3_countIncoming 29 = .ok (.iconst 0, 1) := by decide +kernel
theorem dX3_countIncoming_30 : decode cX3_countIncoming 30 = .ok (.iastore, 1) := by decide +kernel
theorem dX3_countIncoming_31 : decode cX3_countIncoming 31 = .ok (.aload_n 0, 1) := by decide +kernel
theorem dX3_countIncoming_32 : decode cX3_countIncoming 32 = .ok (.getfield 18, 3) := by decide +kernel
theorem dX3_countIncoming_35 : decode cX3_countIncoming 35 = .ok (.iload_n 2, 1) := by decide +kernel
theorem dX3_countIncoming_36 : decode cX3_countIncoming 36 = .ok (.lconst 0, 1) := by decide +kernel
theorem dX3_countIncoming_37 : decode cX3_countIncoming 37 = .ok (.lastore, 1) := by decide +kernel
theorem dX3_countIncoming_38 : decode cX3_countIncoming 38 = .ok (.iinc 2 1, 3) := by decide +kernel
theorem dX3_countIncoming_41 : decode cX3_countIncoming 41 = .ok (.goto (-39), 3) := by decide +kernel
theorem dX3_countIncoming_44 : decode cX3_countIncoming 44 = .ok (.iconst 0, 1) := by decide +kernel
theorem dX3_countIncoming_45 : decode cX3_countIncoming 45 = .ok (.istore_n 2, 1) := by decide +kernel
theorem dX3_countIncoming_46 : decode cX3_countIncoming 46 = .ok (.iload_n 2, 1) := by decide +kernel
theorem dX3_countIncoming_47 : decode cX3_countIncoming 47 = .ok (.aload_n 1, 1) := by decide +kernel
theorem dX3_countIncoming_48 : decode cX3_countIncoming 48 = .ok (.invokevirtual 53, 3) := by decide +kernel
theorem dX3_countIncoming_51 : decode cX3_countIncoming 51 = .ok (.if_icmp .ge 62, 3) := by decide +kernel
theorem dX3_countIncoming_54 : decode cX3_countIncoming 54 = .ok (.iload_n 2, 1) := by decide +kernel
theorem dX3_countIncoming_55 : decode cX3_countIncoming 55 = .ok (.sipush 1000, 3) := by decide +kernel
theorem dX3_countIncoming_58 : decode cX3_countIncoming 58 = .ok (.if_icmp .ge 55, 3) := by decide +kernel
theorem dX3_countIncoming_61 : decode cX3_countIncoming 61 = .ok (.iconst 0, 1) := by decide +kernel
theorem dX3_countIncoming_62 : decode cX3_countIncoming 62 = .ok (.istore_n 3, 1) := by decide +kernel
theorem dX3_countIncoming_63 : decode cX3_countIncoming 63 = .ok (.iload_n 3, 1) := by decide +kernel
theorem dX3_countIncoming_64 : decode cX3_countIncoming 64 = .ok (.bipush 8, 2) := by decide +kernel
theorem dX3_countIncoming_66 : decode cX3_countIncoming 66 = .ok (.if_icmp .ge 41, 3) := by decide +kernel
theorem dX3_countIncoming_69 : decode cX3_countIncoming 69 = .ok (.aload_n 1, 1) := by decide +kernel
theorem dX3_countIncoming_70 : decode cX3_countIncoming 70 = .ok (.iload_n 2, 1) := by decide +kernel
theorem dX3_countIncoming_71 : decode cX3_countIncoming 71 = .ok (.iload_n 3, 1) := by decide +kernel
theorem dX3_countIncoming_72 : decode cX3_countIncoming 72 = .ok (.invokevirtual 59, 3) := by decide +kernel
theorem dX3_countIncoming_75 : decode cX3_countIncoming 75 = .ok (.istore 4, 2) := by decide +kernel
theorem dX3_countIncoming_77 : decode cX3_countIncoming 77 = .ok (.iload 4, 2) := by decide +kernel
theorem dX3_countIncoming_79 : decode cX3_countIncoming 79 = .ok (.ifCond .lt 22, 3) := by decide +kernel
theorem dX3_countIncoming_82 : decode cX3_countIncoming 82 = .ok (.iload 4, 2) := by decide +kernel
theorem dX3_countIncoming_84 : decode cX3_countIncoming 84 = .ok (.sipush 1000, 3) := by decide +kernel
theorem dX3_countIncoming_87 : decode cX3_countIncoming 87 = .ok (.if_icmp .ge 14, 3) := by decide +kernel
theorem dX3_countIncoming_90 : decode cX3_countIncoming 90 = .ok (.aload_n 0, 1) := by decide +kernel
theorem dX3_countIncoming_91 : decode cX3_countIncoming 91 = .ok (.getfield 9, 3) := by decide +kernel
theorem dX3_countIncoming_94 : decode cX3_countIncoming 94 = .ok (.iload 4, 2) := by decide +kernel
theorem dX3_countIncoming_96 : decode cX3_countIncoming 96 = .ok (.dup2, 1) := by decide +kernel
theorem dX3_countIncoming_97 : decode cX3_countIncoming 97 = .ok (.iaload, 1) := by decide +kernel
theorem dX3_countIncoming_98 : decode cX3_countIncoming 98 = .ok (.iconst 1, 1) := by decide +kernel
theorem dX3_countIncoming_99 : decode cX3_countIncoming 99 = .ok (.iadd, 1) := by decide +kernel
theorem dX3_countIncoming_100 : decode cX3_countIncoming 100 = .ok (.iastore, 1) := by decide +kernel
theorem dX3_countIncoming_101 : decode cX3_countIncoming 101 = .ok (.iinc 3 1, 3) := by decide +kernel
theorem dX3_countIncoming_104 : decode cX3_countIncoming 104 = .ok (.goto (-41), 3) := by decide +kernel
theorem dX3_countIncoming_107 : decode cX3_countIncoming 107 = .ok (.iinc 2 1, 3) := by decide +kernel
theorem dX3_countIncoming_110 : decode cX3_countIncoming 110 = .ok (.goto (-64), 3) := by decide +kernel
theorem dX3_countIncoming_113 : decode cX3_countIncoming 113 = .ok (.return_, 1) := by decide +kernel
set_option maxRecDepth 20000 in
theorem ggX3_startAtFirst_X3_enqueue : GoodIn wsX3_startAtFirst wsX3_enqueue := goodIn_r _ [10, 1, 11, 12, 13, 14, 15, 16, 17, 18, 19] (by decide +kernel) (by decide +kernel)
set_option maxRecDepth 20000 in
theorem gX3_startAtFirst_X3_enqueue : GoodIn wsX3_startAtFirst (wsV RX3 63 RX3 yX3_enqueue wsX3_enqueue) := goodIn_app (goodIn_of _ (by decide +kernel)) ggX3_startAtFirst_X3_enqueue
theorem dX3_startAtFirst_0 : decode cX3_startAtFirst 0 = .ok (.aload_n 0, 1) := by decide +kernel
theorem dX3_startAtFirst_1 : decode cX3_startAtFirst 1 = .ok (.iconst 0, 1) := by decide +kernel
theorem dX3_startAtFirst_2 : decode cX3_startAtFirst 2 = .ok (.putfield 46, 3) := by decide +kernel
theorem dX3_startAtFirst_5 : decode cX3_startAtFirst 5 = .ok (.aload_n 0, 1) := by decide +kernel
theorem dX3_startAtFirst_6 : decode cX3_startAtFirst 6 = .ok (.iconst 0, 1) := by decide +kernel
theorem dX3_startAtFirst_7 : decode cX3_startAtFirst 7 = .ok (.putfield 29, 3) := by decide +kernel
theorem dX3_startAtFirst_10 : decode cX3_startAtFirst 10 = .ok (.aload_n 0, 1) := by decide +kernel
theorem dX3_startAtFirst_11 : decode cX3_startAtFirst 11 = .ok (.lconst 0, 1) := by decide +kernel
theorem dX3_startAtFirst_12 : decode cX3_startAtFirst 12 = .ok (.putfield 33, 3) := by decide +kernel
theorem dX3_startAtFirst_15 : decode cX3_startAtFirst 15 = .ok (.aload_n 0, 1) := by decide +kernel
theorem dX3_startAtFirst_16 : decode cX3_startAtFirst 16 = .ok (.getfield 18, 3) := by decide +kernel
theorem dX3_startAtFirst_19 : decode cX3_startAtFirst 19 = .ok (.iconst 0, 1) := by decide +kernel
theorem dX3_startAtFirst_20 : decode cX3_startAtFirst 20 = .ok (.lconst 1, 1) := by decide +kernel
theorem dX3_startAtFirst_21 : decode cX3_startAtFirst 21 = .ok (.lastore, 1) := by decide +kernel
theorem dX3_startAtFirst_22 : decode cX3_startAtFirst 22 = .ok (.aload_n 0, 1) := by decide +kernel
theorem dX3_startAtFirst_23 : decode cX3_startAtFirst 23 = .ok (.getfield 9, 3) := by decide +kernel
theorem dX3_startAtFirst_26 : decode cX3_startAtFirst 26 = .ok (.iconst 0, 1) := by decide +kernel
theorem dX3_startAtFirst_27 : decode cX3_startAtFirst 27 = .ok (.iaload, 1) := by decide +kernel
theorem dX3_startAtFirst_28 : decode cX3_startAtFirst 28 = .ok (.ifCond .ne 8, 3) := by decide +kernel
theorem dX3_startAtFirst_31 : decode cX3_startAtFirst 31 = .ok (.aload_n 0, 1) := by decide +kernel
theorem dX3_startAtFirst_32 : decode cX3_startAtFirst 32 = .ok (.iconst 0, 1) := by decide +kernel
theorem dX3_startAtFirst_33 : decode cX3_startAtFirst 33 = .ok (.invokevirtual 63, 3) := by decide +kernel
theorem dX3_startAtFirst_36 : decode cX3_startAtFirst 36 = .ok (.return_, 1) := by decide +kernel
theorem dX3_enqueue_0 : decode cX3_enqueue 0 = .ok (.aload_n 0, 1) := by decide +kernel
theorem dX3_enqueue_1 : decode cX3_enqueue 1 = .ok (.getfield 46, 3) := by decide +kernel
theorem dX3_enqueue_4 : decode cX3_enqueue 4 = .ok (.ifCond .lt 33, 3) := by decide +kernel
theorem dX3_enqueue_7 : decode cX3_enqueue 7 = .ok (.aload_n 0, 1) := by decide +kernel
theorem dX3_enqueue_8 : decode cX3_enqueue 8 = .ok (.getfield 46, 3) := by decide +kernel
theorem dX3_enqueue_11 : decode cX3_enqueue 11 = .ok (.sipush 1000, 3) := by decide +kernel
theorem dX3_enqueue_14 : decode cX3_enqueue 14 = .ok (.if_icmp .ge 23, 3) := by decide +kernel
theorem dX3_enqueue_17 : decode cX3_enqueue 17 = .ok (.aload_n 0, 1) := by decide +kernel
theorem dX3_enqueue_18 : decode cX3_enqueue 18 = .ok (.getfield 22, 3) := by decide +kernel
theorem dX3_enqueue_21 : decode cX3_enqueue 21 = .ok (.aload_n 0, 1) := by decide +kernel
theorem dX3_enqueue_22 : decode cX3_enqueue 22 = .ok (.getfield 46, 3) := by decide +kernel
theorem dX3_enqueue_25 : decode cX3_enqueue 25 = .ok (.iload_n 1, 1) := by decide +kernel
theorem dX3_enqueue_26 : decode cX3_enqueue 26 = .ok (.iastore, 1) := by decide +kernel
theorem dX3_enqueue_27 : decode cX3_enqueue 27 = .ok (.aload_n 0, 1) := by decide +kernel
theorem dX3_enqueue_28 : decode cX3_enqueue 28 = .ok (.dup, 1) := by decide +kernel
theorem dX3_enqueue_29 : decode cX3_enqueue 29 = .ok (.getfield 46, 3) := by decide +kernel
theorem dX3_enqueue_32 : decode cX3_enqueue 32 = .ok (.iconst 1, 1) := by decide +kernel
theorem dX3_enqueue_33 : decode cX3_enqueue 33 = .ok (.iadd, 1) := by decide +kernel
theorem dX3_enqueue_34 : decode cX3_enqueue 34 = .ok (.putfield 46, 3) := by decide +kernel
theorem dX3_enqueue_37 : decode cX3_enqueue 37 = .ok (.return_, 1) := by decide +kernel
set_option maxRecDepth 20000 in
theorem ggX3_take_X1_nextOf : GoodIn wsX3_take wsX1_nextOf := goodIn_r _ [13, 14, 15, 36, 37, 38, 39, 40, 41, 42, 43, 44, 45, 46, 47] (by decide +kernel) (by decide +kernel)
set_option maxRecDepth 20000 in
theorem gX3_take_X1_nextOf : GoodIn wsX3_take (wsV RX3 59 RX1 yX1_nextOf wsX1_nextOf) := goodIn_app (goodIn_of _ (by decide +kernel)) ggX3_take_X1_nextOf
set_option maxRecDepth 20000 in
theorem ggX3_take_X3_lead : GoodIn wsX3_take wsX3_lead := goodIn_r _ [20, 1, 4, 5, 6, 7, 2, 21, 22, 23, 24, 19, 25, 26, 27, 28, 29, 30, 31, 32, 33, 34, 35] (by decide +kernel) (by decide +kernel)
set_option maxRecDepth 20000 in
theorem gX3_take_X3_lead : GoodIn wsX3_take (wsV RX3 67 RX3 yX3_lead wsX3_lead) := goodIn_app (goodIn_of _ (by decide +kernel)) ggX3_take_X3_lead
theorem dX3_take_0 : decode cX3_take 0 = .ok (.iload_n 2, 1) := by decide +kernel
theorem dX3_take_1 : decode cX3_take 1 = .ok (.ifCond .lt 10, 3) := by decide +kernel
theorem dX3_take_4 : decode cX3_take 4 = .ok (.iload_n 2, 1) := by decide +kernel
theorem dX3_take_5 : decode cX3_take 5 = .ok (.sipush 1000, 3) := by decide +kernel
theorem dX3_take_8 : decode cX3_take 8 = .ok (.if_icmp .lt 4, 3) := by decide +kernel
theorem dX3_take_11 : decode cX3_take 11 = .ok (.return_, 1) := by decide +kernel
theorem dX3_take_12 : decode cX3_take 12 = .ok (.iconst 1, 1) := by decide +kernel
theorem dX3_take_13 : decode cX3_take 13 = .ok (.istore_n 3, 1) := by decide +kernel
theorem dX3_take_14 : decode cX3_take 14 = .ok (.iconst 0, 1) := by decide +kernel
theorem dX3_take_15 : decode cX3_take 15 = .ok (.istore 4, 2) := by decide +kernel
theorem dX3_take_17 : decode cX3_take 17 = .ok (.iload 4, 2) := by decide +kernel
theorem dX3_take_19 : decode cX3_take 19 = .ok (.bipush 8, 2) := by decide +kernel
theorem dX3_take_21 : decode cX3_take 21 = .ok (.if_icmp .ge 46, 3) := by decide +kernel
theorem dX3_take_24 : decode cX3_take 24 = .ok (.aload_n 1, 1) := by decide +kernel
theorem dX3_take_25 : decode cX3_take 25 = .ok (.iload_n 2, 1) := by decide +kernel
theorem dX3_take_26 : decode cX3_take 26 = .ok (.iload 4, 2) := by decide +kernel
theorem dX3_take_28 : decode cX3_take 28 = .ok (.invokevirtual 59, 3) := by decide +kernel
theorem dX3_take_31 : decode cX3_take 31 = .ok (.istore 5, 2) := by decide +kernel
theorem dX3_take_33 : decode cX3_take 33 = .ok (.iload 5, 2) := by decide +kernel
theorem dX3_take_35 : decode cX3_take 35 = .ok (.iconst (-1), 1) := by decide +kernel
theorem dX3_take_36 : decode cX3_take 36 = .ok (.if_icmp .eq 25, 3) := by decide +kernel
theorem dX3_take_39 : decode cX3_take 39 = .ok (.iconst 0, 1) := by decide +kernel
theorem dX3_take_40 : decode cX3_take 40 = .ok (.istore_n 3, 1) := by decide +kernel
theorem dX3_take_41 : decode cX3_take 41 = .ok (.aload_n 0, 1) := by decide +kernel
theorem dX3_take_42 : decode cX3_take 42 = .ok (.iload 5, 2) := by decide +kernel
theorem dX3_take_44 : decode cX3_take 44 = .ok (.aload_n 0, 1) := by decide +kernel
theorem dX3_take_45 : decode cX3_take 45 = .ok (.getfield 15, 3) := by decide +kernel
theorem dX3_take_48 : decode cX3_take 48 = .ok (.iload_n 2, 1) := by decide +kernel
theorem dX3_take_49 : decode cX3_take 49 = .ok (.iaload, 1) := by decide +kernel
theorem dX3_take_50 : decode cX3_take 50 = .ok (.iconst 1, 1) := by decide +kernel
theorem dX3_take_51 : decode cX3_take 51 = .ok (.iadd, 1) := by decide +kernel
theorem dX3_take_52 : decode cX3_take 52 = .ok (.aload_n 0, 1) := by decide +kernel
theorem dX3_take_53 : decode cX3_take 53 = .ok (.getfield 18, 3) := by decide +kernel
theorem dX3_take_56 : decode cX3_take 56 = .ok (.iload_n 2, 1) := by decide +kernel
theorem dX3_take_57 : decode cX3_take 57 = .ok (.laload, 1) := by decide +kernel
theorem dX3_take_58 : decode cX3_take 58 = .ok (.invokevirtual 67, 3) := by decide +kernel
theorem dX3_take_61 : decode cX3_take 61 = .ok (.iinc 4 1, 3) := by decide +kernel
theorem dX3_take_64 : decode cX3_take 64 = .ok (.goto (-47), 3) := by decide +kernel
theorem dX3_take_67 : decode cX3_take 67 = .ok (.iload_n 3, 1) := by decide +kernel
theorem dX3_take_68 : decode cX3_take 68 = .ok (.ifCond .eq 35, 3) := by decide +kernel
theorem dX3_take_71 : decode cX3_take 71 = .ok (.aload_n 0, 1) := by decide +kernel
theorem dX3_take_72 : decode cX3_take 72 = .ok (.aload_n 0, 1) := by decide +kernel
theorem dX3_take_73 : decode cX3_take 73 = .ok (.getfield 29, 3) := by decide +kernel
theorem dX3_take_76 : decode cX3_take 76 = .ok (.aload_n 0, 1) := by decide +kernel
theorem dX3_take_77 : decode cX3_take 77 = .ok (.getfield 15, 3) := by decide +kernel
theorem dX3_take_80 : decode cX3_take 80 = .ok (.iload_n 2, 1) := by decide +kernel
theorem dX3_take_81 : decode cX3_take 81 = .ok (.iaload, 1) := by decide +kernel
theorem dX3_take_82 : decode cX3_take 82 = .ok (.invokestatic 71, 3) := by decide +kernel
theorem dX3_take_85 : decode cX3_take 85 = .ok (.putfield 29, 3) := by decide +kernel
theorem dX3_take_88 : decode cX3_take 88 = .ok (.aload_n 0, 1) := by decide +kernel
theorem dX3_take_89 : decode cX3_take 89 = .ok (.dup, 1) := by decide +kernel
theorem dX3_take_90 : decode cX3_take 90 = .ok (.getfield 33, 3) := by decide +kernel
theorem dX3_take_93 : decode cX3_take 93 = .ok (.aload_n 0, 1) := by decide +kernel
theorem dX3_take_94 : decode cX3_take 94 = .ok (.getfield 18, 3) := by decide +kernel
theorem dX3_take_97 : decode cX3_take 97 = .ok (.iload_n 2, 1) := by decide +kernel
theorem dX3_take_98 : decode cX3_take 98 = .ok (.laload, 1) := by decide +kernel
theorem dX3_take_99 : decode cX3_take 99 = .ok (.ladd, 1) := by decide +kernel
theorem dX3_take_100 : decode cX3_take 100 = .ok (.putfield 33, 3) := by decide +kernel
theorem dX3_take_103 : decode cX3_take 103 = .ok (.return_, 1) := by decide +kernel
set_option maxRecDepth 20000 in
theorem ggX3_lead_X3_enqueue : GoodIn wsX3_lead wsX3_enqueue := goodIn_r _ [12, 13, 14, 15, 16, 17, 18, 19, 20, 21, 22] (by decide +kernel) (by decide +kernel)
set_option maxRecDepth 20000 in
theorem gX3_lead_X3_enqueue : GoodIn wsX3_lead (wsV RX3 63 RX3 yX3_enqueue wsX3_enqueue) := goodIn_app (goodIn_of _ (by decide +kernel)) ggX3_lead_X3_enqueue
theorem dX3_lead_0 : decode cX3_lead 0 = .ok (.iload_n 1, 1) := by decide +kernel
theorem dX3_lead_1 : decode cX3_lead 1 = .ok (.ifCond .lt 10, 3) := by decide +kernel
theorem dX3_lead_4 : decode cX3_lead 4 = .ok (.iload_n 1, 1) := by decide +kernel
theorem dX3_lead_5 : decode cX3_lead 5 = .ok (.sipush 1000, 3) := by decide +kernel
theorem dX3_lead_8 : decode cX3_lead 8 = .ok (.if_icmp .lt 4, 3) := by decide +kernel
theorem dX3_lead_11 : decode cX3_lead 11 = .ok (.return_, 1) := by decide +kernel
theorem dX3_lead_12 : decode cX3_lead 12 = .ok (.aload_n 0, 1) := by decide +kernel
theorem dX3_lead_13 : decode cX3_lead 13 = .ok (.getfield 15, 3) := by decide +kernel
theorem dX3_lead_16 : decode cX3_lead 16 = .ok (.iload_n 1, 1) := by decide +kernel
theorem dX3_lead_17 : decode cX3_lead 17 = .ok (.aload_n 0, 1) := by decide +kernel
theorem dX3_lead_18 : decode cX3_lead 18 = .ok (.getfield 15, 3) := by decide +kernel
theorem dX3_lead_21 : decode cX3_lead 21 = .ok (.iload_n 1, 1) := by decide +kernel
theorem dX3_lead_22 : decode cX3_lead 22 = .ok (.iaload, 1) := by decide +kernel
theorem dX3_lead_23 : decode cX3_lead 23 = .ok (.iload_n 2, 1) := by decide +kernel
theorem dX3_lead_24 : decode cX3_lead 24 = .ok (.invokestatic 71, 3) := by decide +kernel
theorem dX3_lead_27 : decode cX3_lead 27 = .ok (.iastore, 1) := by decide +kernel
theorem dX3_lead_28 : decode cX3_lead 28 = .ok (.aload_n 0, 1) := by decide +kernel
theorem dX3_lead_29 : decode cX3_lead 29 = .ok (.getfield 18, 3) := by decide +kernel
theorem dX3_lead_32 : decode cX3_lead 32 = .ok (.iload_n 1, 1) := by decide +kernel
theorem dX3_lead_33 : decode cX3_lead 33 = .ok (.dup2, 1) := by decide +kernel
theorem dX3_lead_34 : decode cX3_lead 34 = .ok (.laload, 1) := by decide +kernel
theorem dX3_lead_35 : decode cX3_lead 35 = .ok (.lload_n 3, 1) := by decide +kernel
theorem dX3_lead_36 : decode cX3_lead 36 = .ok (.ladd, 1) := by decide +kernel
theorem dX3_lead_37 : decode cX3_lead 37 = .ok (.lastore, 1) := by decide +kernel
theorem dX3_lead_38 : decode cX3_lead 38 = .ok (.aload_n 0, 1) := by decide +kernel
theorem dX3_lead_39 : decode cX3_lead 39 = .ok (.getfield 9, 3) := by decide +kernel
theorem dX3_lead_42 : decode cX3_lead 42 = .ok (.iload_n 1, 1) := by decide +kernel
theorem dX3_lead_43 : decode cX3_lead 43 = .ok (.dup2, 1) := by decide +kernel
theorem dX3_lead_44 : decode cX3_lead 44 = .ok (.iaload, 1) := by decide +kernel
theorem dX3_lead_45 : decode cX3_lead 45 = .ok (.iconst 1, 1) := by decide +kernel
theorem dX3_lead_46 : decode cX3_lead 46 = .ok (.isub, 1) := by decide +kernel
theorem dX3_lead_47 : decode cX3_lead 47 = .ok (.iastore, 1) := by decide +kernel
theorem dX3_lead_48 : decode cX3_lead 48 = .ok (.aload_n 0, 1) := by decide +kernel
theorem dX3_lead_49 : decode cX3_lead 49 = .ok (.getfield 9, 3) := by decide +kernel
theorem dX3_lead_52 : decode cX3_lead 52 = .ok (.iload_n 1, 1) := by decide +kernel
theorem dX3_lead_53 : decode cX3_lead 53 = .ok (.iaload, 1) := by decide +kernel
theorem dX3_lead_54 : decode cX3_lead 54 = .ok (.ifCond .ne 8, 3) := by decide +kernel
theorem dX3_lead_57 : decode cX3_lead 57 = .ok (.aload_n 0, 1) := by decide +kernel
theorem dX3_lead_58 : decode cX3_lead 58 = .ok (.iload_n 1, 1) := by decide +kernel
theorem dX3_lead_59 : decode cX3_lead 59 = .ok (.invokevirtual 63, 3) := by decide +kernel
theorem dX3_lead_62 : decode cX3_lead 62 = .ok (.return_, 1) := by decide +kernel
theorem dX4_init_0 : decode cX4_init 0 = .ok (.aload_n 0, 1) := by decide +kernel
theorem dX4_init_1 : decode cX4_init 1 = .ok (.invokespecial 3, 3) := by decide +kernel
theorem dX4_init_4 : decode cX4_init 4 = .ok (.aload_n 0, 1) := by decide +kernel
theorem dX4_init_5 : decode cX4_init 5 = .ok (.iconst 4, 1) := by decide +kernel
theorem dX4_init_6 : decode cX4_init 6 = .ok (.newarray .int, 2) := by decide +kernel
theorem dX4_init_8 : decode cX4_init 8 = .ok (.putfield 9, 3) := by decide +kernel
theorem dX4_init_11 : decode cX4_init 11 = .ok (.aload_n 0, 1) := by decide +kernel
theorem dX4_init_12 : decode cX4_init 12 = .ok (.iload_n 1, 1) := by decide +kernel
theorem dX4_init_13 : decode cX4_init 13 = .ok (.putfield 15, 3) := by decide +kernel
theorem dX4_init_16 : decode cX4_init 16 = .ok (.return_, 1) := by decide +kernel
theorem dX4_isFull_0 : decode cX4_isFull 0 = .ok (.aload_n 0, 1) := by decide +kernel
theorem dX4_isFull_1 : decode cX4_isFull 1 = .ok (.getfield 19, 3) := by decide +kernel
theorem dX4_isFull_4 : decode cX4_isFull 4 = .ok (.aload_n 0, 1) := by decide +kernel
theorem dX4_isFull_5 : decode cX4_isFull 5 = .ok (.getfield 9, 3) := by decide +kernel
theorem dX4_isFull_8 : decode cX4_isFull 8 = .ok (.arraylength, 1) := by decide +kernel
theorem dX4_isFull_9 : decode cX4_isFull 9 = .ok (.if_icmp .lt 7, 3) := by decide +kernel
theorem dX4_isFull_12 : decode cX4_isFull 12 = .ok (.iconst 1, 1) := by decide +kernel
theorem dX4_isFull_13 : decode cX4_isFull 13 = .ok (.goto 4, 3) := by decide +kernel
theorem dX4_isFull_16 : decode cX4_isFull 16 = .ok (.iconst 0, 1) := by decide +kernel
theorem dX4_isFull_17 : decode cX4_isFull 17 = .ok (.ireturn, 1) := by decide +kernel
theorem dX4_append_0 : decode cX4_append 0 = .ok (.aload_n 0, 1) := by decide +kernel
theorem dX4_append_1 : decode cX4_append 1 = .ok (.getfield 19, 3) := by decide +kernel
theorem dX4_append_4 : decode cX4_append 4 = .ok (.ifCond .lt 15, 3) := by decide +kernel
theorem dX4_append_7 : decode cX4_append 7 = .ok (.aload_n 0, 1) := by decide +kernel
theorem dX4_append_8 : decode cX4_append 8 = .ok (.getfield 19, 3) := by decide +kernel
theorem dX4_append_11 : decode cX4_append 11 = .ok (.aload_n 0, 1) := by decide +kernel
theorem dX4_append_12 : decode cX4_append 12 = .ok (.getfield 9, 3) := by decide +kernel
theorem dX4_append_15 : decode cX4_append 15 = .ok (.arraylength, 1) := by decide +kernel
theorem dX4_append_16 : decode cX4_append 16 = .ok (.if_icmp .lt 4, 3) := by decide +kernel
theorem dX4_append_19 : decode cX4_append 19 = .ok (.return_, 1) := by decide +kernel
theorem dX4_append_20 : decode cX4_append 20 = .ok (.aload_n 0, 1) := by decide +kernel
theorem dX4_append_21 : decode cX4_append 21 = .ok (.getfield 9, 3) := by decide +kernel
theorem dX4_append_24 : decode cX4_append 24 = .ok (.aload_n 0, 1) := by decide +kernel
theorem dX4_append_25 : decode cX4_append 25 = .ok (.getfield 19, 3) := by decide +kernel
theorem dX4_append_28 : decode cX4_append 28 = .ok (.iload_n 1, 1) := by decide +kernel
theorem dX4_append_29 : decode cX4_append 29 = .ok (.iastore, 1) := by decide +kernel
theorem dX4_append_30 : decode cX4_append 30 = .ok (.aload_n 0, 1) := by decide +kernel
theorem dX4_append_31 : decode cX4_append 31 = .ok (.dup, 1) := by decide +kernel
theorem dX4_append_32 : decode cX4_append 32 = .ok (.getfield 19, 3) := by decide +kernel
theorem dX4_append_35 : decode cX4_append 35 = .ok (.iconst 1, 1) := by decide +kernel
theorem dX4_append_36 : decode cX4_append 36 = .ok (.iadd, 1) := by decide +kernel
theorem dX4_append_37 : decode cX4_append 37 = .ok (.putfield 19, 3) := by decide +kernel
theorem dX4_append_40 : decode cX4_append 40 = .ok (.iconst 1, 1) := by decide +kernel
theorem dX4_append_41 : decode cX4_append 41 = .ok (.iload_n 1, 1) := by decide +kernel
theorem dX4_append_42 : decode cX4_append 42 = .ok (.iconst 1, 1) := by decide +kernel
theorem dX4_append_43 : decode cX4_append 43 = .ok (.ishr, 1) := by decide +kernel
theorem dX4_append_44 : decode cX4_append 44 = .ok (.ishl, 1) := by decide +kernel
theorem dX4_append_45 : decode cX4_append 45 = .ok (.istore_n 2, 1) := by decide +kernel
theorem dX4_append_46 : decode cX4_append 46 = .ok (.iload_n 1, 1) := by decide +kernel
theorem dX4_append_47 : decode cX4_append 47 = .ok (.iconst 1, 1) := by decide +kernel
theorem dX4_append_48 : decode cX4_append 48 = .ok (.iand, 1) := by decide +kernel
theorem dX4_append_49 : decode cX4_append 49 = .ok (.iconst 1, 1) := by decide +kernel
theorem dX4_append_50 : decode cX4_append 50 = .ok (.if_icmp .ne 16, 3) := by decide +kernel
theorem dX4_append_53 : decode cX4_append 53 = .ok (.aload_n 0, 1) := by decide +kernel
theorem dX4_append_54 : decode cX4_append 54 = .ok (.dup, 1) := by decide +kernel
theorem dX4_append_55 : decode cX4_append 55 = .ok (.getfield 22, 3) := by decide +kernel
theorem dX4_append_58 : decode cX4_append 58 = .ok (.iload_n 2, 1) := by decide +kernel
theorem dX4_append_59 : decode cX4_append 59 = .ok (.ior, 1) := by decide +kernel
theorem dX4_append_60 : decode cX4_append 60 = .ok (.putfield 22, 3) := by decide +kernel
theorem dX4_append_63 : decode cX4_append 63 = .ok (.goto 13, 3) := by decide +kernel
theorem dX4_append_66 : decode cX4_append 66 = .ok (.aload_n 0, 1) := by decide +kernel
theorem dX4_append_67 : decode cX4_append 67 = .ok (.dup, 1) := by decide +kernel
theorem dX4_append_68 : decode cX4_append 68 = .ok (.getfield 25, 3) := by decide +kernel
theorem dX4_append_71 : decode cX4_append 71 = .ok (.iload_n 2, 1) := by decide +kernel
theorem dX4_append_72 : decode cX4_append 72 = .ok (.ior, 1) := by decide +kernel
theorem dX4_append_73 : decode cX4_append 73 = .ok (.putfield 25, 3) := by decide +kernel
theorem dX4_append_76 : decode cX4_append 76 = .ok (.return_, 1) := by decide +kernel
theorem dX4_actionAt_0 : decode cX4_actionAt 0 = .ok (.iload_n 1, 1) := by decide +kernel
theorem dX4_actionAt_1 : decode cX4_actionAt 1 = .ok (.ifCond .lt 21, 3) := by decide +kernel
theorem dX4_actionAt_4 : decode cX4_actionAt 4 = .ok (.iload_n 1, 1) := by decide +kernel
theorem dX4_actionAt_5 : decode cX4_actionAt 5 = .ok (.aload_n 0, 1) := by decide +kernel
theorem dX4_actionAt_6 : decode cX4_actionAt 6 = .ok (.getfield 9, 3) := by decide +kernel
theorem dX4_actionAt_9 : decode cX4_actionAt 9 = .ok (.arraylength, 1) := by decide +kernel
theorem dX4_actionAt_10 : decode cX4_actionAt 10 = .ok (.if_icmp .ge 12, 3) := by decide +kernel
theorem dX4_actionAt_13 : decode cX4_actionAt 13 = .ok (.aload_n 0, 1) := by decide +kernel
theorem dX4_actionAt_14 : decode cX4_actionAt 14 = .ok (.getfield 9, 3) := by decide +kernel
theorem dX4_actionAt_17 : decode cX4_actionAt 17 = .ok (.iload_n 1, 1) := by decide +kernel
theorem dX4_actionAt_18 : decode cX4_actionAt 18 = .ok (.iaload, 1) := by decide +kernel
theorem dX4_actionAt_19 : decode cX4_actionAt 19 = .ok (.goto 4, 3) := by decide +kernel
theorem dX4_actionAt_22 : decode cX4_actionAt 22 = .ok (.iconst 0, 1) := by decide +kernel
theorem dX4_actionAt_23 : decode cX4_actionAt 23 = .ok (.ireturn, 1) := by decide +kernel
theorem dX4_isOver_0 : decode cX4_isOver 0 = .ok (.aload_n 0, 1) := by decide +kernel
theorem dX4_isOver_1 : decode cX4_isOver 1 = .ok (.getfield 28, 3) := by decide +kernel
theorem dX4_isOver_4 : decode cX4_isOver 4 = .ok (.aload_n 1, 1) := by decide +kernel
theorem dX4_isOver_5 : decode cX4_isOver 5 = .ok (.getfield 15, 3) := by decide +kernel
theorem dX4_isOver_8 : decode cX4_isOver 8 = .ok (.iand, 1) := by decide +kernel
theorem dX4_isOver_9 : decode cX4_isOver 9 = .ok (.ifCond .eq 7, 3) := by decide +kernel
theorem dX4_isOver_12 : decode cX4_isOver 12 = .ok (.iconst 1, 1) := by decide +kernel
theorem dX4_isOver_13 : decode cX4_isOver 13 = .ok (.goto 4, 3) := by decide +kernel
theorem dX4_isOver_16 : decode cX4_isOver 16 = .ok (.iconst 0, 1) := by decide +kernel
theorem dX4_isOver_17 : decode cX4_isOver 17 = .ok (.ireturn, 1) := by decide +kernel
set_option maxRecDepth 20000 in
theorem ggX4_isReadyIn_X6_triggeredIn : GoodIn wsX4_isReadyIn wsX6_triggeredIn := goodIn_r _ [5] (by decide +kernel) (by decide +kernel)
set_option maxRecDepth 20000 in
theorem gX4_isReadyIn_X6_triggeredIn_n31 : GoodIn wsX4_isReadyIn (wsX6_triggeredIn) := ggX4_isReadyIn_X6_triggeredIn
theorem dX4_isReadyIn_0 : decode cX4_isReadyIn 0 = .ok (.iload_n 1, 1) := by decide +kernel
theorem dX4_isReadyIn_1 : decode cX4_isReadyIn 1 = .ok (.invokestatic 31, 3) := by decide +kernel
theorem dX4_isReadyIn_4 : decode cX4_isReadyIn 4 = .ok (.istore_n 2, 1) := by decide +kernel
theorem dX4_isReadyIn_5 : decode cX4_isReadyIn 5 = .ok (.iload_n 2, 1) := by decide +kernel
theorem dX4_isReadyIn_6 : decode cX4_isReadyIn 6 = .ok (.aload_n 0, 1) := by decide +kernel
theorem dX4_isReadyIn_7 : decode cX4_isReadyIn 7 = .ok (.getfield 15, 3) := by decide +kernel
theorem dX4_isReadyIn_10 : decode cX4_isReadyIn 10 = .ok (.iand, 1) := by decide +kernel
theorem dX4_isReadyIn_11 : decode cX4_isReadyIn 11 = .ok (.ifCond .eq 16, 3) := by decide +kernel
theorem dX4_isReadyIn_14 : decode cX4_isReadyIn 14 = .ok (.iload_n 2, 1) := by decide +kernel
theorem dX4_isReadyIn_15 : decode cX4_isReadyIn 15 = .ok (.aload_n 0, 1) := by decide +kernel
theorem dX4_isReadyIn_16 : decode cX4_isReadyIn 16 = .ok (.getfield 35, 3) := by decide +kernel
theorem dX4_isReadyIn_19 : decode cX4_isReadyIn 19 = .ok (.iand, 1) := by decide +kernel
theorem dX4_isReadyIn_20 : decode cX4_isReadyIn 20 = .ok (.ifCond .ne 7, 3) := by decide +kernel
theorem dX4_isReadyIn_23 : decode cX4_isReadyIn 23 = .ok (.iconst 1, 1) := by decide +kernel
theorem dX4_isReadyIn_24 : decode cX4_isReadyIn 24 = .ok (.goto 4, 3) := by decide +kernel
theorem dX4_isReadyIn_27 : decode cX4_isReadyIn 27 = .ok (.iconst 0, 1) := by decide +kernel
theorem dX4_isReadyIn_28 : decode cX4_isReadyIn 28 = .ok (.ireturn, 1) := by decide +kernel
set_option maxRecDepth 20000 in
theorem ggX4_holdsIn_X6_factsIn : GoodIn wsX4_holdsIn wsX6_factsIn := goodIn_r _ [5] (by decide +kernel) (by decide +kernel)
set_option maxRecDepth 20000 in
theorem gX4_holdsIn_X6_factsIn_n38 : GoodIn wsX4_holdsIn (wsX6_factsIn) := ggX4_holdsIn_X6_factsIn
theorem dX4_holdsIn_0 : decode cX4_holdsIn 0 = .ok (.iload_n 1, 1) := by decide +kernel
theorem dX4_holdsIn_1 : decode cX4_holdsIn 1 = .ok (.invokestatic 38, 3) := by decide +kernel
theorem dX4_holdsIn_4 : decode cX4_holdsIn 4 = .ok (.istore_n 2, 1) := by decide +kernel
theorem dX4_holdsIn_5 : decode cX4_holdsIn 5 = .ok (.iload_n 2, 1) := by decide +kernel
theorem dX4_holdsIn_6 : decode cX4_holdsIn 6 = .ok (.aload_n 0, 1) := by decide +kernel
theorem dX4_holdsIn_7 : decode cX4_holdsIn 7 = .ok (.getfield 41, 3) := by decide +kernel
theorem dX4_holdsIn_10 : decode cX4_holdsIn 10 = .ok (.iand, 1) := by decide +kernel
theorem dX4_holdsIn_11 : decode cX4_holdsIn 11 = .ok (.aload_n 0, 1) := by decide +kernel
theorem dX4_holdsIn_12 : decode cX4_holdsIn 12 = .ok (.getfield 41, 3) := by decide +kernel
theorem dX4_holdsIn_15 : decode cX4_holdsIn 15 = .ok (.if_icmp .ne 16, 3) := by decide +kernel
theorem dX4_holdsIn_18 : decode cX4_holdsIn 18 = .ok (.iload_n 2, 1) := by decide +kernel
theorem dX4_holdsIn_19 : decode cX4_holdsIn 19 = .ok (.aload_n 0, 1) := by decide +kernel
theorem dX4_holdsIn_20 : decode cX4_holdsIn 20 = .ok (.getfield 44, 3) := by decide +kernel
theorem dX4_holdsIn_23 : decode cX4_holdsIn 23 = .ok (.iand, 1) := by decide +kernel
theorem dX4_holdsIn_24 : decode cX4_holdsIn 24 = .ok (.ifCond .ne 7, 3) := by decide +kernel
theorem dX4_holdsIn_27 : decode cX4_holdsIn 27 = .ok (.iconst 1, 1) := by decide +kernel
theorem dX4_holdsIn_28 : decode cX4_holdsIn 28 = .ok (.goto 4, 3) := by decide +kernel
theorem dX4_holdsIn_31 : decode cX4_holdsIn 31 = .ok (.iconst 0, 1) := by decide +kernel
theorem dX4_holdsIn_32 : decode cX4_holdsIn 32 = .ok (.ireturn, 1) := by decide +kernel
theorem dX4_changedFacts_0 : decode cX4_changedFacts 0 = .ok (.aload_n 0, 1) := by decide +kernel
theorem dX4_changedFacts_1 : decode cX4_changedFacts 1 = .ok (.getfield 22, 3) := by decide +kernel
theorem dX4_changedFacts_4 : decode cX4_changedFacts 4 = .ok (.aload_n 0, 1) := by decide +kernel
theorem dX4_changedFacts_5 : decode cX4_changedFacts 5 = .ok (.getfield 25, 3) := by decide +kernel
theorem dX4_changedFacts_8 : decode cX4_changedFacts 8 = .ok (.ior, 1) := by decide +kernel
theorem dX4_changedFacts_9 : decode cX4_changedFacts 9 = .ok (.ireturn, 1) := by decide +kernel
theorem dX4_conditionFacts_0 : decode cX4_conditionFacts 0 = .ok (.aload_n 0, 1) := by decide +kernel
theorem dX4_conditionFacts_1 : decode cX4_conditionFacts 1 = .ok (.getfield 41, 3) := by decide +kernel
theorem dX4_conditionFacts_4 : decode cX4_conditionFacts 4 = .ok (.aload_n 0, 1) := by decide +kernel
theorem dX4_conditionFacts_5 : decode cX4_conditionFacts 5 = .ok (.getfield 44, 3) := by decide +kernel
theorem dX4_conditionFacts_8 : decode cX4_conditionFacts 8 = .ok (.ior, 1) := by decide +kernel
theorem dX4_conditionFacts_9 : decode cX4_conditionFacts 9 = .ok (.ireturn, 1) := by decide +kernel
set_option maxRecDepth 20000 in
theorem ggX5_init_X4_init : GoodIn wsX5_init wsX4_init := goodIn_r _ [12, 13, 2, 3, 6, 14, 15, 19, 20, 21, 22, 23, 24, 25, 26, 27, 28, 29] (by decide +kernel) (by decide +kernel)
set_option maxRecDepth 20000 in
theorem gX5_init_X4_init : GoodIn wsX5_init (wsX4_init) := ggX5_init_X4_init
theorem dX5_init_0 : decode cX5_init 0 = .ok (.aload_n 0, 1) := by decide +kernel
theorem dX5_init_1 : decode cX5_init 1 = .ok (.invokespecial 3, 3) := by decide +kernel
theorem dX5_init_4 : decode cX5_init 4 = .ok (.aload_n 0, 1) := by decide +kernel
theorem dX5_init_5 : decode cX5_init 5 = .ok (.bipush 8, 2) := by decide +kernel
theorem dX5_init_7 : decode cX5_init 7 = .ok (.anewarray 9, 3) := by decide +kernel
theorem dX5_init_10 : decode cX5_init 10 = .ok (.putfield 11, 3) := by decide +kernel
theorem dX5_init_13 : decode cX5_init 13 = .ok (.aload_n 0, 1) := by decide +kernel
theorem dX5_init_14 : decode cX5_init 14 = .ok (.bipush 12, 2) := by decide +kernel
theorem dX5_init_16 : decode cX5_init 16 = .ok (.newarray .int, 2) := by decide +kernel
theorem dX5_init_18 : decode cX5_init 18 = .ok (.putfield 17, 3) := by decide +kernel
theorem dX5_init_21 : decode cX5_init 21 = .ok (.iconst 0, 1) := by decide +kernel
theorem dX5_init_22 : decode cX5_init 22 = .ok (.istore_n 1, 1) := by decide +kernel
theorem dX5_init_23 : decode cX5_init 23 = .ok (.iload_n 1, 1) := by decide +kernel
theorem dX5_init_24 : decode cX5_init 24 = .ok (.aload_n 0, 1) := by decide +kernel
theorem dX5_init_25 : decode cX5_init 25 = .ok (.getfield 11, 3) := by decide +kernel
theorem dX5_init_28 : decode cX5_init 28 = .ok (.arraylength, 1) := by decide +kernel
theorem dX5_init_29 : decode cX5_init 29 = .ok (.if_icmp .ge 25, 3) := by decide +kernel
theorem dX5_init_32 : decode cX5_init 32 = .ok (.aload_n 0, 1) := by decide +kernel
theorem dX5_init_33 : decode cX5_init 33 = .ok (.getfield 11, 3) := by decide +kernel
theorem dX5_init_36 : decode cX5_init 36 = .ok (.iload_n 1, 1) := by decide +kernel
theorem dX5_init_37 : decode cX5_init 37 = .ok (.new 9, 3) := by decide +kernel
theorem dX5_init_40 : decode cX5_init 40 = .ok (.dup, 1) := by decide +kernel
theorem dX5_init_41 : decode cX5_init 41 = .ok (.iconst 1, 1) := by decide +kernel
theorem dX5_init_42 : decode cX5_init 42 = .ok (.iload_n 1, 1) := by decide +kernel
theorem dX5_init_43 : decode cX5_init 43 = .ok (.ishl, 1) := by decide +kernel
theorem dX5_init_44 : decode cX5_init 44 = .ok (.invokespecial 21, 3) := by decide +kernel
theorem dX5_init_47 : decode cX5_init 47 = .ok (.aastore, 1) := by decide +kernel
