theorem dX7_after_9 : decode cX7_after 9 = .ok (.ifCond .eq 29, 3) := by decide +kernel
theorem dX7_after_12 : decode cX7_after 12 = .ok (.aload_n 0, 1) := by decide +kernel
theorem dX7_after_13 : decode cX7_after 13 = .ok (.iload_n 2, 1) := by decide +kernel
theorem dX7_after_14 : decode cX7_after 14 = .ok (.aload_n 0, 1) := by decide +kernel
theorem dX7_after_15 : decode cX7_after 15 = .ok (.getfield 49, 3) := by decide +kernel
theorem dX7_after_18 : decode cX7_after 18 = .ok (.invokevirtual 129, 3) := by decide +kernel
theorem dX7_after_21 : decode cX7_after 21 = .ok (.ifCond .eq 17, 3) := by decide +kernel
theorem dX7_after_24 : decode cX7_after 24 = .ok (.aload_n 0, 1) := by decide +kernel
theorem dX7_after_25 : decode cX7_after 25 = .ok (.getfield 35, 3) := by decide +kernel
theorem dX7_after_28 : decode cX7_after 28 = .ok (.bipush 8, 2) := by decide +kernel
theorem dX7_after_30 : decode cX7_after 30 = .ok (.iload_n 1, 1) := by decide +kernel
theorem dX7_after_31 : decode cX7_after 31 = .ok (.imul, 1) := by decide +kernel
theorem dX7_after_32 : decode cX7_after 32 = .ok (.iload_n 2, 1) := by decide +kernel
theorem dX7_after_33 : decode cX7_after 33 = .ok (.iadd, 1) := by decide +kernel
theorem dX7_after_34 : decode cX7_after 34 = .ok (.iaload, 1) := by decide +kernel
theorem dX7_after_35 : decode cX7_after 35 = .ok (.goto 4, 3) := by decide +kernel
theorem dX7_after_38 : decode cX7_after 38 = .ok (.iconst 0, 1) := by decide +kernel
theorem dX7_after_39 : decode cX7_after 39 = .ok (.ireturn, 1) := by decide +kernel
set_option maxRecDepth 20000 in
theorem ggX7_isEnd_X7_triggeredIn : GoodIn wsX7_isEnd wsX7_triggeredIn := goodIn_r _ [5] (by decide +kernel) (by decide +kernel)
set_option maxRecDepth 20000 in
theorem gX7_isEnd_X7_triggeredIn : GoodIn wsX7_isEnd (va_wsS RX7 81 yX7_triggeredIn wsX7_triggeredIn) := goodIn_app (goodIn_of _ (by decide +kernel)) ggX7_isEnd_X7_triggeredIn
theorem dX7_isEnd_0 : decode cX7_isEnd 0 = .ok (.aload_n 0, 1) := by decide +kernel
theorem dX7_isEnd_1 : decode cX7_isEnd 1 = .ok (.getfield 32, 3) := by decide +kernel
theorem dX7_isEnd_4 : decode cX7_isEnd 4 = .ok (.iload_n 1, 1) := by decide +kernel
theorem dX7_isEnd_5 : decode cX7_isEnd 5 = .ok (.iaload, 1) := by decide +kernel
theorem dX7_isEnd_6 : decode cX7_isEnd 6 = .ok (.invokestatic 81, 3) := by decide +kernel
theorem dX7_isEnd_9 : decode cX7_isEnd 9 = .ok (.ifCond .ne 7, 3) := by decide +kernel
theorem dX7_isEnd_12 : decode cX7_isEnd 12 = .ok (.iconst 1, 1) := by decide +kernel
theorem dX7_isEnd_13 : decode cX7_isEnd 13 = .ok (.goto 4, 3) := by decide +kernel
theorem dX7_isEnd_16 : decode cX7_isEnd 16 = .ok (.iconst 0, 1) := by decide +kernel
theorem dX7_isEnd_17 : decode cX7_isEnd 17 = .ok (.ireturn, 1) := by decide +kernel
set_option maxRecDepth 20000 in
theorem ggX7_settle_X7_isSettled : GoodIn wsX7_settle wsX7_isSettled := goodIn_r _ [14, 4, 5, 2, 23, 24, 25, 26, 27, 28, 29, 30, 31, 32, 33, 34, 35, 36, 37, 38, 39, 40] (by decide +kernel) (by decide +kernel)
set_option maxRecDepth 20000 in
theorem gX7_settle_X7_isSettled : GoodIn wsX7_settle (wsV RX7 132 RX7 yX7_isSettled wsX7_isSettled) := goodIn_app (goodIn_of _ (by decide +kernel)) ggX7_settle_X7_isSettled
set_option maxRecDepth 20000 in
theorem ggX7_settle_X7_isEnd : GoodIn wsX7_settle wsX7_isEnd := goodIn_r _ [18, 19, 20, 21, 13, 22, 23, 24, 25, 26, 27, 28, 29, 30, 31, 32, 33, 34, 35, 36, 37, 38, 39, 40] (by decide +kernel) (by decide +kernel)
set_option maxRecDepth 20000 in
theorem gX7_settle_X7_isEnd : GoodIn wsX7_settle (wsV RX7 135 RX7 yX7_isEnd wsX7_isEnd) := goodIn_app (goodIn_of _ (by decide +kernel)) ggX7_settle_X7_isEnd
theorem dX7_settle_0 : decode cX7_settle 0 = .ok (.iconst 0, 1) := by decide +kernel
theorem dX7_settle_1 : decode cX7_settle 1 = .ok (.istore_n 1, 1) := by decide +kernel
theorem dX7_settle_2 : decode cX7_settle 2 = .ok (.iload_n 1, 1) := by decide +kernel
theorem dX7_settle_3 : decode cX7_settle 3 = .ok (.aload_n 0, 1) := by decide +kernel
theorem dX7_settle_4 : decode cX7_settle 4 = .ok (.getfield 113, 3) := by decide +kernel
theorem dX7_settle_7 : decode cX7_settle 7 = .ok (.if_icmp .ge 16, 3) := by decide +kernel
theorem dX7_settle_10 : decode cX7_settle 10 = .ok (.aload_n 0, 1) := by decide +kernel
theorem dX7_settle_11 : decode cX7_settle 11 = .ok (.getfield 38, 3) := by decide +kernel
theorem dX7_settle_14 : decode cX7_settle 14 = .ok (.iload_n 1, 1) := by decide +kernel
theorem dX7_settle_15 : decode cX7_settle 15 = .ok (.iconst (-1), 1) := by decide +kernel
theorem dX7_settle_16 : decode cX7_settle 16 = .ok (.iastore, 1) := by decide +kernel
theorem dX7_settle_17 : decode cX7_settle 17 = .ok (.iinc 1 1, 3) := by decide +kernel
theorem dX7_settle_20 : decode cX7_settle 20 = .ok (.goto (-18), 3) := by decide +kernel
theorem dX7_settle_23 : decode cX7_settle 23 = .ok (.iconst 1, 1) := by decide +kernel
theorem dX7_settle_24 : decode cX7_settle 24 = .ok (.istore_n 1, 1) := by decide +kernel
theorem dX7_settle_25 : decode cX7_settle 25 = .ok (.iload_n 1, 1) := by decide +kernel
theorem dX7_settle_26 : decode cX7_settle 26 = .ok (.ifCond .eq 152, 3) := by decide +kernel
theorem dX7_settle_29 : decode cX7_settle 29 = .ok (.iconst 0, 1) := by decide +kernel
theorem dX7_settle_30 : decode cX7_settle 30 = .ok (.istore_n 1, 1) := by decide +kernel
theorem dX7_settle_31 : decode cX7_settle 31 = .ok (.aload_n 0, 1) := by decide +kernel
theorem dX7_settle_32 : decode cX7_settle 32 = .ok (.getfield 113, 3) := by decide +kernel
theorem dX7_settle_35 : decode cX7_settle 35 = .ok (.iconst 1, 1) := by decide +kernel
theorem dX7_settle_36 : decode cX7_settle 36 = .ok (.isub, 1) := by decide +kernel
theorem dX7_settle_37 : decode cX7_settle 37 = .ok (.istore_n 2, 1) := by decide +kernel
theorem dX7_settle_38 : decode cX7_settle 38 = .ok (.iload_n 2, 1) := by decide +kernel
theorem dX7_settle_39 : decode cX7_settle 39 = .ok (.ifCond .lt 136, 3) := by decide +kernel
theorem dX7_settle_42 : decode cX7_settle 42 = .ok (.aload_n 0, 1) := by decide +kernel
theorem dX7_settle_43 : decode cX7_settle 43 = .ok (.getfield 38, 3) := by decide +kernel
theorem dX7_settle_46 : decode cX7_settle 46 = .ok (.iload_n 2, 1) := by decide +kernel
theorem dX7_settle_47 : decode cX7_settle 47 = .ok (.iaload, 1) := by decide +kernel
theorem dX7_settle_48 : decode cX7_settle 48 = .ok (.iconst (-1), 1) := by decide +kernel
theorem dX7_settle_49 : decode cX7_settle 49 = .ok (.if_icmp .ne 120, 3) := by decide +kernel
theorem dX7_settle_52 : decode cX7_settle 52 = .ok (.aload_n 0, 1) := by decide +kernel
theorem dX7_settle_53 : decode cX7_settle 53 = .ok (.iload_n 2, 1) := by decide +kernel
theorem dX7_settle_54 : decode cX7_settle 54 = .ok (.invokevirtual 132, 3) := by decide +kernel
theorem dX7_settle_57 : decode cX7_settle 57 = .ok (.ifCond .ne 6, 3) := by decide +kernel
theorem dX7_settle_60 : decode cX7_settle 60 = .ok (.goto 109, 3) := by decide +kernel
theorem dX7_settle_63 : decode cX7_settle 63 = .ok (.aload_n 0, 1) := by decide +kernel
theorem dX7_settle_64 : decode cX7_settle 64 = .ok (.getfield 38, 3) := by decide +kernel
theorem dX7_settle_67 : decode cX7_settle 67 = .ok (.iload_n 2, 1) := by decide +kernel
theorem dX7_settle_68 : decode cX7_settle 68 = .ok (.iconst 0, 1) := by decide +kernel
theorem dX7_settle_69 : decode cX7_settle 69 = .ok (.iastore, 1) := by decide +kernel
theorem dX7_settle_70 : decode cX7_settle 70 = .ok (.aload_n 0, 1) := by decide +kernel
theorem dX7_settle_71 : decode cX7_settle 71 = .ok (.getfield 41, 3) := by decide +kernel
theorem dX7_settle_74 : decode cX7_settle 74 = .ok (.iload_n 2, 1) := by decide +kernel
theorem dX7_settle_75 : decode cX7_settle 75 = .ok (.aload_n 0, 1) := by decide +kernel
theorem dX7_settle_76 : decode cX7_settle 76 = .ok (.iload_n 2, 1) := by decide +kernel
theorem dX7_settle_77 : decode cX7_settle 77 = .ok (.invokevirtual 135, 3) := by decide +kernel
theorem dX7_settle_80 : decode cX7_settle 80 = .ok (.ifCond .eq 7, 3) := by decide +kernel
theorem dX7_settle_83 : decode cX7_settle 83 = .ok (.lconst 1, 1) := by decide +kernel
theorem dX7_settle_84 : decode cX7_settle 84 = .ok (.goto 4, 3) := by decide +kernel
theorem dX7_settle_87 : decode cX7_settle 87 = .ok (.lconst 0, 1) := by decide +kernel
theorem dX7_settle_88 : decode cX7_settle 88 = .ok (.lastore, 1) := by decide +kernel
theorem dX7_settle_89 : decode cX7_settle 89 = .ok (.iconst 0, 1) := by decide +kernel
theorem dX7_settle_90 : decode cX7_settle 90 = .ok (.istore_n 3, 1) := by decide +kernel
theorem dX7_settle_91 : decode cX7_settle 91 = .ok (.iload_n 3, 1) := by decide +kernel
theorem dX7_settle_92 : decode cX7_settle 92 = .ok (.aload_n 0, 1) := by decide +kernel
theorem dX7_settle_93 : decode cX7_settle 93 = .ok (.getfield 49, 3) := by decide +kernel
theorem dX7_settle_96 : decode cX7_settle 96 = .ok (.if_icmp .ge 71, 3) := by decide +kernel
theorem dX7_settle_99 : decode cX7_settle 99 = .ok (.aload_n 0, 1) := by decide +kernel
theorem dX7_settle_100 : decode cX7_settle 100 = .ok (.getfield 35, 3) := by decide +kernel
theorem dX7_settle_103 : decode cX7_settle 103 = .ok (.bipush 8, 2) := by decide +kernel
theorem dX7_settle_105 : decode cX7_settle 105 = .ok (.iload_n 2, 1) := by decide +kernel
theorem dX7_settle_106 : decode cX7_settle 106 = .ok (.imul, 1) := by decide +kernel
theorem dX7_settle_107 : decode cX7_settle 107 = .ok (.iload_n 3, 1) := by decide +kernel
theorem dX7_settle_108 : decode cX7_settle 108 = .ok (.iadd, 1) := by decide +kernel
theorem dX7_settle_109 : decode cX7_settle 109 = .ok (.iaload, 1) := by decide +kernel
theorem dX7_settle_110 : decode cX7_settle 110 = .ok (.istore 4, 2) := by decide +kernel
theorem dX7_settle_112 : decode cX7_settle 112 = .ok (.iload 4, 2) := by decide +kernel
theorem dX7_settle_114 : decode cX7_settle 114 = .ok (.iconst (-1), 1) := by decide +kernel
theorem dX7_settle_115 : decode cX7_settle 115 = .ok (.if_icmp .ne 6, 3) := by decide +kernel
theorem dX7_settle_118 : decode cX7_settle 118 = .ok (.goto 43, 3) := by decide +kernel
theorem dX7_settle_121 : decode cX7_settle 121 = .ok (.aload_n 0, 1) := by decide +kernel
theorem dX7_settle_122 : decode cX7_settle 122 = .ok (.getfield 38, 3) := by decide +kernel
theorem dX7_settle_125 : decode cX7_settle 125 = .ok (.iload_n 2, 1) := by decide +kernel
theorem dX7_settle_126 : decode cX7_settle 126 = .ok (.aload_n 0, 1) := by decide +kernel
theorem dX7_settle_127 : decode cX7_settle 127 = .ok (.getfield 38, 3) := by decide +kernel
theorem dX7_settle_130 : decode cX7_settle 130 = .ok (.iload_n 2, 1) := by decide +kernel
theorem dX7_settle_131 : decode cX7_settle 131 = .ok (.iaload, 1) := by decide +kernel
theorem dX7_settle_132 : decode cX7_settle 132 = .ok (.iconst 1, 1) := by decide +kernel
theorem dX7_settle_133 : decode cX7_settle 133 = .ok (.aload_n 0, 1) := by decide +kernel
theorem dX7_settle_134 : decode cX7_settle 134 = .ok (.getfield 38, 3) := by decide +kernel
theorem dX7_settle_137 : decode cX7_settle 137 = .ok (.iload 4, 2) := by decide +kernel
theorem dX7_settle_139 : decode cX7_settle 139 = .ok (.iaload, 1) := by decide +kernel
theorem dX7_settle_140 : decode cX7_settle 140 = .ok (.iadd, 1) := by decide +kernel
theorem dX7_settle_141 : decode cX7_settle 141 = .ok (.invokestatic 138, 3) := by decide +kernel
theorem dX7_settle_144 : decode cX7_settle 144 = .ok (.iastore, 1) := by decide +kernel
theorem dX7_settle_145 : decode cX7_settle 145 = .ok (.aload_n 0, 1) := by decide +kernel
theorem dX7_settle_146 : decode cX7_settle 146 = .ok (.getfield 41, 3) := by decide +kernel
theorem dX7_settle_149 : decode cX7_settle 149 = .ok (.iload_n 2, 1) := by decide +kernel
theorem dX7_settle_150 : decode cX7_settle 150 = .ok (.dup2, 1) := by decide +kernel
theorem dX7_settle_151 : decode cX7_settle 151 = .ok (.laload, 1) := by decide +kernel
theorem dX7_settle_152 : decode cX7_settle 152 = .ok (.aload_n 0, 1) := by decide +kernel
theorem dX7_settle_153 : decode cX7_settle 153 = .ok (.getfield 41, 3) := by decide +kernel
theorem dX7_settle_156 : decode cX7_settle 156 = .ok (.iload 4, 2) := by decide +kernel
theorem dX7_settle_158 : decode cX7_settle 158 = .ok (.laload, 1) := by decide +kernel
theorem dX7_settle_159 : decode cX7_settle 159 = .ok (.ladd, 1) := by decide +kernel
theorem dX7_settle_160 : decode cX7_settle 160 = .ok (.lastore, 1) := by decide +kernel
theorem dX7_settle_161 : decode cX7_settle 161 = .ok (.iinc 3 1, 3) := by decide +kernel
theorem dX7_settle_164 : decode cX7_settle 164 = .ok (.goto (-73), 3) := by decide +kernel
theorem dX7_settle_167 : decode cX7_settle 167 = .ok (.iconst 1, 1) := by decide +kernel
theorem dX7_settle_168 : decode cX7_settle 168 = .ok (.istore_n 1, 1) := by decide +kernel
theorem dX7_settle_169 : decode cX7_settle 169 = .ok (.iinc 2 (-1), 3) := by decide +kernel
theorem dX7_settle_172 : decode cX7_settle 172 = .ok (.goto (-134), 3) := by decide +kernel
theorem dX7_settle_175 : decode cX7_settle 175 = .ok (.goto (-150), 3) := by decide +kernel
theorem dX7_settle_178 : decode cX7_settle 178 = .ok (.aload_n 0, 1) := by decide +kernel
theorem dX7_settle_179 : decode cX7_settle 179 = .ok (.getfield 38, 3) := by decide +kernel
theorem dX7_settle_182 : decode cX7_settle 182 = .ok (.iconst 0, 1) := by decide +kernel
theorem dX7_settle_183 : decode cX7_settle 183 = .ok (.iaload, 1) := by decide +kernel
theorem dX7_settle_184 : decode cX7_settle 184 = .ok (.iconst (-1), 1) := by decide +kernel
theorem dX7_settle_185 : decode cX7_settle 185 = .ok (.if_icmp .eq 7, 3) := by decide +kernel
theorem dX7_settle_188 : decode cX7_settle 188 = .ok (.iconst 1, 1) := by decide +kernel
theorem dX7_settle_189 : decode cX7_settle 189 = .ok (.goto 4, 3) := by decide +kernel
theorem dX7_settle_192 : decode cX7_settle 192 = .ok (.iconst 0, 1) := by decide +kernel
theorem dX7_settle_193 : decode cX7_settle 193 = .ok (.ireturn, 1) := by decide +kernel
theorem dX7_isSettled_0 : decode cX7_isSettled 0 = .ok (.iconst 1, 1) := by decide +kernel
theorem dX7_isSettled_1 : decode cX7_isSettled 1 = .ok (.istore_n 2, 1) := by decide +kernel
theorem dX7_isSettled_2 : decode cX7_isSettled 2 = .ok (.iconst 0, 1) := by decide +kernel
theorem dX7_isSettled_3 : decode cX7_isSettled 3 = .ok (.istore_n 3, 1) := by decide +kernel
theorem dX7_isSettled_4 : decode cX7_isSettled 4 = .ok (.iload_n 3, 1) := by decide +kernel
theorem dX7_isSettled_5 : decode cX7_isSettled 5 = .ok (.aload_n 0, 1) := by decide +kernel
theorem dX7_isSettled_6 : decode cX7_isSettled 6 = .ok (.getfield 49, 3) := by decide +kernel
theorem dX7_isSettled_9 : decode cX7_isSettled 9 = .ok (.if_icmp .ge 54, 3) := by decide +kernel
theorem dX7_isSettled_12 : decode cX7_isSettled 12 = .ok (.iload_n 2, 1) := by decide +kernel
theorem dX7_isSettled_13 : decode cX7_isSettled 13 = .ok (.ifCond .eq 42, 3) := by decide +kernel
theorem dX7_isSettled_16 : decode cX7_isSettled 16 = .ok (.aload_n 0, 1) := by decide +kernel
theorem dX7_isSettled_17 : decode cX7_isSettled 17 = .ok (.getfield 35, 3) := by decide +kernel
theorem dX7_isSettled_20 : decode cX7_isSettled 20 = .ok (.bipush 8, 2) := by decide +kernel
theorem dX7_isSettled_22 : decode cX7_isSettled 22 = .ok (.iload_n 1, 1) := by decide +kernel
theorem dX7_isSettled_23 : decode cX7_isSettled 23 = .ok (.imul, 1) := by decide +kernel
theorem dX7_isSettled_24 : decode cX7_isSettled 24 = .ok (.iload_n 3, 1) := by decide +kernel
theorem dX7_isSettled_25 : decode cX7_isSettled 25 = .ok (.iadd, 1) := by decide +kernel
theorem dX7_isSettled_26 : decode cX7_isSettled 26 = .ok (.iaload, 1) := by decide +kernel
theorem dX7_isSettled_27 : decode cX7_isSettled 27 = .ok (.iconst (-1), 1) := by decide +kernel
theorem dX7_isSettled_28 : decode cX7_isSettled 28 = .ok (.if_icmp .eq 23, 3) := by decide +kernel
theorem dX7_isSettled_31 : decode cX7_isSettled 31 = .ok (.aload_n 0, 1) := by decide +kernel
theorem dX7_isSettled_32 : decode cX7_isSettled 32 = .ok (.getfield 38, 3) := by decide +kernel
theorem dX7_isSettled_35 : decode cX7_isSettled 35 = .ok (.aload_n 0, 1) := by decide +kernel
theorem dX7_isSettled_36 : decode cX7_isSettled 36 = .ok (.getfield 35, 3) := by decide +kernel
theorem dX7_isSettled_39 : decode cX7_isSettled 39 = .ok (.bipush 8, 2) := by decide +kernel
theorem dX7_isSettled_41 : decode cX7_isSettled 41 = .ok (.iload_n 1, 1) := by decide +kernel
theorem dX7_isSettled_42 : decode cX7_isSettled 42 = .ok (.imul, 1) := by decide +kernel
theorem dX7_isSettled_43 : decode cX7_isSettled 43 = .ok (.iload_n 3, 1) := by decide +kernel
theorem dX7_isSettled_44 : decode cX7_isSettled 44 = .ok (.iadd, 1) := by decide +kernel
theorem dX7_isSettled_45 : decode cX7_isSettled 45 = .ok (.iaload, 1) := by decide +kernel
theorem dX7_isSettled_46 : decode cX7_isSettled 46 = .ok (.iaload, 1) := by decide +kernel
theorem dX7_isSettled_47 : decode cX7_isSettled 47 = .ok (.iconst (-1), 1) := by decide +kernel
theorem dX7_isSettled_48 : decode cX7_isSettled 48 = .ok (.if_icmp .eq 7, 3) := by decide +kernel
theorem dX7_isSettled_51 : decode cX7_isSettled 51 = .ok (.iconst 1, 1) := by decide +kernel
theorem dX7_isSettled_52 : decode cX7_isSettled 52 = .ok (.goto 4, 3) := by decide +kernel
theorem dX7_isSettled_55 : decode cX7_isSettled 55 = .ok (.iconst 0, 1) := by decide +kernel
theorem dX7_isSettled_56 : decode cX7_isSettled 56 = .ok (.istore_n 2, 1) := by decide +kernel
theorem dX7_isSettled_57 : decode cX7_isSettled 57 = .ok (.iinc 3 1, 3) := by decide +kernel
theorem dX7_isSettled_60 : decode cX7_isSettled 60 = .ok (.goto (-56), 3) := by decide +kernel
theorem dX7_isSettled_63 : decode cX7_isSettled 63 = .ok (.iload_n 2, 1) := by decide +kernel
theorem dX7_isSettled_64 : decode cX7_isSettled 64 = .ok (.ireturn, 1) := by decide +kernel
set_option maxRecDepth 20000 in
theorem ggX7_terminates_X7_asks : GoodIn wsX7_terminates wsX7_asks := goodIn_r _ [5, 6, 7, 8, 9, 4, 10, 11, 12, 38, 39, 40, 41, 42, 43, 44, 45, 46, 47, 48, 49, 50, 51, 52, 53, 54, 55] (by decide +kernel) (by decide +kernel)
set_option maxRecDepth 20000 in
theorem gX7_terminates_X7_asks : GoodIn wsX7_terminates (wsV RX7 129 RX7 yX7_asks wsX7_asks) := goodIn_app (goodIn_of _ (by decide +kernel)) ggX7_terminates_X7_asks
set_option maxRecDepth 20000 in
theorem ggX7_terminates_X7_settle : GoodIn wsX7_terminates wsX7_settle := goodIn_r _ [16, 17, 18, 19, 20, 21, 22, 23, 24, 25, 26, 27, 28, 4, 29, 30, 31, 32, 33, 34, 35, 36, 37, 38, 39, 40, 41, 42, 43, 44, 45, 46, 47, 48, 49, 50, 51, 52, 53, 54, 55] (by decide +kernel) (by decide +kernel)
set_option maxRecDepth 20000 in
theorem gX7_terminates_X7_settle : GoodIn wsX7_terminates (wsV RX7 143 RX7 yX7_settle wsX7_settle) := goodIn_app (goodIn_of _ (by decide +kernel)) ggX7_terminates_X7_settle
theorem dX7_terminates_0 : decode cX7_terminates 0 = .ok (.aload_n 0, 1) := by decide +kernel
theorem dX7_terminates_1 : decode cX7_terminates 1 = .ok (.iconst 0, 1) := by decide +kernel
theorem dX7_terminates_2 : decode cX7_terminates 2 = .ok (.iconst 1, 1) := by decide +kernel
theorem dX7_terminates_3 : decode cX7_terminates 3 = .ok (.invokevirtual 129, 3) := by decide +kernel
theorem dX7_terminates_6 : decode cX7_terminates 6 = .ok (.ifCond .eq 14, 3) := by decide +kernel
theorem dX7_terminates_9 : decode cX7_terminates 9 = .ok (.aload_n 0, 1) := by decide +kernel
theorem dX7_terminates_10 : decode cX7_terminates 10 = .ok (.invokevirtual 143, 3) := by decide +kernel
theorem dX7_terminates_13 : decode cX7_terminates 13 = .ok (.ifCond .eq 7, 3) := by decide +kernel
theorem dX7_terminates_16 : decode cX7_terminates 16 = .ok (.iconst 1, 1) := by decide +kernel
theorem dX7_terminates_17 : decode cX7_terminates 17 = .ok (.goto 4, 3) := by decide +kernel
theorem dX7_terminates_20 : decode cX7_terminates 20 = .ok (.iconst 0, 1) := by decide +kernel
theorem dX7_terminates_21 : decode cX7_terminates 21 = .ok (.ireturn, 1) := by decide +kernel
set_option maxRecDepth 20000 in
theorem ggX7_endCount_X7_asks : GoodIn wsX7_endCount wsX7_asks := goodIn_r _ [6, 7, 8, 9, 10, 5, 11, 12, 13, 22, 23, 24, 25, 26, 27, 28, 29, 30, 31, 32, 33, 34, 35, 36, 37, 38, 39] (by decide +kernel) (by decide +kernel)
set_option maxRecDepth 20000 in
theorem gX7_endCount_X7_asks : GoodIn wsX7_endCount (wsV RX7 129 RX7 yX7_asks wsX7_asks) := goodIn_app (goodIn_of _ (by decide +kernel)) ggX7_endCount_X7_asks
set_option maxRecDepth 20000 in
theorem ggX7_endCount_X7_isEnd : GoodIn wsX7_endCount wsX7_isEnd := goodIn_r _ [17, 18, 19, 20, 5, 21, 22, 23, 24, 25, 26, 27, 28, 29, 30, 31, 32, 33, 34, 35, 36, 37, 38, 39] (by decide +kernel) (by decide +kernel)
set_option maxRecDepth 20000 in
theorem gX7_endCount_X7_isEnd : GoodIn wsX7_endCount (wsV RX7 135 RX7 yX7_isEnd wsX7_isEnd) := goodIn_app (goodIn_of _ (by decide +kernel)) ggX7_endCount_X7_isEnd
theorem dX7_endCount_0 : decode cX7_endCount 0 = .ok (.aload_n 0, 1) := by decide +kernel
theorem dX7_endCount_1 : decode cX7_endCount 1 = .ok (.iconst 0, 1) := by decide +kernel
theorem dX7_endCount_2 : decode cX7_endCount 2 = .ok (.iconst 1, 1) := by decide +kernel
theorem dX7_endCount_3 : decode cX7_endCount 3 = .ok (.invokevirtual 129, 3) := by decide +kernel
theorem dX7_endCount_6 : decode cX7_endCount 6 = .ok (.ifCond .ne 5, 3) := by decide +kernel
theorem dX7_endCount_9 : decode cX7_endCount 9 = .ok (.iconst 0, 1) := by decide +kernel
theorem dX7_endCount_10 : decode cX7_endCount 10 = .ok (.ireturn, 1) := by decide +kernel
theorem dX7_endCount_11 : decode cX7_endCount 11 = .ok (.iconst 0, 1) := by decide +kernel
theorem dX7_endCount_12 : decode cX7_endCount 12 = .ok (.istore_n 1, 1) := by decide +kernel
theorem dX7_endCount_13 : decode cX7_endCount 13 = .ok (.iconst 0, 1) := by decide +kernel
theorem dX7_endCount_14 : decode cX7_endCount 14 = .ok (.istore_n 2, 1) := by decide +kernel
theorem dX7_endCount_15 : decode cX7_endCount 15 = .ok (.iload_n 2, 1) := by decide +kernel
theorem dX7_endCount_16 : decode cX7_endCount 16 = .ok (.aload_n 0, 1) := by decide +kernel
theorem dX7_endCount_17 : decode cX7_endCount 17 = .ok (.getfield 113, 3) := by decide +kernel
theorem dX7_endCount_20 : decode cX7_endCount 20 = .ok (.if_icmp .ge 25, 3) := by decide +kernel
theorem dX7_endCount_23 : decode cX7_endCount 23 = .ok (.iload_n 1, 1) := by decide +kernel
theorem dX7_endCount_24 : decode cX7_endCount 24 = .ok (.aload_n 0, 1) := by decide +kernel
theorem dX7_endCount_25 : decode cX7_endCount 25 = .ok (.iload_n 2, 1) := by decide +kernel
theorem dX7_endCount_26 : decode cX7_endCount 26 = .ok (.invokevirtual 135, 3) := by decide +kernel
theorem dX7_endCount_29 : decode cX7_endCount 29 = .ok (.ifCond .eq 7, 3) := by decide +kernel
theorem dX7_endCount_32 : decode cX7_endCount 32 = .ok (.iconst 1, 1) := by decide +kernel
theorem dX7_endCount_33 : decode cX7_endCount 33 = .ok (.goto 4, 3) := by decide +kernel
theorem dX7_endCount_36 : decode cX7_endCount 36 = .ok (.iconst 0, 1) := by decide +kernel
theorem dX7_endCount_37 : decode cX7_endCount 37 = .ok (.iadd, 1) := by decide +kernel
theorem dX7_endCount_38 : decode cX7_endCount 38 = .ok (.istore_n 1, 1) := by decide +kernel
theorem dX7_endCount_39 : decode cX7_endCount 39 = .ok (.iinc 2 1, 3) := by decide +kernel
theorem dX7_endCount_42 : decode cX7_endCount 42 = .ok (.goto (-27), 3) := by decide +kernel
theorem dX7_endCount_45 : decode cX7_endCount 45 = .ok (.iload_n 1, 1) := by decide +kernel
theorem dX7_endCount_46 : decode cX7_endCount 46 = .ok (.ireturn, 1) := by decide +kernel
set_option maxRecDepth 20000 in
theorem ggX7_end_X7_endCount : GoodIn wsX7_end wsX7_endCount := goodIn_r _ [6, 7, 8, 9, 10, 5, 11, 12, 13, 14, 15, 16, 17, 18, 19, 20, 21, 22, 1, 23, 24, 25, 26, 27, 28, 29, 30, 31, 32, 33, 34, 35, 36, 37, 38, 39, 40, 41, 42, 43] (by decide +kernel) (by decide +kernel)
set_option maxRecDepth 20000 in
theorem gX7_end_X7_endCount : GoodIn wsX7_end (wsV RX7 146 RX7 yX7_endCount wsX7_endCount) := goodIn_app (goodIn_of _ (by decide +kernel)) ggX7_end_X7_endCount
set_option maxRecDepth 20000 in
theorem ggX7_end_X7_asks : GoodIn wsX7_end wsX7_asks := goodIn_r _ [11, 12, 13, 14, 15, 5, 16, 17, 18, 26, 27, 28, 29, 30, 31, 32, 33, 34, 35, 36, 37, 38, 39, 40, 41, 42, 43] (by decide +kernel) (by decide +kernel)
set_option maxRecDepth 20000 in
theorem gX7_end_X7_asks : GoodIn wsX7_end (wsV RX7 129 RX7 yX7_asks wsX7_asks) := goodIn_app (goodIn_of _ (by decide +kernel)) ggX7_end_X7_asks
set_option maxRecDepth 20000 in
theorem ggX7_end_X7_isEnd : GoodIn wsX7_end wsX7_isEnd := goodIn_r _ [22, 1, 23, 24, 5, 25, 26, 27, 28, 29, 30, 31, 32, 33, 34, 35, 36, 37, 38, 39, 40, 41, 42, 43] (by decide +kernel) (by decide +kernel)
set_option maxRecDepth 20000 in
theorem gX7_end_X7_isEnd : GoodIn wsX7_end (wsV RX7 135 RX7 yX7_isEnd wsX7_isEnd) := goodIn_app (goodIn_of _ (by decide +kernel)) ggX7_end_X7_isEnd
theorem dX7_end_0 : decode cX7_end 0 = .ok (.aload_n 0, 1) := by decide +kernel
theorem dX7_end_1 : decode cX7_end 1 = .ok (.invokevirtual 146, 3) := by decide +kernel
theorem dX7_end_4 : decode cX7_end 4 = .ok (.istore_n 2, 1) := by decide +kernel
theorem dX7_end_5 : decode cX7_end 5 = .ok (.aload_n 0, 1) := by decide +kernel
theorem dX7_end_6 : decode cX7_end 6 = .ok (.iload_n 1, 1) := by decide +kernel
theorem dX7_end_7 : decode cX7_end 7 = .ok (.iload_n 2, 1) := by decide +kernel
theorem dX7_end_8 : decode cX7_end 8 = .ok (.invokevirtual 129, 3) := by decide +kernel
theorem dX7_end_11 : decode cX7_end 11 = .ok (.ifCond .ne 5, 3) := by decide +kernel
theorem dX7_end_14 : decode cX7_end 14 = .ok (.iconst 0, 1) := by decide +kernel
theorem dX7_end_15 : decode cX7_end 15 = .ok (.ireturn, 1) := by decide +kernel
theorem dX7_end_16 : decode cX7_end 16 = .ok (.iload_n 1, 1) := by decide +kernel
theorem dX7_end_17 : decode cX7_end 17 = .ok (.istore_n 3, 1) := by decide +kernel
theorem dX7_end_18 : decode cX7_end 18 = .ok (.iconst 0, 1) := by decide +kernel
theorem dX7_end_19 : decode cX7_end 19 = .ok (.istore 4, 2) := by decide +kernel
theorem dX7_end_21 : decode cX7_end 21 = .ok (.aload_n 0, 1) := by decide +kernel
theorem dX7_end_22 : decode cX7_end 22 = .ok (.iload 4, 2) := by decide +kernel
theorem dX7_end_24 : decode cX7_end 24 = .ok (.invokevirtual 135, 3) := by decide +kernel
theorem dX7_end_27 : decode cX7_end 27 = .ok (.ifCond .eq 7, 3) := by decide +kernel
theorem dX7_end_30 : decode cX7_end 30 = .ok (.iload_n 3, 1) := by decide +kernel
theorem dX7_end_31 : decode cX7_end 31 = .ok (.ifCond .le 26, 3) := by decide +kernel
theorem dX7_end_34 : decode cX7_end 34 = .ok (.iload_n 3, 1) := by decide +kernel
theorem dX7_end_35 : decode cX7_end 35 = .ok (.aload_n 0, 1) := by decide +kernel
theorem dX7_end_36 : decode cX7_end 36 = .ok (.iload 4, 2) := by decide +kernel
theorem dX7_end_38 : decode cX7_end 38 = .ok (.invokevirtual 135, 3) := by decide +kernel
theorem dX7_end_41 : decode cX7_end 41 = .ok (.ifCond .eq 7, 3) := by decide +kernel
theorem dX7_end_44 : decode cX7_end 44 = .ok (.iconst 1, 1) := by decide +kernel
theorem dX7_end_45 : decode cX7_end 45 = .ok (.goto 4, 3) := by decide +kernel
theorem dX7_end_48 : decode cX7_end 48 = .ok (.iconst 0, 1) := by decide +kernel
theorem dX7_end_49 : decode cX7_end 49 = .ok (.isub, 1) := by decide +kernel
theorem dX7_end_50 : decode cX7_end 50 = .ok (.istore_n 3, 1) := by decide +kernel
theorem dX7_end_51 : decode cX7_end 51 = .ok (.iinc 4 1, 3) := by decide +kernel
theorem dX7_end_54 : decode cX7_end 54 = .ok (.goto (-33), 3) := by decide +kernel
theorem dX7_end_57 : decode cX7_end 57 = .ok (.aload_n 0, 1) := by decide +kernel
theorem dX7_end_58 : decode cX7_end 58 = .ok (.getfield 32, 3) := by decide +kernel
theorem dX7_end_61 : decode cX7_end 61 = .ok (.iload 4, 2) := by decide +kernel
theorem dX7_end_63 : decode cX7_end 63 = .ok (.iaload, 1) := by decide +kernel
theorem dX7_end_64 : decode cX7_end 64 = .ok (.bipush 8, 2) := by decide +kernel
theorem dX7_end_66 : decode cX7_end 66 = .ok (.ishr, 1) := by decide +kernel
theorem dX7_end_67 : decode cX7_end 67 = .ok (.ireturn, 1) := by decide +kernel
set_option maxRecDepth 20000 in
theorem ggX7_shortest_X7_asks : GoodIn wsX7_shortest wsX7_asks := goodIn_r _ [9, 10, 11, 12, 13, 8, 14, 15, 16, 25, 26, 27, 28, 29, 30, 31, 32, 33, 34, 35, 36, 37, 38, 39, 40, 41, 42] (by decide +kernel) (by decide +kernel)
set_option maxRecDepth 20000 in
theorem gX7_shortest_X7_asks : GoodIn wsX7_shortest (wsV RX7 129 RX7 yX7_asks wsX7_asks) := goodIn_app (goodIn_of _ (by decide +kernel)) ggX7_shortest_X7_asks
set_option maxRecDepth 20000 in
theorem ggX7_shortest_X7_isEnd : GoodIn wsX7_shortest wsX7_isEnd := goodIn_r _ [20, 21, 22, 23, 8, 24, 25, 26, 27, 28, 29, 30, 31, 32, 33, 34, 35, 36, 37, 38, 39, 40, 41, 42] (by decide +kernel) (by decide +kernel)
set_option maxRecDepth 20000 in
theorem gX7_shortest_X7_isEnd : GoodIn wsX7_shortest (wsV RX7 135 RX7 yX7_isEnd wsX7_isEnd) := goodIn_app (goodIn_of _ (by decide +kernel)) ggX7_shortest_X7_isEnd
theorem dX7_shortest_0 : decode cX7_shortest 0 = .ok (.aload_n 0, 1) := by decide +kernel
theorem dX7_shortest_1 : decode cX7_shortest 1 = .ok (.iconst 0, 1) := by decide +kernel
theorem dX7_shortest_2 : decode cX7_shortest 2 = .ok (.iconst 1, 1) := by decide +kernel
theorem dX7_shortest_3 : decode cX7_shortest 3 = .ok (.invokevirtual 129, 3) := by decide +kernel
theorem dX7_shortest_6 : decode cX7_shortest 6 = .ok (.ifCond .ne 5, 3) := by decide +kernel
theorem dX7_shortest_9 : decode cX7_shortest 9 = .ok (.iconst 0, 1) := by decide +kernel
theorem dX7_shortest_10 : decode cX7_shortest 10 = .ok (.ireturn, 1) := by decide +kernel
theorem dX7_shortest_11 : decode cX7_shortest 11 = .ok (.aload_n 0, 1) := by decide +kernel
theorem dX7_shortest_12 : decode cX7_shortest 12 = .ok (.getfield 113, 3) := by decide +kernel
theorem dX7_shortest_15 : decode cX7_shortest 15 = .ok (.newarray .int, 2) := by decide +kernel
theorem dX7_shortest_17 : decode cX7_shortest 17 = .ok (.astore_n 1, 1) := by decide +kernel
theorem dX7_shortest_18 : decode cX7_shortest 18 = .ok (.iconst 1, 1) := by decide +kernel
theorem dX7_shortest_19 : decode cX7_shortest 19 = .ok (.istore_n 2, 1) := by decide +kernel
theorem dX7_shortest_20 : decode cX7_shortest 20 = .ok (.iload_n 2, 1) := by decide +kernel
theorem dX7_shortest_21 : decode cX7_shortest 21 = .ok (.aload_n 0, 1) := by decide +kernel
theorem dX7_shortest_22 : decode cX7_shortest 22 = .ok (.getfield 113, 3) := by decide +kernel
theorem dX7_shortest_25 : decode cX7_shortest 25 = .ok (.if_icmp .ge 13, 3) := by decide +kernel
theorem dX7_shortest_28 : decode cX7_shortest 28 = .ok (.aload_n 1, 1) := by decide +kernel
theorem dX7_shortest_29 : decode cX7_shortest 29 = .ok (.iload_n 2, 1) := by decide +kernel
theorem dX7_shortest_30 : decode cX7_shortest 30 = .ok (.iconst (-1), 1) := by decide +kernel
theorem dX7_shortest_31 : decode cX7_shortest 31 = .ok (.iastore, 1) := by decide +kernel
theorem dX7_shortest_32 : decode cX7_shortest 32 = .ok (.iinc 2 1, 3) := by decide +kernel
theorem dX7_shortest_35 : decode cX7_shortest 35 = .ok (.goto (-15), 3) := by decide +kernel
theorem dX7_shortest_38 : decode cX7_shortest 38 = .ok (.iconst 0, 1) := by decide +kernel
theorem dX7_shortest_39 : decode cX7_shortest 39 = .ok (.istore_n 2, 1) := by decide +kernel
theorem dX7_shortest_40 : decode cX7_shortest 40 = .ok (.iload_n 2, 1) := by decide +kernel
theorem dX7_shortest_41 : decode cX7_shortest 41 = .ok (.aload_n 0, 1) := by decide +kernel
theorem dX7_shortest_42 : decode cX7_shortest 42 = .ok (.getfield 113, 3) := by decide +kernel
theorem dX7_shortest_45 : decode cX7_shortest 45 = .ok (.if_icmp .ge 73, 3) := by decide +kernel
theorem dX7_shortest_48 : decode cX7_shortest 48 = .ok (.aload_n 0, 1) := by decide +kernel
theorem dX7_shortest_49 : decode cX7_shortest 49 = .ok (.iload_n 2, 1) := by decide +kernel
theorem dX7_shortest_50 : decode cX7_shortest 50 = .ok (.invokevirtual 135, 3) := by decide +kernel
theorem dX7_shortest_53 : decode cX7_shortest 53 = .ok (.ifCond .eq 7, 3) := by decide +kernel
theorem dX7_shortest_56 : decode cX7_shortest 56 = .ok (.aload_n 1, 1) := by decide +kernel
theorem dX7_shortest_57 : decode cX7_shortest 57 = .ok (.iload_n 2, 1) := by decide +kernel
theorem dX7_shortest_58 : decode cX7_shortest 58 = .ok (.iaload, 1) := by decide +kernel
theorem dX7_shortest_59 : decode cX7_shortest 59 = .ok (.ireturn, 1) := by decide +kernel
theorem dX7_shortest_60 : decode cX7_shortest 60 = .ok (.iconst 0, 1) := by decide +kernel
theorem dX7_shortest_61 : decode cX7_shortest 61 = .ok (.istore_n 3, 1) := by decide +kernel
theorem dX7_shortest_62 : decode cX7_shortest 62 = .ok (.iload_n 3, 1) := by decide +kernel
theorem dX7_shortest_63 : decode cX7_shortest 63 = .ok (.aload_n 0, 1) := by decide +kernel
theorem dX7_shortest_64 : decode cX7_shortest 64 = .ok (.getfield 49, 3) := by decide +kernel
theorem dX7_shortest_67 : decode cX7_shortest 67 = .ok (.if_icmp .ge 45, 3) := by decide +kernel
theorem dX7_shortest_70 : decode cX7_shortest 70 = .ok (.aload_n 0, 1) := by decide +kernel
theorem dX7_shortest_71 : decode cX7_shortest 71 = .ok (.getfield 35, 3) := by decide +kernel
theorem dX7_shortest_74 : decode cX7_shortest 74 = .ok (.bipush 8, 2) := by decide +kernel
theorem dX7_shortest_76 : decode cX7_shortest 76 = .ok (.iload_n 2, 1) := by decide +kernel
theorem dX7_shortest_77 : decode cX7_shortest 77 = .ok (.imul, 1) := by decide +kernel
theorem dX7_shortest_78 : decode cX7_shortest 78 = .ok (.iload_n 3, 1) := by decide +kernel
theorem dX7_shortest_79 : decode cX7_shortest 79 = .ok (.iadd, 1) := by decide +kernel
theorem dX7_shortest_80 : decode cX7_shortest 80 = .ok (.iaload, 1) := by decide +kernel
theorem dX7_shortest_81 : decode cX7_shortest 81 = .ok (.istore 4, 2) := by decide +kernel
theorem dX7_shortest_83 : decode cX7_shortest 83 = .ok (.iload 4, 2) := by decide +kernel
theorem dX7_shortest_85 : decode cX7_shortest 85 = .ok (.iconst (-1), 1) := by decide +kernel
theorem dX7_shortest_86 : decode cX7_shortest 86 = .ok (.if_icmp .eq 20, 3) := by decide +kernel
theorem dX7_shortest_89 : decode cX7_shortest 89 = .ok (.aload_n 1, 1) := by decide +kernel
theorem dX7_shortest_90 : decode cX7_shortest 90 = .ok (.iload 4, 2) := by decide +kernel
theorem dX7_shortest_92 : decode cX7_shortest 92 = .ok (.iaload, 1) := by decide +kernel
theorem dX7_shortest_93 : decode cX7_shortest 93 = .ok (.iconst (-1), 1) := by decide +kernel
theorem dX7_shortest_94 : decode cX7_shortest 94 = .ok (.if_icmp .ne 12, 3) := by decide +kernel
theorem dX7_shortest_97 : decode cX7_shortest 97 = .ok (.aload_n 1, 1) := by decide +kernel
theorem dX7_shortest_98 : decode cX7_shortest 98 = .ok (.iload 4, 2) := by decide +kernel
theorem dX7_shortest_100 : decode cX7_shortest 100 = .ok (.aload_n 1, 1) := by decide +kernel
theorem dX7_shortest_101 : decode cX7_shortest 101 = .ok (.iload_n 2, 1) := by decide +kernel
theorem dX7_shortest_102 : decode cX7_shortest 102 = .ok (.iaload, 1) := by decide +kernel
theorem dX7_shortest_103 : decode cX7_shortest 103 = .ok (.iconst 1, 1) := by decide +kernel
theorem dX7_shortest_104 : decode cX7_shortest 104 = .ok (.iadd, 1) := by decide +kernel
theorem dX7_shortest_105 : decode cX7_shortest 105 = .ok (.iastore, 1) := by decide +kernel
theorem dX7_shortest_106 : decode cX7_shortest 106 = .ok (.iinc 3 1, 3) := by decide +kernel
theorem dX7_shortest_109 : decode cX7_shortest 109 = .ok (.goto (-47), 3) := by decide +kernel
theorem dX7_shortest_112 : decode cX7_shortest 112 = .ok (.iinc 2 1, 3) := by decide +kernel
theorem dX7_shortest_115 : decode cX7_shortest 115 = .ok (.goto (-75), 3) := by decide +kernel
theorem dX7_shortest_118 : decode cX7_shortest 118 = .ok (.iconst (-1), 1) := by decide +kernel
theorem dX7_shortest_119 : decode cX7_shortest 119 = .ok (.ireturn, 1) := by decide +kernel
set_option maxRecDepth 20000 in
theorem ggX7_longest_X7_asks : GoodIn wsX7_longest wsX7_asks := goodIn_r _ [6, 7, 8, 9, 10, 5, 11, 12, 13, 38, 39, 40, 41, 42, 43, 44, 45, 46, 47, 48, 49, 50, 51, 52, 53, 54, 55] (by decide +kernel) (by decide +kernel)
set_option maxRecDepth 20000 in
theorem gX7_longest_X7_asks : GoodIn wsX7_longest (wsV RX7 129 RX7 yX7_asks wsX7_asks) := goodIn_app (goodIn_of _ (by decide +kernel)) ggX7_longest_X7_asks
set_option maxRecDepth 20000 in
theorem ggX7_longest_X7_settle : GoodIn wsX7_longest wsX7_settle := goodIn_r _ [17, 18, 1, 19, 20, 21, 22, 23, 24, 25, 26, 27, 28, 5, 29, 30, 31, 32, 33, 34, 35, 36, 37, 38, 39, 40, 41, 42, 43, 44, 45, 46, 47, 48, 49, 50, 51, 52, 53, 54, 55] (by decide +kernel) (by decide +kernel)
set_option maxRecDepth 20000 in
theorem gX7_longest_X7_settle : GoodIn wsX7_longest (wsV RX7 143 RX7 yX7_settle wsX7_settle) := goodIn_app (goodIn_of _ (by decide +kernel)) ggX7_longest_X7_settle
theorem dX7_longest_0 : decode cX7_longest 0 = .ok (.aload_n 0, 1) := by decide +kernel
theorem dX7_longest_1 : decode cX7_longest 1 = .ok (.iconst 0, 1) := by decide +kernel
theorem dX7_longest_2 : decode cX7_longest 2 = .ok (.iconst 1, 1) := by decide +kernel
theorem dX7_longest_3 : decode cX7_longest 3 = .ok (.invokevirtual 129, 3) := by decide +kernel
theorem dX7_longest_6 : decode cX7_longest 6 = .ok (.ifCond .eq 23, 3) := by decide +kernel
theorem dX7_longest_9 : decode cX7_longest 9 = .ok (.aload_n 0, 1) := by decide +kernel
theorem dX7_longest_10 : decode cX7_longest 10 = .ok (.invokevirtual 143, 3) := by decide +kernel
theorem dX7_longest_13 : decode cX7_longest 13 = .ok (.ifCond .eq 12, 3) := by decide +kernel
theorem dX7_longest_16 : decode cX7_longest 16 = .ok (.aload_n 0, 1) := by decide +kernel
theorem dX7_longest_17 : decode cX7_longest 17 = .ok (.getfield 38, 3) := by decide +kernel
theorem dX7_longest_20 : decode cX7_longest 20 = .ok (.iconst 0, 1) := by decide +kernel
theorem dX7_longest_21 : decode cX7_longest 21 = .ok (.iaload, 1) := by decide +kernel
theorem dX7_longest_22 : decode cX7_longest 22 = .ok (.goto 8, 3) := by decide +kernel
theorem dX7_longest_25 : decode cX7_longest 25 = .ok (.iconst (-1), 1) := by decide +kernel
theorem dX7_longest_26 : decode cX7_longest 26 = .ok (.goto 4, 3) := by decide +kernel
theorem dX7_longest_29 : decode cX7_longest 29 = .ok (.iconst 0, 1) := by decide +kernel
theorem dX7_longest_30 : decode cX7_longest 30 = .ok (.ireturn, 1) := by decide +kernel
set_option maxRecDepth 20000 in
theorem ggX7_ways_X7_asks : GoodIn wsX7_ways wsX7_asks := goodIn_r _ [7, 8, 9, 10, 11, 6, 12, 13, 14, 39, 40, 41, 42, 43, 44, 45, 46, 47, 48, 49, 50, 51, 52, 53, 54, 55, 56] (by decide +kernel) (by decide +kernel)
set_option maxRecDepth 20000 in
theorem gX7_ways_X7_asks : GoodIn wsX7_ways (wsV RX7 129 RX7 yX7_asks wsX7_asks) := goodIn_app (goodIn_of _ (by decide +kernel)) ggX7_ways_X7_asks
set_option maxRecDepth 20000 in
theorem ggX7_ways_X7_settle : GoodIn wsX7_ways wsX7_settle := goodIn_r _ [18, 19, 20, 1, 21, 22, 23, 24, 25, 26, 27, 28, 29, 6, 30, 31, 32, 33, 34, 35, 36, 37, 38, 39, 40, 41, 42, 43, 44, 45, 46, 47, 48, 49, 50, 51, 52, 53, 54, 55, 56] (by decide +kernel) (by decide +kernel)
set_option maxRecDepth 20000 in
theorem gX7_ways_X7_settle : GoodIn wsX7_ways (wsV RX7 143 RX7 yX7_settle wsX7_settle) := goodIn_app (goodIn_of _ (by decide +kernel)) ggX7_ways_X7_settle
theorem dX7_ways_0 : decode cX7_ways 0 = .ok (.aload_n 0, 1) := by decide +kernel
theorem dX7_ways_1 : decode cX7_ways 1 = .ok (.iconst 0, 1) := by decide +kernel
theorem dX7_ways_2 : decode cX7_ways 2 = .ok (.iconst 1, 1) := by decide +kernel
theorem dX7_ways_3 : decode cX7_ways 3 = .ok (.invokevirtual 129, 3) := by decide +kernel
theorem dX7_ways_6 : decode cX7_ways 6 = .ok (.ifCond .eq 25, 3) := by decide +kernel
theorem dX7_ways_9 : decode cX7_ways 9 = .ok (.aload_n 0, 1) := by decide +kernel
theorem dX7_ways_10 : decode cX7_ways 10 = .ok (.invokevirtual 143, 3) := by decide +kernel
theorem dX7_ways_13 : decode cX7_ways 13 = .ok (.ifCond .eq 12, 3) := by decide +kernel
theorem dX7_ways_16 : decode cX7_ways 16 = .ok (.aload_n 0, 1) := by decide +kernel
theorem dX7_ways_17 : decode cX7_ways 17 = .ok (.getfield 41, 3) := by decide +kernel
theorem dX7_ways_20 : decode cX7_ways 20 = .ok (.iconst 0, 1) := by decide +kernel
theorem dX7_ways_21 : decode cX7_ways 21 = .ok (.laload, 1) := by decide +kernel
theorem dX7_ways_22 : decode cX7_ways 22 = .ok (.goto 10, 3) := by decide +kernel
theorem dX7_ways_25 : decode cX7_ways 25 = .ok (.ldc2_w 149, 3) := by decide +kernel
theorem dX7_ways_28 : decode cX7_ways 28 = .ok (.goto 4, 3) := by decide +kernel
theorem dX7_ways_31 : decode cX7_ways 31 = .ok (.lconst 0, 1) := by decide +kernel
theorem dX7_ways_32 : decode cX7_ways 32 = .ok (.lreturn, 1) := by decide +kernel
set_option maxRecDepth 20000 in
theorem ggX7_isPlayed_X7_asks : GoodIn wsX7_isPlayed wsX7_asks := goodIn_r _ [8, 9, 10, 11, 12, 7, 13, 14, 15, 16, 17, 18, 19, 20, 21, 22, 23, 24, 25, 26, 27, 28, 29, 30, 31, 32, 33] (by decide +kernel) (by decide +kernel)
set_option maxRecDepth 20000 in
theorem gX7_isPlayed_X7_asks : GoodIn wsX7_isPlayed (wsV RX7 129 RX7 yX7_asks wsX7_asks) := goodIn_app (goodIn_of _ (by decide +kernel)) ggX7_isPlayed_X7_asks
theorem dX7_isPlayed_0 : decode cX7_isPlayed 0 = .ok (.aload_n 0, 1) := by decide +kernel
theorem dX7_isPlayed_1 : decode cX7_isPlayed 1 = .ok (.iload_n 1, 1) := by decide +kernel
theorem dX7_isPlayed_2 : decode cX7_isPlayed 2 = .ok (.aload_n 0, 1) := by decide +kernel
theorem dX7_isPlayed_3 : decode cX7_isPlayed 3 = .ok (.getfield 49, 3) := by decide +kernel
theorem dX7_isPlayed_6 : decode cX7_isPlayed 6 = .ok (.invokevirtual 129, 3) := by decide +kernel
theorem dX7_isPlayed_9 : decode cX7_isPlayed 9 = .ok (.ifCond .ne 5, 3) := by decide +kernel
theorem dX7_isPlayed_12 : decode cX7_isPlayed 12 = .ok (.iconst 0, 1) := by decide +kernel
theorem dX7_isPlayed_13 : decode cX7_isPlayed 13 = .ok (.ireturn, 1) := by decide +kernel
theorem dX7_isPlayed_14 : decode cX7_isPlayed 14 = .ok (.iconst 0, 1) := by decide +kernel
theorem dX7_isPlayed_15 : decode cX7_isPlayed 15 = .ok (.istore_n 2, 1) := by decide +kernel
theorem dX7_isPlayed_16 : decode cX7_isPlayed 16 = .ok (.iconst 0, 1) := by decide +kernel
theorem dX7_isPlayed_17 : decode cX7_isPlayed 17 = .ok (.istore_n 3, 1) := by decide +kernel
theorem dX7_isPlayed_18 : decode cX7_isPlayed 18 = .ok (.iload_n 3, 1) := by decide +kernel
theorem dX7_isPlayed_19 : decode cX7_isPlayed 19 = .ok (.aload_n 0, 1) := by decide +kernel
theorem dX7_isPlayed_20 : decode cX7_isPlayed 20 = .ok (.getfield 113, 3) := by decide +kernel
theorem dX7_isPlayed_23 : decode cX7_isPlayed 23 = .ok (.if_icmp .ge 34, 3) := by decide +kernel
theorem dX7_isPlayed_26 : decode cX7_isPlayed 26 = .ok (.iload_n 2, 1) := by decide +kernel
theorem dX7_isPlayed_27 : decode cX7_isPlayed 27 = .ok (.ifCond .ne 18, 3) := by decide +kernel
theorem dX7_isPlayed_30 : decode cX7_isPlayed 30 = .ok (.aload_n 0, 1) := by decide +kernel
theorem dX7_isPlayed_31 : decode cX7_isPlayed 31 = .ok (.getfield 35, 3) := by decide +kernel
theorem dX7_isPlayed_34 : decode cX7_isPlayed 34 = .ok (.bipush 8, 2) := by decide +kernel
theorem dX7_isPlayed_36 : decode cX7_isPlayed 36 = .ok (.iload_n 3, 1) := by decide +kernel
theorem dX7_isPlayed_37 : decode cX7_isPlayed 37 = .ok (.imul, 1) := by decide +kernel
theorem dX7_isPlayed_38 : decode cX7_isPlayed 38 = .ok (.iload_n 1, 1) := by decide +kernel
theorem dX7_isPlayed_39 : decode cX7_isPlayed 39 = .ok (.iadd, 1) := by decide +kernel
theorem dX7_isPlayed_40 : decode cX7_isPlayed 40 = .ok (.iaload, 1) := by decide +kernel
theorem dX7_isPlayed_41 : decode cX7_isPlayed 41 = .ok (.iconst (-1), 1) := by decide +kernel
theorem dX7_isPlayed_42 : decode cX7_isPlayed 42 = .ok (.if_icmp .eq 7, 3) := by decide +kernel
theorem dX7_isPlayed_45 : decode cX7_isPlayed 45 = .ok (.iconst 1, 1) := by decide +kernel
theorem dX7_isPlayed_46 : decode cX7_isPlayed 46 = .ok (.goto 4, 3) := by decide +kernel
theorem dX7_isPlayed_49 : decode cX7_isPlayed 49 = .ok (.iconst 0, 1) := by decide +kernel
theorem dX7_isPlayed_50 : decode cX7_isPlayed 50 = .ok (.istore_n 2, 1) := by decide +kernel
theorem dX7_isPlayed_51 : decode cX7_isPlayed 51 = .ok (.iinc 3 1, 3) := by decide +kernel
theorem dX7_isPlayed_54 : decode cX7_isPlayed 54 = .ok (.goto (-36), 3) := by decide +kernel
theorem dX7_isPlayed_57 : decode cX7_isPlayed 57 = .ok (.iload_n 2, 1) := by decide +kernel
theorem dX7_isPlayed_58 : decode cX7_isPlayed 58 = .ok (.ireturn, 1) := by decide +kernel
set_option maxRecDepth 20000 in
theorem ggX7_choice_X7_asks : GoodIn wsX7_choice wsX7_asks := goodIn_r _ [7, 8, 9, 10, 11, 6, 12, 13, 14, 34, 35, 36, 37, 38, 39, 40, 41, 42, 43, 44, 45, 46, 47, 48, 49, 50, 51] (by decide +kernel) (by decide +kernel)
set_option maxRecDepth 20000 in
theorem gX7_choice_X7_asks : GoodIn wsX7_choice (wsV RX7 129 RX7 yX7_asks wsX7_asks) := goodIn_app (goodIn_of _ (by decide +kernel)) ggX7_choice_X7_asks
set_option maxRecDepth 20000 in
theorem ggX7_choice_X7_readyIn : GoodIn wsX7_choice wsX7_readyIn := goodIn_r _ [18, 19, 20, 21, 22, 6, 23, 24, 25, 26, 34, 35, 36, 37, 38, 39, 40, 41, 42, 43, 44, 45, 46, 47, 48, 49, 50, 51] (by decide +kernel) (by decide +kernel)
set_option maxRecDepth 20000 in
theorem gX7_choice_X7_readyIn : GoodIn wsX7_choice (wsV RX7 102 RX7 yX7_readyIn wsX7_readyIn) := goodIn_app (goodIn_of _ (by decide +kernel)) ggX7_choice_X7_readyIn
set_option maxRecDepth 20000 in
theorem ggX7_choice_J6_bitCount_0f7a4 : GoodIn wsX7_choice wsJ6_bitCount_0f7a4 := goodIn_r _ [30, 31, 32, 33] (by decide +kernel) (by decide +kernel)
set_option maxRecDepth 20000 in
theorem gX7_choice_J6_bitCount_0f7a4 : GoodIn wsX7_choice (va_wsS RX7 151 yJ6_bitCount_0f7a4 wsJ6_bitCount_0f7a4) := goodIn_app (goodIn_of _ (by decide +kernel)) ggX7_choice_J6_bitCount_0f7a4
theorem dX7_choice_0 : decode cX7_choice 0 = .ok (.aload_n 0, 1) := by decide +kernel
theorem dX7_choice_1 : decode cX7_choice 1 = .ok (.iconst 0, 1) := by decide +kernel
theorem dX7_choice_2 : decode cX7_choice 2 = .ok (.iconst 1, 1) := by decide +kernel
theorem dX7_choice_3 : decode cX7_choice 3 = .ok (.invokevirtual 129, 3) := by decide +kernel
theorem dX7_choice_6 : decode cX7_choice 6 = .ok (.ifCond .ne 5, 3) := by decide +kernel
theorem dX7_choice_9 : decode cX7_choice 9 = .ok (.dconst 0, 1) := by decide +kernel
theorem dX7_choice_10 : decode cX7_choice 10 = .ok (.dreturn, 1) := by decide +kernel
theorem dX7_choice_11 : decode cX7_choice 11 = .ok (.iconst 0, 1) := by decide +kernel
theorem dX7_choice_12 : decode cX7_choice 12 = .ok (.istore_n 1, 1) := by decide +kernel
theorem dX7_choice_13 : decode cX7_choice 13 = .ok (.iconst 0, 1) := by decide +kernel
theorem dX7_choice_14 : decode cX7_choice 14 = .ok (.istore_n 2, 1) := by decide +kernel
theorem dX7_choice_15 : decode cX7_choice 15 = .ok (.iload_n 2, 1) := by decide +kernel
theorem dX7_choice_16 : decode cX7_choice 16 = .ok (.aload_n 0, 1) := by decide +kernel
theorem dX7_choice_17 : decode cX7_choice 17 = .ok (.getfield 113, 3) := by decide +kernel
theorem dX7_choice_20 : decode cX7_choice 20 = .ok (.if_icmp .ge 34, 3) := by decide +kernel
theorem dX7_choice_23 : decode cX7_choice 23 = .ok (.iload_n 1, 1) := by decide +kernel
theorem dX7_choice_24 : decode cX7_choice 24 = .ok (.aload_n 0, 1) := by decide +kernel
theorem dX7_choice_25 : decode cX7_choice 25 = .ok (.aload_n 0, 1) := by decide +kernel
theorem dX7_choice_26 : decode cX7_choice 26 = .ok (.getfield 32, 3) := by decide +kernel
theorem dX7_choice_29 : decode cX7_choice 29 = .ok (.iload_n 2, 1) := by decide +kernel
theorem dX7_choice_30 : decode cX7_choice 30 = .ok (.iaload, 1) := by decide +kernel
theorem dX7_choice_31 : decode cX7_choice 31 = .ok (.invokevirtual 102, 3) := by decide +kernel
theorem dX7_choice_34 : decode cX7_choice 34 = .ok (.invokestatic 151, 3) := by decide +kernel
theorem dX7_choice_37 : decode cX7_choice 37 = .ok (.iconst 1, 1) := by decide +kernel
theorem dX7_choice_38 : decode cX7_choice 38 = .ok (.if_icmp .le 7, 3) := by decide +kernel
theorem dX7_choice_41 : decode cX7_choice 41 = .ok (.iconst 1, 1) := by decide +kernel
theorem dX7_choice_42 : decode cX7_choice 42 = .ok (.goto 4, 3) := by decide +kernel
theorem dX7_choice_45 : decode cX7_choice 45 = .ok (.iconst 0, 1) := by decide +kernel
theorem dX7_choice_46 : decode cX7_choice 46 = .ok (.iadd, 1) := by decide +kernel
theorem dX7_choice_47 : decode cX7_choice 47 = .ok (.istore_n 1, 1) := by decide +kernel
theorem dX7_choice_48 : decode cX7_choice 48 = .ok (.iinc 2 1, 3) := by decide +kernel
theorem dX7_choice_51 : decode cX7_choice 51 = .ok (.goto (-36), 3) := by decide +kernel
theorem dX7_choice_54 : decode cX7_choice 54 = .ok (.iload_n 1, 1) := by decide +kernel
theorem dX7_choice_55 : decode cX7_choice 55 = .ok (.i2d, 1) := by decide +kernel
theorem dX7_choice_56 : decode cX7_choice 56 = .ok (.aload_n 0, 1) := by decide +kernel
theorem dX7_choice_57 : decode cX7_choice 57 = .ok (.getfield 113, 3) := by decide +kernel
theorem dX7_choice_60 : decode cX7_choice 60 = .ok (.i2d, 1) := by decide +kernel
theorem dX7_choice_61 : decode cX7_choice 61 = .ok (.ddiv, 1) := by decide +kernel
theorem dX7_choice_62 : decode cX7_choice 62 = .ok (.dreturn, 1) := by decide +kernel
theorem dX7_triggers_0 : decode cX7_triggers 0 = .ok (.iconst 0, 1) := by decide +kernel
theorem dX7_triggers_1 : decode cX7_triggers 1 = .ok (.istore_n 2, 1) := by decide +kernel
theorem dX7_triggers_2 : decode cX7_triggers 2 = .ok (.iconst 0, 1) := by decide +kernel
theorem dX7_triggers_3 : decode cX7_triggers 3 = .ok (.istore_n 3, 1) := by decide +kernel
theorem dX7_triggers_4 : decode cX7_triggers 4 = .ok (.iload_n 3, 1) := by decide +kernel
theorem dX7_triggers_5 : decode cX7_triggers 5 = .ok (.aload_n 0, 1) := by decide +kernel
theorem dX7_triggers_6 : decode cX7_triggers 6 = .ok (.getfield 49, 3) := by decide +kernel
theorem dX7_triggers_9 : decode cX7_triggers 9 = .ok (.if_icmp .ge 73, 3) := by decide +kernel
theorem dX7_triggers_12 : decode cX7_triggers 12 = .ok (.iconst 0, 1) := by decide +kernel
theorem dX7_triggers_13 : decode cX7_triggers 13 = .ok (.istore 4, 2) := by decide +kernel
theorem dX7_triggers_15 : decode cX7_triggers 15 = .ok (.iload 4, 2) := by decide +kernel
theorem dX7_triggers_17 : decode cX7_triggers 17 = .ok (.aload_n 0, 1) := by decide +kernel
theorem dX7_triggers_18 : decode cX7_triggers 18 = .ok (.getfield 19, 3) := by decide +kernel
theorem dX7_triggers_21 : decode cX7_triggers 21 = .ok (.iload_n 1, 1) := by decide +kernel
theorem dX7_triggers_22 : decode cX7_triggers 22 = .ok (.iaload, 1) := by decide +kernel
theorem dX7_triggers_23 : decode cX7_triggers 23 = .ok (.if_icmp .ge 53, 3) := by decide +kernel
theorem dX7_triggers_26 : decode cX7_triggers 26 = .ok (.aload_n 0, 1) := by decide +kernel
theorem dX7_triggers_27 : decode cX7_triggers 27 = .ok (.getfield 25, 3) := by decide +kernel
theorem dX7_triggers_30 : decode cX7_triggers 30 = .ok (.iload_n 1, 1) := by decide +kernel
theorem dX7_triggers_31 : decode cX7_triggers 31 = .ok (.baload, 1) := by decide +kernel
theorem dX7_triggers_32 : decode cX7_triggers 32 = .ok (.ifCond .eq 38, 3) := by decide +kernel
theorem dX7_triggers_35 : decode cX7_triggers 35 = .ok (.aload_n 0, 1) := by decide +kernel
theorem dX7_triggers_36 : decode cX7_triggers 36 = .ok (.getfield 25, 3) := by decide +kernel
theorem dX7_triggers_39 : decode cX7_triggers 39 = .ok (.iload_n 3, 1) := by decide +kernel
theorem dX7_triggers_40 : decode cX7_triggers 40 = .ok (.baload, 1) := by decide +kernel
theorem dX7_triggers_41 : decode cX7_triggers 41 = .ok (.ifCond .eq 29, 3) := by decide +kernel
theorem dX7_triggers_44 : decode cX7_triggers 44 = .ok (.aload_n 0, 1) := by decide +kernel
theorem dX7_triggers_45 : decode cX7_triggers 45 = .ok (.getfield 22, 3) := by decide +kernel
theorem dX7_triggers_48 : decode cX7_triggers 48 = .ok (.iconst 4, 1) := by decide +kernel
theorem dX7_triggers_49 : decode cX7_triggers 49 = .ok (.iload_n 1, 1) := by decide +kernel
theorem dX7_triggers_50 : decode cX7_triggers 50 = .ok (.imul, 1) := by decide +kernel
theorem dX7_triggers_51 : decode cX7_triggers 51 = .ok (.iload 4, 2) := by decide +kernel
theorem dX7_triggers_53 : decode cX7_triggers 53 = .ok (.iadd, 1) := by decide +kernel
theorem dX7_triggers_54 : decode cX7_triggers 54 = .ok (.iaload, 1) := by decide +kernel
theorem dX7_triggers_55 : decode cX7_triggers 55 = .ok (.aload_n 0, 1) := by decide +kernel
theorem dX7_triggers_56 : decode cX7_triggers 56 = .ok (.getfield 9, 3) := by decide +kernel
theorem dX7_triggers_59 : decode cX7_triggers 59 = .ok (.iload_n 3, 1) := by decide +kernel
theorem dX7_triggers_60 : decode cX7_triggers 60 = .ok (.iaload, 1) := by decide +kernel
theorem dX7_triggers_61 : decode cX7_triggers 61 = .ok (.if_icmp .ne 9, 3) := by decide +kernel
theorem dX7_triggers_64 : decode cX7_triggers 64 = .ok (.iload_n 2, 1) := by decide +kernel
theorem dX7_triggers_65 : decode cX7_triggers 65 = .ok (.iconst 1, 1) := by decide +kernel
theorem dX7_triggers_66 : decode cX7_triggers 66 = .ok (.iload_n 3, 1) := by decide +kernel
theorem dX7_triggers_67 : decode cX7_triggers 67 = .ok (.ishl, 1) := by decide +kernel
theorem dX7_triggers_68 : decode cX7_triggers 68 = .ok (.ior, 1) := by decide +kernel
theorem dX7_triggers_69 : decode cX7_triggers 69 = .ok (.istore_n 2, 1) := by decide +kernel
theorem dX7_triggers_70 : decode cX7_triggers 70 = .ok (.iinc 4 1, 3) := by decide +kernel
theorem dX7_triggers_73 : decode cX7_triggers 73 = .ok (.goto (-58), 3) := by decide +kernel
theorem dX7_triggers_76 : decode cX7_triggers 76 = .ok (.iinc 3 1, 3) := by decide +kernel
theorem dX7_triggers_79 : decode cX7_triggers 79 = .ok (.goto (-75), 3) := by decide +kernel
theorem dX7_triggers_82 : decode cX7_triggers 82 = .ok (.iload_n 2, 1) := by decide +kernel
theorem dX7_triggers_83 : decode cX7_triggers 83 = .ok (.ireturn, 1) := by decide +kernel
set_option maxRecDepth 20000 in
theorem ggX7_canTrigger_X7_isRule : GoodIn wsX7_canTrigger wsX7_isRule := goodIn_r _ [6, 7, 20, 21, 22, 23, 24, 25, 26, 27, 28, 29, 30, 31, 32, 33, 34, 35, 36, 37] (by decide +kernel) (by decide +kernel)
set_option maxRecDepth 20000 in
theorem gX7_canTrigger_X7_isRule : GoodIn wsX7_canTrigger (wsV RX7 71 RX7 yX7_isRule wsX7_isRule) := goodIn_app (goodIn_of _ (by decide +kernel)) ggX7_canTrigger_X7_isRule
set_option maxRecDepth 20000 in
theorem ggX7_canTrigger_X7_triggers : GoodIn wsX7_canTrigger wsX7_triggers := goodIn_r _ [11, 7, 12, 13, 14, 15, 20, 21, 22, 23, 24, 25, 26, 27, 28, 29, 30, 31, 32, 33, 34, 35, 36, 37] (by decide +kernel) (by decide +kernel)
set_option maxRecDepth 20000 in
theorem gX7_canTrigger_X7_triggers : GoodIn wsX7_canTrigger (wsV RX7 154 RX7 yX7_triggers wsX7_triggers) := goodIn_app (goodIn_of _ (by decide +kernel)) ggX7_canTrigger_X7_triggers
set_option maxRecDepth 20000 in
theorem ggX7_canTrigger_X7_fail : GoodIn wsX7_canTrigger wsX7_fail := goodIn_r _ [19, 1, 20, 21, 22, 23, 24, 25, 26, 27, 28, 29, 30, 31, 32, 33, 34, 35, 36, 37] (by decide +kernel) (by decide +kernel)
set_option maxRecDepth 20000 in
theorem gX7_canTrigger_X7_fail : GoodIn wsX7_canTrigger (wsV RX7 56 RX7 yX7_fail wsX7_fail) := goodIn_app (goodIn_of _ (by decide +kernel)) ggX7_canTrigger_X7_fail
theorem dX7_canTrigger_0 : decode cX7_canTrigger 0 = .ok (.aload_n 0, 1) := by decide +kernel
theorem dX7_canTrigger_1 : decode cX7_canTrigger 1 = .ok (.iconst 0, 1) := by decide +kernel
theorem dX7_canTrigger_2 : decode cX7_canTrigger 2 = .ok (.putfield 45, 3) := by decide +kernel
theorem dX7_canTrigger_5 : decode cX7_canTrigger 5 = .ok (.aload_n 0, 1) := by decide +kernel
theorem dX7_canTrigger_6 : decode cX7_canTrigger 6 = .ok (.iload_n 1, 1) := by decide +kernel
theorem dX7_canTrigger_7 : decode cX7_canTrigger 7 = .ok (.invokevirtual 71, 3) := by decide +kernel
theorem dX7_canTrigger_10 : decode cX7_canTrigger 10 = .ok (.ifCond .eq 11, 3) := by decide +kernel
theorem dX7_canTrigger_13 : decode cX7_canTrigger 13 = .ok (.aload_n 0, 1) := by decide +kernel
theorem dX7_canTrigger_14 : decode cX7_canTrigger 14 = .ok (.iload_n 1, 1) := by decide +kernel
theorem dX7_canTrigger_15 : decode cX7_canTrigger 15 = .ok (.invokevirtual 154, 3) := by decide +kernel
theorem dX7_canTrigger_18 : decode cX7_canTrigger 18 = .ok (.goto 8, 3) := by decide +kernel
theorem dX7_canTrigger_21 : decode cX7_canTrigger 21 = .ok (.aload_n 0, 1) := by decide +kernel
theorem dX7_canTrigger_22 : decode cX7_canTrigger 22 = .ok (.iconst 1, 1) := by decide +kernel
theorem dX7_canTrigger_23 : decode cX7_canTrigger 23 = .ok (.invokevirtual 56, 3) := by decide +kernel
theorem dX7_canTrigger_26 : decode cX7_canTrigger 26 = .ok (.ireturn, 1) := by decide +kernel
set_option maxRecDepth 20000 in
theorem ggX7_circular_X7_triggers : GoodIn wsX7_circular wsX7_triggers := goodIn_r _ [7, 2, 8, 9, 10, 11, 15, 16, 17, 18, 19, 20, 21, 22, 23, 24, 25, 26, 27, 28, 29, 30, 31, 32] (by decide +kernel) (by decide +kernel)
set_option maxRecDepth 20000 in
theorem gX7_circular_X7_triggers : GoodIn wsX7_circular (wsV RX7 154 RX7 yX7_triggers wsX7_triggers) := goodIn_app (goodIn_of _ (by decide +kernel)) ggX7_circular_X7_triggers
set_option maxRecDepth 20000 in
theorem ggX7_circular_X7_has : GoodIn wsX7_circular wsX7_has := goodIn_r _ [14] (by decide +kernel) (by decide +kernel)
set_option maxRecDepth 20000 in
theorem gX7_circular_X7_has : GoodIn wsX7_circular (va_wsS RX7 77 yX7_has wsX7_has) := goodIn_app (goodIn_of _ (by decide +kernel)) ggX7_circular_X7_has
theorem dX7_circular_0 : decode cX7_circular 0 = .ok (.aload_n 0, 1) := by decide +kernel
theorem dX7_circular_1 : decode cX7_circular 1 = .ok (.iconst 0, 1) := by decide +kernel
theorem dX7_circular_2 : decode cX7_circular 2 = .ok (.putfield 45, 3) := by decide +kernel
theorem dX7_circular_5 : decode cX7_circular 5 = .ok (.iconst 0, 1) := by decide +kernel
theorem dX7_circular_6 : decode cX7_circular 6 = .ok (.istore_n 1, 1) := by decide +kernel
theorem dX7_circular_7 : decode cX7_circular 7 = .ok (.iconst 0, 1) := by decide +kernel
theorem dX7_circular_8 : decode cX7_circular 8 = .ok (.istore_n 2, 1) := by decide +kernel
theorem dX7_circular_9 : decode cX7_circular 9 = .ok (.iload_n 2, 1) := by decide +kernel
theorem dX7_circular_10 : decode cX7_circular 10 = .ok (.aload_n 0, 1) := by decide +kernel
theorem dX7_circular_11 : decode cX7_circular 11 = .ok (.getfield 49, 3) := by decide +kernel
theorem dX7_circular_14 : decode cX7_circular 14 = .ok (.if_icmp .ge 83, 3) := by decide +kernel
theorem dX7_circular_17 : decode cX7_circular 17 = .ok (.aload_n 0, 1) := by decide +kernel
theorem dX7_circular_18 : decode cX7_circular 18 = .ok (.iload_n 2, 1) := by decide +kernel
theorem dX7_circular_19 : decode cX7_circular 19 = .ok (.invokevirtual 154, 3) := by decide +kernel
theorem dX7_circular_22 : decode cX7_circular 22 = .ok (.istore_n 3, 1) := by decide +kernel
theorem dX7_circular_23 : decode cX7_circular 23 = .ok (.iconst 0, 1) := by decide +kernel
theorem dX7_circular_24 : decode cX7_circular 24 = .ok (.istore 4, 2) := by decide +kernel
theorem dX7_circular_26 : decode cX7_circular 26 = .ok (.iload 4, 2) := by decide +kernel
theorem dX7_circular_28 : decode cX7_circular 28 = .ok (.aload_n 0, 1) := by decide +kernel
theorem dX7_circular_29 : decode cX7_circular 29 = .ok (.getfield 49, 3) := by decide +kernel
theorem dX7_circular_32 : decode cX7_circular 32 = .ok (.if_icmp .ge 45, 3) := by decide +kernel
theorem dX7_circular_35 : decode cX7_circular 35 = .ok (.iconst 0, 1) := by decide +kernel
theorem dX7_circular_36 : decode cX7_circular 36 = .ok (.istore 5, 2) := by decide +kernel
theorem dX7_circular_38 : decode cX7_circular 38 = .ok (.iload 5, 2) := by decide +kernel
theorem dX7_circular_40 : decode cX7_circular 40 = .ok (.aload_n 0, 1) := by decide +kernel
theorem dX7_circular_41 : decode cX7_circular 41 = .ok (.getfield 49, 3) := by decide +kernel
theorem dX7_circular_44 : decode cX7_circular 44 = .ok (.if_icmp .ge 27, 3) := by decide +kernel
theorem dX7_circular_47 : decode cX7_circular 47 = .ok (.iload_n 3, 1) := by decide +kernel
theorem dX7_circular_48 : decode cX7_circular 48 = .ok (.iload 5, 2) := by decide +kernel
theorem dX7_circular_50 : decode cX7_circular 50 = .ok (.invokestatic 77, 3) := by decide +kernel
theorem dX7_circular_53 : decode cX7_circular 53 = .ok (.ifCond .eq 12, 3) := by decide +kernel
theorem dX7_circular_56 : decode cX7_circular 56 = .ok (.iload_n 3, 1) := by decide +kernel
theorem dX7_circular_57 : decode cX7_circular 57 = .ok (.aload_n 0, 1) := by decide +kernel
theorem dX7_circular_58 : decode cX7_circular 58 = .ok (.iload 5, 2) := by decide +kernel
theorem dX7_circular_60 : decode cX7_circular 60 = .ok (.invokevirtual 154, 3) := by decide +kernel
theorem dX7_circular_63 : decode cX7_circular 63 = .ok (.ior, 1) := by decide +kernel
theorem dX7_circular_64 : decode cX7_circular 64 = .ok (.istore_n 3, 1) := by decide +kernel
theorem dX7_circular_65 : decode cX7_circular 65 = .ok (.iinc 5 1, 3) := by decide +kernel
theorem dX7_circular_68 : decode cX7_circular 68 = .ok (.goto (-30), 3) := by decide +kernel
theorem dX7_circular_71 : decode cX7_circular 71 = .ok (.iinc 4 1, 3) := by decide +kernel
theorem dX7_circular_74 : decode cX7_circular 74 = .ok (.goto (-48), 3) := by decide +kernel
theorem dX7_circular_77 : decode cX7_circular 77 = .ok (.iload_n 3, 1) := by decide +kernel
theorem dX7_circular_78 : decode cX7_circular 78 = .ok (.iload_n 2, 1) := by decide +kernel
theorem dX7_circular_79 : decode cX7_circular 79 = .ok (.invokestatic 77, 3) := by decide +kernel
theorem dX7_circular_82 : decode cX7_circular 82 = .ok (.ifCond .eq 9, 3) := by decide +kernel
theorem dX7_circular_85 : decode cX7_circular 85 = .ok (.iload_n 1, 1) := by decide +kernel
theorem dX7_circular_86 : decode cX7_circular 86 = .ok (.iconst 1, 1) := by decide +kernel
theorem dX7_circular_87 : decode cX7_circular 87 = .ok (.iload_n 2, 1) := by decide +kernel
theorem dX7_circular_88 : decode cX7_circular 88 = .ok (.ishl, 1) := by decide +kernel
theorem dX7_circular_89 : decode cX7_circular 89 = .ok (.ior, 1) := by decide +kernel
theorem dX7_circular_90 : decode cX7_circular 90 = .ok (.istore_n 1, 1) := by decide +kernel
theorem dX7_circular_91 : decode cX7_circular 91 = .ok (.iinc 2 1, 3) := by decide +kernel
theorem dX7_circular_94 : decode cX7_circular 94 = .ok (.goto (-85), 3) := by decide +kernel
theorem dX7_circular_97 : decode cX7_circular 97 = .ok (.iload_n 1, 1) := by decide +kernel
theorem dX7_circular_98 : decode cX7_circular 98 = .ok (.ireturn, 1) := by decide +kernel
set_option maxRecDepth 20000 in
theorem ggX7_disturbs_X7_has : GoodIn wsX7_disturbs wsX7_has := goodIn_r _ [8] (by decide +kernel) (by decide +kernel)
set_option maxRecDepth 20000 in
theorem gX7_disturbs_X7_has : GoodIn wsX7_disturbs (va_wsS RX7 77 yX7_has wsX7_has) := goodIn_app (goodIn_of _ (by decide +kernel)) ggX7_disturbs_X7_has
theorem dX7_disturbs_0 : decode cX7_disturbs 0 = .ok (.iconst 0, 1) := by decide +kernel
theorem dX7_disturbs_1 : decode cX7_disturbs 1 = .ok (.istore_n 3, 1) := by decide +kernel
theorem dX7_disturbs_2 : decode cX7_disturbs 2 = .ok (.iconst 0, 1) := by decide +kernel
theorem dX7_disturbs_3 : decode cX7_disturbs 3 = .ok (.istore 4, 2) := by decide +kernel
theorem dX7_disturbs_5 : decode cX7_disturbs 5 = .ok (.iload 4, 2) := by decide +kernel
theorem dX7_disturbs_7 : decode cX7_disturbs 7 = .ok (.aload_n 0, 1) := by decide +kernel
theorem dX7_disturbs_8 : decode cX7_disturbs 8 = .ok (.getfield 19, 3) := by decide +kernel
theorem dX7_disturbs_11 : decode cX7_disturbs 11 = .ok (.iload_n 1, 1) := by decide +kernel
theorem dX7_disturbs_12 : decode cX7_disturbs 12 = .ok (.iaload, 1) := by decide +kernel
theorem dX7_disturbs_13 : decode cX7_disturbs 13 = .ok (.if_icmp .ge 103, 3) := by decide +kernel
theorem dX7_disturbs_16 : decode cX7_disturbs 16 = .ok (.aload_n 0, 1) := by decide +kernel
theorem dX7_disturbs_17 : decode cX7_disturbs 17 = .ok (.getfield 22, 3) := by decide +kernel
theorem dX7_disturbs_20 : decode cX7_disturbs 20 = .ok (.iconst 4, 1) := by decide +kernel
theorem dX7_disturbs_21 : decode cX7_disturbs 21 = .ok (.iload_n 1, 1) := by decide +kernel
theorem dX7_disturbs_22 : decode cX7_disturbs 22 = .ok (.imul, 1) := by decide +kernel
theorem dX7_disturbs_23 : decode cX7_disturbs 23 = .ok (.iload 4, 2) := by decide +kernel
theorem dX7_disturbs_25 : decode cX7_disturbs 25 = .ok (.iadd, 1) := by decide +kernel
theorem dX7_disturbs_26 : decode cX7_disturbs 26 = .ok (.iaload, 1) := by decide +kernel
theorem dX7_disturbs_27 : decode cX7_disturbs 27 = .ok (.istore 5, 2) := by decide +kernel
theorem dX7_disturbs_29 : decode cX7_disturbs 29 = .ok (.iload_n 3, 1) := by decide +kernel
theorem dX7_disturbs_30 : decode cX7_disturbs 30 = .ok (.ifCond .ne 26, 3) := by decide +kernel
theorem dX7_disturbs_33 : decode cX7_disturbs 33 = .ok (.aload_n 0, 1) := by decide +kernel
theorem dX7_disturbs_34 : decode cX7_disturbs 34 = .ok (.getfield 13, 3) := by decide +kernel
theorem dX7_disturbs_37 : decode cX7_disturbs 37 = .ok (.iload_n 2, 1) := by decide +kernel
theorem dX7_disturbs_38 : decode cX7_disturbs 38 = .ok (.iaload, 1) := by decide +kernel
theorem dX7_disturbs_39 : decode cX7_disturbs 39 = .ok (.aload_n 0, 1) := by decide +kernel
theorem dX7_disturbs_40 : decode cX7_disturbs 40 = .ok (.getfield 16, 3) := by decide +kernel
theorem dX7_disturbs_43 : decode cX7_disturbs 43 = .ok (.iload_n 2, 1) := by decide +kernel
theorem dX7_disturbs_44 : decode cX7_disturbs 44 = .ok (.iaload, 1) := by decide +kernel
theorem dX7_disturbs_45 : decode cX7_disturbs 45 = .ok (.ior, 1) := by decide +kernel
theorem dX7_disturbs_46 : decode cX7_disturbs 46 = .ok (.iload 5, 2) := by decide +kernel
theorem dX7_disturbs_48 : decode cX7_disturbs 48 = .ok (.iconst 2, 1) := by decide +kernel
theorem dX7_disturbs_49 : decode cX7_disturbs 49 = .ok (.idiv, 1) := by decide +kernel
theorem dX7_disturbs_50 : decode cX7_disturbs 50 = .ok (.invokestatic 77, 3) := by decide +kernel
theorem dX7_disturbs_53 : decode cX7_disturbs 53 = .ok (.ifCond .eq 7, 3) := by decide +kernel
theorem dX7_disturbs_56 : decode cX7_disturbs 56 = .ok (.iconst 1, 1) := by decide +kernel
theorem dX7_disturbs_57 : decode cX7_disturbs 57 = .ok (.goto 4, 3) := by decide +kernel
theorem dX7_disturbs_60 : decode cX7_disturbs 60 = .ok (.iconst 0, 1) := by decide +kernel
theorem dX7_disturbs_61 : decode cX7_disturbs 61 = .ok (.istore_n 3, 1) := by decide +kernel
theorem dX7_disturbs_62 : decode cX7_disturbs 62 = .ok (.iconst 0, 1) := by decide +kernel
theorem dX7_disturbs_63 : decode cX7_disturbs 63 = .ok (.istore 6, 2) := by decide +kernel
theorem dX7_disturbs_65 : decode cX7_disturbs 65 = .ok (.iload 6, 2) := by decide +kernel
theorem dX7_disturbs_67 : decode cX7_disturbs 67 = .ok (.aload_n 0, 1) := by decide +kernel
theorem dX7_disturbs_68 : decode cX7_disturbs 68 = .ok (.getfield 19, 3) := by decide +kernel
theorem dX7_disturbs_71 : decode cX7_disturbs 71 = .ok (.iload_n 2, 1) := by decide +kernel
theorem dX7_disturbs_72 : decode cX7_disturbs 72 = .ok (.iaload, 1) := by decide +kernel
theorem dX7_disturbs_73 : decode cX7_disturbs 73 = .ok (.if_icmp .ge 37, 3) := by decide +kernel
theorem dX7_disturbs_76 : decode cX7_disturbs 76 = .ok (.iload_n 3, 1) := by decide +kernel
theorem dX7_disturbs_77 : decode cX7_disturbs 77 = .ok (.ifCond .ne 21, 3) := by decide +kernel
theorem dX7_disturbs_80 : decode cX7_disturbs 80 = .ok (.aload_n 0, 1) := by decide +kernel
theorem dX7_disturbs_81 : decode cX7_disturbs 81 = .ok (.getfield 22, 3) := by decide +kernel
theorem dX7_disturbs_84 : decode cX7_disturbs 84 = .ok (.iconst 4, 1) := by decide +kernel
theorem dX7_disturbs_85 : decode cX7_disturbs 85 = .ok (.iload_n 2, 1) := by decide +kernel
theorem dX7_disturbs_86 : decode cX7_disturbs 86 = .ok (.imul, 1) := by decide +kernel
theorem dX7_disturbs_87 : decode cX7_disturbs 87 = .ok (.iload 6, 2) := by decide +kernel
theorem dX7_disturbs_89 : decode cX7_disturbs 89 = .ok (.iadd, 1) := by decide +kernel
theorem dX7_disturbs_90 : decode cX7_disturbs 90 = .ok (.iaload, 1) := by decide +kernel
theorem dX7_disturbs_91 : decode cX7_disturbs 91 = .ok (.iload 5, 2) := by decide +kernel
theorem dX7_disturbs_93 : decode cX7_disturbs 93 = .ok (.iconst 1, 1) := by decide +kernel
theorem dX7_disturbs_94 : decode cX7_disturbs 94 = .ok (.ixor, 1) := by decide +kernel
theorem dX7_disturbs_95 : decode cX7_disturbs 95 = .ok (.if_icmp .ne 7, 3) := by decide +kernel
theorem dX7_disturbs_98 : decode cX7_disturbs 98 = .ok (.iconst 1, 1) := by decide +kernel
theorem dX7_disturbs_99 : decode cX7_disturbs 99 = .ok (.goto 4, 3) := by decide +kernel
theorem dX7_disturbs_102 : decode cX7_disturbs 102 = .ok (.iconst 0, 1) := by decide +kernel
theorem dX7_disturbs_103 : decode cX7_disturbs 103 = .ok (.istore_n 3, 1) := by decide +kernel
theorem dX7_disturbs_104 : decode cX7_disturbs 104 = .ok (.iinc 6 1, 3) := by decide +kernel
theorem dX7_disturbs_107 : decode cX7_disturbs 107 = .ok (.goto (-42), 3) := by decide +kernel
theorem dX7_disturbs_110 : decode cX7_disturbs 110 = .ok (.iinc 4 1, 3) := by decide +kernel
theorem dX7_disturbs_113 : decode cX7_disturbs 113 = .ok (.goto (-108), 3) := by decide +kernel
theorem dX7_disturbs_116 : decode cX7_disturbs 116 = .ok (.iload_n 3, 1) := by decide +kernel
theorem dX7_disturbs_117 : decode cX7_disturbs 117 = .ok (.ireturn, 1) := by decide +kernel
set_option maxRecDepth 20000 in
theorem ggX7_doCommute_X7_triggers : GoodIn wsX7_doCommute wsX7_triggers := goodIn_r _ [6, 7, 8, 1, 9, 10, 20, 21, 22, 23, 24, 25, 26, 27, 28, 29, 30, 31, 32, 33, 34, 35, 36, 37] (by decide +kernel) (by decide +kernel)
set_option maxRecDepth 20000 in
theorem gX7_doCommute_X7_triggers : GoodIn wsX7_doCommute (wsV RX7 154 RX7 yX7_triggers wsX7_triggers) := goodIn_app (goodIn_of _ (by decide +kernel)) ggX7_doCommute_X7_triggers
set_option maxRecDepth 20000 in
theorem ggX7_doCommute_X7_disturbs : GoodIn wsX7_doCommute wsX7_disturbs := goodIn_r _ [14, 8, 9, 15, 16, 17, 18, 5, 19, 20, 21, 22, 23, 24, 25, 26, 27, 28, 29, 30, 31, 32, 33, 34, 35, 36, 37] (by decide +kernel) (by decide +kernel)
set_option maxRecDepth 20000 in
theorem gX7_doCommute_X7_disturbs : GoodIn wsX7_doCommute (wsV RX7 157 RX7 yX7_disturbs wsX7_disturbs) := goodIn_app (goodIn_of _ (by decide +kernel)) ggX7_doCommute_X7_disturbs
theorem dX7_doCommute_0 : decode cX7_doCommute 0 = .ok (.aload_n 0, 1) := by decide +kernel
theorem dX7_doCommute_1 : decode cX7_doCommute 1 = .ok (.getfield 25, 3) := by decide +kernel
theorem dX7_doCommute_4 : decode cX7_doCommute 4 = .ok (.iload_n 1, 1) := by decide +kernel
theorem dX7_doCommute_5 : decode cX7_doCommute 5 = .ok (.baload, 1) := by decide +kernel
theorem dX7_doCommute_6 : decode cX7_doCommute 6 = .ok (.ifCond .eq 12, 3) := by decide +kernel
theorem dX7_doCommute_9 : decode cX7_doCommute 9 = .ok (.aload_n 0, 1) := by decide +kernel
theorem dX7_doCommute_10 : decode cX7_doCommute 10 = .ok (.getfield 25, 3) := by decide +kernel
theorem dX7_doCommute_13 : decode cX7_doCommute 13 = .ok (.iload_n 2, 1) := by decide +kernel
theorem dX7_doCommute_14 : decode cX7_doCommute 14 = .ok (.baload, 1) := by decide +kernel
theorem dX7_doCommute_15 : decode cX7_doCommute 15 = .ok (.ifCond .ne 5, 3) := by decide +kernel
theorem dX7_doCommute_18 : decode cX7_doCommute 18 = .ok (.iconst 1, 1) := by decide +kernel
theorem dX7_doCommute_19 : decode cX7_doCommute 19 = .ok (.ireturn, 1) := by decide +kernel
theorem dX7_doCommute_20 : decode cX7_doCommute 20 = .ok (.aload_n 0, 1) := by decide +kernel
theorem dX7_doCommute_21 : decode cX7_doCommute 21 = .ok (.iload_n 1, 1) := by decide +kernel
theorem dX7_doCommute_22 : decode cX7_doCommute 22 = .ok (.invokevirtual 154, 3) := by decide +kernel
theorem dX7_doCommute_25 : decode cX7_doCommute 25 = .ok (.aload_n 0, 1) := by decide +kernel
theorem dX7_doCommute_26 : decode cX7_doCommute 26 = .ok (.iload_n 2, 1) := by decide +kernel
theorem dX7_doCommute_27 : decode cX7_doCommute 27 = .ok (.invokevirtual 154, 3) := by decide +kernel
theorem dX7_doCommute_30 : decode cX7_doCommute 30 = .ok (.ior, 1) := by decide +kernel
theorem dX7_doCommute_31 : decode cX7_doCommute 31 = .ok (.iconst 1, 1) := by decide +kernel
theorem dX7_doCommute_32 : decode cX7_doCommute 32 = .ok (.iload_n 1, 1) := by decide +kernel
theorem dX7_doCommute_33 : decode cX7_doCommute 33 = .ok (.ishl, 1) := by decide +kernel
theorem dX7_doCommute_34 : decode cX7_doCommute 34 = .ok (.iconst 1, 1) := by decide +kernel
theorem dX7_doCommute_35 : decode cX7_doCommute 35 = .ok (.iload_n 2, 1) := by decide +kernel
theorem dX7_doCommute_36 : decode cX7_doCommute 36 = .ok (.ishl, 1) := by decide +kernel
theorem dX7_doCommute_37 : decode cX7_doCommute 37 = .ok (.ior, 1) := by decide +kernel
theorem dX7_doCommute_38 : decode cX7_doCommute 38 = .ok (.iand, 1) := by decide +kernel
theorem dX7_doCommute_39 : decode cX7_doCommute 39 = .ok (.ifCond .ne 25, 3) := by decide +kernel
theorem dX7_doCommute_42 : decode cX7_doCommute 42 = .ok (.aload_n 0, 1) := by decide +kernel
theorem dX7_doCommute_43 : decode cX7_doCommute 43 = .ok (.iload_n 1, 1) := by decide +kernel
theorem dX7_doCommute_44 : decode cX7_doCommute 44 = .ok (.iload_n 2, 1) := by decide +kernel
theorem dX7_doCommute_45 : decode cX7_doCommute 45 = .ok (.invokevirtual 157, 3) := by decide +kernel
theorem dX7_doCommute_48 : decode cX7_doCommute 48 = .ok (.ifCond .ne 16, 3) := by decide +kernel
theorem dX7_doCommute_51 : decode cX7_doCommute 51 = .ok (.aload_n 0, 1) := by decide +kernel
theorem dX7_doCommute_52 : decode cX7_doCommute 52 = .ok (.iload_n 2, 1) := by decide +kernel
theorem dX7_doCommute_53 : decode cX7_doCommute 53 = .ok (.iload_n 1, 1) := by decide +kernel
theorem dX7_doCommute_54 : decode cX7_doCommute 54 = .ok (.invokevirtual 157, 3) := by decide +kernel
theorem dX7_doCommute_57 : decode cX7_doCommute 57 = .ok (.ifCond .ne 7, 3) := by decide +kernel
theorem dX7_doCommute_60 : decode cX7_doCommute 60 = .ok (.iconst 1, 1) := by decide +kernel
theorem dX7_doCommute_61 : decode cX7_doCommute 61 = .ok (.goto 4, 3) := by decide +kernel
theorem dX7_doCommute_64 : decode cX7_doCommute 64 = .ok (.iconst 0, 1) := by decide +kernel
theorem dX7_doCommute_65 : decode cX7_doCommute 65 = .ok (.ireturn, 1) := by decide +kernel
set_option maxRecDepth 20000 in
theorem ggX7_commute_X7_isRule : GoodIn wsX7_commute wsX7_isRule := goodIn_r _ [6, 7, 29, 30, 31, 32, 33, 34, 35, 36, 37, 38, 39, 40, 41, 42, 43, 44, 45, 46] (by decide +kernel) (by decide +kernel)
set_option maxRecDepth 20000 in
theorem gX7_commute_X7_isRule : GoodIn wsX7_commute (wsV RX7 71 RX7 yX7_isRule wsX7_isRule) := goodIn_app (goodIn_of _ (by decide +kernel)) ggX7_commute_X7_isRule
set_option maxRecDepth 20000 in
theorem ggX7_commute_X7_doCommute : GoodIn wsX7_commute wsX7_doCommute := goodIn_r _ [11, 12, 13, 14, 15, 5, 16, 7, 17, 18, 19, 20, 21, 22, 23, 24, 25, 26, 27, 28, 29, 30, 31, 32, 33, 34, 35, 36, 37, 38, 39, 40, 41, 42, 43, 44, 45, 46] (by decide +kernel) (by decide +kernel)
set_option maxRecDepth 20000 in
theorem gX7_commute_X7_doCommute : GoodIn wsX7_commute (wsV RX7 160 RX7 yX7_doCommute wsX7_doCommute) := goodIn_app (goodIn_of _ (by decide +kernel)) ggX7_commute_X7_doCommute
theorem dX7_commute_0 : decode cX7_commute 0 = .ok (.aload_n 0, 1) := by decide +kernel
theorem dX7_commute_1 : decode cX7_commute 1 = .ok (.aload_n 0, 1) := by decide +kernel
theorem dX7_commute_2 : decode cX7_commute 2 = .ok (.iload_n 1, 1) := by decide +kernel
theorem dX7_commute_3 : decode cX7_commute 3 = .ok (.invokevirtual 71, 3) := by decide +kernel
theorem dX7_commute_6 : decode cX7_commute 6 = .ok (.ifCond .eq 11, 3) := by decide +kernel
theorem dX7_commute_9 : decode cX7_commute 9 = .ok (.aload_n 0, 1) := by decide +kernel
theorem dX7_commute_10 : decode cX7_commute 10 = .ok (.iload_n 2, 1) := by decide +kernel
theorem dX7_commute_11 : decode cX7_commute 11 = .ok (.invokevirtual 71, 3) := by decide +kernel
theorem dX7_commute_14 : decode cX7_commute 14 = .ok (.ifCond .ne 7, 3) := by decide +kernel
theorem dX7_commute_17 : decode cX7_commute 17 = .ok (.iconst 1, 1) := by decide +kernel
theorem dX7_commute_18 : decode cX7_commute 18 = .ok (.goto 13, 3) := by decide +kernel
theorem dX7_commute_21 : decode cX7_commute 21 = .ok (.iload_n 1, 1) := by decide +kernel
theorem dX7_commute_22 : decode cX7_commute 22 = .ok (.iload_n 2, 1) := by decide +kernel
theorem dX7_commute_23 : decode cX7_commute 23 = .ok (.if_icmp .ne 7, 3) := by decide +kernel
theorem dX7_commute_26 : decode cX7_commute 26 = .ok (.iconst 2, 1) := by decide +kernel
theorem dX7_commute_27 : decode cX7_commute 27 = .ok (.goto 4, 3) := by decide +kernel
theorem dX7_commute_30 : decode cX7_commute 30 = .ok (.iconst 0, 1) := by decide +kernel
theorem dX7_commute_31 : decode cX7_commute 31 = .ok (.putfield 45, 3) := by decide +kernel
theorem dX7_commute_34 : decode cX7_commute 34 = .ok (.aload_n 0, 1) := by decide +kernel
theorem dX7_commute_35 : decode cX7_commute 35 = .ok (.getfield 45, 3) := by decide +kernel
theorem dX7_commute_38 : decode cX7_commute 38 = .ok (.ifCond .ne 16, 3) := by decide +kernel
theorem dX7_commute_41 : decode cX7_commute 41 = .ok (.aload_n 0, 1) := by decide +kernel
theorem dX7_commute_42 : decode cX7_commute 42 = .ok (.iload_n 1, 1) := by decide +kernel
theorem dX7_commute_43 : decode cX7_commute 43 = .ok (.iload_n 2, 1) := by decide +kernel
theorem dX7_commute_44 : decode cX7_commute 44 = .ok (.invokevirtual 160, 3) := by decide +kernel
theorem dX7_commute_47 : decode cX7_commute 47 = .ok (.ifCond .eq 7, 3) := by decide +kernel
theorem dX7_commute_50 : decode cX7_commute 50 = .ok (.iconst 1, 1) := by decide +kernel
theorem dX7_commute_51 : decode cX7_commute 51 = .ok (.goto 4, 3) := by decide +kernel
theorem dX7_commute_54 : decode cX7_commute 54 = .ok (.iconst 0, 1) := by decide +kernel
theorem dX7_commute_55 : decode cX7_commute 55 = .ok (.ireturn, 1) := by decide +kernel
set_option maxRecDepth 20000 in
theorem ggX7_isConflict_X7_doCommute : GoodIn wsX7_isConflict wsX7_doCommute := goodIn_r _ [6, 7, 8, 9, 10, 5, 11, 12, 13, 14, 15, 16, 17, 18, 19, 20, 21, 22, 23, 24, 25, 26, 27, 28, 29, 30, 31, 32, 33, 34, 35, 36, 37, 38, 39, 40, 41, 42] (by decide +kernel) (by decide +kernel)
set_option maxRecDepth 20000 in
theorem gX7_isConflict_X7_doCommute : GoodIn wsX7_isConflict (wsV RX7 160 RX7 yX7_doCommute wsX7_doCommute) := goodIn_app (goodIn_of _ (by decide +kernel)) ggX7_isConflict_X7_doCommute
set_option maxRecDepth 20000 in
theorem ggX7_isConflict_X7_has : GoodIn wsX7_isConflict wsX7_has := goodIn_r _ [24] (by decide +kernel) (by decide +kernel)
set_option maxRecDepth 20000 in
theorem gX7_isConflict_X7_has : GoodIn wsX7_isConflict (va_wsS RX7 77 yX7_has wsX7_has) := goodIn_app (goodIn_of _ (by decide +kernel)) ggX7_isConflict_X7_has
theorem dX7_isConflict_0 : decode cX7_isConflict 0 = .ok (.aload_n 0, 1) := by decide +kernel
theorem dX7_isConflict_1 : decode cX7_isConflict 1 = .ok (.iload_n 1, 1) := by decide +kernel
theorem dX7_isConflict_2 : decode cX7_isConflict 2 = .ok (.iload_n 2, 1) := by decide +kernel
theorem dX7_isConflict_3 : decode cX7_isConflict 3 = .ok (.invokevirtual 160, 3) := by decide +kernel
theorem dX7_isConflict_6 : decode cX7_isConflict 6 = .ok (.ifCond .ne 33, 3) := by decide +kernel
theorem dX7_isConflict_9 : decode cX7_isConflict 9 = .ok (.aload_n 0, 1) := by decide +kernel
theorem dX7_isConflict_10 : decode cX7_isConflict 10 = .ok (.getfield 29, 3) := by decide +kernel
theorem dX7_isConflict_13 : decode cX7_isConflict 13 = .ok (.iload_n 1, 1) := by decide +kernel
theorem dX7_isConflict_14 : decode cX7_isConflict 14 = .ok (.iaload, 1) := by decide +kernel
theorem dX7_isConflict_15 : decode cX7_isConflict 15 = .ok (.iload_n 2, 1) := by decide +kernel
theorem dX7_isConflict_16 : decode cX7_isConflict 16 = .ok (.invokestatic 77, 3) := by decide +kernel
theorem dX7_isConflict_19 : decode cX7_isConflict 19 = .ok (.ifCond .ne 20, 3) := by decide +kernel
theorem dX7_isConflict_22 : decode cX7_isConflict 22 = .ok (.aload_n 0, 1) := by decide +kernel
theorem dX7_isConflict_23 : decode cX7_isConflict 23 = .ok (.getfield 29, 3) := by decide +kernel
theorem dX7_isConflict_26 : decode cX7_isConflict 26 = .ok (.iload_n 2, 1) := by decide +kernel
theorem dX7_isConflict_27 : decode cX7_isConflict 27 = .ok (.iaload, 1) := by decide +kernel
theorem dX7_isConflict_28 : decode cX7_isConflict 28 = .ok (.iload_n 1, 1) := by decide +kernel
theorem dX7_isConflict_29 : decode cX7_isConflict 29 = .ok (.invokestatic 77, 3) := by decide +kernel
theorem dX7_isConflict_32 : decode cX7_isConflict 32 = .ok (.ifCond .ne 7, 3) := by decide +kernel
theorem dX7_isConflict_35 : decode cX7_isConflict 35 = .ok (.iconst 1, 1) := by decide +kernel
theorem dX7_isConflict_36 : decode cX7_isConflict 36 = .ok (.goto 4, 3) := by decide +kernel
theorem dX7_isConflict_39 : decode cX7_isConflict 39 = .ok (.iconst 0, 1) := by decide +kernel
theorem dX7_isConflict_40 : decode cX7_isConflict 40 = .ok (.ireturn, 1) := by decide +kernel
set_option maxRecDepth 20000 in
theorem ggX7_conflictCount_X7_isConflict : GoodIn wsX7_conflictCount wsX7_isConflict := goodIn_r _ [7, 8, 9, 10, 11, 6, 12, 13, 14, 15, 16, 17, 2, 18, 19, 20, 21, 22, 23, 24, 25, 26, 27, 28, 29, 30, 31, 32, 33, 34, 35, 36, 37, 38, 39, 40, 41, 42, 43, 44, 45, 46, 47] (by decide +kernel) (by decide +kernel)
set_option maxRecDepth 20000 in
theorem gX7_conflictCount_X7_isConflict : GoodIn wsX7_conflictCount (wsV RX7 163 RX7 yX7_isConflict wsX7_isConflict) := goodIn_app (goodIn_of _ (by decide +kernel)) ggX7_conflictCount_X7_isConflict
theorem dX7_conflictCount_0 : decode cX7_conflictCount 0 = .ok (.aload_n 0, 1) := by decide +kernel
theorem dX7_conflictCount_1 : decode cX7_conflictCount 1 = .ok (.iconst 0, 1) := by decide +kernel
theorem dX7_conflictCount_2 : decode cX7_conflictCount 2 = .ok (.putfield 45, 3) := by decide +kernel
theorem dX7_conflictCount_5 : decode cX7_conflictCount 5 = .ok (.iconst 0, 1) := by decide +kernel
theorem dX7_conflictCount_6 : decode cX7_conflictCount 6 = .ok (.istore_n 1, 1) := by decide +kernel
theorem dX7_conflictCount_7 : decode cX7_conflictCount 7 = .ok (.iconst 0, 1) := by decide +kernel
theorem dX7_conflictCount_8 : decode cX7_conflictCount 8 = .ok (.istore_n 2, 1) := by decide +kernel
theorem dX7_conflictCount_9 : decode cX7_conflictCount 9 = .ok (.iload_n 2, 1) := by decide +kernel
theorem dX7_conflictCount_10 : decode cX7_conflictCount 10 = .ok (.aload_n 0, 1) := by decide +kernel
theorem dX7_conflictCount_11 : decode cX7_conflictCount 11 = .ok (.getfield 49, 3) := by decide +kernel
theorem dX7_conflictCount_14 : decode cX7_conflictCount 14 = .ok (.if_icmp .ge 44, 3) := by decide +kernel
theorem dX7_conflictCount_17 : decode cX7_conflictCount 17 = .ok (.iload_n 2, 1) := by decide +kernel
theorem dX7_conflictCount_18 : decode cX7_conflictCount 18 = .ok (.iconst 1, 1) := by decide +kernel
theorem dX7_conflictCount_19 : decode cX7_conflictCount 19 = .ok (.iadd, 1) := by decide +kernel
theorem dX7_conflictCount_20 : decode cX7_conflictCount 20 = .ok (.istore_n 3, 1) := by decide +kernel
theorem dX7_conflictCount_21 : decode cX7_conflictCount 21 = .ok (.iload_n 3, 1) := by decide +kernel
theorem dX7_conflictCount_22 : decode cX7_conflictCount 22 = .ok (.aload_n 0, 1) := by decide +kernel
theorem dX7_conflictCount_23 : decode cX7_conflictCount 23 = .ok (.getfield 49, 3) := by decide +kernel
theorem dX7_conflictCount_26 : decode cX7_conflictCount 26 = .ok (.if_icmp .ge 26, 3) := by decide +kernel
theorem dX7_conflictCount_29 : decode cX7_conflictCount 29 = .ok (.iload_n 1, 1) := by decide +kernel
theorem dX7_conflictCount_30 : decode cX7_conflictCount 30 = .ok (.aload_n 0, 1) := by decide +kernel
theorem dX7_conflictCount_31 : decode cX7_conflictCount 31 = .ok (.iload_n 2, 1) := by decide +kernel
theorem dX7_conflictCount_32 : decode cX7_conflictCount 32 = .ok (.iload_n 3, 1) := by decide +kernel
theorem dX7_conflictCount_33 : decode cX7_conflictCount 33 = .ok (.invokevirtual 163, 3) := by decide +kernel
theorem dX7_conflictCount_36 : decode cX7_conflictCount 36 = .ok (.ifCond .eq 7, 3) := by decide +kernel
theorem dX7_conflictCount_39 : decode cX7_conflictCount 39 = .ok (.iconst 1, 1) := by decide +kernel
theorem dX7_conflictCount_40 : decode cX7_conflictCount 40 = .ok (.goto 4, 3) := by decide +kernel
theorem dX7_conflictCount_43 : decode cX7_conflictCount 43 = .ok (.iconst 0, 1) := by decide +kernel
theorem dX7_conflictCount_44 : decode cX7_conflictCount 44 = .ok (.iadd, 1) := by decide +kernel
theorem dX7_conflictCount_45 : decode cX7_conflictCount 45 = .ok (.istore_n 1, 1) := by decide +kernel
theorem dX7_conflictCount_46 : decode cX7_conflictCount 46 = .ok (.iinc 3 1, 3) := by decide +kernel
theorem dX7_conflictCount_49 : decode cX7_conflictCount 49 = .ok (.goto (-28), 3) := by decide +kernel
theorem dX7_conflictCount_52 : decode cX7_conflictCount 52 = .ok (.iinc 2 1, 3) := by decide +kernel
theorem dX7_conflictCount_55 : decode cX7_conflictCount 55 = .ok (.goto (-46), 3) := by decide +kernel
theorem dX7_conflictCount_58 : decode cX7_conflictCount 58 = .ok (.iload_n 1, 1) := by decide +kernel
theorem dX7_conflictCount_59 : decode cX7_conflictCount 59 = .ok (.ireturn, 1) := by decide +kernel
set_option maxRecDepth 20000 in
theorem ggX7_conflict_X7_isConflict : GoodIn wsX7_conflict wsX7_isConflict := goodIn_r _ [7, 8, 9, 10, 11, 6, 12, 13, 14, 15, 16, 17, 2, 18, 19, 20, 21, 22, 23, 24, 25, 26, 27, 28, 29, 34, 35, 36, 37, 38, 39, 40, 41, 42, 43, 44, 45, 46, 47, 48, 49, 50, 51] (by decide +kernel) (by decide +kernel)
set_option maxRecDepth 20000 in
theorem gX7_conflict_X7_isConflict : GoodIn wsX7_conflict (wsV RX7 163 RX7 yX7_isConflict wsX7_isConflict) := goodIn_app (goodIn_of _ (by decide +kernel)) ggX7_conflict_X7_isConflict
set_option maxRecDepth 20000 in
theorem ggX7_conflict_X7_fail : GoodIn wsX7_conflict wsX7_fail := goodIn_r _ [33, 1, 34, 35, 36, 37, 38, 39, 40, 41, 42, 43, 44, 45, 46, 47, 48, 49, 50, 51] (by decide +kernel) (by decide +kernel)
set_option maxRecDepth 20000 in
theorem gX7_conflict_X7_fail : GoodIn wsX7_conflict (wsV RX7 56 RX7 yX7_fail wsX7_fail) := goodIn_app (goodIn_of _ (by decide +kernel)) ggX7_conflict_X7_fail
theorem dX7_conflict_0 : decode cX7_conflict 0 = .ok (.aload_n 0, 1) := by decide +kernel
theorem dX7_conflict_1 : decode cX7_conflict 1 = .ok (.iconst 0, 1) := by decide +kernel
theorem dX7_conflict_2 : decode cX7_conflict 2 = .ok (.putfield 45, 3) := by decide +kernel
theorem dX7_conflict_5 : decode cX7_conflict 5 = .ok (.iload_n 1, 1) := by decide +kernel
theorem dX7_conflict_6 : decode cX7_conflict 6 = .ok (.istore_n 2, 1) := by decide +kernel
theorem dX7_conflict_7 : decode cX7_conflict 7 = .ok (.iconst 0, 1) := by decide +kernel
theorem dX7_conflict_8 : decode cX7_conflict 8 = .ok (.istore_n 3, 1) := by decide +kernel
theorem dX7_conflict_9 : decode cX7_conflict 9 = .ok (.iload_n 3, 1) := by decide +kernel
theorem dX7_conflict_10 : decode cX7_conflict 10 = .ok (.aload_n 0, 1) := by decide +kernel
theorem dX7_conflict_11 : decode cX7_conflict 11 = .ok (.getfield 49, 3) := by decide +kernel
theorem dX7_conflict_14 : decode cX7_conflict 14 = .ok (.if_icmp .ge 63, 3) := by decide +kernel
theorem dX7_conflict_17 : decode cX7_conflict 17 = .ok (.iload_n 3, 1) := by decide +kernel
theorem dX7_conflict_18 : decode cX7_conflict 18 = .ok (.iconst 1, 1) := by decide +kernel
theorem dX7_conflict_19 : decode cX7_conflict 19 = .ok (.iadd, 1) := by decide +kernel
theorem dX7_conflict_20 : decode cX7_conflict 20 = .ok (.istore 4, 2) := by decide +kernel
theorem dX7_conflict_22 : decode cX7_conflict 22 = .ok (.iload 4, 2) := by decide +kernel
theorem dX7_conflict_24 : decode cX7_conflict 24 = .ok (.aload_n 0, 1) := by decide +kernel
theorem dX7_conflict_25 : decode cX7_conflict 25 = .ok (.getfield 49, 3) := by decide +kernel
theorem dX7_conflict_28 : decode cX7_conflict 28 = .ok (.if_icmp .ge 43, 3) := by decide +kernel
theorem dX7_conflict_31 : decode cX7_conflict 31 = .ok (.iload_n 2, 1) := by decide +kernel
theorem dX7_conflict_32 : decode cX7_conflict 32 = .ok (.ifCond .lt 39, 3) := by decide +kernel
theorem dX7_conflict_35 : decode cX7_conflict 35 = .ok (.iload_n 2, 1) := by decide +kernel
theorem dX7_conflict_36 : decode cX7_conflict 36 = .ok (.aload_n 0, 1) := by decide +kernel
theorem dX7_conflict_37 : decode cX7_conflict 37 = .ok (.iload_n 3, 1) := by decide +kernel
theorem dX7_conflict_38 : decode cX7_conflict 38 = .ok (.iload 4, 2) := by decide +kernel
theorem dX7_conflict_40 : decode cX7_conflict 40 = .ok (.invokevirtual 163, 3) := by decide +kernel
theorem dX7_conflict_43 : decode cX7_conflict 43 = .ok (.ifCond .eq 7, 3) := by decide +kernel
theorem dX7_conflict_46 : decode cX7_conflict 46 = .ok (.iconst 1, 1) := by decide +kernel
theorem dX7_conflict_47 : decode cX7_conflict 47 = .ok (.goto 4, 3) := by decide +kernel
theorem dX7_conflict_50 : decode cX7_conflict 50 = .ok (.iconst 0, 1) := by decide +kernel
theorem dX7_conflict_51 : decode cX7_conflict 51 = .ok (.isub, 1) := by decide +kernel
theorem dX7_conflict_52 : decode cX7_conflict 52 = .ok (.istore_n 2, 1) := by decide +kernel
theorem dX7_conflict_53 : decode cX7_conflict 53 = .ok (.iload_n 2, 1) := by decide +kernel
theorem dX7_conflict_54 : decode cX7_conflict 54 = .ok (.ifCond .ge 11, 3) := by decide +kernel
theorem dX7_conflict_57 : decode cX7_conflict 57 = .ok (.bipush 10, 2) := by decide +kernel
theorem dX7_conflict_59 : decode cX7_conflict 59 = .ok (.iload_n 3, 1) := by decide +kernel
theorem dX7_conflict_60 : decode cX7_conflict 60 = .ok (.imul, 1) := by decide +kernel
theorem dX7_conflict_61 : decode cX7_conflict 61 = .ok (.iload 4, 2) := by decide +kernel
theorem dX7_conflict_63 : decode cX7_conflict 63 = .ok (.iadd, 1) := by decide +kernel
theorem dX7_conflict_64 : decode cX7_conflict 64 = .ok (.ireturn, 1) := by decide +kernel
theorem dX7_conflict_65 : decode cX7_conflict 65 = .ok (.iinc 4 1, 3) := by decide +kernel
theorem dX7_conflict_68 : decode cX7_conflict 68 = .ok (.goto (-46), 3) := by decide +kernel
theorem dX7_conflict_71 : decode cX7_conflict 71 = .ok (.iinc 3 1, 3) := by decide +kernel
theorem dX7_conflict_74 : decode cX7_conflict 74 = .ok (.goto (-65), 3) := by decide +kernel
theorem dX7_conflict_77 : decode cX7_conflict 77 = .ok (.aload_n 0, 1) := by decide +kernel
theorem dX7_conflict_78 : decode cX7_conflict 78 = .ok (.iconst 1, 1) := by decide +kernel
theorem dX7_conflict_79 : decode cX7_conflict 79 = .ok (.invokevirtual 56, 3) := by decide +kernel
theorem dX7_conflict_82 : decode cX7_conflict 82 = .ok (.ireturn, 1) := by decide +kernel
theorem dX7_digest_0 : decode cX7_digest 0 = .ok (.aload_n 0, 1) := by decide +kernel
theorem dX7_digest_1 : decode cX7_digest 1 = .ok (.iconst 0, 1) := by decide +kernel
theorem dX7_digest_2 : decode cX7_digest 2 = .ok (.putfield 45, 3) := by decide +kernel
theorem dX7_digest_5 : decode cX7_digest 5 = .ok (.ldc2_w 166, 3) := by decide +kernel
theorem dX7_digest_8 : decode cX7_digest 8 = .ok (.aload_n 0, 1) := by decide +kernel
theorem dX7_digest_9 : decode cX7_digest 9 = .ok (.getfield 49, 3) := by decide +kernel
theorem dX7_digest_12 : decode cX7_digest 12 = .ok (.i2l, 1) := by decide +kernel
theorem dX7_digest_13 : decode cX7_digest 13 = .ok (.ladd, 1) := by decide +kernel
theorem dX7_digest_14 : decode cX7_digest 14 = .ok (.lstore_n 1, 1) := by decide +kernel
theorem dX7_digest_15 : decode cX7_digest 15 = .ok (.iconst 0, 1) := by decide +kernel
theorem dX7_digest_16 : decode cX7_digest 16 = .ok (.istore_n 3, 1) := by decide +kernel
theorem dX7_digest_17 : decode cX7_digest 17 = .ok (.iload_n 3, 1) := by decide +kernel
theorem dX7_digest_18 : decode cX7_digest 18 = .ok (.aload_n 0, 1) := by decide +kernel
theorem dX7_digest_19 : decode cX7_digest 19 = .ok (.getfield 49, 3) := by decide +kernel
theorem dX7_digest_22 : decode cX7_digest 22 = .ok (.if_icmp .ge 131, 3) := by decide +kernel
theorem dX7_digest_25 : decode cX7_digest 25 = .ok (.lload_n 1, 1) := by decide +kernel
theorem dX7_digest_26 : decode cX7_digest 26 = .ok (.ldc2_w 168, 3) := by decide +kernel
theorem dX7_digest_29 : decode cX7_digest 29 = .ok (.lmul, 1) := by decide +kernel
theorem dX7_digest_30 : decode cX7_digest 30 = .ok (.aload_n 0, 1) := by decide +kernel
theorem dX7_digest_31 : decode cX7_digest 31 = .ok (.getfield 9, 3) := by decide +kernel
theorem dX7_digest_34 : decode cX7_digest 34 = .ok (.iload_n 3, 1) := by decide +kernel
theorem dX7_digest_35 : decode cX7_digest 35 = .ok (.iaload, 1) := by decide +kernel
theorem dX7_digest_36 : decode cX7_digest 36 = .ok (.i2l, 1) := by decide +kernel
theorem dX7_digest_37 : decode cX7_digest 37 = .ok (.ladd, 1) := by decide +kernel
theorem dX7_digest_38 : decode cX7_digest 38 = .ok (.ldc2_w 168, 3) := by decide +kernel
theorem dX7_digest_41 : decode cX7_digest 41 = .ok (.lmul, 1) := by decide +kernel
theorem dX7_digest_42 : decode cX7_digest 42 = .ok (.aload_n 0, 1) := by decide +kernel
theorem dX7_digest_43 : decode cX7_digest 43 = .ok (.getfield 13, 3) := by decide +kernel
theorem dX7_digest_46 : decode cX7_digest 46 = .ok (.iload_n 3, 1) := by decide +kernel
theorem dX7_digest_47 : decode cX7_digest 47 = .ok (.iaload, 1) := by decide +kernel
theorem dX7_digest_48 : decode cX7_digest 48 = .ok (.i2l, 1) := by decide +kernel
theorem dX7_digest_49 : decode cX7_digest 49 = .ok (.ladd, 1) := by decide +kernel
theorem dX7_digest_50 : decode cX7_digest 50 = .ok (.ldc2_w 168, 3) := by decide +kernel
theorem dX7_digest_53 : decode cX7_digest 53 = .ok (.lmul, 1) := by decide +kernel
theorem dX7_digest_54 : decode cX7_digest 54 = .ok (.aload_n 0, 1) := by decide +kernel
theorem dX7_digest_55 : decode cX7_digest 55 = .ok (.getfield 16, 3) := by decide +kernel
theorem dX7_digest_58 : decode cX7_digest 58 = .ok (.iload_n 3, 1) := by decide +kernel
theorem dX7_digest_59 : decode cX7_digest 59 = .ok (.iaload, 1) := by decide +kernel
theorem dX7_digest_60 : decode cX7_digest 60 = .ok (.i2l, 1) := by decide +kernel
theorem dX7_digest_61 : decode cX7_digest 61 = .ok (.ladd, 1) := by decide +kernel
theorem dX7_digest_62 : decode cX7_digest 62 = .ok (.ldc2_w 168, 3) := by decide +kernel
theorem dX7_digest_65 : decode cX7_digest 65 = .ok (.lmul, 1) := by decide +kernel
theorem dX7_digest_66 : decode cX7_digest 66 = .ok (.aload_n 0, 1) := by decide +kernel
theorem dX7_digest_67 : decode cX7_digest 67 = .ok (.getfield 19, 3) := by decide +kernel
theorem dX7_digest_70 : decode cX7_digest 70 = .ok (.iload_n 3, 1) := by decide +kernel
theorem dX7_digest_71 : decode cX7_digest 71 = .ok (.iaload, 1) := by decide +kernel
theorem dX7_digest_72 : decode cX7_digest 72 = .ok (.i2l, 1) := by decide +kernel
theorem dX7_digest_73 : decode cX7_digest 73 = .ok (.ladd, 1) := by decide +kernel
theorem dX7_digest_74 : decode cX7_digest 74 = .ok (.lstore_n 1, 1) := by decide +kernel
theorem dX7_digest_75 : decode cX7_digest 75 = .ok (.iconst 0, 1) := by decide +kernel
theorem dX7_digest_76 : decode cX7_digest 76 = .ok (.istore 4, 2) := by decide +kernel
theorem dX7_digest_78 : decode cX7_digest 78 = .ok (.iload 4, 2) := by decide +kernel
theorem dX7_digest_80 : decode cX7_digest 80 = .ok (.aload_n 0, 1) := by decide +kernel
theorem dX7_digest_81 : decode cX7_digest 81 = .ok (.getfield 19, 3) := by decide +kernel
theorem dX7_digest_84 : decode cX7_digest 84 = .ok (.iload_n 3, 1) := by decide +kernel
theorem dX7_digest_85 : decode cX7_digest 85 = .ok (.iaload, 1) := by decide +kernel
theorem dX7_digest_86 : decode cX7_digest 86 = .ok (.if_icmp .ge 28, 3) := by decide +kernel
theorem dX7_digest_89 : decode cX7_digest 89 = .ok (.lload_n 1, 1) := by decide +kernel
theorem dX7_digest_90 : decode cX7_digest 90 = .ok (.ldc2_w 168, 3) := by decide +kernel
theorem dX7_digest_93 : decode cX7_digest 93 = .ok (.lmul, 1) := by decide +kernel
theorem dX7_digest_94 : decode cX7_digest 94 = .ok (.aload_n 0, 1) := by decide +kernel
theorem dX7_digest_95 : decode cX7_digest 95 = .ok (.getfield 22, 3) := by decide +kernel
theorem dX7_digest_98 : decode cX7_digest 98 = .ok (.iconst 4, 1) := by decide +kernel
theorem dX7_digest_99 : decode cX7_digest 99 = .ok (.iload_n 3, 1) := by decide +kernel
theorem dX7_digest_100 : decode cX7_digest 100 = .ok (.imul, 1) := by decide +kernel
theorem dX7_digest_101 : decode cX7_digest 101 = .ok (.iload 4, 2) := by decide +kernel
theorem dX7_digest_103 : decode cX7_digest 103 = .ok (.iadd, 1) := by decide +kernel
theorem dX7_digest_104 : decode cX7_digest 104 = .ok (.iaload, 1) := by decide +kernel
theorem dX7_digest_105 : decode cX7_digest 105 = .ok (.i2l, 1) := by decide +kernel
theorem dX7_digest_106 : decode cX7_digest 106 = .ok (.ladd, 1) := by decide +kernel
theorem dX7_digest_107 : decode cX7_digest 107 = .ok (.lstore_n 1, 1) := by decide +kernel
theorem dX7_digest_108 : decode cX7_digest 108 = .ok (.iinc 4 1, 3) := by decide +kernel
theorem dX7_digest_111 : decode cX7_digest 111 = .ok (.goto (-33), 3) := by decide +kernel
theorem dX7_digest_114 : decode cX7_digest 114 = .ok (.lload_n 1, 1) := by decide +kernel
theorem dX7_digest_115 : decode cX7_digest 115 = .ok (.ldc2_w 168, 3) := by decide +kernel
theorem dX7_digest_118 : decode cX7_digest 118 = .ok (.lmul, 1) := by decide +kernel
theorem dX7_digest_119 : decode cX7_digest 119 = .ok (.aload_n 0, 1) := by decide +kernel
theorem dX7_digest_120 : decode cX7_digest 120 = .ok (.getfield 25, 3) := by decide +kernel
theorem dX7_digest_123 : decode cX7_digest 123 = .ok (.iload_n 3, 1) := by decide +kernel
theorem dX7_digest_124 : decode cX7_digest 124 = .ok (.baload, 1) := by decide +kernel
theorem dX7_digest_125 : decode cX7_digest 125 = .ok (.ifCond .eq 7, 3) := by decide +kernel
theorem dX7_digest_128 : decode cX7_digest 128 = .ok (.lconst 1, 1) := by decide +kernel
theorem dX7_digest_129 : decode cX7_digest 129 = .ok (.goto 4, 3) := by decide +kernel
theorem dX7_digest_132 : decode cX7_digest 132 = .ok (.lconst 0, 1) := by decide +kernel
theorem dX7_digest_133 : decode cX7_digest 133 = .ok (.ladd, 1) := by decide +kernel
theorem dX7_digest_134 : decode cX7_digest 134 = .ok (.ldc2_w 168, 3) := by decide +kernel
theorem dX7_digest_137 : decode cX7_digest 137 = .ok (.lmul, 1) := by decide +kernel
theorem dX7_digest_138 : decode cX7_digest 138 = .ok (.aload_n 0, 1) := by decide +kernel
theorem dX7_digest_139 : decode cX7_digest 139 = .ok (.getfield 29, 3) := by decide +kernel
theorem dX7_digest_142 : decode cX7_digest 142 = .ok (.iload_n 3, 1) := by decide +kernel
theorem dX7_digest_143 : decode cX7_digest 143 = .ok (.iaload, 1) := by decide +kernel
theorem dX7_digest_144 : decode cX7_digest 144 = .ok (.i2l, 1) := by decide +kernel
theorem dX7_digest_145 : decode cX7_digest 145 = .ok (.ladd, 1) := by decide +kernel
theorem dX7_digest_146 : decode cX7_digest 146 = .ok (.lstore_n 1, 1) := by decide +kernel
theorem dX7_digest_147 : decode cX7_digest 147 = .ok (.iinc 3 1, 3) := by decide +kernel
theorem dX7_digest_150 : decode cX7_digest 150 = .ok (.goto (-133), 3) := by decide +kernel
theorem dX7_digest_153 : decode cX7_digest 153 = .ok (.lload_n 1, 1) := by decide +kernel
theorem dX7_digest_154 : decode cX7_digest 154 = .ok (.ldc2_w 168, 3) := by decide +kernel
theorem dX7_digest_157 : decode cX7_digest 157 = .ok (.lmul, 1) := by decide +kernel
theorem dX7_digest_158 : decode cX7_digest 158 = .ok (.aload_n 0, 1) := by decide +kernel
theorem dX7_digest_159 : decode cX7_digest 159 = .ok (.getfield 91, 3) := by decide +kernel
theorem dX7_digest_162 : decode cX7_digest 162 = .ok (.i2l, 1) := by decide +kernel
theorem dX7_digest_163 : decode cX7_digest 163 = .ok (.ladd, 1) := by decide +kernel
theorem dX7_digest_164 : decode cX7_digest 164 = .ok (.ldc2_w 168, 3) := by decide +kernel
theorem dX7_digest_167 : decode cX7_digest 167 = .ok (.lmul, 1) := by decide +kernel
theorem dX7_digest_168 : decode cX7_digest 168 = .ok (.aload_n 0, 1) := by decide +kernel
theorem dX7_digest_169 : decode cX7_digest 169 = .ok (.getfield 74, 3) := by decide +kernel
theorem dX7_digest_172 : decode cX7_digest 172 = .ok (.i2l, 1) := by decide +kernel
theorem dX7_digest_173 : decode cX7_digest 173 = .ok (.ladd, 1) := by decide +kernel
theorem dX7_digest_174 : decode cX7_digest 174 = .ok (.lstore_n 1, 1) := by decide +kernel
theorem dX7_digest_175 : decode cX7_digest 175 = .ok (.aload_n 0, 1) := by decide +kernel
theorem dX7_digest_176 : decode cX7_digest 176 = .ok (.getfield 67, 3) := by decide +kernel
theorem dX7_digest_179 : decode cX7_digest 179 = .ok (.ifCond .eq 28, 3) := by decide +kernel
theorem dX7_digest_182 : decode cX7_digest 182 = .ok (.lload_n 1, 1) := by decide +kernel
theorem dX7_digest_183 : decode cX7_digest 183 = .ok (.ldc2_w 168, 3) := by decide +kernel
theorem dX7_digest_186 : decode cX7_digest 186 = .ok (.lmul, 1) := by decide +kernel
theorem dX7_digest_187 : decode cX7_digest 187 = .ok (.aload_n 0, 1) := by decide +kernel
theorem dX7_digest_188 : decode cX7_digest 188 = .ok (.getfield 116, 3) := by decide +kernel
theorem dX7_digest_191 : decode cX7_digest 191 = .ok (.ifCond .eq 7, 3) := by decide +kernel
theorem dX7_digest_194 : decode cX7_digest 194 = .ok (.iconst (-1), 1) := by decide +kernel
theorem dX7_digest_195 : decode cX7_digest 195 = .ok (.goto 7, 3) := by decide +kernel
theorem dX7_digest_198 : decode cX7_digest 198 = .ok (.aload_n 0, 1) := by decide +kernel
theorem dX7_digest_199 : decode cX7_digest 199 = .ok (.getfield 113, 3) := by decide +kernel
theorem dX7_digest_202 : decode cX7_digest 202 = .ok (.i2l, 1) := by decide +kernel
theorem dX7_digest_203 : decode cX7_digest 203 = .ok (.ladd, 1) := by decide +kernel
theorem dX7_digest_204 : decode cX7_digest 204 = .ok (.goto 4, 3) := by decide +kernel
theorem dX7_digest_207 : decode cX7_digest 207 = .ok (.lload_n 1, 1) := by decide +kernel
theorem dX7_digest_208 : decode cX7_digest 208 = .ok (.lreturn, 1) := by decide +kernel
