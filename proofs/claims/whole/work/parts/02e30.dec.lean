set_option maxRecDepth 20000 in
theorem gX9_line_X9_follows : GoodIn wsX9_line (wsV RX9 361 RX9 yX9_follows wsX9_follows) := goodIn_app (goodIn_of _ (by decide +kernel)) ggX9_line_X9_follows
theorem dX9_line_0 : decode cX9_line 0 = .ok (.aload_n 0, 1) := by decide +kernel
theorem dX9_line_1 : decode cX9_line 1 = .ok (.iconst 0, 1) := by decide +kernel
theorem dX9_line_2 : decode cX9_line 2 = .ok (.putfield 77, 3) := by decide +kernel
theorem dX9_line_5 : decode cX9_line 5 = .ok (.aload_n 0, 1) := by decide +kernel
theorem dX9_line_6 : decode cX9_line 6 = .ok (.iload_n 1, 1) := by decide +kernel
theorem dX9_line_7 : decode cX9_line 7 = .ok (.invokevirtual 233, 3) := by decide +kernel
theorem dX9_line_10 : decode cX9_line 10 = .ok (.ifCond .eq 13, 3) := by decide +kernel
theorem dX9_line_13 : decode cX9_line 13 = .ok (.iload_n 2, 1) := by decide +kernel
theorem dX9_line_14 : decode cX9_line 14 = .ok (.i2l, 1) := by decide +kernel
theorem dX9_line_15 : decode cX9_line 15 = .ok (.lconst 0, 1) := by decide +kernel
theorem dX9_line_16 : decode cX9_line 16 = .ok (.lconst 1, 1) := by decide +kernel
theorem dX9_line_17 : decode cX9_line 17 = .ok (.invokestatic 87, 3) := by decide +kernel
theorem dX9_line_20 : decode cX9_line 20 = .ok (.ifCond .ne 5, 3) := by decide +kernel
theorem dX9_line_23 : decode cX9_line 23 = .ok (.iconst (-1), 1) := by decide +kernel
theorem dX9_line_24 : decode cX9_line 24 = .ok (.ireturn, 1) := by decide +kernel
theorem dX9_line_25 : decode cX9_line 25 = .ok (.iload_n 2, 1) := by decide +kernel
theorem dX9_line_26 : decode cX9_line 26 = .ok (.ifCond .ne 10, 3) := by decide +kernel
theorem dX9_line_29 : decode cX9_line 29 = .ok (.aload_n 0, 1) := by decide +kernel
theorem dX9_line_30 : decode cX9_line 30 = .ok (.invokevirtual 301, 3) := by decide +kernel
theorem dX9_line_33 : decode cX9_line 33 = .ok (.goto 8, 3) := by decide +kernel
theorem dX9_line_36 : decode cX9_line 36 = .ok (.aload_n 0, 1) := by decide +kernel
theorem dX9_line_37 : decode cX9_line 37 = .ok (.iload_n 1, 1) := by decide +kernel
theorem dX9_line_38 : decode cX9_line 38 = .ok (.invokevirtual 313, 3) := by decide +kernel
theorem dX9_line_41 : decode cX9_line 41 = .ok (.aload_n 0, 1) := by decide +kernel
theorem dX9_line_42 : decode cX9_line 42 = .ok (.iconst 0, 1) := by decide +kernel
theorem dX9_line_43 : decode cX9_line 43 = .ok (.putfield 81, 3) := by decide +kernel
theorem dX9_line_46 : decode cX9_line 46 = .ok (.aload_n 0, 1) := by decide +kernel
theorem dX9_line_47 : decode cX9_line 47 = .ok (.iload_n 1, 1) := by decide +kernel
theorem dX9_line_48 : decode cX9_line 48 = .ok (.invokevirtual 121, 3) := by decide +kernel
theorem dX9_line_51 : decode cX9_line 51 = .ok (.ifCond .ne 10, 3) := by decide +kernel
theorem dX9_line_54 : decode cX9_line 54 = .ok (.aload_n 0, 1) := by decide +kernel
theorem dX9_line_55 : decode cX9_line 55 = .ok (.invokevirtual 113, 3) := by decide +kernel
theorem dX9_line_58 : decode cX9_line 58 = .ok (.ifCond .eq 5, 3) := by decide +kernel
theorem dX9_line_61 : decode cX9_line 61 = .ok (.iconst 0, 1) := by decide +kernel
theorem dX9_line_62 : decode cX9_line 62 = .ok (.ireturn, 1) := by decide +kernel
theorem dX9_line_63 : decode cX9_line 63 = .ok (.aload_n 0, 1) := by decide +kernel
theorem dX9_line_64 : decode cX9_line 64 = .ok (.getfield 32, 3) := by decide +kernel
theorem dX9_line_67 : decode cX9_line 67 = .ok (.iconst 0, 1) := by decide +kernel
theorem dX9_line_68 : decode cX9_line 68 = .ok (.iaload, 1) := by decide +kernel
theorem dX9_line_69 : decode cX9_line 69 = .ok (.istore 4, 2) := by decide +kernel
theorem dX9_line_71 : decode cX9_line 71 = .ok (.aload_n 0, 1) := by decide +kernel
theorem dX9_line_72 : decode cX9_line 72 = .ok (.iload_n 1, 1) := by decide +kernel
theorem dX9_line_73 : decode cX9_line 73 = .ok (.invokevirtual 280, 3) := by decide +kernel
theorem dX9_line_76 : decode cX9_line 76 = .ok (.istore 5, 2) := by decide +kernel
theorem dX9_line_78 : decode cX9_line 78 = .ok (.iload 4, 2) := by decide +kernel
theorem dX9_line_80 : decode cX9_line 80 = .ok (.istore 6, 2) := by decide +kernel
theorem dX9_line_82 : decode cX9_line 82 = .ok (.iload 6, 2) := by decide +kernel
theorem dX9_line_84 : decode cX9_line 84 = .ok (.iconst 3, 1) := by decide +kernel
theorem dX9_line_85 : decode cX9_line 85 = .ok (.if_icmp .ge 121, 3) := by decide +kernel
theorem dX9_line_88 : decode cX9_line 88 = .ok (.aload_n 0, 1) := by decide +kernel
theorem dX9_line_89 : decode cX9_line 89 = .ok (.iload_n 1, 1) := by decide +kernel
theorem dX9_line_90 : decode cX9_line 90 = .ok (.iload 6, 2) := by decide +kernel
theorem dX9_line_92 : decode cX9_line 92 = .ok (.invokevirtual 349, 3) := by decide +kernel
theorem dX9_line_95 : decode cX9_line 95 = .ok (.iload 6, 2) := by decide +kernel
theorem dX9_line_97 : decode cX9_line 97 = .ok (.iload 4, 2) := by decide +kernel
theorem dX9_line_99 : decode cX9_line 99 = .ok (.if_icmp .ne 7, 3) := by decide +kernel
theorem dX9_line_102 : decode cX9_line 102 = .ok (.iconst 1, 1) := by decide +kernel
theorem dX9_line_103 : decode cX9_line 103 = .ok (.goto 4, 3) := by decide +kernel
theorem dX9_line_106 : decode cX9_line 106 = .ok (.iconst 0, 1) := by decide +kernel
theorem dX9_line_107 : decode cX9_line 107 = .ok (.istore 7, 2) := by decide +kernel
theorem dX9_line_109 : decode cX9_line 109 = .ok (.aload_n 0, 1) := by decide +kernel
theorem dX9_line_110 : decode cX9_line 110 = .ok (.iload_n 1, 1) := by decide +kernel
theorem dX9_line_111 : decode cX9_line 111 = .ok (.iload 6, 2) := by decide +kernel
theorem dX9_line_113 : decode cX9_line 113 = .ok (.iload 7, 2) := by decide +kernel
theorem dX9_line_115 : decode cX9_line 115 = .ok (.ifCond .eq 11, 3) := by decide +kernel
theorem dX9_line_118 : decode cX9_line 118 = .ok (.aload_n 0, 1) := by decide +kernel
theorem dX9_line_119 : decode cX9_line 119 = .ok (.iload_n 1, 1) := by decide +kernel
theorem dX9_line_120 : decode cX9_line 120 = .ok (.invokevirtual 277, 3) := by decide +kernel
theorem dX9_line_123 : decode cX9_line 123 = .ok (.goto 4, 3) := by decide +kernel
theorem dX9_line_126 : decode cX9_line 126 = .ok (.iconst 0, 1) := by decide +kernel
theorem dX9_line_127 : decode cX9_line 127 = .ok (.iload 7, 2) := by decide +kernel
theorem dX9_line_129 : decode cX9_line 129 = .ok (.ifCond .eq 11, 3) := by decide +kernel
theorem dX9_line_132 : decode cX9_line 132 = .ok (.aload_n 0, 1) := by decide +kernel
theorem dX9_line_133 : decode cX9_line 133 = .ok (.iload_n 1, 1) := by decide +kernel
theorem dX9_line_134 : decode cX9_line 134 = .ok (.invokevirtual 249, 3) := by decide +kernel
theorem dX9_line_137 : decode cX9_line 137 = .ok (.goto 4, 3) := by decide +kernel
theorem dX9_line_140 : decode cX9_line 140 = .ok (.iconst 1, 1) := by decide +kernel
theorem dX9_line_141 : decode cX9_line 141 = .ok (.iload 7, 2) := by decide +kernel
theorem dX9_line_143 : decode cX9_line 143 = .ok (.ifCond .eq 12, 3) := by decide +kernel
theorem dX9_line_146 : decode cX9_line 146 = .ok (.aload_n 0, 1) := by decide +kernel
theorem dX9_line_147 : decode cX9_line 147 = .ok (.iload_n 1, 1) := by decide +kernel
theorem dX9_line_148 : decode cX9_line 148 = .ok (.iconst 4, 1) := by decide +kernel
theorem dX9_line_149 : decode cX9_line 149 = .ok (.invokevirtual 106, 3) := by decide +kernel
theorem dX9_line_152 : decode cX9_line 152 = .ok (.goto 4, 3) := by decide +kernel
theorem dX9_line_155 : decode cX9_line 155 = .ok (.iconst 0, 1) := by decide +kernel
theorem dX9_line_156 : decode cX9_line 156 = .ok (.iload 7, 2) := by decide +kernel
theorem dX9_line_158 : decode cX9_line 158 = .ok (.ifCond .eq 16, 3) := by decide +kernel
theorem dX9_line_161 : decode cX9_line 161 = .ok (.aload_n 0, 1) := by decide +kernel
theorem dX9_line_162 : decode cX9_line 162 = .ok (.iload_n 1, 1) := by decide +kernel
theorem dX9_line_163 : decode cX9_line 163 = .ok (.bipush 7, 2) := by decide +kernel
theorem dX9_line_165 : decode cX9_line 165 = .ok (.iload 6, 2) := by decide +kernel
theorem dX9_line_167 : decode cX9_line 167 = .ok (.iadd, 1) := by decide +kernel
theorem dX9_line_168 : decode cX9_line 168 = .ok (.invokevirtual 106, 3) := by decide +kernel
theorem dX9_line_171 : decode cX9_line 171 = .ok (.goto 4, 3) := by decide +kernel
theorem dX9_line_174 : decode cX9_line 174 = .ok (.iconst 0, 1) := by decide +kernel
theorem dX9_line_175 : decode cX9_line 175 = .ok (.iload 5, 2) := by decide +kernel
theorem dX9_line_177 : decode cX9_line 177 = .ok (.iload_n 3, 1) := by decide +kernel
theorem dX9_line_178 : decode cX9_line 178 = .ok (.invokevirtual 361, 3) := by decide +kernel
theorem dX9_line_181 : decode cX9_line 181 = .ok (.istore 8, 2) := by decide +kernel
theorem dX9_line_183 : decode cX9_line 183 = .ok (.iload 8, 2) := by decide +kernel
theorem dX9_line_185 : decode cX9_line 185 = .ok (.ifCond .ne 8, 3) := by decide +kernel
theorem dX9_line_188 : decode cX9_line 188 = .ok (.aload_n 0, 1) := by decide +kernel
theorem dX9_line_189 : decode cX9_line 189 = .ok (.getfield 81, 3) := by decide +kernel
theorem dX9_line_192 : decode cX9_line 192 = .ok (.ireturn, 1) := by decide +kernel
theorem dX9_line_193 : decode cX9_line 193 = .ok (.iload 5, 2) := by decide +kernel
theorem dX9_line_195 : decode cX9_line 195 = .ok (.iload 8, 2) := by decide +kernel
theorem dX9_line_197 : decode cX9_line 197 = .ok (.iadd, 1) := by decide +kernel
theorem dX9_line_198 : decode cX9_line 198 = .ok (.istore 5, 2) := by decide +kernel
theorem dX9_line_200 : decode cX9_line 200 = .ok (.iinc 6 1, 3) := by decide +kernel
theorem dX9_line_203 : decode cX9_line 203 = .ok (.goto (-121), 3) := by decide +kernel
theorem dX9_line_206 : decode cX9_line 206 = .ok (.aload_n 0, 1) := by decide +kernel
theorem dX9_line_207 : decode cX9_line 207 = .ok (.getfield 81, 3) := by decide +kernel
theorem dX9_line_210 : decode cX9_line 210 = .ok (.ireturn, 1) := by decide +kernel
set_option maxRecDepth 20000 in
theorem ggX9_duelEnds_X9_sumAhead : GoodIn wsX9_duelEnds wsX9_sumAhead := goodIn_r _ [8, 9, 10, 11, 12, 7, 13, 20, 21, 22, 23, 24, 25, 26, 27, 28, 29, 30, 31, 32, 33, 34, 35, 36, 37, 38, 39, 40, 41, 42, 43, 44, 45, 46, 47, 48, 49, 50, 51, 52, 53, 54, 55, 56, 57, 58, 59] (by decide +kernel) (by decide +kernel)
set_option maxRecDepth 20000 in
theorem gX9_duelEnds_X9_sumAhead : GoodIn wsX9_duelEnds (wsV RX9 280 RX9 yX9_sumAhead wsX9_sumAhead) := goodIn_app (goodIn_of _ (by decide +kernel)) ggX9_duelEnds_X9_sumAhead
set_option maxRecDepth 20000 in
theorem ggX9_duelEnds_X9_isLighter : GoodIn wsX9_duelEnds wsX9_isLighter := goodIn_r _ [17, 18, 19, 20, 21, 22, 23, 24, 25, 26, 27, 28, 29, 30, 31, 32, 33, 34, 35, 36, 37, 38, 39, 40, 41, 42, 43, 44, 45, 46, 47, 48, 49, 50, 51, 52, 53, 54, 55, 56, 57, 58, 59] (by decide +kernel) (by decide +kernel)
set_option maxRecDepth 20000 in
theorem gX9_duelEnds_X9_isLighter : GoodIn wsX9_duelEnds (wsV RX9 171 RX9 yX9_isLighter wsX9_isLighter) := goodIn_app (goodIn_of _ (by decide +kernel)) ggX9_duelEnds_X9_isLighter
theorem dX9_duelEnds_0 : decode cX9_duelEnds 0 = .ok (.iload_n 1, 1) := by decide +kernel
theorem dX9_duelEnds_1 : decode cX9_duelEnds 1 = .ok (.ifCond .eq 7, 3) := by decide +kernel
theorem dX9_duelEnds_4 : decode cX9_duelEnds 4 = .ok (.iload_n 2, 1) := by decide +kernel
theorem dX9_duelEnds_5 : decode cX9_duelEnds 5 = .ok (.ifCond .ne 15, 3) := by decide +kernel
theorem dX9_duelEnds_8 : decode cX9_duelEnds 8 = .ok (.iload_n 1, 1) := by decide +kernel
theorem dX9_duelEnds_9 : decode cX9_duelEnds 9 = .ok (.ifCond .le 9, 3) := by decide +kernel
theorem dX9_duelEnds_12 : decode cX9_duelEnds 12 = .ok (.ldc_w 264, 3) := by decide +kernel
theorem dX9_duelEnds_15 : decode cX9_duelEnds 15 = .ok (.goto 4, 3) := by decide +kernel
theorem dX9_duelEnds_18 : decode cX9_duelEnds 18 = .ok (.iconst 0, 1) := by decide +kernel
theorem dX9_duelEnds_19 : decode cX9_duelEnds 19 = .ok (.ireturn, 1) := by decide +kernel
theorem dX9_duelEnds_20 : decode cX9_duelEnds 20 = .ok (.aload_n 0, 1) := by decide +kernel
theorem dX9_duelEnds_21 : decode cX9_duelEnds 21 = .ok (.aload_n 0, 1) := by decide +kernel
theorem dX9_duelEnds_22 : decode cX9_duelEnds 22 = .ok (.getfield 365, 3) := by decide +kernel
theorem dX9_duelEnds_25 : decode cX9_duelEnds 25 = .ok (.invokevirtual 280, 3) := by decide +kernel
theorem dX9_duelEnds_28 : decode cX9_duelEnds 28 = .ok (.iload_n 1, 1) := by decide +kernel
theorem dX9_duelEnds_29 : decode cX9_duelEnds 29 = .ok (.iadd, 1) := by decide +kernel
theorem dX9_duelEnds_30 : decode cX9_duelEnds 30 = .ok (.istore_n 3, 1) := by decide +kernel
theorem dX9_duelEnds_31 : decode cX9_duelEnds 31 = .ok (.aload_n 0, 1) := by decide +kernel
theorem dX9_duelEnds_32 : decode cX9_duelEnds 32 = .ok (.aload_n 0, 1) := by decide +kernel
theorem dX9_duelEnds_33 : decode cX9_duelEnds 33 = .ok (.getfield 368, 3) := by decide +kernel
theorem dX9_duelEnds_36 : decode cX9_duelEnds 36 = .ok (.invokevirtual 280, 3) := by decide +kernel
theorem dX9_duelEnds_39 : decode cX9_duelEnds 39 = .ok (.iload_n 2, 1) := by decide +kernel
theorem dX9_duelEnds_40 : decode cX9_duelEnds 40 = .ok (.iadd, 1) := by decide +kernel
theorem dX9_duelEnds_41 : decode cX9_duelEnds 41 = .ok (.istore 4, 2) := by decide +kernel
theorem dX9_duelEnds_43 : decode cX9_duelEnds 43 = .ok (.iload_n 3, 1) := by decide +kernel
theorem dX9_duelEnds_44 : decode cX9_duelEnds 44 = .ok (.iload 4, 2) := by decide +kernel
theorem dX9_duelEnds_46 : decode cX9_duelEnds 46 = .ok (.if_icmp .gt 24, 3) := by decide +kernel
theorem dX9_duelEnds_49 : decode cX9_duelEnds 49 = .ok (.iload_n 3, 1) := by decide +kernel
theorem dX9_duelEnds_50 : decode cX9_duelEnds 50 = .ok (.iload 4, 2) := by decide +kernel
theorem dX9_duelEnds_52 : decode cX9_duelEnds 52 = .ok (.if_icmp .ne 24, 3) := by decide +kernel
theorem dX9_duelEnds_55 : decode cX9_duelEnds 55 = .ok (.aload_n 0, 1) := by decide +kernel
theorem dX9_duelEnds_56 : decode cX9_duelEnds 56 = .ok (.aload_n 0, 1) := by decide +kernel
theorem dX9_duelEnds_57 : decode cX9_duelEnds 57 = .ok (.getfield 365, 3) := by decide +kernel
theorem dX9_duelEnds_60 : decode cX9_duelEnds 60 = .ok (.aload_n 0, 1) := by decide +kernel
theorem dX9_duelEnds_61 : decode cX9_duelEnds 61 = .ok (.getfield 368, 3) := by decide +kernel
theorem dX9_duelEnds_64 : decode cX9_duelEnds 64 = .ok (.invokevirtual 171, 3) := by decide +kernel
theorem dX9_duelEnds_67 : decode cX9_duelEnds 67 = .ok (.ifCond .eq 9, 3) := by decide +kernel
theorem dX9_duelEnds_70 : decode cX9_duelEnds 70 = .ok (.ldc_w 264, 3) := by decide +kernel
theorem dX9_duelEnds_73 : decode cX9_duelEnds 73 = .ok (.goto 4, 3) := by decide +kernel
theorem dX9_duelEnds_76 : decode cX9_duelEnds 76 = .ok (.iconst 0, 1) := by decide +kernel
theorem dX9_duelEnds_77 : decode cX9_duelEnds 77 = .ok (.ireturn, 1) := by decide +kernel
set_option maxRecDepth 20000 in
theorem ggX9_duelBest_X9_of : GoodIn wsX9_duelBest wsX9_of := goodIn_r _ [9, 10, 11, 12, 13, 14, 15, 16, 17, 18, 19, 20, 21, 22, 23, 24, 25, 26, 27, 28, 29, 30, 31, 32, 33, 34, 35, 36, 37, 38, 39, 40, 41, 42, 43, 44, 45, 46, 47, 48, 49, 50] (by decide +kernel) (by decide +kernel)
set_option maxRecDepth 20000 in
theorem gX9_duelBest_X9_of : GoodIn wsX9_duelBest (wsV RX9 106 RX9 yX9_of wsX9_of) := goodIn_app (goodIn_of _ (by decide +kernel)) ggX9_duelBest_X9_of
theorem dX9_duelBest_0 : decode cX9_duelBest 0 = .ok (.aload_n 0, 1) := by decide +kernel
theorem dX9_duelBest_1 : decode cX9_duelBest 1 = .ok (.iload_n 1, 1) := by decide +kernel
theorem dX9_duelBest_2 : decode cX9_duelBest 2 = .ok (.bipush 9, 2) := by decide +kernel
theorem dX9_duelBest_4 : decode cX9_duelBest 4 = .ok (.invokevirtual 106, 3) := by decide +kernel
theorem dX9_duelBest_7 : decode cX9_duelBest 7 = .ok (.istore 4, 2) := by decide +kernel
theorem dX9_duelBest_9 : decode cX9_duelBest 9 = .ok (.iload_n 3, 1) := by decide +kernel
theorem dX9_duelBest_10 : decode cX9_duelBest 10 = .ok (.ifCond .eq 12, 3) := by decide +kernel
theorem dX9_duelBest_13 : decode cX9_duelBest 13 = .ok (.iload 4, 2) := by decide +kernel
theorem dX9_duelBest_15 : decode cX9_duelBest 15 = .ok (.iload_n 2, 1) := by decide +kernel
theorem dX9_duelBest_16 : decode cX9_duelBest 16 = .ok (.invokestatic 100, 3) := by decide +kernel
theorem dX9_duelBest_19 : decode cX9_duelBest 19 = .ok (.goto 5, 3) := by decide +kernel
theorem dX9_duelBest_22 : decode cX9_duelBest 22 = .ok (.iload 4, 2) := by decide +kernel
theorem dX9_duelBest_24 : decode cX9_duelBest 24 = .ok (.ireturn, 1) := by decide +kernel
set_option maxRecDepth 20000 in
theorem ggX9_duelTry_X9_of : GoodIn wsX9_duelTry wsX9_of := goodIn_r _ [5, 6, 27, 28, 29, 30, 31, 32, 33, 34, 35, 36, 37, 38, 39, 40, 41, 42, 43, 44, 45, 46, 47, 48, 49, 50, 51, 52, 53, 54, 55, 56, 57, 58, 59, 60, 61, 62, 63, 64, 65, 66] (by decide +kernel) (by decide +kernel)
set_option maxRecDepth 20000 in
theorem gX9_duelTry_X9_of : GoodIn wsX9_duelTry (wsV RX9 106 RX9 yX9_of wsX9_of) := goodIn_app (goodIn_of _ (by decide +kernel)) ggX9_duelTry_X9_of
set_option maxRecDepth 20000 in
theorem ggX9_duelTry_X9_oddsOf : GoodIn wsX9_duelTry wsX9_oddsOf := goodIn_r _ [10, 11, 12, 13, 14, 15, 16, 17, 18, 4, 19, 20, 21, 22, 27, 28, 29, 30, 31, 32, 33, 34, 35, 36, 37, 38, 39, 40, 41, 42, 43, 44, 45, 46, 47, 48, 49, 50, 51, 52, 53, 54, 55, 56, 57, 58, 59, 60, 61, 62, 63, 64, 65, 66] (by decide +kernel) (by decide +kernel)
set_option maxRecDepth 20000 in
theorem gX9_duelTry_X9_oddsOf : GoodIn wsX9_duelTry (wsV RX9 245 RX9 yX9_oddsOf wsX9_oddsOf) := goodIn_app (goodIn_of _ (by decide +kernel)) ggX9_duelTry_X9_oddsOf
set_option maxRecDepth 20000 in
theorem ggX9_duelTry_X9_expected : GoodIn wsX9_duelTry wsX9_expected := goodIn_r _ [25, 26] (by decide +kernel) (by decide +kernel)
set_option maxRecDepth 20000 in
theorem gX9_duelTry_X9_expected : GoodIn wsX9_duelTry (va_wsS RX9 274 yX9_expected wsX9_expected) := goodIn_app (goodIn_of _ (by decide +kernel)) ggX9_duelTry_X9_expected
theorem dX9_duelTry_0 : decode cX9_duelTry 0 = .ok (.aload_n 0, 1) := by decide +kernel
theorem dX9_duelTry_1 : decode cX9_duelTry 1 = .ok (.iload_n 1, 1) := by decide +kernel
theorem dX9_duelTry_2 : decode cX9_duelTry 2 = .ok (.iconst 2, 1) := by decide +kernel
theorem dX9_duelTry_3 : decode cX9_duelTry 3 = .ok (.iload_n 2, 1) := by decide +kernel
theorem dX9_duelTry_4 : decode cX9_duelTry 4 = .ok (.aload_n 0, 1) := by decide +kernel
theorem dX9_duelTry_5 : decode cX9_duelTry 5 = .ok (.iload_n 1, 1) := by decide +kernel
theorem dX9_duelTry_6 : decode cX9_duelTry 6 = .ok (.iconst 4, 1) := by decide +kernel
theorem dX9_duelTry_7 : decode cX9_duelTry 7 = .ok (.invokevirtual 106, 3) := by decide +kernel
theorem dX9_duelTry_10 : decode cX9_duelTry 10 = .ok (.invokevirtual 245, 3) := by decide +kernel
theorem dX9_duelTry_13 : decode cX9_duelTry 13 = .ok (.iload_n 3, 1) := by decide +kernel
theorem dX9_duelTry_14 : decode cX9_duelTry 14 = .ok (.iload 4, 2) := by decide +kernel
theorem dX9_duelTry_16 : decode cX9_duelTry 16 = .ok (.invokestatic 274, 3) := by decide +kernel
theorem dX9_duelTry_19 : decode cX9_duelTry 19 = .ok (.ireturn, 1) := by decide +kernel
set_option maxRecDepth 20000 in
theorem ggX9_duelLast_X9_duelBest : GoodIn wsX9_duelLast wsX9_duelBest := goodIn_r _ [6, 7, 8, 9, 10, 11, 12, 13, 5, 14, 15, 52, 53, 54, 55, 56, 57, 58, 59, 60, 61, 62, 63, 64, 65, 66, 67, 68, 69, 70, 71, 72, 73, 74, 75, 76, 77, 78, 79, 80, 81, 82, 83, 84, 85, 86, 87, 88, 89, 90, 91] (by decide +kernel) (by decide +kernel)
set_option maxRecDepth 20000 in
theorem gX9_duelLast_X9_duelBest : GoodIn wsX9_duelLast (wsV RX9 371 RX9 yX9_duelBest wsX9_duelBest) := goodIn_app (goodIn_of _ (by decide +kernel)) ggX9_duelLast_X9_duelBest
set_option maxRecDepth 20000 in
theorem ggX9_duelLast_X9_duelEnds : GoodIn wsX9_duelLast wsX9_duelEnds := goodIn_r _ [19, 20, 1, 21, 22, 23, 24, 5, 25, 15, 11, 12, 13, 14, 26, 27, 28, 29, 30, 31, 52, 53, 54, 55, 56, 57, 58, 59, 60, 61, 62, 63, 64, 65, 66, 67, 68, 69, 70, 71, 72, 73, 74, 75, 76, 77, 78, 79, 80, 81, 82, 83, 84, 85, 86, 87, 88, 89, 90, 91] (by decide +kernel) (by decide +kernel)
set_option maxRecDepth 20000 in
theorem gX9_duelLast_X9_duelEnds : GoodIn wsX9_duelLast (wsV RX9 375 RX9 yX9_duelEnds wsX9_duelEnds) := goodIn_app (goodIn_of _ (by decide +kernel)) ggX9_duelLast_X9_duelEnds
set_option maxRecDepth 20000 in
theorem ggX9_duelLast_X9_duelTry : GoodIn wsX9_duelLast wsX9_duelTry := goodIn_r _ [35, 11, 12, 13, 5, 14, 15, 36, 37, 38, 39, 40, 7, 8, 9, 10, 41, 42, 43, 44, 45, 46, 47, 48, 49, 50, 51, 52, 53, 54, 55, 56, 57, 58, 59, 60, 61, 62, 63, 64, 65, 66, 67, 68, 69, 70, 71, 72, 73, 74, 75, 76, 77, 78, 79, 80, 81, 82, 83, 84, 85, 86, 87, 88, 89, 90, 91] (by decide +kernel) (by decide +kernel)
set_option maxRecDepth 20000 in
theorem gX9_duelLast_X9_duelTry : GoodIn wsX9_duelLast (wsV RX9 378 RX9 yX9_duelTry wsX9_duelTry) := goodIn_app (goodIn_of _ (by decide +kernel)) ggX9_duelLast_X9_duelTry
theorem dX9_duelLast_0 : decode cX9_duelLast 0 = .ok (.aload_n 0, 1) := by decide +kernel
theorem dX9_duelLast_1 : decode cX9_duelLast 1 = .ok (.iload_n 1, 1) := by decide +kernel
theorem dX9_duelLast_2 : decode cX9_duelLast 2 = .ok (.iload_n 2, 1) := by decide +kernel
theorem dX9_duelLast_3 : decode cX9_duelLast 3 = .ok (.iconst 1, 1) := by decide +kernel
theorem dX9_duelLast_4 : decode cX9_duelLast 4 = .ok (.invokevirtual 371, 3) := by decide +kernel
theorem dX9_duelLast_7 : decode cX9_duelLast 7 = .ok (.istore 4, 2) := by decide +kernel
theorem dX9_duelLast_9 : decode cX9_duelLast 9 = .ok (.aload_n 0, 1) := by decide +kernel
theorem dX9_duelLast_10 : decode cX9_duelLast 10 = .ok (.iload_n 1, 1) := by decide +kernel
theorem dX9_duelLast_11 : decode cX9_duelLast 11 = .ok (.iload_n 2, 1) := by decide +kernel
theorem dX9_duelLast_12 : decode cX9_duelLast 12 = .ok (.iconst 0, 1) := by decide +kernel
theorem dX9_duelLast_13 : decode cX9_duelLast 13 = .ok (.invokevirtual 371, 3) := by decide +kernel
theorem dX9_duelLast_16 : decode cX9_duelLast 16 = .ok (.istore 5, 2) := by decide +kernel
theorem dX9_duelLast_18 : decode cX9_duelLast 18 = .ok (.iload_n 1, 1) := by decide +kernel
theorem dX9_duelLast_19 : decode cX9_duelLast 19 = .ok (.aload_n 0, 1) := by decide +kernel
theorem dX9_duelLast_20 : decode cX9_duelLast 20 = .ok (.getfield 365, 3) := by decide +kernel
theorem dX9_duelLast_23 : decode cX9_duelLast 23 = .ok (.if_icmp .ne 26, 3) := by decide +kernel
theorem dX9_duelLast_26 : decode cX9_duelLast 26 = .ok (.aload_n 0, 1) := by decide +kernel
theorem dX9_duelLast_27 : decode cX9_duelLast 27 = .ok (.iload_n 1, 1) := by decide +kernel
theorem dX9_duelLast_28 : decode cX9_duelLast 28 = .ok (.iload_n 2, 1) := by decide +kernel
theorem dX9_duelLast_29 : decode cX9_duelLast 29 = .ok (.aload_n 0, 1) := by decide +kernel
theorem dX9_duelLast_30 : decode cX9_duelLast 30 = .ok (.iload 4, 2) := by decide +kernel
theorem dX9_duelLast_32 : decode cX9_duelLast 32 = .ok (.iload_n 3, 1) := by decide +kernel
theorem dX9_duelLast_33 : decode cX9_duelLast 33 = .ok (.invokevirtual 375, 3) := by decide +kernel
theorem dX9_duelLast_36 : decode cX9_duelLast 36 = .ok (.aload_n 0, 1) := by decide +kernel
theorem dX9_duelLast_37 : decode cX9_duelLast 37 = .ok (.iload 5, 2) := by decide +kernel
theorem dX9_duelLast_39 : decode cX9_duelLast 39 = .ok (.iload_n 3, 1) := by decide +kernel
theorem dX9_duelLast_40 : decode cX9_duelLast 40 = .ok (.invokevirtual 375, 3) := by decide +kernel
theorem dX9_duelLast_43 : decode cX9_duelLast 43 = .ok (.invokevirtual 378, 3) := by decide +kernel
theorem dX9_duelLast_46 : decode cX9_duelLast 46 = .ok (.goto 23, 3) := by decide +kernel
theorem dX9_duelLast_49 : decode cX9_duelLast 49 = .ok (.aload_n 0, 1) := by decide +kernel
theorem dX9_duelLast_50 : decode cX9_duelLast 50 = .ok (.iload_n 1, 1) := by decide +kernel
theorem dX9_duelLast_51 : decode cX9_duelLast 51 = .ok (.iload_n 2, 1) := by decide +kernel
theorem dX9_duelLast_52 : decode cX9_duelLast 52 = .ok (.aload_n 0, 1) := by decide +kernel
theorem dX9_duelLast_53 : decode cX9_duelLast 53 = .ok (.iload_n 3, 1) := by decide +kernel
theorem dX9_duelLast_54 : decode cX9_duelLast 54 = .ok (.iload 4, 2) := by decide +kernel
theorem dX9_duelLast_56 : decode cX9_duelLast 56 = .ok (.invokevirtual 375, 3) := by decide +kernel
theorem dX9_duelLast_59 : decode cX9_duelLast 59 = .ok (.aload_n 0, 1) := by decide +kernel
theorem dX9_duelLast_60 : decode cX9_duelLast 60 = .ok (.iload_n 3, 1) := by decide +kernel
theorem dX9_duelLast_61 : decode cX9_duelLast 61 = .ok (.iload 5, 2) := by decide +kernel
theorem dX9_duelLast_63 : decode cX9_duelLast 63 = .ok (.invokevirtual 375, 3) := by decide +kernel
theorem dX9_duelLast_66 : decode cX9_duelLast 66 = .ok (.invokevirtual 378, 3) := by decide +kernel
theorem dX9_duelLast_69 : decode cX9_duelLast 69 = .ok (.ireturn, 1) := by decide +kernel
theorem dX9_isBetter_0 : decode cX9_isBetter 0 = .ok (.iload_n 0, 1) := by decide +kernel
theorem dX9_isBetter_1 : decode cX9_isBetter 1 = .ok (.ifCond .eq 16, 3) := by decide +kernel
theorem dX9_isBetter_4 : decode cX9_isBetter 4 = .ok (.iload_n 1, 1) := by decide +kernel
theorem dX9_isBetter_5 : decode cX9_isBetter 5 = .ok (.iload_n 2, 1) := by decide +kernel
theorem dX9_isBetter_6 : decode cX9_isBetter 6 = .ok (.if_icmp .le 7, 3) := by decide +kernel
theorem dX9_isBetter_9 : decode cX9_isBetter 9 = .ok (.iconst 1, 1) := by decide +kernel
theorem dX9_isBetter_10 : decode cX9_isBetter 10 = .ok (.goto 17, 3) := by decide +kernel
theorem dX9_isBetter_13 : decode cX9_isBetter 13 = .ok (.iconst 0, 1) := by decide +kernel
theorem dX9_isBetter_14 : decode cX9_isBetter 14 = .ok (.goto 13, 3) := by decide +kernel
theorem dX9_isBetter_17 : decode cX9_isBetter 17 = .ok (.iload_n 1, 1) := by decide +kernel
theorem dX9_isBetter_18 : decode cX9_isBetter 18 = .ok (.iload_n 2, 1) := by decide +kernel
