theorem dX9_follows_104 : decode cX9_follows 104 = .ok (.goto 4, 3) := by decide +kernel
theorem dX9_follows_107 : decode cX9_follows 107 = .ok (.iconst 0, 1) := by decide +kernel
theorem dX9_follows_108 : decode cX9_follows 108 = .ok (.invokestatic 160, 3) := by decide +kernel
theorem dX9_follows_111 : decode cX9_follows 111 = .ok (.iadd, 1) := by decide +kernel
theorem dX9_follows_112 : decode cX9_follows 112 = .ok (.istore 10, 2) := by decide +kernel
theorem dX9_follows_114 : decode cX9_follows 114 = .ok (.iinc 12 1, 3) := by decide +kernel
theorem dX9_follows_117 : decode cX9_follows 117 = .ok (.goto (-102), 3) := by decide +kernel
theorem dX9_follows_120 : decode cX9_follows 120 = .ok (.iload 11, 2) := by decide +kernel
theorem dX9_follows_122 : decode cX9_follows 122 = .ok (.ireturn, 1) := by decide +kernel
theorem dX9_line_0 : decode cX9_line 0 = .ok (.aload_n 0, 1) := by decide +kernel
theorem dX9_line_1 : decode cX9_line 1 = .ok (.iconst 0, 1) := by decide +kernel
theorem dX9_line_2 : decode cX9_line 2 = .ok (.putfield 77, 3) := by decide +kernel
theorem dX9_line_5 : decode cX9_line 5 = .ok (.aload_n 0, 1) := by decide +kernel
theorem dX9_line_6 : decode cX9_line 6 = .ok (.iload_n 1, 1) := by decide +kernel
theorem dX9_line_7 : decode cX9_line 7 = .ok (.invokevirtual 233, 3) := by decide +kernel
theorem dX9_line_10 : decode cX9_line 10 = .ok (.ifCond .eq 13, 3) := by decide +kernel
theorem dX9_line_13 : decode cX9_line 13 = .ok (.iload_n 2, 1) := by decide +kernel
theorem dX9_line_14 : decode cX9_line 14 = .ok (.i2l, 1) := by decide +kernel
theorem dX9_line_15 : decode cX9_line 15 = .ok (.lconst 0, 1) := by decide +kernel
theorem dX9_line_16 : decode cX9_line 16 = .ok (.lconst 1, 1) := by decide +kernel
theorem dX9_line_17 : decode cX9_line 17 = .ok (.invokestatic 87, 3) := by decide +kernel
theorem dX9_line_20 : decode cX9_line 20 = .ok (.ifCond .ne 5, 3) := by decide +kernel
theorem dX9_line_23 : decode cX9_line 23 = .ok (.iconst (-1), 1) := by decide +kernel
theorem dX9_line_24 : decode cX9_line 24 = .ok (.ireturn, 1) := by decide +kernel
theorem dX9_line_25 : decode cX9_line 25 = .ok (.iload_n 2, 1) := by decide +kernel
theorem dX9_line_26 : decode cX9_line 26 = .ok (.ifCond .ne 10, 3) := by decide +kernel
theorem dX9_line_29 : decode cX9_line 29 = .ok (.aload_n 0, 1) := by decide +kernel
theorem dX9_line_30 : decode cX9_line 30 = .ok (.invokevirtual 301, 3) := by decide +kernel
theorem dX9_line_33 : decode cX9_line 33 = .ok (.goto 8, 3) := by decide +kernel
theorem dX9_line_36 : decode cX9_line 36 = .ok (.aload_n 0, 1) := by decide +kernel
theorem dX9_line_37 : decode cX9_line 37 = .ok (.iload_n 1, 1) := by decide +kernel
theorem dX9_line_38 : decode cX9_line 38 = .ok (.invokevirtual 313, 3) := by decide +kernel
theorem dX9_line_41 : decode cX9_line 41 = .ok (.aload_n 0, 1) := by decide +kernel
theorem dX9_line_42 : decode cX9_line 42 = .ok (.iconst 0, 1) := by decide +kernel
theorem dX9_line_43 : decode cX9_line 43 = .ok (.putfield 81, 3) := by decide +kernel
theorem dX9_line_46 : decode cX9_line 46 = .ok (.aload_n 0, 1) := by decide +kernel
theorem dX9_line_47 : decode cX9_line 47 = .ok (.iload_n 1, 1) := by decide +kernel
theorem dX9_line_48 : decode cX9_line 48 = .ok (.invokevirtual 121, 3) := by decide +kernel
theorem dX9_line_51 : decode cX9_line 51 = .ok (.ifCond .ne 10, 3) := by decide +kernel
theorem dX9_line_54 : decode cX9_line 54 = .ok (.aload_n 0, 1) := by decide +kernel
theorem dX9_line_55 : decode cX9_line 55 = .ok (.invokevirtual 113, 3) := by decide +kernel
theorem dX9_line_58 : decode cX9_line 58 = .ok (.ifCond .eq 5, 3) := by decide +kernel
theorem dX9_line_61 : decode cX9_line 61 = .ok (.iconst 0, 1) := by decide +kernel
theorem dX9_line_62 : decode cX9_line 62 = .ok (.ireturn, 1) := by decide +kernel
theorem dX9_line_63 : decode cX9_line 63 = .ok (.aload_n 0, 1) := by decide +kernel
theorem dX9_line_64 : decode cX9_line 64 = .ok (.getfield 32, 3) := by decide +kernel
theorem dX9_line_67 : decode cX9_line 67 = .ok (.iconst 0, 1) := by decide +kernel
theorem dX9_line_68 : decode cX9_line 68 = .ok (.iaload, 1) := by decide +kernel
theorem dX9_line_69 : decode cX9_line 69 = .ok (.istore 4, 2) := by decide +kernel
theorem dX9_line_71 : decode cX9_line 71 = .ok (.aload_n 0, 1) := by decide +kernel
theorem dX9_line_72 : decode cX9_line 72 = .ok (.iload_n 1, 1) := by decide +kernel
theorem dX9_line_73 : decode cX9_line 73 = .ok (.invokevirtual 280, 3) := by decide +kernel
theorem dX9_line_76 : decode cX9_line 76 = .ok (.istore 5, 2) := by decide +kernel
theorem dX9_line_78 : decode cX9_line 78 = .ok (.iload 4, 2) := by decide +kernel
theorem dX9_line_80 : decode cX9_line 80 = .ok (.istore 6, 2) := by decide +kernel
theorem dX9_line_82 : decode cX9_line 82 = .ok (.iload 6, 2) := by decide +kernel
theorem dX9_line_84 : decode cX9_line 84 = .ok (.iconst 3, 1) := by decide +kernel
theorem dX9_line_85 : decode cX9_line 85 = .ok (.if_icmp .ge 121, 3) := by decide +kernel
theorem dX9_line_88 : decode cX9_line 88 = .ok (.aload_n 0, 1) := by decide +kernel
theorem dX9_line_89 : decode cX9_line 89 = .ok (.iload_n 1, 1) := by decide +kernel
theorem dX9_line_90 : decode cX9_line 90 = .ok (.iload 6, 2) := by decide +kernel
theorem dX9_line_92 : decode cX9_line 92 = .ok (.invokevirtual 349, 3) := by decide +kernel
theorem dX9_line_95 : decode cX9_line 95 = .ok (.iload 6, 2) := by decide +kernel
theorem dX9_line_97 : decode cX9_line 97 = .ok (.iload 4, 2) := by decide +kernel
theorem dX9_line_99 : decode cX9_line 99 = .ok (.if_icmp .ne 7, 3) := by decide +kernel
theorem dX9_line_102 : decode cX9_line 102 = .ok (.iconst 1, 1) := by decide +kernel
theorem dX9_line_103 : decode cX9_line 103 = .ok (.goto 4, 3) := by decide +kernel
theorem dX9_line_106 : decode cX9_line 106 = .ok (.iconst 0, 1) := by decide +kernel
theorem dX9_line_107 : decode cX9_line 107 = .ok (.istore 7, 2) := by decide +kernel
theorem dX9_line_109 : decode cX9_line 109 = .ok (.aload_n 0, 1) := by decide +kernel
theorem dX9_line_110 : decode cX9_line 110 = .ok (.iload_n 1, 1) := by decide +kernel
theorem dX9_line_111 : decode cX9_line 111 = .ok (.iload 6, 2) := by decide +kernel
theorem dX9_line_113 : decode cX9_line 113 = .ok (.iload 7, 2) := by decide +kernel
theorem dX9_line_115 : decode cX9_line 115 = .ok (.ifCond .eq 11, 3) := by decide +kernel
theorem dX9_line_118 : decode cX9_line 118 = .ok (.aload_n 0, 1) := by decide +kernel
theorem dX9_line_119 : decode cX9_line 119 = .ok (.iload_n 1, 1) := by decide +kernel
theorem dX9_line_120 : decode cX9_line 120 = .ok (.invokevirtual 277, 3) := by decide +kernel
theorem dX9_line_123 : decode cX9_line 123 = .ok (.goto 4, 3) := by decide +kernel
theorem dX9_line_126 : decode cX9_line 126 = .ok (.iconst 0, 1) := by decide +kernel
theorem dX9_line_127 : decode cX9_line 127 = .ok (.iload 7, 2) := by decide +kernel
theorem dX9_line_129 : decode cX9_line 129 = .ok (.ifCond .eq 11, 3) := by decide +kernel
theorem dX9_line_132 : decode cX9_line 132 = .ok (.aload_n 0, 1) := by decide +kernel
theorem dX9_line_133 : decode cX9_line 133 = .ok (.iload_n 1, 1) := by decide +kernel
theorem dX9_line_134 : decode cX9_line 134 = .ok (.invokevirtual 249, 3) := by decide +kernel
theorem dX9_line_137 : decode cX9_line 137 = .ok (.goto 4, 3) := by decide +kernel
theorem dX9_line_140 : decode cX9_line 140 = .ok (.iconst 1, 1) := by decide +kernel
theorem dX9_line_141 : decode cX9_line 141 = .ok (.iload 7, 2) := by decide +kernel
theorem dX9_line_143 : decode cX9_line 143 = .ok (.ifCond .eq 12, 3) := by decide +kernel
theorem dX9_line_146 : decode cX9_line 146 = .ok (.aload_n 0, 1) := by decide +kernel
theorem dX9_line_147 : decode cX9_line 147 = .ok (.iload_n 1, 1) := by decide +kernel
theorem dX9_line_148 : decode cX9_line 148 = .ok (.iconst 4, 1) := by decide +kernel
theorem dX9_line_149 : decode cX9_line 149 = .ok (.invokevirtual 106, 3) := by decide +kernel
theorem dX9_line_152 : decode cX9_line 152 = .ok (.goto 4, 3) := by decide +kernel
theorem dX9_line_155 : decode cX9_line 155 = .ok (.iconst 0, 1) := by decide +kernel
theorem dX9_line_156 : decode cX9_line 156 = .ok (.iload 7, 2) := by decide +kernel
theorem dX9_line_158 : decode cX9_line 158 = .ok (.ifCond .eq 16, 3) := by decide +kernel
theorem dX9_line_161 : decode cX9_line 161 = .ok (.aload_n 0, 1) := by decide +kernel
theorem dX9_line_162 : decode cX9_line 162 = .ok (.iload_n 1, 1) := by decide +kernel
theorem dX9_line_163 : decode cX9_line 163 = .ok (.bipush 7, 2) := by decide +kernel
theorem dX9_line_165 : decode cX9_line 165 = .ok (.iload 6, 2) := by decide +kernel
theorem dX9_line_167 : decode cX9_line 167 = .ok (.iadd, 1) := by decide +kernel
theorem dX9_line_168 : decode cX9_line 168 = .ok (.invokevirtual 106, 3) := by decide +kernel
theorem dX9_line_171 : decode cX9_line 171 = .ok (.goto 4, 3) := by decide +kernel
theorem dX9_line_174 : decode cX9_line 174 = .ok (.iconst 0, 1) := by decide +kernel
theorem dX9_line_175 : decode cX9_line 175 = .ok (.iload 5, 2) := by decide +kernel
theorem dX9_line_177 : decode cX9_line 177 = .ok (.iload_n 3, 1) := by decide +kernel
theorem dX9_line_178 : decode cX9_line 178 = .ok (.invokevirtual 361, 3) := by decide +kernel
theorem dX9_line_181 : decode cX9_line 181 = .ok (.istore 8, 2) := by decide +kernel
theorem dX9_line_183 : decode cX9_line 183 = .ok (.iload 8, 2) := by decide +kernel
theorem dX9_line_185 : decode cX9_line 185 = .ok (.ifCond .ne 8, 3) := by decide +kernel
theorem dX9_line_188 : decode cX9_line 188 = .ok (.aload_n 0, 1) := by decide +kernel
theorem dX9_line_189 : decode cX9_line 189 = .ok (.getfield 81, 3) := by decide +kernel
theorem dX9_line_192 : decode cX9_line 192 = .ok (.ireturn, 1) := by decide +kernel
theorem dX9_line_193 : decode cX9_line 193 = .ok (.iload 5, 2) := by decide +kernel
theorem dX9_line_195 : decode cX9_line 195 = .ok (.iload 8, 2) := by decide +kernel
theorem dX9_line_197 : decode cX9_line 197 = .ok (.iadd, 1) := by decide +kernel
theorem dX9_line_198 : decode cX9_line 198 = .ok (.istore 5, 2) := by decide +kernel
theorem dX9_line_200 : decode cX9_line 200 = .ok (.iinc 6 1, 3) := by decide +kernel
theorem dX9_line_203 : decode cX9_line 203 = .ok (.goto (-121), 3) := by decide +kernel
theorem dX9_line_206 : decode cX9_line 206 = .ok (.aload_n 0, 1) := by decide +kernel
theorem dX9_line_207 : decode cX9_line 207 = .ok (.getfield 81, 3) := by decide +kernel
theorem dX9_line_210 : decode cX9_line 210 = .ok (.ireturn, 1) := by decide +kernel
theorem dX9_duelEnds_0 : decode cX9_duelEnds 0 = .ok (.iload_n 1, 1) := by decide +kernel
theorem dX9_duelEnds_1 : decode cX9_duelEnds 1 = .ok (.ifCond .eq 7, 3) := by decide +kernel
theorem dX9_duelEnds_4 : decode cX9_duelEnds 4 = .ok (.iload_n 2, 1) := by decide +kernel
theorem dX9_duelEnds_5 : decode cX9_duelEnds 5 = .ok (.ifCond .ne 15, 3) := by decide +kernel
theorem dX9_duelEnds_8 : decode cX9_duelEnds 8 = .ok (.iload_n 1, 1) := by decide +kernel
theorem dX9_duelEnds_9 : decode cX9_duelEnds 9 = .ok (.ifCond .le 9, 3) := by decide +kernel
theorem dX9_duelEnds_12 : decode cX9_duelEnds 12 = .ok (.ldc_w 264, 3) := by decide +kernel
theorem dX9_duelEnds_15 : decode cX9_duelEnds 15 = .ok (.goto 4, 3) := by decide +kernel
theorem dX9_duelEnds_18 : decode cX9_duelEnds 18 = .ok (.iconst 0, 1) := by decide +kernel
theorem dX9_duelEnds_19 : decode cX9_duelEnds 19 = .ok (.ireturn, 1) := by decide +kernel
theorem dX9_duelEnds_20 : decode cX9_duelEnds 20 = .ok (.aload_n 0, 1) := by decide +kernel
theorem dX9_duelEnds_21 : decode cX9_duelEnds 21 = .ok (.aload_n 0, 1) := by decide +kernel
theorem dX9_duelEnds_22 : decode cX9_duelEnds 22 = .ok (.getfield 365, 3) := by decide +kernel
theorem dX9_duelEnds_25 : decode cX9_duelEnds 25 = .ok (.invokevirtual 280, 3) := by decide +kernel
theorem dX9_duelEnds_28 : decode cX9_duelEnds 28 = .ok (.iload_n 1, 1) := by decide +kernel
theorem dX9_duelEnds_29 : decode cX9_duelEnds 29 = .ok (.iadd, 1) := by decide +kernel
theorem dX9_duelEnds_30 : decode cX9_duelEnds 30 = .ok (.istore_n 3, 1) := by decide +kernel
theorem dX9_duelEnds_31 : decode cX9_duelEnds 31 = .ok (.aload_n 0, 1) := by decide +kernel
theorem dX9_duelEnds_32 : decode cX9_duelEnds 32 = .ok (.aload_n 0, 1) := by decide +kernel
theorem dX9_duelEnds_33 : decode cX9_duelEnds 33 = .ok (.getfield 368, 3) := by decide +kernel
theorem dX9_duelEnds_36 : decode cX9_duelEnds 36 = .ok (.invokevirtual 280, 3) := by decide +kernel
theorem dX9_duelEnds_39 : decode cX9_duelEnds 39 = .ok (.iload_n 2, 1) := by decide +kernel
theorem dX9_duelEnds_40 : decode cX9_duelEnds 40 = .ok (.iadd, 1) := by decide +kernel
theorem dX9_duelEnds_41 : decode cX9_duelEnds 41 = .ok (.istore 4, 2) := by decide +kernel
theorem dX9_duelEnds_43 : decode cX9_duelEnds 43 = .ok (.iload_n 3, 1) := by decide +kernel
theorem dX9_duelEnds_44 : decode cX9_duelEnds 44 = .ok (.iload 4, 2) := by decide +kernel
theorem dX9_duelEnds_46 : decode cX9_duelEnds 46 = .ok (.if_icmp .gt 24, 3) := by decide +kernel
theorem dX9_duelEnds_49 : decode cX9_duelEnds 49 = .ok (.iload_n 3, 1) := by decide +kernel
theorem dX9_duelEnds_50 : decode cX9_duelEnds 50 = .ok (.iload 4, 2) := by decide +kernel
theorem dX9_duelEnds_52 : decode cX9_duelEnds 52 = .ok (.if_icmp .ne 24, 3) := by decide +kernel
theorem dX9_duelEnds_55 : decode cX9_duelEnds 55 = .ok (.aload_n 0, 1) := by decide +kernel
theorem dX9_duelEnds_56 : decode cX9_duelEnds 56 = .ok (.aload_n 0, 1) := by decide +kernel
theorem dX9_duelEnds_57 : decode cX9_duelEnds 57 = .ok (.getfield 365, 3) := by decide +kernel
theorem dX9_duelEnds_60 : decode cX9_duelEnds 60 = .ok (.aload_n 0, 1) := by decide +kernel
theorem dX9_duelEnds_61 : decode cX9_duelEnds 61 = .ok (.getfield 368, 3) := by decide +kernel
theorem dX9_duelEnds_64 : decode cX9_duelEnds 64 = .ok (.invokevirtual 171, 3) := by decide +kernel
theorem dX9_duelEnds_67 : decode cX9_duelEnds 67 = .ok (.ifCond .eq 9, 3) := by decide +kernel
theorem dX9_duelEnds_70 : decode cX9_duelEnds 70 = .ok (.ldc_w 264, 3) := by decide +kernel
theorem dX9_duelEnds_73 : decode cX9_duelEnds 73 = .ok (.goto 4, 3) := by decide +kernel
theorem dX9_duelEnds_76 : decode cX9_duelEnds 76 = .ok (.iconst 0, 1) := by decide +kernel
theorem dX9_duelEnds_77 : decode cX9_duelEnds 77 = .ok (.ireturn, 1) := by decide +kernel
theorem dX9_duelBest_0 : decode cX9_duelBest 0 = .ok (.aload_n 0, 1) := by decide +kernel
theorem dX9_duelBest_1 : decode cX9_duelBest 1 = .ok (.iload_n 1, 1) := by decide +kernel
theorem dX9_duelBest_2 : decode cX9_duelBest 2 = .ok (.bipush 9, 2) := by decide +kernel
theorem dX9_duelBest_4 : decode cX9_duelBest 4 = .ok (.invokevirtual 106, 3) := by decide +kernel
theorem dX9_duelBest_7 : decode cX9_duelBest 7 = .ok (.istore 4, 2) := by decide +kernel
theorem dX9_duelBest_9 : decode cX9_duelBest 9 = .ok (.iload_n 3, 1) := by decide +kernel
theorem dX9_duelBest_10 : decode cX9_duelBest 10 = .ok (.ifCond .eq 12, 3) := by decide +kernel
theorem dX9_duelBest_13 : decode cX9_duelBest 13 = .ok (.iload 4, 2) := by decide +kernel
theorem dX9_duelBest_15 : decode cX9_duelBest 15 = .ok (.iload_n 2, 1) := by decide +kernel
theorem dX9_duelBest_16 : decode cX9_duelBest 16 = .ok (.invokestatic 100, 3) := by decide +kernel
theorem dX9_duelBest_19 : decode cX9_duelBest 19 = .ok (.goto 5, 3) := by decide +kernel
theorem dX9_duelBest_22 : decode cX9_duelBest 22 = .ok (.iload 4, 2) := by decide +kernel
theorem dX9_duelBest_24 : decode cX9_duelBest 24 = .ok (.ireturn, 1) := by decide +kernel
theorem dX9_duelTry_0 : decode cX9_duelTry 0 = .ok (.aload_n 0, 1) := by decide +kernel
theorem dX9_duelTry_1 : decode cX9_duelTry 1 = .ok (.iload_n 1, 1) := by decide +kernel
theorem dX9_duelTry_2 : decode cX9_duelTry 2 = .ok (.iconst 2, 1) := by decide +kernel
theorem dX9_duelTry_3 : decode cX9_duelTry 3 = .ok (.iload_n 2, 1) := by decide +kernel
theorem dX9_duelTry_4 : decode cX9_duelTry 4 = .ok (.aload_n 0, 1) := by decide +kernel
theorem dX9_duelTry_5 : decode cX9_duelTry 5 = .ok (.iload_n 1, 1) := by decide +kernel
theorem dX9_duelTry_6 : decode cX9_duelTry 6 = .ok (.iconst 4, 1) := by decide +kernel
theorem dX9_duelTry_7 : decode cX9_duelTry 7 = .ok (.invokevirtual 106, 3) := by decide +kernel
theorem dX9_duelTry_10 : decode cX9_duelTry 10 = .ok (.invokevirtual 245, 3) := by decide +kernel
theorem dX9_duelTry_13 : decode cX9_duelTry 13 = .ok (.iload_n 3, 1) := by decide +kernel
theorem dX9_duelTry_14 : decode cX9_duelTry 14 = .ok (.iload 4, 2) := by decide +kernel
theorem dX9_duelTry_16 : decode cX9_duelTry 16 = .ok (.invokestatic 274, 3) := by decide +kernel
theorem dX9_duelTry_19 : decode cX9_duelTry 19 = .ok (.ireturn, 1) := by decide +kernel
theorem dX9_duelLast_0 : decode cX9_duelLast 0 = .ok (.aload_n 0, 1) := by decide +kernel
theorem dX9_duelLast_1 : decode cX9_duelLast 1 = .ok (.iload_n 1, 1) := by decide +kernel
theorem dX9_duelLast_2 : decode cX9_duelLast 2 = .ok (.iload_n 2, 1) := by decide +kernel
theorem dX9_duelLast_3 : decode cX9_duelLast 3 = .ok (.iconst 1, 1) := by decide +kernel
theorem dX9_duelLast_4 : decode cX9_duelLast 4 = .ok (.invokevirtual 371, 3) := by decide +kernel
theorem dX9_duelLast_7 : decode cX9_duelLast 7 = .ok (.istore 4, 2) := by decide +kernel
theorem dX9_duelLast_9 : decode cX9_duelLast 9 = .ok (.aload_n 0, 1) := by decide +kernel
theorem dX9_duelLast_10 : decode cX9_duelLast 10 = .ok (.iload_n 1, 1) := by decide +kernel
theorem dX9_duelLast_11 : decode cX9_duelLast 11 = .ok (.iload_n 2, 1) := by decide +kernel
theorem dX9_duelLast_12 : decode cX9_duelLast 12 = .ok (.iconst 0, 1) := by decide +kernel
theorem dX9_duelLast_13 : decode cX9_duelLast 13 = .ok (.invokevirtual 371, 3) := by decide +kernel
theorem dX9_duelLast_16 : decode cX9_duelLast 16 = .ok (.istore 5, 2) := by decide +kernel
theorem dX9_duelLast_18 : decode cX9_duelLast 18 = .ok (.iload_n 1, 1) := by decide +kernel
theorem dX9_duelLast_19 : decode cX9_duelLast 19 = .ok (.aload_n 0, 1) := by decide +kernel
theorem dX9_duelLast_20 : decode cX9_duelLast 20 = .ok (.getfield 365, 3) := by decide +kernel
theorem dX9_duelLast_23 : decode cX9_duelLast 23 = .ok (.if_icmp .ne 26, 3) := by decide +kernel
theorem dX9_duelLast_26 : decode cX9_duelLast 26 = .ok (.aload_n 0, 1) := by decide +kernel
theorem dX9_duelLast_27 : decode cX9_duelLast 27 = .ok (.iload_n 1, 1) := by decide +kernel
theorem dX9_duelLast_28 : decode cX9_duelLast 28 = .ok (.iload_n 2, 1) := by decide +kernel
theorem dX9_duelLast_29 : decode cX9_duelLast 29 = .ok (.aload_n 0, 1) := by decide +kernel
theorem dX9_duelLast_30 : decode cX9_duelLast 30 = .ok (.iload 4, 2) := by decide +kernel
theorem dX9_duelLast_32 : decode cX9_duelLast 32 = .ok (.iload_n 3, 1) := by decide +kernel
theorem dX9_duelLast_33 : decode cX9_duelLast 33 = .ok (.invokevirtual 375, 3) := by decide +kernel
theorem dX9_duelLast_36 : decode cX9_duelLast 36 = .ok (.aload_n 0, 1) := by decide +kernel
theorem dX9_duelLast_37 : decode cX9_duelLast 37 = .ok (.iload 5, 2) := by decide +kernel
theorem dX9_duelLast_39 : decode cX9_duelLast 39 = .ok (.iload_n 3, 1) := by decide +kernel
theorem dX9_duelLast_40 : decode cX9_duelLast 40 = .ok (.invokevirtual 375, 3) := by decide +kernel
theorem dX9_duelLast_43 : decode cX9_duelLast 43 = .ok (.invokevirtual 378, 3) := by decide +kernel
theorem dX9_duelLast_46 : decode cX9_duelLast 46 = .ok (.goto 23, 3) := by decide +kernel
theorem dX9_duelLast_49 : decode cX9_duelLast 49 = .ok (.aload_n 0, 1) := by decide +kernel
theorem dX9_duelLast_50 : decode cX9_duelLast 50 = .ok (.iload_n 1, 1) := by decide +kernel
theorem dX9_duelLast_51 : decode cX9_duelLast 51 = .ok (.iload_n 2, 1) := by decide +kernel
theorem dX9_duelLast_52 : decode cX9_duelLast 52 = .ok (.aload_n 0, 1) := by decide +kernel
theorem dX9_duelLast_53 : decode cX9_duelLast 53 = .ok (.iload_n 3, 1) := by decide +kernel
theorem dX9_duelLast_54 : decode cX9_duelLast 54 = .ok (.iload 4, 2) := by decide +kernel
theorem dX9_duelLast_56 : decode cX9_duelLast 56 = .ok (.invokevirtual 375, 3) := by decide +kernel
theorem dX9_duelLast_59 : decode cX9_duelLast 59 = .ok (.aload_n 0, 1) := by decide +kernel
theorem dX9_duelLast_60 : decode cX9_duelLast 60 = .ok (.iload_n 3, 1) := by decide +kernel
theorem dX9_duelLast_61 : decode cX9_duelLast 61 = .ok (.iload 5, 2) := by decide +kernel
theorem dX9_duelLast_63 : decode cX9_duelLast 63 = .ok (.invokevirtual 375, 3) := by decide +kernel
theorem dX9_duelLast_66 : decode cX9_duelLast 66 = .ok (.invokevirtual 378, 3) := by decide +kernel
theorem dX9_duelLast_69 : decode cX9_duelLast 69 = .ok (.ireturn, 1) := by decide +kernel
theorem dX9_isBetter_0 : decode cX9_isBetter 0 = .ok (.iload_n 0, 1) := by decide +kernel
theorem dX9_isBetter_1 : decode cX9_isBetter 1 = .ok (.ifCond .eq 16, 3) := by decide +kernel
theorem dX9_isBetter_4 : decode cX9_isBetter 4 = .ok (.iload_n 1, 1) := by decide +kernel
theorem dX9_isBetter_5 : decode cX9_isBetter 5 = .ok (.iload_n 2, 1) := by decide +kernel
theorem dX9_isBetter_6 : decode cX9_isBetter 6 = .ok (.if_icmp .le 7, 3) := by decide +kernel
theorem dX9_isBetter_9 : decode cX9_isBetter 9 = .ok (.iconst 1, 1) := by decide +kernel
theorem dX9_isBetter_10 : decode cX9_isBetter 10 = .ok (.goto 17, 3) := by decide +kernel
theorem dX9_isBetter_13 : decode cX9_isBetter 13 = .ok (.iconst 0, 1) := by decide +kernel
theorem dX9_isBetter_14 : decode cX9_isBetter 14 = .ok (.goto 13, 3) := by decide +kernel
theorem dX9_isBetter_17 : decode cX9_isBetter 17 = .ok (.iload_n 1, 1) := by decide +kernel
theorem dX9_isBetter_18 : decode cX9_isBetter 18 = .ok (.iload_n 2, 1) := by decide +kernel
theorem dX9_isBetter_19 : decode cX9_isBetter 19 = .ok (.if_icmp .ge 7, 3) := by decide +kernel
theorem dX9_isBetter_22 : decode cX9_isBetter 22 = .ok (.iconst 1, 1) := by decide +kernel
theorem dX9_isBetter_23 : decode cX9_isBetter 23 = .ok (.goto 4, 3) := by decide +kernel
theorem dX9_isBetter_26 : decode cX9_isBetter 26 = .ok (.iconst 0, 1) := by decide +kernel
theorem dX9_isBetter_27 : decode cX9_isBetter 27 = .ok (.ireturn, 1) := by decide +kernel
theorem dX9_duelChoosesLast_0 : decode cX9_duelChoosesLast 0 = .ok (.aload_n 0, 1) := by decide +kernel
theorem dX9_duelChoosesLast_1 : decode cX9_duelChoosesLast 1 = .ok (.iload_n 1, 1) := by decide +kernel
theorem dX9_duelChoosesLast_2 : decode cX9_duelChoosesLast 2 = .ok (.iload_n 2, 1) := by decide +kernel
theorem dX9_duelChoosesLast_3 : decode cX9_duelChoosesLast 3 = .ok (.iload 4, 2) := by decide +kernel
theorem dX9_duelChoosesLast_5 : decode cX9_duelChoosesLast 5 = .ok (.invokevirtual 381, 3) := by decide +kernel
theorem dX9_duelChoosesLast_8 : decode cX9_duelChoosesLast 8 = .ok (.istore 5, 2) := by decide +kernel
theorem dX9_duelChoosesLast_10 : decode cX9_duelChoosesLast 10 = .ok (.iload_n 2, 1) := by decide +kernel
theorem dX9_duelChoosesLast_11 : decode cX9_duelChoosesLast 11 = .ok (.iconst 1, 1) := by decide +kernel
theorem dX9_duelChoosesLast_12 : decode cX9_duelChoosesLast 12 = .ok (.iadd, 1) := by decide +kernel
theorem dX9_duelChoosesLast_13 : decode cX9_duelChoosesLast 13 = .ok (.istore 6, 2) := by decide +kernel
theorem dX9_duelChoosesLast_15 : decode cX9_duelChoosesLast 15 = .ok (.iload 6, 2) := by decide +kernel
theorem dX9_duelChoosesLast_17 : decode cX9_duelChoosesLast 17 = .ok (.bipush 40, 2) := by decide +kernel
theorem dX9_duelChoosesLast_19 : decode cX9_duelChoosesLast 19 = .ok (.if_icmp .gt 56, 3) := by decide +kernel
theorem dX9_duelChoosesLast_22 : decode cX9_duelChoosesLast 22 = .ok (.iload_n 3, 1) := by decide +kernel
theorem dX9_duelChoosesLast_23 : decode cX9_duelChoosesLast 23 = .ok (.ifCond .le 52, 3) := by decide +kernel
theorem dX9_duelChoosesLast_26 : decode cX9_duelChoosesLast 26 = .ok (.aload_n 0, 1) := by decide +kernel
theorem dX9_duelChoosesLast_27 : decode cX9_duelChoosesLast 27 = .ok (.iload_n 1, 1) := by decide +kernel
theorem dX9_duelChoosesLast_28 : decode cX9_duelChoosesLast 28 = .ok (.iload 6, 2) := by decide +kernel
theorem dX9_duelChoosesLast_30 : decode cX9_duelChoosesLast 30 = .ok (.iload 4, 2) := by decide +kernel
theorem dX9_duelChoosesLast_32 : decode cX9_duelChoosesLast 32 = .ok (.invokevirtual 381, 3) := by decide +kernel
theorem dX9_duelChoosesLast_35 : decode cX9_duelChoosesLast 35 = .ok (.istore 7, 2) := by decide +kernel
theorem dX9_duelChoosesLast_37 : decode cX9_duelChoosesLast 37 = .ok (.iload_n 1, 1) := by decide +kernel
theorem dX9_duelChoosesLast_38 : decode cX9_duelChoosesLast 38 = .ok (.aload_n 0, 1) := by decide +kernel
theorem dX9_duelChoosesLast_39 : decode cX9_duelChoosesLast 39 = .ok (.getfield 365, 3) := by decide +kernel
theorem dX9_duelChoosesLast_42 : decode cX9_duelChoosesLast 42 = .ok (.if_icmp .ne 7, 3) := by decide +kernel
theorem dX9_duelChoosesLast_45 : decode cX9_duelChoosesLast 45 = .ok (.iconst 1, 1) := by decide +kernel
theorem dX9_duelChoosesLast_46 : decode cX9_duelChoosesLast 46 = .ok (.goto 4, 3) := by decide +kernel
theorem dX9_duelChoosesLast_49 : decode cX9_duelChoosesLast 49 = .ok (.iconst 0, 1) := by decide +kernel
theorem dX9_duelChoosesLast_50 : decode cX9_duelChoosesLast 50 = .ok (.iload 7, 2) := by decide +kernel
theorem dX9_duelChoosesLast_52 : decode cX9_duelChoosesLast 52 = .ok (.iload 5, 2) := by decide +kernel
theorem dX9_duelChoosesLast_54 : decode cX9_duelChoosesLast 54 = .ok (.invokestatic 384, 3) := by decide +kernel
theorem dX9_duelChoosesLast_57 : decode cX9_duelChoosesLast 57 = .ok (.ifCond .eq 8, 3) := by decide +kernel
theorem dX9_duelChoosesLast_60 : decode cX9_duelChoosesLast 60 = .ok (.iload 7, 2) := by decide +kernel
theorem dX9_duelChoosesLast_62 : decode cX9_duelChoosesLast 62 = .ok (.goto 5, 3) := by decide +kernel
theorem dX9_duelChoosesLast_65 : decode cX9_duelChoosesLast 65 = .ok (.iload 5, 2) := by decide +kernel
theorem dX9_duelChoosesLast_67 : decode cX9_duelChoosesLast 67 = .ok (.istore 5, 2) := by decide +kernel
theorem dX9_duelChoosesLast_69 : decode cX9_duelChoosesLast 69 = .ok (.iinc 6 1, 3) := by decide +kernel
theorem dX9_duelChoosesLast_72 : decode cX9_duelChoosesLast 72 = .ok (.goto (-57), 3) := by decide +kernel
theorem dX9_duelChoosesLast_75 : decode cX9_duelChoosesLast 75 = .ok (.iload 5, 2) := by decide +kernel
theorem dX9_duelChoosesLast_77 : decode cX9_duelChoosesLast 77 = .ok (.ireturn, 1) := by decide +kernel
theorem dX9_duelCell_0 : decode cX9_duelCell 0 = .ok (.bipush 41, 2) := by decide +kernel
theorem dX9_duelCell_2 : decode cX9_duelCell 2 = .ok (.bipush 41, 2) := by decide +kernel
theorem dX9_duelCell_4 : decode cX9_duelCell 4 = .ok (.iconst 3, 1) := by decide +kernel
theorem dX9_duelCell_5 : decode cX9_duelCell 5 = .ok (.iload_n 2, 1) := by decide +kernel
theorem dX9_duelCell_6 : decode cX9_duelCell 6 = .ok (.imul, 1) := by decide +kernel
theorem dX9_duelCell_7 : decode cX9_duelCell 7 = .ok (.iload_n 3, 1) := by decide +kernel
theorem dX9_duelCell_8 : decode cX9_duelCell 8 = .ok (.iadd, 1) := by decide +kernel
theorem dX9_duelCell_9 : decode cX9_duelCell 9 = .ok (.imul, 1) := by decide +kernel
theorem dX9_duelCell_10 : decode cX9_duelCell 10 = .ok (.iload_n 0, 1) := by decide +kernel
theorem dX9_duelCell_11 : decode cX9_duelCell 11 = .ok (.iadd, 1) := by decide +kernel
theorem dX9_duelCell_12 : decode cX9_duelCell 12 = .ok (.imul, 1) := by decide +kernel
theorem dX9_duelCell_13 : decode cX9_duelCell 13 = .ok (.iload_n 1, 1) := by decide +kernel
theorem dX9_duelCell_14 : decode cX9_duelCell 14 = .ok (.iadd, 1) := by decide +kernel
theorem dX9_duelCell_15 : decode cX9_duelCell 15 = .ok (.ireturn, 1) := by decide +kernel
theorem dX9_isOneCalled_0 : decode cX9_isOneCalled 0 = .ok (.iload_n 1, 1) := by decide +kernel
theorem dX9_isOneCalled_1 : decode cX9_isOneCalled 1 = .ok (.iload_n 2, 1) := by decide +kernel
theorem dX9_isOneCalled_2 : decode cX9_isOneCalled 2 = .ok (.if_icmp .lt 29, 3) := by decide +kernel
theorem dX9_isOneCalled_5 : decode cX9_isOneCalled 5 = .ok (.iload_n 1, 1) := by decide +kernel
theorem dX9_isOneCalled_6 : decode cX9_isOneCalled 6 = .ok (.iload_n 2, 1) := by decide +kernel
theorem dX9_isOneCalled_7 : decode cX9_isOneCalled 7 = .ok (.if_icmp .ne 28, 3) := by decide +kernel
theorem dX9_isOneCalled_10 : decode cX9_isOneCalled 10 = .ok (.aload_n 0, 1) := by decide +kernel
theorem dX9_isOneCalled_11 : decode cX9_isOneCalled 11 = .ok (.getfield 17, 3) := by decide +kernel
theorem dX9_isOneCalled_14 : decode cX9_isOneCalled 14 = .ok (.aload_n 0, 1) := by decide +kernel
theorem dX9_isOneCalled_15 : decode cX9_isOneCalled 15 = .ok (.getfield 365, 3) := by decide +kernel
theorem dX9_isOneCalled_18 : decode cX9_isOneCalled 18 = .ok (.iaload, 1) := by decide +kernel
theorem dX9_isOneCalled_19 : decode cX9_isOneCalled 19 = .ok (.aload_n 0, 1) := by decide +kernel
theorem dX9_isOneCalled_20 : decode cX9_isOneCalled 20 = .ok (.getfield 17, 3) := by decide +kernel
theorem dX9_isOneCalled_23 : decode cX9_isOneCalled 23 = .ok (.aload_n 0, 1) := by decide +kernel
theorem dX9_isOneCalled_24 : decode cX9_isOneCalled 24 = .ok (.getfield 368, 3) := by decide +kernel
theorem dX9_isOneCalled_27 : decode cX9_isOneCalled 27 = .ok (.iaload, 1) := by decide +kernel
theorem dX9_isOneCalled_28 : decode cX9_isOneCalled 28 = .ok (.if_icmp .ge 7, 3) := by decide +kernel
theorem dX9_isOneCalled_31 : decode cX9_isOneCalled 31 = .ok (.iconst 1, 1) := by decide +kernel
theorem dX9_isOneCalled_32 : decode cX9_isOneCalled 32 = .ok (.goto 4, 3) := by decide +kernel
theorem dX9_isOneCalled_35 : decode cX9_isOneCalled 35 = .ok (.iconst 0, 1) := by decide +kernel
theorem dX9_isOneCalled_36 : decode cX9_isOneCalled 36 = .ok (.ireturn, 1) := by decide +kernel
theorem dX9_duelLays_0 : decode cX9_duelLays 0 = .ok (.aload_n 0, 1) := by decide +kernel
theorem dX9_duelLays_1 : decode cX9_duelLays 1 = .ok (.iload_n 1, 1) := by decide +kernel
theorem dX9_duelLays_2 : decode cX9_duelLays 2 = .ok (.iload_n 2, 1) := by decide +kernel
theorem dX9_duelLays_3 : decode cX9_duelLays 3 = .ok (.invokevirtual 388, 3) := by decide +kernel
theorem dX9_duelLays_6 : decode cX9_duelLays 6 = .ok (.istore 5, 2) := by decide +kernel
theorem dX9_duelLays_8 : decode cX9_duelLays 8 = .ok (.iload 5, 2) := by decide +kernel
theorem dX9_duelLays_10 : decode cX9_duelLays 10 = .ok (.ifCond .eq 10, 3) := by decide +kernel
theorem dX9_duelLays_13 : decode cX9_duelLays 13 = .ok (.aload_n 0, 1) := by decide +kernel
theorem dX9_duelLays_14 : decode cX9_duelLays 14 = .ok (.getfield 365, 3) := by decide +kernel
theorem dX9_duelLays_17 : decode cX9_duelLays 17 = .ok (.goto 7, 3) := by decide +kernel
theorem dX9_duelLays_20 : decode cX9_duelLays 20 = .ok (.aload_n 0, 1) := by decide +kernel
theorem dX9_duelLays_21 : decode cX9_duelLays 21 = .ok (.getfield 368, 3) := by decide +kernel
theorem dX9_duelLays_24 : decode cX9_duelLays 24 = .ok (.istore 6, 2) := by decide +kernel
theorem dX9_duelLays_26 : decode cX9_duelLays 26 = .ok (.iload 5, 2) := by decide +kernel
theorem dX9_duelLays_28 : decode cX9_duelLays 28 = .ok (.ifCond .eq 7, 3) := by decide +kernel
theorem dX9_duelLays_31 : decode cX9_duelLays 31 = .ok (.iload_n 1, 1) := by decide +kernel
theorem dX9_duelLays_32 : decode cX9_duelLays 32 = .ok (.goto 4, 3) := by decide +kernel
theorem dX9_duelLays_35 : decode cX9_duelLays 35 = .ok (.iload_n 2, 1) := by decide +kernel
theorem dX9_duelLays_36 : decode cX9_duelLays 36 = .ok (.istore 7, 2) := by decide +kernel
theorem dX9_duelLays_38 : decode cX9_duelLays 38 = .ok (.iload 5, 2) := by decide +kernel
theorem dX9_duelLays_40 : decode cX9_duelLays 40 = .ok (.ifCond .eq 8, 3) := by decide +kernel
theorem dX9_duelLays_43 : decode cX9_duelLays 43 = .ok (.iload 4, 2) := by decide +kernel
theorem dX9_duelLays_45 : decode cX9_duelLays 45 = .ok (.goto 4, 3) := by decide +kernel
theorem dX9_duelLays_48 : decode cX9_duelLays 48 = .ok (.iload_n 3, 1) := by decide +kernel
theorem dX9_duelLays_49 : decode cX9_duelLays 49 = .ok (.istore 8, 2) := by decide +kernel
theorem dX9_duelLays_51 : decode cX9_duelLays 51 = .ok (.iload 5, 2) := by decide +kernel
theorem dX9_duelLays_53 : decode cX9_duelLays 53 = .ok (.ifCond .eq 7, 3) := by decide +kernel
theorem dX9_duelLays_56 : decode cX9_duelLays 56 = .ok (.iload_n 2, 1) := by decide +kernel
theorem dX9_duelLays_57 : decode cX9_duelLays 57 = .ok (.goto 4, 3) := by decide +kernel
theorem dX9_duelLays_60 : decode cX9_duelLays 60 = .ok (.iload_n 1, 1) := by decide +kernel
theorem dX9_duelLays_61 : decode cX9_duelLays 61 = .ok (.istore 9, 2) := by decide +kernel
theorem dX9_duelLays_63 : decode cX9_duelLays 63 = .ok (.aload_n 0, 1) := by decide +kernel
theorem dX9_duelLays_64 : decode cX9_duelLays 64 = .ok (.iload 5, 2) := by decide +kernel
theorem dX9_duelLays_66 : decode cX9_duelLays 66 = .ok (.ifCond .eq 10, 3) := by decide +kernel
theorem dX9_duelLays_69 : decode cX9_duelLays 69 = .ok (.aload_n 0, 1) := by decide +kernel
theorem dX9_duelLays_70 : decode cX9_duelLays 70 = .ok (.getfield 368, 3) := by decide +kernel
theorem dX9_duelLays_73 : decode cX9_duelLays 73 = .ok (.goto 7, 3) := by decide +kernel
theorem dX9_duelLays_76 : decode cX9_duelLays 76 = .ok (.aload_n 0, 1) := by decide +kernel
theorem dX9_duelLays_77 : decode cX9_duelLays 77 = .ok (.getfield 365, 3) := by decide +kernel
theorem dX9_duelLays_80 : decode cX9_duelLays 80 = .ok (.iload 9, 2) := by decide +kernel
theorem dX9_duelLays_82 : decode cX9_duelLays 82 = .ok (.iload 8, 2) := by decide +kernel
theorem dX9_duelLays_84 : decode cX9_duelLays 84 = .ok (.aload_n 0, 1) := by decide +kernel
theorem dX9_duelLays_85 : decode cX9_duelLays 85 = .ok (.iload 6, 2) := by decide +kernel
theorem dX9_duelLays_87 : decode cX9_duelLays 87 = .ok (.iload 7, 2) := by decide +kernel
theorem dX9_duelLays_89 : decode cX9_duelLays 89 = .ok (.iconst 1, 1) := by decide +kernel
theorem dX9_duelLays_90 : decode cX9_duelLays 90 = .ok (.invokevirtual 371, 3) := by decide +kernel
theorem dX9_duelLays_93 : decode cX9_duelLays 93 = .ok (.invokevirtual 391, 3) := by decide +kernel
theorem dX9_duelLays_96 : decode cX9_duelLays 96 = .ok (.istore 10, 2) := by decide +kernel
theorem dX9_duelLays_98 : decode cX9_duelLays 98 = .ok (.aload_n 0, 1) := by decide +kernel
theorem dX9_duelLays_99 : decode cX9_duelLays 99 = .ok (.iload 5, 2) := by decide +kernel
theorem dX9_duelLays_101 : decode cX9_duelLays 101 = .ok (.ifCond .eq 10, 3) := by decide +kernel
theorem dX9_duelLays_104 : decode cX9_duelLays 104 = .ok (.aload_n 0, 1) := by decide +kernel
theorem dX9_duelLays_105 : decode cX9_duelLays 105 = .ok (.getfield 368, 3) := by decide +kernel
theorem dX9_duelLays_108 : decode cX9_duelLays 108 = .ok (.goto 7, 3) := by decide +kernel
theorem dX9_duelLays_111 : decode cX9_duelLays 111 = .ok (.aload_n 0, 1) := by decide +kernel
theorem dX9_duelLays_112 : decode cX9_duelLays 112 = .ok (.getfield 365, 3) := by decide +kernel
theorem dX9_duelLays_115 : decode cX9_duelLays 115 = .ok (.iload 9, 2) := by decide +kernel
theorem dX9_duelLays_117 : decode cX9_duelLays 117 = .ok (.iload 8, 2) := by decide +kernel
theorem dX9_duelLays_119 : decode cX9_duelLays 119 = .ok (.aload_n 0, 1) := by decide +kernel
theorem dX9_duelLays_120 : decode cX9_duelLays 120 = .ok (.iload 6, 2) := by decide +kernel
theorem dX9_duelLays_122 : decode cX9_duelLays 122 = .ok (.iload 7, 2) := by decide +kernel
theorem dX9_duelLays_124 : decode cX9_duelLays 124 = .ok (.iconst 0, 1) := by decide +kernel
theorem dX9_duelLays_125 : decode cX9_duelLays 125 = .ok (.invokevirtual 371, 3) := by decide +kernel
theorem dX9_duelLays_128 : decode cX9_duelLays 128 = .ok (.invokevirtual 391, 3) := by decide +kernel
theorem dX9_duelLays_131 : decode cX9_duelLays 131 = .ok (.istore 11, 2) := by decide +kernel
theorem dX9_duelLays_133 : decode cX9_duelLays 133 = .ok (.aload_n 0, 1) := by decide +kernel
theorem dX9_duelLays_134 : decode cX9_duelLays 134 = .ok (.iload 6, 2) := by decide +kernel
theorem dX9_duelLays_136 : decode cX9_duelLays 136 = .ok (.iload 7, 2) := by decide +kernel
theorem dX9_duelLays_138 : decode cX9_duelLays 138 = .ok (.iload 10, 2) := by decide +kernel
theorem dX9_duelLays_140 : decode cX9_duelLays 140 = .ok (.iload 11, 2) := by decide +kernel
theorem dX9_duelLays_142 : decode cX9_duelLays 142 = .ok (.invokevirtual 378, 3) := by decide +kernel
theorem dX9_duelLays_145 : decode cX9_duelLays 145 = .ok (.istore 12, 2) := by decide +kernel
theorem dX9_duelLays_147 : decode cX9_duelLays 147 = .ok (.iconst 0, 1) := by decide +kernel
theorem dX9_duelLays_148 : decode cX9_duelLays 148 = .ok (.istore 13, 2) := by decide +kernel
theorem dX9_duelLays_150 : decode cX9_duelLays 150 = .ok (.iload 7, 2) := by decide +kernel
theorem dX9_duelLays_152 : decode cX9_duelLays 152 = .ok (.iconst 1, 1) := by decide +kernel
theorem dX9_duelLays_153 : decode cX9_duelLays 153 = .ok (.iadd, 1) := by decide +kernel
theorem dX9_duelLays_154 : decode cX9_duelLays 154 = .ok (.istore 14, 2) := by decide +kernel
theorem dX9_duelLays_156 : decode cX9_duelLays 156 = .ok (.iload 14, 2) := by decide +kernel
theorem dX9_duelLays_158 : decode cX9_duelLays 158 = .ok (.bipush 40, 2) := by decide +kernel
theorem dX9_duelLays_160 : decode cX9_duelLays 160 = .ok (.if_icmp .gt 88, 3) := by decide +kernel
theorem dX9_duelLays_163 : decode cX9_duelLays 163 = .ok (.iload 5, 2) := by decide +kernel
theorem dX9_duelLays_165 : decode cX9_duelLays 165 = .ok (.ifCond .eq 7, 3) := by decide +kernel
theorem dX9_duelLays_168 : decode cX9_duelLays 168 = .ok (.iload_n 3, 1) := by decide +kernel
theorem dX9_duelLays_169 : decode cX9_duelLays 169 = .ok (.goto 5, 3) := by decide +kernel
theorem dX9_duelLays_172 : decode cX9_duelLays 172 = .ok (.iload 4, 2) := by decide +kernel
theorem dX9_duelLays_174 : decode cX9_duelLays 174 = .ok (.ifCond .le 74, 3) := by decide +kernel
theorem dX9_duelLays_177 : decode cX9_duelLays 177 = .ok (.iload 5, 2) := by decide +kernel
theorem dX9_duelLays_179 : decode cX9_duelLays 179 = .ok (.ifCond .eq 22, 3) := by decide +kernel
theorem dX9_duelLays_182 : decode cX9_duelLays 182 = .ok (.aload_n 0, 1) := by decide +kernel
theorem dX9_duelLays_183 : decode cX9_duelLays 183 = .ok (.getfield 71, 3) := by decide +kernel
theorem dX9_duelLays_186 : decode cX9_duelLays 186 = .ok (.iload 14, 2) := by decide +kernel
theorem dX9_duelLays_188 : decode cX9_duelLays 188 = .ok (.iload_n 2, 1) := by decide +kernel
theorem dX9_duelLays_189 : decode cX9_duelLays 189 = .ok (.iload_n 3, 1) := by decide +kernel
theorem dX9_duelLays_190 : decode cX9_duelLays 190 = .ok (.iconst 1, 1) := by decide +kernel
theorem dX9_duelLays_191 : decode cX9_duelLays 191 = .ok (.isub, 1) := by decide +kernel
theorem dX9_duelLays_192 : decode cX9_duelLays 192 = .ok (.iload 4, 2) := by decide +kernel
theorem dX9_duelLays_194 : decode cX9_duelLays 194 = .ok (.invokestatic 394, 3) := by decide +kernel
theorem dX9_duelLays_197 : decode cX9_duelLays 197 = .ok (.iaload, 1) := by decide +kernel
theorem dX9_duelLays_198 : decode cX9_duelLays 198 = .ok (.goto 19, 3) := by decide +kernel
theorem dX9_duelLays_201 : decode cX9_duelLays 201 = .ok (.aload_n 0, 1) := by decide +kernel
theorem dX9_duelLays_202 : decode cX9_duelLays 202 = .ok (.getfield 71, 3) := by decide +kernel
theorem dX9_duelLays_205 : decode cX9_duelLays 205 = .ok (.iload_n 1, 1) := by decide +kernel
theorem dX9_duelLays_206 : decode cX9_duelLays 206 = .ok (.iload 14, 2) := by decide +kernel
theorem dX9_duelLays_208 : decode cX9_duelLays 208 = .ok (.iload_n 3, 1) := by decide +kernel
theorem dX9_duelLays_209 : decode cX9_duelLays 209 = .ok (.iload 4, 2) := by decide +kernel
theorem dX9_duelLays_211 : decode cX9_duelLays 211 = .ok (.iconst 1, 1) := by decide +kernel
theorem dX9_duelLays_212 : decode cX9_duelLays 212 = .ok (.isub, 1) := by decide +kernel
theorem dX9_duelLays_213 : decode cX9_duelLays 213 = .ok (.invokestatic 394, 3) := by decide +kernel
theorem dX9_duelLays_216 : decode cX9_duelLays 216 = .ok (.iaload, 1) := by decide +kernel
theorem dX9_duelLays_217 : decode cX9_duelLays 217 = .ok (.istore 15, 2) := by decide +kernel
theorem dX9_duelLays_219 : decode cX9_duelLays 219 = .ok (.iload 5, 2) := by decide +kernel
theorem dX9_duelLays_221 : decode cX9_duelLays 221 = .ok (.iload 15, 2) := by decide +kernel
theorem dX9_duelLays_223 : decode cX9_duelLays 223 = .ok (.iload 12, 2) := by decide +kernel
theorem dX9_duelLays_225 : decode cX9_duelLays 225 = .ok (.invokestatic 384, 3) := by decide +kernel
theorem dX9_duelLays_228 : decode cX9_duelLays 228 = .ok (.ifCond .ne 6, 3) := by decide +kernel
theorem dX9_duelLays_231 : decode cX9_duelLays 231 = .ok (.goto 11, 3) := by decide +kernel
theorem dX9_duelLays_234 : decode cX9_duelLays 234 = .ok (.iload 15, 2) := by decide +kernel
theorem dX9_duelLays_236 : decode cX9_duelLays 236 = .ok (.istore 12, 2) := by decide +kernel
theorem dX9_duelLays_238 : decode cX9_duelLays 238 = .ok (.iload 14, 2) := by decide +kernel
theorem dX9_duelLays_240 : decode cX9_duelLays 240 = .ok (.istore 13, 2) := by decide +kernel
theorem dX9_duelLays_242 : decode cX9_duelLays 242 = .ok (.iinc 14 1, 3) := by decide +kernel
theorem dX9_duelLays_245 : decode cX9_duelLays 245 = .ok (.goto (-89), 3) := by decide +kernel
theorem dX9_duelLays_248 : decode cX9_duelLays 248 = .ok (.aload_n 0, 1) := by decide +kernel
theorem dX9_duelLays_249 : decode cX9_duelLays 249 = .ok (.getfield 71, 3) := by decide +kernel
theorem dX9_duelLays_252 : decode cX9_duelLays 252 = .ok (.iload_n 1, 1) := by decide +kernel
theorem dX9_duelLays_253 : decode cX9_duelLays 253 = .ok (.iload_n 2, 1) := by decide +kernel
theorem dX9_duelLays_254 : decode cX9_duelLays 254 = .ok (.iload_n 3, 1) := by decide +kernel
theorem dX9_duelLays_255 : decode cX9_duelLays 255 = .ok (.iload 4, 2) := by decide +kernel
theorem dX9_duelLays_257 : decode cX9_duelLays 257 = .ok (.invokestatic 394, 3) := by decide +kernel
theorem dX9_duelLays_260 : decode cX9_duelLays 260 = .ok (.iload 12, 2) := by decide +kernel
theorem dX9_duelLays_262 : decode cX9_duelLays 262 = .ok (.iastore, 1) := by decide +kernel
theorem dX9_duelLays_263 : decode cX9_duelLays 263 = .ok (.aload_n 0, 1) := by decide +kernel
theorem dX9_duelLays_264 : decode cX9_duelLays 264 = .ok (.getfield 74, 3) := by decide +kernel
theorem dX9_duelLays_267 : decode cX9_duelLays 267 = .ok (.iload_n 1, 1) := by decide +kernel
theorem dX9_duelLays_268 : decode cX9_duelLays 268 = .ok (.iload_n 2, 1) := by decide +kernel
theorem dX9_duelLays_269 : decode cX9_duelLays 269 = .ok (.iload_n 3, 1) := by decide +kernel
theorem dX9_duelLays_270 : decode cX9_duelLays 270 = .ok (.iload 4, 2) := by decide +kernel
theorem dX9_duelLays_272 : decode cX9_duelLays 272 = .ok (.invokestatic 394, 3) := by decide +kernel
theorem dX9_duelLays_275 : decode cX9_duelLays 275 = .ok (.iload 13, 2) := by decide +kernel
theorem dX9_duelLays_277 : decode cX9_duelLays 277 = .ok (.iastore, 1) := by decide +kernel
theorem dX9_duelLays_278 : decode cX9_duelLays 278 = .ok (.return_, 1) := by decide +kernel
theorem dX9_duelAt_0 : decode cX9_duelAt 0 = .ok (.aload_n 0, 1) := by decide +kernel
theorem dX9_duelAt_1 : decode cX9_duelAt 1 = .ok (.aload_n 0, 1) := by decide +kernel
theorem dX9_duelAt_2 : decode cX9_duelAt 2 = .ok (.getfield 365, 3) := by decide +kernel
theorem dX9_duelAt_5 : decode cX9_duelAt 5 = .ok (.iconst 0, 1) := by decide +kernel
theorem dX9_duelAt_6 : decode cX9_duelAt 6 = .ok (.invokevirtual 106, 3) := by decide +kernel
theorem dX9_duelAt_9 : decode cX9_duelAt 9 = .ok (.istore_n 3, 1) := by decide +kernel
theorem dX9_duelAt_10 : decode cX9_duelAt 10 = .ok (.aload_n 0, 1) := by decide +kernel
theorem dX9_duelAt_11 : decode cX9_duelAt 11 = .ok (.aload_n 0, 1) := by decide +kernel
theorem dX9_duelAt_12 : decode cX9_duelAt 12 = .ok (.getfield 368, 3) := by decide +kernel
theorem dX9_duelAt_15 : decode cX9_duelAt 15 = .ok (.iconst 0, 1) := by decide +kernel
theorem dX9_duelAt_16 : decode cX9_duelAt 16 = .ok (.invokevirtual 106, 3) := by decide +kernel
theorem dX9_duelAt_19 : decode cX9_duelAt 19 = .ok (.istore 4, 2) := by decide +kernel
theorem dX9_duelAt_21 : decode cX9_duelAt 21 = .ok (.iconst 0, 1) := by decide +kernel
theorem dX9_duelAt_22 : decode cX9_duelAt 22 = .ok (.istore 5, 2) := by decide +kernel
theorem dX9_duelAt_24 : decode cX9_duelAt 24 = .ok (.iload 5, 2) := by decide +kernel
theorem dX9_duelAt_26 : decode cX9_duelAt 26 = .ok (.iload_n 1, 1) := by decide +kernel
theorem dX9_duelAt_27 : decode cX9_duelAt 27 = .ok (.iload_n 2, 1) := by decide +kernel
theorem dX9_duelAt_28 : decode cX9_duelAt 28 = .ok (.iadd, 1) := by decide +kernel
theorem dX9_duelAt_29 : decode cX9_duelAt 29 = .ok (.if_icmp .gt 91, 3) := by decide +kernel
theorem dX9_duelAt_32 : decode cX9_duelAt 32 = .ok (.iconst 0, 1) := by decide +kernel
theorem dX9_duelAt_33 : decode cX9_duelAt 33 = .ok (.istore 6, 2) := by decide +kernel
theorem dX9_duelAt_35 : decode cX9_duelAt 35 = .ok (.iload 6, 2) := by decide +kernel
theorem dX9_duelAt_37 : decode cX9_duelAt 37 = .ok (.iload_n 1, 1) := by decide +kernel
theorem dX9_duelAt_38 : decode cX9_duelAt 38 = .ok (.if_icmp .gt 76, 3) := by decide +kernel
theorem dX9_duelAt_41 : decode cX9_duelAt 41 = .ok (.iload 5, 2) := by decide +kernel
theorem dX9_duelAt_43 : decode cX9_duelAt 43 = .ok (.iload 6, 2) := by decide +kernel
theorem dX9_duelAt_45 : decode cX9_duelAt 45 = .ok (.isub, 1) := by decide +kernel
theorem dX9_duelAt_46 : decode cX9_duelAt 46 = .ok (.istore 7, 2) := by decide +kernel
theorem dX9_duelAt_48 : decode cX9_duelAt 48 = .ok (.iload 7, 2) := by decide +kernel
theorem dX9_duelAt_50 : decode cX9_duelAt 50 = .ok (.i2l, 1) := by decide +kernel
theorem dX9_duelAt_51 : decode cX9_duelAt 51 = .ok (.lconst 0, 1) := by decide +kernel
theorem dX9_duelAt_52 : decode cX9_duelAt 52 = .ok (.iload_n 2, 1) := by decide +kernel
theorem dX9_duelAt_53 : decode cX9_duelAt 53 = .ok (.i2l, 1) := by decide +kernel
theorem dX9_duelAt_54 : decode cX9_duelAt 54 = .ok (.invokestatic 87, 3) := by decide +kernel
theorem dX9_duelAt_57 : decode cX9_duelAt 57 = .ok (.ifCond .ne 6, 3) := by decide +kernel
theorem dX9_duelAt_60 : decode cX9_duelAt 60 = .ok (.goto 48, 3) := by decide +kernel
theorem dX9_duelAt_63 : decode cX9_duelAt 63 = .ok (.iload_n 3, 1) := by decide +kernel
theorem dX9_duelAt_64 : decode cX9_duelAt 64 = .ok (.istore 8, 2) := by decide +kernel
theorem dX9_duelAt_66 : decode cX9_duelAt 66 = .ok (.iload 8, 2) := by decide +kernel
theorem dX9_duelAt_68 : decode cX9_duelAt 68 = .ok (.bipush 40, 2) := by decide +kernel
theorem dX9_duelAt_70 : decode cX9_duelAt 70 = .ok (.if_icmp .gt 38, 3) := by decide +kernel
theorem dX9_duelAt_73 : decode cX9_duelAt 73 = .ok (.iload 4, 2) := by decide +kernel
theorem dX9_duelAt_75 : decode cX9_duelAt 75 = .ok (.istore 9, 2) := by decide +kernel
theorem dX9_duelAt_77 : decode cX9_duelAt 77 = .ok (.iload 9, 2) := by decide +kernel
theorem dX9_duelAt_79 : decode cX9_duelAt 79 = .ok (.bipush 40, 2) := by decide +kernel
theorem dX9_duelAt_81 : decode cX9_duelAt 81 = .ok (.if_icmp .gt 21, 3) := by decide +kernel
theorem dX9_duelAt_84 : decode cX9_duelAt 84 = .ok (.aload_n 0, 1) := by decide +kernel
theorem dX9_duelAt_85 : decode cX9_duelAt 85 = .ok (.iload 8, 2) := by decide +kernel
theorem dX9_duelAt_87 : decode cX9_duelAt 87 = .ok (.iload 9, 2) := by decide +kernel
theorem dX9_duelAt_89 : decode cX9_duelAt 89 = .ok (.iload 6, 2) := by decide +kernel
theorem dX9_duelAt_91 : decode cX9_duelAt 91 = .ok (.iload 7, 2) := by decide +kernel
theorem dX9_duelAt_93 : decode cX9_duelAt 93 = .ok (.invokevirtual 397, 3) := by decide +kernel
theorem dX9_duelAt_96 : decode cX9_duelAt 96 = .ok (.iinc 9 1, 3) := by decide +kernel
theorem dX9_duelAt_99 : decode cX9_duelAt 99 = .ok (.goto (-22), 3) := by decide +kernel
theorem dX9_duelAt_102 : decode cX9_duelAt 102 = .ok (.iinc 8 1, 3) := by decide +kernel
theorem dX9_duelAt_105 : decode cX9_duelAt 105 = .ok (.goto (-39), 3) := by decide +kernel
theorem dX9_duelAt_108 : decode cX9_duelAt 108 = .ok (.iinc 6 1, 3) := by decide +kernel
theorem dX9_duelAt_111 : decode cX9_duelAt 111 = .ok (.goto (-76), 3) := by decide +kernel
theorem dX9_duelAt_114 : decode cX9_duelAt 114 = .ok (.iinc 5 1, 3) := by decide +kernel
theorem dX9_duelAt_117 : decode cX9_duelAt 117 = .ok (.goto (-93), 3) := by decide +kernel
theorem dX9_duelAt_120 : decode cX9_duelAt 120 = .ok (.aload_n 0, 1) := by decide +kernel
theorem dX9_duelAt_121 : decode cX9_duelAt 121 = .ok (.getfield 71, 3) := by decide +kernel
theorem dX9_duelAt_124 : decode cX9_duelAt 124 = .ok (.iload_n 3, 1) := by decide +kernel
theorem dX9_duelAt_125 : decode cX9_duelAt 125 = .ok (.iload 4, 2) := by decide +kernel
theorem dX9_duelAt_127 : decode cX9_duelAt 127 = .ok (.iload_n 1, 1) := by decide +kernel
theorem dX9_duelAt_128 : decode cX9_duelAt 128 = .ok (.iload_n 2, 1) := by decide +kernel
theorem dX9_duelAt_129 : decode cX9_duelAt 129 = .ok (.invokestatic 394, 3) := by decide +kernel
theorem dX9_duelAt_132 : decode cX9_duelAt 132 = .ok (.iaload, 1) := by decide +kernel
theorem dX9_duelAt_133 : decode cX9_duelAt 133 = .ok (.ireturn, 1) := by decide +kernel
theorem dX9_whyNoDuel_0 : decode cX9_whyNoDuel 0 = .ok (.aload_n 0, 1) := by decide +kernel
theorem dX9_whyNoDuel_1 : decode cX9_whyNoDuel 1 = .ok (.getfield 32, 3) := by decide +kernel
theorem dX9_whyNoDuel_4 : decode cX9_whyNoDuel 4 = .ok (.iconst 0, 1) := by decide +kernel
theorem dX9_whyNoDuel_5 : decode cX9_whyNoDuel 5 = .ok (.iaload, 1) := by decide +kernel
theorem dX9_whyNoDuel_6 : decode cX9_whyNoDuel 6 = .ok (.iconst 2, 1) := by decide +kernel
theorem dX9_whyNoDuel_7 : decode cX9_whyNoDuel 7 = .ok (.if_icmp .ne 13, 3) := by decide +kernel
theorem dX9_whyNoDuel_10 : decode cX9_whyNoDuel 10 = .ok (.aload_n 0, 1) := by decide +kernel
theorem dX9_whyNoDuel_11 : decode cX9_whyNoDuel 11 = .ok (.getfield 32, 3) := by decide +kernel
theorem dX9_whyNoDuel_14 : decode cX9_whyNoDuel 14 = .ok (.iconst 1, 1) := by decide +kernel
theorem dX9_whyNoDuel_15 : decode cX9_whyNoDuel 15 = .ok (.iaload, 1) := by decide +kernel
theorem dX9_whyNoDuel_16 : decode cX9_whyNoDuel 16 = .ok (.iconst 2, 1) := by decide +kernel
theorem dX9_whyNoDuel_17 : decode cX9_whyNoDuel 17 = .ok (.if_icmp .eq 6, 3) := by decide +kernel
theorem dX9_whyNoDuel_20 : decode cX9_whyNoDuel 20 = .ok (.bipush (-2), 2) := by decide +kernel
theorem dX9_whyNoDuel_22 : decode cX9_whyNoDuel 22 = .ok (.ireturn, 1) := by decide +kernel
theorem dX9_whyNoDuel_23 : decode cX9_whyNoDuel 23 = .ok (.aload_n 0, 1) := by decide +kernel
theorem dX9_whyNoDuel_24 : decode cX9_whyNoDuel 24 = .ok (.iload_n 1, 1) := by decide +kernel
theorem dX9_whyNoDuel_25 : decode cX9_whyNoDuel 25 = .ok (.invokevirtual 140, 3) := by decide +kernel
theorem dX9_whyNoDuel_28 : decode cX9_whyNoDuel 28 = .ok (.ifCond .eq 15, 3) := by decide +kernel
theorem dX9_whyNoDuel_31 : decode cX9_whyNoDuel 31 = .ok (.aload_n 0, 1) := by decide +kernel
theorem dX9_whyNoDuel_32 : decode cX9_whyNoDuel 32 = .ok (.iload_n 2, 1) := by decide +kernel
theorem dX9_whyNoDuel_33 : decode cX9_whyNoDuel 33 = .ok (.invokevirtual 140, 3) := by decide +kernel
theorem dX9_whyNoDuel_36 : decode cX9_whyNoDuel 36 = .ok (.ifCond .eq 7, 3) := by decide +kernel
theorem dX9_whyNoDuel_39 : decode cX9_whyNoDuel 39 = .ok (.iconst 0, 1) := by decide +kernel
theorem dX9_whyNoDuel_40 : decode cX9_whyNoDuel 40 = .ok (.goto 5, 3) := by decide +kernel
theorem dX9_whyNoDuel_43 : decode cX9_whyNoDuel 43 = .ok (.bipush (-3), 2) := by decide +kernel
theorem dX9_whyNoDuel_45 : decode cX9_whyNoDuel 45 = .ok (.ireturn, 1) := by decide +kernel
theorem dX9_entersDuel_0 : decode cX9_entersDuel 0 = .ok (.aload_n 0, 1) := by decide +kernel
theorem dX9_entersDuel_1 : decode cX9_entersDuel 1 = .ok (.aload_n 0, 1) := by decide +kernel
theorem dX9_entersDuel_2 : decode cX9_entersDuel 2 = .ok (.getfield 365, 3) := by decide +kernel
theorem dX9_entersDuel_5 : decode cX9_entersDuel 5 = .ok (.iconst 0, 1) := by decide +kernel
theorem dX9_entersDuel_6 : decode cX9_entersDuel 6 = .ok (.invokevirtual 106, 3) := by decide +kernel
theorem dX9_entersDuel_9 : decode cX9_entersDuel 9 = .ok (.istore_n 3, 1) := by decide +kernel
theorem dX9_entersDuel_10 : decode cX9_entersDuel 10 = .ok (.aload_n 0, 1) := by decide +kernel
theorem dX9_entersDuel_11 : decode cX9_entersDuel 11 = .ok (.aload_n 0, 1) := by decide +kernel
theorem dX9_entersDuel_12 : decode cX9_entersDuel 12 = .ok (.getfield 368, 3) := by decide +kernel
theorem dX9_entersDuel_15 : decode cX9_entersDuel 15 = .ok (.iconst 0, 1) := by decide +kernel
theorem dX9_entersDuel_16 : decode cX9_entersDuel 16 = .ok (.invokevirtual 106, 3) := by decide +kernel
theorem dX9_entersDuel_19 : decode cX9_entersDuel 19 = .ok (.istore 4, 2) := by decide +kernel
theorem dX9_entersDuel_21 : decode cX9_entersDuel 21 = .ok (.aload_n 0, 1) := by decide +kernel
theorem dX9_entersDuel_22 : decode cX9_entersDuel 22 = .ok (.iconst 0, 1) := by decide +kernel
theorem dX9_entersDuel_23 : decode cX9_entersDuel 23 = .ok (.putfield 81, 3) := by decide +kernel
theorem dX9_entersDuel_26 : decode cX9_entersDuel 26 = .ok (.aload_n 0, 1) := by decide +kernel
theorem dX9_entersDuel_27 : decode cX9_entersDuel 27 = .ok (.aload_n 0, 1) := by decide +kernel
theorem dX9_entersDuel_28 : decode cX9_entersDuel 28 = .ok (.iload_n 3, 1) := by decide +kernel
theorem dX9_entersDuel_29 : decode cX9_entersDuel 29 = .ok (.iload 4, 2) := by decide +kernel
theorem dX9_entersDuel_31 : decode cX9_entersDuel 31 = .ok (.invokevirtual 388, 3) := by decide +kernel
theorem dX9_entersDuel_34 : decode cX9_entersDuel 34 = .ok (.ifCond .eq 11, 3) := by decide +kernel
theorem dX9_entersDuel_37 : decode cX9_entersDuel 37 = .ok (.aload_n 0, 1) := by decide +kernel
theorem dX9_entersDuel_38 : decode cX9_entersDuel 38 = .ok (.getfield 365, 3) := by decide +kernel
theorem dX9_entersDuel_41 : decode cX9_entersDuel 41 = .ok (.i2l, 1) := by decide +kernel
theorem dX9_entersDuel_42 : decode cX9_entersDuel 42 = .ok (.goto 8, 3) := by decide +kernel
theorem dX9_entersDuel_45 : decode cX9_entersDuel 45 = .ok (.aload_n 0, 1) := by decide +kernel
theorem dX9_entersDuel_46 : decode cX9_entersDuel 46 = .ok (.getfield 368, 3) := by decide +kernel
theorem dX9_entersDuel_49 : decode cX9_entersDuel 49 = .ok (.i2l, 1) := by decide +kernel
theorem dX9_entersDuel_50 : decode cX9_entersDuel 50 = .ok (.invokevirtual 180, 3) := by decide +kernel
theorem dX9_entersDuel_53 : decode cX9_entersDuel 53 = .ok (.aload_n 0, 1) := by decide +kernel
theorem dX9_entersDuel_54 : decode cX9_entersDuel 54 = .ok (.aload_n 0, 1) := by decide +kernel
theorem dX9_entersDuel_55 : decode cX9_entersDuel 55 = .ok (.getfield 74, 3) := by decide +kernel
theorem dX9_entersDuel_58 : decode cX9_entersDuel 58 = .ok (.iload_n 3, 1) := by decide +kernel
theorem dX9_entersDuel_59 : decode cX9_entersDuel 59 = .ok (.iload 4, 2) := by decide +kernel
theorem dX9_entersDuel_61 : decode cX9_entersDuel 61 = .ok (.iload_n 1, 1) := by decide +kernel
theorem dX9_entersDuel_62 : decode cX9_entersDuel 62 = .ok (.iload_n 2, 1) := by decide +kernel
theorem dX9_entersDuel_63 : decode cX9_entersDuel 63 = .ok (.invokestatic 394, 3) := by decide +kernel
theorem dX9_entersDuel_66 : decode cX9_entersDuel 66 = .ok (.iaload, 1) := by decide +kernel
theorem dX9_entersDuel_67 : decode cX9_entersDuel 67 = .ok (.i2l, 1) := by decide +kernel
theorem dX9_entersDuel_68 : decode cX9_entersDuel 68 = .ok (.invokevirtual 180, 3) := by decide +kernel
theorem dX9_entersDuel_71 : decode cX9_entersDuel 71 = .ok (.return_, 1) := by decide +kernel
theorem dX9_duel_0 : decode cX9_duel 0 = .ok (.aload_n 0, 1) := by decide +kernel
theorem dX9_duel_1 : decode cX9_duel 1 = .ok (.iconst 0, 1) := by decide +kernel
theorem dX9_duel_2 : decode cX9_duel 2 = .ok (.putfield 77, 3) := by decide +kernel
theorem dX9_duel_5 : decode cX9_duel 5 = .ok (.aload_n 0, 1) := by decide +kernel
theorem dX9_duel_6 : decode cX9_duel 6 = .ok (.iload_n 1, 1) := by decide +kernel
theorem dX9_duel_7 : decode cX9_duel 7 = .ok (.invokevirtual 233, 3) := by decide +kernel
theorem dX9_duel_10 : decode cX9_duel 10 = .ok (.ifCond .eq 16, 3) := by decide +kernel
theorem dX9_duel_13 : decode cX9_duel 13 = .ok (.aload_n 0, 1) := by decide +kernel
theorem dX9_duel_14 : decode cX9_duel 14 = .ok (.iload_n 2, 1) := by decide +kernel
theorem dX9_duel_15 : decode cX9_duel 15 = .ok (.invokevirtual 233, 3) := by decide +kernel
theorem dX9_duel_18 : decode cX9_duel 18 = .ok (.ifCond .eq 8, 3) := by decide +kernel
theorem dX9_duel_21 : decode cX9_duel 21 = .ok (.iload_n 1, 1) := by decide +kernel
theorem dX9_duel_22 : decode cX9_duel 22 = .ok (.iload_n 2, 1) := by decide +kernel
theorem dX9_duel_23 : decode cX9_duel 23 = .ok (.if_icmp .ne 5, 3) := by decide +kernel
theorem dX9_duel_26 : decode cX9_duel 26 = .ok (.iconst (-1), 1) := by decide +kernel
theorem dX9_duel_27 : decode cX9_duel 27 = .ok (.ireturn, 1) := by decide +kernel
theorem dX9_duel_28 : decode cX9_duel 28 = .ok (.aload_n 0, 1) := by decide +kernel
theorem dX9_duel_29 : decode cX9_duel 29 = .ok (.iload_n 1, 1) := by decide +kernel
theorem dX9_duel_30 : decode cX9_duel 30 = .ok (.iload_n 2, 1) := by decide +kernel
theorem dX9_duel_31 : decode cX9_duel 31 = .ok (.invokevirtual 400, 3) := by decide +kernel
theorem dX9_duel_34 : decode cX9_duel 34 = .ok (.istore_n 3, 1) := by decide +kernel
theorem dX9_duel_35 : decode cX9_duel 35 = .ok (.iload_n 3, 1) := by decide +kernel
theorem dX9_duel_36 : decode cX9_duel 36 = .ok (.ifCond .eq 5, 3) := by decide +kernel
theorem dX9_duel_39 : decode cX9_duel 39 = .ok (.iload_n 3, 1) := by decide +kernel
theorem dX9_duel_40 : decode cX9_duel 40 = .ok (.ireturn, 1) := by decide +kernel
theorem dX9_duel_41 : decode cX9_duel 41 = .ok (.aload_n 0, 1) := by decide +kernel
theorem dX9_duel_42 : decode cX9_duel 42 = .ok (.iload_n 1, 1) := by decide +kernel
theorem dX9_duel_43 : decode cX9_duel 43 = .ok (.putfield 365, 3) := by decide +kernel
theorem dX9_duel_46 : decode cX9_duel 46 = .ok (.aload_n 0, 1) := by decide +kernel
theorem dX9_duel_47 : decode cX9_duel 47 = .ok (.iload_n 2, 1) := by decide +kernel
theorem dX9_duel_48 : decode cX9_duel 48 = .ok (.putfield 368, 3) := by decide +kernel
theorem dX9_duel_51 : decode cX9_duel 51 = .ok (.aload_n 0, 1) := by decide +kernel
theorem dX9_duel_52 : decode cX9_duel 52 = .ok (.iconst 0, 1) := by decide +kernel
theorem dX9_duel_53 : decode cX9_duel 53 = .ok (.iconst 0, 1) := by decide +kernel
theorem dX9_duel_54 : decode cX9_duel 54 = .ok (.invokevirtual 403, 3) := by decide +kernel
theorem dX9_duel_57 : decode cX9_duel 57 = .ok (.istore 4, 2) := by decide +kernel
theorem dX9_duel_59 : decode cX9_duel 59 = .ok (.aload_n 0, 1) := by decide +kernel
theorem dX9_duel_60 : decode cX9_duel 60 = .ok (.aload_n 0, 1) := by decide +kernel
theorem dX9_duel_61 : decode cX9_duel 61 = .ok (.iload_n 1, 1) := by decide +kernel
theorem dX9_duel_62 : decode cX9_duel 62 = .ok (.iconst 5, 1) := by decide +kernel
theorem dX9_duel_63 : decode cX9_duel 63 = .ok (.invokevirtual 106, 3) := by decide +kernel
theorem dX9_duel_66 : decode cX9_duel 66 = .ok (.aload_n 0, 1) := by decide +kernel
theorem dX9_duel_67 : decode cX9_duel 67 = .ok (.iload_n 2, 1) := by decide +kernel
theorem dX9_duel_68 : decode cX9_duel 68 = .ok (.iconst 5, 1) := by decide +kernel
theorem dX9_duel_69 : decode cX9_duel 69 = .ok (.invokevirtual 106, 3) := by decide +kernel
theorem dX9_duel_72 : decode cX9_duel 72 = .ok (.invokevirtual 403, 3) := by decide +kernel
theorem dX9_duel_75 : decode cX9_duel 75 = .ok (.istore 5, 2) := by decide +kernel
theorem dX9_duel_77 : decode cX9_duel 77 = .ok (.aload_n 0, 1) := by decide +kernel
theorem dX9_duel_78 : decode cX9_duel 78 = .ok (.aload_n 0, 1) := by decide +kernel
theorem dX9_duel_79 : decode cX9_duel 79 = .ok (.iload_n 1, 1) := by decide +kernel
theorem dX9_duel_80 : decode cX9_duel 80 = .ok (.iconst 5, 1) := by decide +kernel
theorem dX9_duel_81 : decode cX9_duel 81 = .ok (.invokevirtual 106, 3) := by decide +kernel
theorem dX9_duel_84 : decode cX9_duel 84 = .ok (.aload_n 0, 1) := by decide +kernel
theorem dX9_duel_85 : decode cX9_duel 85 = .ok (.iload_n 2, 1) := by decide +kernel
theorem dX9_duel_86 : decode cX9_duel 86 = .ok (.iconst 5, 1) := by decide +kernel
theorem dX9_duel_87 : decode cX9_duel 87 = .ok (.invokevirtual 106, 3) := by decide +kernel
theorem dX9_duel_90 : decode cX9_duel 90 = .ok (.invokevirtual 406, 3) := by decide +kernel
theorem dX9_duel_93 : decode cX9_duel 93 = .ok (.aload_n 0, 1) := by decide +kernel
theorem dX9_duel_94 : decode cX9_duel 94 = .ok (.iload 4, 2) := by decide +kernel
theorem dX9_duel_96 : decode cX9_duel 96 = .ok (.i2l, 1) := by decide +kernel
theorem dX9_duel_97 : decode cX9_duel 97 = .ok (.invokevirtual 180, 3) := by decide +kernel
theorem dX9_duel_100 : decode cX9_duel 100 = .ok (.iload 5, 2) := by decide +kernel
theorem dX9_duel_102 : decode cX9_duel 102 = .ok (.ireturn, 1) := by decide +kernel
theorem dX9_bluff_0 : decode cX9_bluff 0 = .ok (.aload_n 0, 1) := by decide +kernel
theorem dX9_bluff_1 : decode cX9_bluff 1 = .ok (.iconst 0, 1) := by decide +kernel
theorem dX9_bluff_2 : decode cX9_bluff 2 = .ok (.putfield 77, 3) := by decide +kernel
theorem dX9_bluff_5 : decode cX9_bluff 5 = .ok (.aload_n 0, 1) := by decide +kernel
theorem dX9_bluff_6 : decode cX9_bluff 6 = .ok (.iload_n 1, 1) := by decide +kernel
theorem dX9_bluff_7 : decode cX9_bluff 7 = .ok (.invokevirtual 233, 3) := by decide +kernel
theorem dX9_bluff_10 : decode cX9_bluff 10 = .ok (.ifCond .eq 41, 3) := by decide +kernel
theorem dX9_bluff_13 : decode cX9_bluff 13 = .ok (.aload_n 0, 1) := by decide +kernel
theorem dX9_bluff_14 : decode cX9_bluff 14 = .ok (.iload_n 2, 1) := by decide +kernel
theorem dX9_bluff_15 : decode cX9_bluff 15 = .ok (.invokevirtual 233, 3) := by decide +kernel
theorem dX9_bluff_18 : decode cX9_bluff 18 = .ok (.ifCond .eq 33, 3) := by decide +kernel
theorem dX9_bluff_21 : decode cX9_bluff 21 = .ok (.iload_n 1, 1) := by decide +kernel
theorem dX9_bluff_22 : decode cX9_bluff 22 = .ok (.iload_n 2, 1) := by decide +kernel
theorem dX9_bluff_23 : decode cX9_bluff 23 = .ok (.if_icmp .eq 28, 3) := by decide +kernel
theorem dX9_bluff_26 : decode cX9_bluff 26 = .ok (.iload_n 3, 1) := by decide +kernel
theorem dX9_bluff_27 : decode cX9_bluff 27 = .ok (.i2l, 1) := by decide +kernel
theorem dX9_bluff_28 : decode cX9_bluff 28 = .ok (.lconst 0, 1) := by decide +kernel
theorem dX9_bluff_29 : decode cX9_bluff 29 = .ok (.ldc2_w 91, 3) := by decide +kernel
theorem dX9_bluff_32 : decode cX9_bluff 32 = .ok (.invokestatic 87, 3) := by decide +kernel
theorem dX9_bluff_35 : decode cX9_bluff 35 = .ok (.ifCond .eq 16, 3) := by decide +kernel
theorem dX9_bluff_38 : decode cX9_bluff 38 = .ok (.iload 4, 2) := by decide +kernel
theorem dX9_bluff_40 : decode cX9_bluff 40 = .ok (.i2l, 1) := by decide +kernel
theorem dX9_bluff_41 : decode cX9_bluff 41 = .ok (.lconst 0, 1) := by decide +kernel
theorem dX9_bluff_42 : decode cX9_bluff 42 = .ok (.ldc2_w 91, 3) := by decide +kernel
theorem dX9_bluff_45 : decode cX9_bluff 45 = .ok (.invokestatic 87, 3) := by decide +kernel
theorem dX9_bluff_48 : decode cX9_bluff 48 = .ok (.ifCond .ne 5, 3) := by decide +kernel
theorem dX9_bluff_51 : decode cX9_bluff 51 = .ok (.iconst (-1), 1) := by decide +kernel
theorem dX9_bluff_52 : decode cX9_bluff 52 = .ok (.ireturn, 1) := by decide +kernel
theorem dX9_bluff_53 : decode cX9_bluff 53 = .ok (.aload_n 0, 1) := by decide +kernel
theorem dX9_bluff_54 : decode cX9_bluff 54 = .ok (.iload_n 1, 1) := by decide +kernel
theorem dX9_bluff_55 : decode cX9_bluff 55 = .ok (.iload_n 2, 1) := by decide +kernel
theorem dX9_bluff_56 : decode cX9_bluff 56 = .ok (.invokevirtual 400, 3) := by decide +kernel
theorem dX9_bluff_59 : decode cX9_bluff 59 = .ok (.istore 5, 2) := by decide +kernel
theorem dX9_bluff_61 : decode cX9_bluff 61 = .ok (.iload 5, 2) := by decide +kernel
theorem dX9_bluff_63 : decode cX9_bluff 63 = .ok (.ifCond .eq 6, 3) := by decide +kernel
theorem dX9_bluff_66 : decode cX9_bluff 66 = .ok (.iload 5, 2) := by decide +kernel
theorem dX9_bluff_68 : decode cX9_bluff 68 = .ok (.ireturn, 1) := by decide +kernel
theorem dX9_bluff_69 : decode cX9_bluff 69 = .ok (.aload_n 0, 1) := by decide +kernel
theorem dX9_bluff_70 : decode cX9_bluff 70 = .ok (.iload_n 1, 1) := by decide +kernel
theorem dX9_bluff_71 : decode cX9_bluff 71 = .ok (.putfield 365, 3) := by decide +kernel
theorem dX9_bluff_74 : decode cX9_bluff 74 = .ok (.aload_n 0, 1) := by decide +kernel
theorem dX9_bluff_75 : decode cX9_bluff 75 = .ok (.iload_n 2, 1) := by decide +kernel
theorem dX9_bluff_76 : decode cX9_bluff 76 = .ok (.putfield 368, 3) := by decide +kernel
theorem dX9_bluff_79 : decode cX9_bluff 79 = .ok (.aload_n 0, 1) := by decide +kernel
theorem dX9_bluff_80 : decode cX9_bluff 80 = .ok (.iload_n 3, 1) := by decide +kernel
theorem dX9_bluff_81 : decode cX9_bluff 81 = .ok (.iload 4, 2) := by decide +kernel
theorem dX9_bluff_83 : decode cX9_bluff 83 = .ok (.invokevirtual 403, 3) := by decide +kernel
theorem dX9_bluff_86 : decode cX9_bluff 86 = .ok (.istore 6, 2) := by decide +kernel
theorem dX9_bluff_88 : decode cX9_bluff 88 = .ok (.aload_n 0, 1) := by decide +kernel
theorem dX9_bluff_89 : decode cX9_bluff 89 = .ok (.iload_n 3, 1) := by decide +kernel
theorem dX9_bluff_90 : decode cX9_bluff 90 = .ok (.iload 4, 2) := by decide +kernel
theorem dX9_bluff_92 : decode cX9_bluff 92 = .ok (.invokevirtual 406, 3) := by decide +kernel
theorem dX9_bluff_95 : decode cX9_bluff 95 = .ok (.iload 6, 2) := by decide +kernel
theorem dX9_bluff_97 : decode cX9_bluff 97 = .ok (.ireturn, 1) := by decide +kernel
theorem dX9_draw_0 : decode cX9_draw 0 = .ok (.aload_n 0, 1) := by decide +kernel
theorem dX9_draw_1 : decode cX9_draw 1 = .ok (.aload_n 0, 1) := by decide +kernel
theorem dX9_draw_2 : decode cX9_draw 2 = .ok (.getfield 409, 3) := by decide +kernel
theorem dX9_draw_5 : decode cX9_draw 5 = .ok (.ldc_w 412, 3) := by decide +kernel
theorem dX9_draw_8 : decode cX9_draw 8 = .ok (.imul, 1) := by decide +kernel
theorem dX9_draw_9 : decode cX9_draw 9 = .ok (.sipush 12345, 3) := by decide +kernel
theorem dX9_draw_12 : decode cX9_draw 12 = .ok (.iadd, 1) := by decide +kernel
theorem dX9_draw_13 : decode cX9_draw 13 = .ok (.putfield 409, 3) := by decide +kernel
theorem dX9_draw_16 : decode cX9_draw 16 = .ok (.aload_n 0, 1) := by decide +kernel
theorem dX9_draw_17 : decode cX9_draw 17 = .ok (.getfield 409, 3) := by decide +kernel
theorem dX9_draw_20 : decode cX9_draw 20 = .ok (.bipush 16, 2) := by decide +kernel
theorem dX9_draw_22 : decode cX9_draw 22 = .ok (.iushr, 1) := by decide +kernel
theorem dX9_draw_23 : decode cX9_draw 23 = .ok (.iload_n 1, 1) := by decide +kernel
theorem dX9_draw_24 : decode cX9_draw 24 = .ok (.irem, 1) := by decide +kernel
theorem dX9_draw_25 : decode cX9_draw 25 = .ok (.ireturn, 1) := by decide +kernel
theorem dX9_playsOn_0 : decode cX9_playsOn 0 = .ok (.iconst 0, 1) := by decide +kernel
theorem dX9_playsOn_1 : decode cX9_playsOn 1 = .ok (.istore_n 1, 1) := by decide +kernel
theorem dX9_playsOn_2 : decode cX9_playsOn 2 = .ok (.aload_n 0, 1) := by decide +kernel
theorem dX9_playsOn_3 : decode cX9_playsOn 3 = .ok (.invokevirtual 147, 3) := by decide +kernel
theorem dX9_playsOn_6 : decode cX9_playsOn 6 = .ok (.istore_n 2, 1) := by decide +kernel
theorem dX9_playsOn_7 : decode cX9_playsOn 7 = .ok (.iload_n 2, 1) := by decide +kernel
theorem dX9_playsOn_8 : decode cX9_playsOn 8 = .ok (.iconst (-1), 1) := by decide +kernel
theorem dX9_playsOn_9 : decode cX9_playsOn 9 = .ok (.if_icmp .eq 57, 3) := by decide +kernel
theorem dX9_playsOn_12 : decode cX9_playsOn 12 = .ok (.aload_n 0, 1) := by decide +kernel
theorem dX9_playsOn_13 : decode cX9_playsOn 13 = .ok (.iload_n 2, 1) := by decide +kernel
theorem dX9_playsOn_14 : decode cX9_playsOn 14 = .ok (.aload_n 0, 1) := by decide +kernel
theorem dX9_playsOn_15 : decode cX9_playsOn 15 = .ok (.sipush 1000, 3) := by decide +kernel
theorem dX9_playsOn_18 : decode cX9_playsOn 18 = .ok (.invokevirtual 413, 3) := by decide +kernel
theorem dX9_playsOn_21 : decode cX9_playsOn 21 = .ok (.aload_n 0, 1) := by decide +kernel
theorem dX9_playsOn_22 : decode cX9_playsOn 22 = .ok (.iload_n 2, 1) := by decide +kernel
theorem dX9_playsOn_23 : decode cX9_playsOn 23 = .ok (.aload_n 0, 1) := by decide +kernel
theorem dX9_playsOn_24 : decode cX9_playsOn 24 = .ok (.getfield 32, 3) := by decide +kernel
theorem dX9_playsOn_27 : decode cX9_playsOn 27 = .ok (.iconst 0, 1) := by decide +kernel
theorem dX9_playsOn_28 : decode cX9_playsOn 28 = .ok (.iaload, 1) := by decide +kernel
theorem dX9_playsOn_29 : decode cX9_playsOn 29 = .ok (.aload_n 0, 1) := by decide +kernel
theorem dX9_playsOn_30 : decode cX9_playsOn 30 = .ok (.iload_n 2, 1) := by decide +kernel
theorem dX9_playsOn_31 : decode cX9_playsOn 31 = .ok (.iconst 0, 1) := by decide +kernel
theorem dX9_playsOn_32 : decode cX9_playsOn 32 = .ok (.invokevirtual 106, 3) := by decide +kernel
theorem dX9_playsOn_35 : decode cX9_playsOn 35 = .ok (.aload_n 0, 1) := by decide +kernel
theorem dX9_playsOn_36 : decode cX9_playsOn 36 = .ok (.iload_n 2, 1) := by decide +kernel
theorem dX9_playsOn_37 : decode cX9_playsOn 37 = .ok (.iconst 4, 1) := by decide +kernel
theorem dX9_playsOn_38 : decode cX9_playsOn 38 = .ok (.invokevirtual 106, 3) := by decide +kernel
theorem dX9_playsOn_41 : decode cX9_playsOn 41 = .ok (.invokevirtual 245, 3) := by decide +kernel
theorem dX9_playsOn_44 : decode cX9_playsOn 44 = .ok (.if_icmp .ge 7, 3) := by decide +kernel
theorem dX9_playsOn_47 : decode cX9_playsOn 47 = .ok (.iconst 1, 1) := by decide +kernel
theorem dX9_playsOn_48 : decode cX9_playsOn 48 = .ok (.goto 4, 3) := by decide +kernel
theorem dX9_playsOn_51 : decode cX9_playsOn 51 = .ok (.iconst 0, 1) := by decide +kernel
theorem dX9_playsOn_52 : decode cX9_playsOn 52 = .ok (.invokevirtual 255, 3) := by decide +kernel
theorem dX9_playsOn_55 : decode cX9_playsOn 55 = .ok (.iinc 1 1, 3) := by decide +kernel
theorem dX9_playsOn_58 : decode cX9_playsOn 58 = .ok (.aload_n 0, 1) := by decide +kernel
theorem dX9_playsOn_59 : decode cX9_playsOn 59 = .ok (.invokevirtual 147, 3) := by decide +kernel
theorem dX9_playsOn_62 : decode cX9_playsOn 62 = .ok (.istore_n 2, 1) := by decide +kernel
theorem dX9_playsOn_63 : decode cX9_playsOn 63 = .ok (.goto (-56), 3) := by decide +kernel
theorem dX9_playsOn_66 : decode cX9_playsOn 66 = .ok (.iload_n 1, 1) := by decide +kernel
theorem dX9_playsOn_67 : decode cX9_playsOn 67 = .ok (.ireturn, 1) := by decide +kernel
theorem dX9_plays_0 : decode cX9_plays 0 = .ok (.aload_n 0, 1) := by decide +kernel
theorem dX9_plays_1 : decode cX9_plays 1 = .ok (.iconst 0, 1) := by decide +kernel
theorem dX9_plays_2 : decode cX9_plays 2 = .ok (.putfield 77, 3) := by decide +kernel
theorem dX9_plays_5 : decode cX9_plays 5 = .ok (.aload_n 0, 1) := by decide +kernel
theorem dX9_plays_6 : decode cX9_plays 6 = .ok (.invokevirtual 147, 3) := by decide +kernel
theorem dX9_plays_9 : decode cX9_plays 9 = .ok (.iconst (-1), 1) := by decide +kernel
theorem dX9_plays_10 : decode cX9_plays 10 = .ok (.if_icmp .ne 6, 3) := by decide +kernel
theorem dX9_plays_13 : decode cX9_plays 13 = .ok (.bipush (-2), 2) := by decide +kernel
theorem dX9_plays_15 : decode cX9_plays 15 = .ok (.ireturn, 1) := by decide +kernel
theorem dX9_plays_16 : decode cX9_plays 16 = .ok (.aload_n 0, 1) := by decide +kernel
theorem dX9_plays_17 : decode cX9_plays 17 = .ok (.iload_n 1, 1) := by decide +kernel
theorem dX9_plays_18 : decode cX9_plays 18 = .ok (.putfield 409, 3) := by decide +kernel
theorem dX9_plays_21 : decode cX9_plays 21 = .ok (.aload_n 0, 1) := by decide +kernel
theorem dX9_plays_22 : decode cX9_plays 22 = .ok (.invokevirtual 416, 3) := by decide +kernel
theorem dX9_plays_25 : decode cX9_plays 25 = .ok (.istore_n 2, 1) := by decide +kernel
theorem dX9_plays_26 : decode cX9_plays 26 = .ok (.aload_n 0, 1) := by decide +kernel
theorem dX9_plays_27 : decode cX9_plays 27 = .ok (.invokevirtual 261, 3) := by decide +kernel
theorem dX9_plays_30 : decode cX9_plays 30 = .ok (.iload_n 2, 1) := by decide +kernel
theorem dX9_plays_31 : decode cX9_plays 31 = .ok (.ireturn, 1) := by decide +kernel
theorem dX9_often_0 : decode cX9_often 0 = .ok (.aload_n 0, 1) := by decide +kernel
theorem dX9_often_1 : decode cX9_often 1 = .ok (.iconst 0, 1) := by decide +kernel
theorem dX9_often_2 : decode cX9_often 2 = .ok (.putfield 77, 3) := by decide +kernel
theorem dX9_often_5 : decode cX9_often 5 = .ok (.aload_n 0, 1) := by decide +kernel
theorem dX9_often_6 : decode cX9_often 6 = .ok (.iload_n 1, 1) := by decide +kernel
theorem dX9_often_7 : decode cX9_often 7 = .ok (.invokevirtual 233, 3) := by decide +kernel
theorem dX9_often_10 : decode cX9_often 10 = .ok (.ifCond .eq 15, 3) := by decide +kernel
theorem dX9_often_13 : decode cX9_often 13 = .ok (.iload_n 2, 1) := by decide +kernel
theorem dX9_often_14 : decode cX9_often 14 = .ok (.i2l, 1) := by decide +kernel
theorem dX9_often_15 : decode cX9_often 15 = .ok (.lconst 1, 1) := by decide +kernel
theorem dX9_often_16 : decode cX9_often 16 = .ok (.ldc2_w 419, 3) := by decide +kernel
theorem dX9_often_19 : decode cX9_often 19 = .ok (.invokestatic 87, 3) := by decide +kernel
theorem dX9_often_22 : decode cX9_often 22 = .ok (.ifCond .ne 5, 3) := by decide +kernel
theorem dX9_often_25 : decode cX9_often 25 = .ok (.iconst (-1), 1) := by decide +kernel
theorem dX9_often_26 : decode cX9_often 26 = .ok (.ireturn, 1) := by decide +kernel
theorem dX9_often_27 : decode cX9_often 27 = .ok (.aload_n 0, 1) := by decide +kernel
theorem dX9_often_28 : decode cX9_often 28 = .ok (.getfield 131, 3) := by decide +kernel
theorem dX9_often_31 : decode cX9_often 31 = .ok (.istore 4, 2) := by decide +kernel
theorem dX9_often_33 : decode cX9_often 33 = .ok (.aload_n 0, 1) := by decide +kernel
theorem dX9_often_34 : decode cX9_often 34 = .ok (.getfield 134, 3) := by decide +kernel
theorem dX9_often_37 : decode cX9_often 37 = .ok (.istore 5, 2) := by decide +kernel
theorem dX9_often_39 : decode cX9_often 39 = .ok (.iconst 0, 1) := by decide +kernel
theorem dX9_often_40 : decode cX9_often 40 = .ok (.istore 6, 2) := by decide +kernel
theorem dX9_often_42 : decode cX9_often 42 = .ok (.iload 6, 2) := by decide +kernel
theorem dX9_often_44 : decode cX9_often 44 = .ok (.aload_n 0, 1) := by decide +kernel
theorem dX9_often_45 : decode cX9_often 45 = .ok (.getfield 32, 3) := by decide +kernel
theorem dX9_often_48 : decode cX9_often 48 = .ok (.arraylength, 1) := by decide +kernel
theorem dX9_often_49 : decode cX9_often 49 = .ok (.if_icmp .ge 23, 3) := by decide +kernel
theorem dX9_often_52 : decode cX9_often 52 = .ok (.aload_n 0, 1) := by decide +kernel
theorem dX9_often_53 : decode cX9_often 53 = .ok (.getfield 35, 3) := by decide +kernel
theorem dX9_often_56 : decode cX9_often 56 = .ok (.iload 6, 2) := by decide +kernel
theorem dX9_often_58 : decode cX9_often 58 = .ok (.aload_n 0, 1) := by decide +kernel
theorem dX9_often_59 : decode cX9_often 59 = .ok (.getfield 32, 3) := by decide +kernel
theorem dX9_often_62 : decode cX9_often 62 = .ok (.iload 6, 2) := by decide +kernel
theorem dX9_often_64 : decode cX9_often 64 = .ok (.iaload, 1) := by decide +kernel
theorem dX9_often_65 : decode cX9_often 65 = .ok (.iastore, 1) := by decide +kernel
theorem dX9_often_66 : decode cX9_often 66 = .ok (.iinc 6 1, 3) := by decide +kernel
theorem dX9_often_69 : decode cX9_often 69 = .ok (.goto (-27), 3) := by decide +kernel
theorem dX9_often_72 : decode cX9_often 72 = .ok (.aload_n 0, 1) := by decide +kernel
theorem dX9_often_73 : decode cX9_often 73 = .ok (.iload_n 3, 1) := by decide +kernel
theorem dX9_often_74 : decode cX9_often 74 = .ok (.putfield 409, 3) := by decide +kernel
theorem dX9_often_77 : decode cX9_often 77 = .ok (.iconst 0, 1) := by decide +kernel
theorem dX9_often_78 : decode cX9_often 78 = .ok (.istore 6, 2) := by decide +kernel
theorem dX9_often_80 : decode cX9_often 80 = .ok (.iconst 0, 1) := by decide +kernel
theorem dX9_often_81 : decode cX9_often 81 = .ok (.istore 7, 2) := by decide +kernel
theorem dX9_often_83 : decode cX9_often 83 = .ok (.iconst 0, 1) := by decide +kernel
theorem dX9_often_84 : decode cX9_often 84 = .ok (.istore 8, 2) := by decide +kernel
theorem dX9_often_86 : decode cX9_often 86 = .ok (.iconst 0, 1) := by decide +kernel
theorem dX9_often_87 : decode cX9_often 87 = .ok (.istore 9, 2) := by decide +kernel
theorem dX9_often_89 : decode cX9_often 89 = .ok (.iload 9, 2) := by decide +kernel
theorem dX9_often_91 : decode cX9_often 91 = .ok (.iload_n 2, 1) := by decide +kernel
theorem dX9_often_92 : decode cX9_often 92 = .ok (.if_icmp .ge 111, 3) := by decide +kernel
theorem dX9_often_95 : decode cX9_often 95 = .ok (.aload_n 0, 1) := by decide +kernel
theorem dX9_often_96 : decode cX9_often 96 = .ok (.invokevirtual 416, 3) := by decide +kernel
theorem dX9_often_99 : decode cX9_often 99 = .ok (.pop, 1) := by decide +kernel
theorem dX9_often_100 : decode cX9_often 100 = .ok (.iload 6, 2) := by decide +kernel
theorem dX9_often_102 : decode cX9_often 102 = .ok (.aload_n 0, 1) := by decide +kernel
theorem dX9_often_103 : decode cX9_often 103 = .ok (.iload_n 1, 1) := by decide +kernel
theorem dX9_often_104 : decode cX9_often 104 = .ok (.invokevirtual 121, 3) := by decide +kernel
theorem dX9_often_107 : decode cX9_often 107 = .ok (.ifCond .ne 15, 3) := by decide +kernel
theorem dX9_often_110 : decode cX9_often 110 = .ok (.aload_n 0, 1) := by decide +kernel
theorem dX9_often_111 : decode cX9_often 111 = .ok (.iload_n 1, 1) := by decide +kernel
theorem dX9_often_112 : decode cX9_often 112 = .ok (.invokevirtual 177, 3) := by decide +kernel
theorem dX9_often_115 : decode cX9_often 115 = .ok (.ifCond .ne 7, 3) := by decide +kernel
theorem dX9_often_118 : decode cX9_often 118 = .ok (.iconst 1, 1) := by decide +kernel
theorem dX9_often_119 : decode cX9_often 119 = .ok (.goto 4, 3) := by decide +kernel
theorem dX9_often_122 : decode cX9_often 122 = .ok (.iconst 0, 1) := by decide +kernel
theorem dX9_often_123 : decode cX9_often 123 = .ok (.invokestatic 160, 3) := by decide +kernel
theorem dX9_often_126 : decode cX9_often 126 = .ok (.iadd, 1) := by decide +kernel
theorem dX9_often_127 : decode cX9_often 127 = .ok (.istore 6, 2) := by decide +kernel
theorem dX9_often_129 : decode cX9_often 129 = .ok (.iload 7, 2) := by decide +kernel
theorem dX9_often_131 : decode cX9_often 131 = .ok (.aload_n 0, 1) := by decide +kernel
theorem dX9_often_132 : decode cX9_often 132 = .ok (.iload_n 1, 1) := by decide +kernel
theorem dX9_often_133 : decode cX9_often 133 = .ok (.invokevirtual 121, 3) := by decide +kernel
theorem dX9_often_136 : decode cX9_often 136 = .ok (.invokestatic 160, 3) := by decide +kernel
theorem dX9_often_139 : decode cX9_often 139 = .ok (.iadd, 1) := by decide +kernel
theorem dX9_often_140 : decode cX9_often 140 = .ok (.istore 7, 2) := by decide +kernel
theorem dX9_often_142 : decode cX9_often 142 = .ok (.iload 8, 2) := by decide +kernel
theorem dX9_often_144 : decode cX9_often 144 = .ok (.aload_n 0, 1) := by decide +kernel
theorem dX9_often_145 : decode cX9_often 145 = .ok (.iload_n 1, 1) := by decide +kernel
theorem dX9_often_146 : decode cX9_often 146 = .ok (.invokevirtual 167, 3) := by decide +kernel
theorem dX9_often_149 : decode cX9_often 149 = .ok (.iadd, 1) := by decide +kernel
theorem dX9_often_150 : decode cX9_often 150 = .ok (.istore 8, 2) := by decide +kernel
theorem dX9_often_152 : decode cX9_often 152 = .ok (.iconst 0, 1) := by decide +kernel
theorem dX9_often_153 : decode cX9_often 153 = .ok (.istore 10, 2) := by decide +kernel
theorem dX9_often_155 : decode cX9_often 155 = .ok (.iload 10, 2) := by decide +kernel
theorem dX9_often_157 : decode cX9_often 157 = .ok (.aload_n 0, 1) := by decide +kernel
theorem dX9_often_158 : decode cX9_often 158 = .ok (.getfield 32, 3) := by decide +kernel
theorem dX9_often_161 : decode cX9_often 161 = .ok (.arraylength, 1) := by decide +kernel
theorem dX9_often_162 : decode cX9_often 162 = .ok (.if_icmp .ge 23, 3) := by decide +kernel
theorem dX9_often_165 : decode cX9_often 165 = .ok (.aload_n 0, 1) := by decide +kernel
theorem dX9_often_166 : decode cX9_often 166 = .ok (.getfield 32, 3) := by decide +kernel
theorem dX9_often_169 : decode cX9_often 169 = .ok (.iload 10, 2) := by decide +kernel
theorem dX9_often_171 : decode cX9_often 171 = .ok (.aload_n 0, 1) := by decide +kernel
theorem dX9_often_172 : decode cX9_often 172 = .ok (.getfield 35, 3) := by decide +kernel
theorem dX9_often_175 : decode cX9_often 175 = .ok (.iload 10, 2) := by decide +kernel
theorem dX9_often_177 : decode cX9_often 177 = .ok (.iaload, 1) := by decide +kernel
theorem dX9_often_178 : decode cX9_often 178 = .ok (.iastore, 1) := by decide +kernel
theorem dX9_often_179 : decode cX9_often 179 = .ok (.iinc 10 1, 3) := by decide +kernel
theorem dX9_often_182 : decode cX9_often 182 = .ok (.goto (-27), 3) := by decide +kernel
theorem dX9_often_185 : decode cX9_often 185 = .ok (.aload_n 0, 1) := by decide +kernel
theorem dX9_often_186 : decode cX9_often 186 = .ok (.iload 4, 2) := by decide +kernel
theorem dX9_often_188 : decode cX9_often 188 = .ok (.putfield 131, 3) := by decide +kernel
theorem dX9_often_191 : decode cX9_often 191 = .ok (.aload_n 0, 1) := by decide +kernel
theorem dX9_often_192 : decode cX9_often 192 = .ok (.iload 5, 2) := by decide +kernel
theorem dX9_often_194 : decode cX9_often 194 = .ok (.putfield 134, 3) := by decide +kernel
theorem dX9_often_197 : decode cX9_often 197 = .ok (.iinc 9 1, 3) := by decide +kernel
theorem dX9_often_200 : decode cX9_often 200 = .ok (.goto (-111), 3) := by decide +kernel
theorem dX9_often_203 : decode cX9_often 203 = .ok (.aload_n 0, 1) := by decide +kernel
theorem dX9_often_204 : decode cX9_often 204 = .ok (.iconst 0, 1) := by decide +kernel
theorem dX9_often_205 : decode cX9_often 205 = .ok (.putfield 81, 3) := by decide +kernel
theorem dX9_often_208 : decode cX9_often 208 = .ok (.aload_n 0, 1) := by decide +kernel
theorem dX9_often_209 : decode cX9_often 209 = .ok (.iload 7, 2) := by decide +kernel
theorem dX9_often_211 : decode cX9_often 211 = .ok (.i2l, 1) := by decide +kernel
theorem dX9_often_212 : decode cX9_often 212 = .ok (.invokevirtual 180, 3) := by decide +kernel
theorem dX9_often_215 : decode cX9_often 215 = .ok (.aload_n 0, 1) := by decide +kernel
theorem dX9_often_216 : decode cX9_often 216 = .ok (.iload 8, 2) := by decide +kernel
theorem dX9_often_218 : decode cX9_often 218 = .ok (.i2l, 1) := by decide +kernel
theorem dX9_often_219 : decode cX9_often 219 = .ok (.invokevirtual 180, 3) := by decide +kernel
theorem dX9_often_222 : decode cX9_often 222 = .ok (.iload 6, 2) := by decide +kernel
theorem dX9_often_224 : decode cX9_often 224 = .ok (.ireturn, 1) := by decide +kernel
theorem dX9_outs_0 : decode cX9_outs 0 = .ok (.iconst 0, 1) := by decide +kernel
theorem dX9_outs_1 : decode cX9_outs 1 = .ok (.istore_n 1, 1) := by decide +kernel
theorem dX9_outs_2 : decode cX9_outs 2 = .ok (.iconst 0, 1) := by decide +kernel
theorem dX9_outs_3 : decode cX9_outs 3 = .ok (.istore_n 2, 1) := by decide +kernel
theorem dX9_outs_4 : decode cX9_outs 4 = .ok (.iload_n 2, 1) := by decide +kernel
theorem dX9_outs_5 : decode cX9_outs 5 = .ok (.aload_n 0, 1) := by decide +kernel
theorem dX9_outs_6 : decode cX9_outs 6 = .ok (.getfield 84, 3) := by decide +kernel
theorem dX9_outs_9 : decode cX9_outs 9 = .ok (.if_icmp .ge 21, 3) := by decide +kernel
theorem dX9_outs_12 : decode cX9_outs 12 = .ok (.iload_n 1, 1) := by decide +kernel
theorem dX9_outs_13 : decode cX9_outs 13 = .ok (.aload_n 0, 1) := by decide +kernel
theorem dX9_outs_14 : decode cX9_outs 14 = .ok (.iload_n 2, 1) := by decide +kernel
theorem dX9_outs_15 : decode cX9_outs 15 = .ok (.bipush 6, 2) := by decide +kernel
theorem dX9_outs_17 : decode cX9_outs 17 = .ok (.invokevirtual 106, 3) := by decide +kernel
theorem dX9_outs_20 : decode cX9_outs 20 = .ok (.iload_n 2, 1) := by decide +kernel
theorem dX9_outs_21 : decode cX9_outs 21 = .ok (.ishl, 1) := by decide +kernel
theorem dX9_outs_22 : decode cX9_outs 22 = .ok (.ior, 1) := by decide +kernel
theorem dX9_outs_23 : decode cX9_outs 23 = .ok (.istore_n 1, 1) := by decide +kernel
theorem dX9_outs_24 : decode cX9_outs 24 = .ok (.iinc 2 1, 3) := by decide +kernel
theorem dX9_outs_27 : decode cX9_outs 27 = .ok (.goto (-23), 3) := by decide +kernel
theorem dX9_outs_30 : decode cX9_outs 30 = .ok (.iload_n 1, 1) := by decide +kernel
theorem dX9_outs_31 : decode cX9_outs 31 = .ok (.ireturn, 1) := by decide +kernel
theorem dX9_count_0 : decode cX9_count 0 = .ok (.aload_n 0, 1) := by decide +kernel
theorem dX9_count_1 : decode cX9_count 1 = .ok (.iconst 0, 1) := by decide +kernel
theorem dX9_count_2 : decode cX9_count 2 = .ok (.putfield 77, 3) := by decide +kernel
theorem dX9_count_5 : decode cX9_count 5 = .ok (.iload_n 1, 1) := by decide +kernel
theorem dX9_count_6 : decode cX9_count 6 = .ok (.tableswitch 110 0 9 #[54, 59, 66, 73, 80, 85, 90, 95, 100, 105], 54) := by decide +kernel
theorem dX9_count_60 : decode cX9_count 60 = .ok (.aload_n 0, 1) := by decide +kernel
theorem dX9_count_61 : decode cX9_count 61 = .ok (.getfield 84, 3) := by decide +kernel
theorem dX9_count_64 : decode cX9_count 64 = .ok (.ireturn, 1) := by decide +kernel
theorem dX9_count_65 : decode cX9_count 65 = .ok (.aload_n 0, 1) := by decide +kernel
theorem dX9_count_66 : decode cX9_count 66 = .ok (.getfield 32, 3) := by decide +kernel
theorem dX9_count_69 : decode cX9_count 69 = .ok (.iconst 0, 1) := by decide +kernel
theorem dX9_count_70 : decode cX9_count 70 = .ok (.iaload, 1) := by decide +kernel
theorem dX9_count_71 : decode cX9_count 71 = .ok (.ireturn, 1) := by decide +kernel
theorem dX9_count_72 : decode cX9_count 72 = .ok (.aload_n 0, 1) := by decide +kernel
theorem dX9_count_73 : decode cX9_count 73 = .ok (.getfield 32, 3) := by decide +kernel
theorem dX9_count_76 : decode cX9_count 76 = .ok (.iconst 1, 1) := by decide +kernel
theorem dX9_count_77 : decode cX9_count 77 = .ok (.iaload, 1) := by decide +kernel
theorem dX9_count_78 : decode cX9_count 78 = .ok (.ireturn, 1) := by decide +kernel
theorem dX9_count_79 : decode cX9_count 79 = .ok (.aload_n 0, 1) := by decide +kernel
theorem dX9_count_80 : decode cX9_count 80 = .ok (.getfield 32, 3) := by decide +kernel
theorem dX9_count_83 : decode cX9_count 83 = .ok (.iconst 2, 1) := by decide +kernel
theorem dX9_count_84 : decode cX9_count 84 = .ok (.iaload, 1) := by decide +kernel
theorem dX9_count_85 : decode cX9_count 85 = .ok (.ireturn, 1) := by decide +kernel
theorem dX9_count_86 : decode cX9_count 86 = .ok (.aload_n 0, 1) := by decide +kernel
theorem dX9_count_87 : decode cX9_count 87 = .ok (.getfield 131, 3) := by decide +kernel
theorem dX9_count_90 : decode cX9_count 90 = .ok (.ireturn, 1) := by decide +kernel
theorem dX9_count_91 : decode cX9_count 91 = .ok (.aload_n 0, 1) := by decide +kernel
theorem dX9_count_92 : decode cX9_count 92 = .ok (.getfield 134, 3) := by decide +kernel
theorem dX9_count_95 : decode cX9_count 95 = .ok (.ireturn, 1) := by decide +kernel
theorem dX9_count_96 : decode cX9_count 96 = .ok (.aload_n 0, 1) := by decide +kernel
theorem dX9_count_97 : decode cX9_count 97 = .ok (.getfield 97, 3) := by decide +kernel
theorem dX9_count_100 : decode cX9_count 100 = .ok (.ireturn, 1) := by decide +kernel
theorem dX9_count_101 : decode cX9_count 101 = .ok (.aload_n 0, 1) := by decide +kernel
theorem dX9_count_102 : decode cX9_count 102 = .ok (.getfield 81, 3) := by decide +kernel
theorem dX9_count_105 : decode cX9_count 105 = .ok (.ireturn, 1) := by decide +kernel
theorem dX9_count_106 : decode cX9_count 106 = .ok (.aload_n 0, 1) := by decide +kernel
theorem dX9_count_107 : decode cX9_count 107 = .ok (.getfield 184, 3) := by decide +kernel
theorem dX9_count_110 : decode cX9_count 110 = .ok (.ireturn, 1) := by decide +kernel
theorem dX9_count_111 : decode cX9_count 111 = .ok (.aload_n 0, 1) := by decide +kernel
theorem dX9_count_112 : decode cX9_count 112 = .ok (.invokevirtual 421, 3) := by decide +kernel
theorem dX9_count_115 : decode cX9_count 115 = .ok (.ireturn, 1) := by decide +kernel
theorem dX9_count_116 : decode cX9_count 116 = .ok (.iconst (-1), 1) := by decide +kernel
theorem dX9_count_117 : decode cX9_count 117 = .ok (.ireturn, 1) := by decide +kernel
theorem dX9_row_0 : decode cX9_row 0 = .ok (.aload_n 0, 1) := by decide +kernel
theorem dX9_row_1 : decode cX9_row 1 = .ok (.iload_n 1, 1) := by decide +kernel
theorem dX9_row_2 : decode cX9_row 2 = .ok (.i2l, 1) := by decide +kernel
theorem dX9_row_3 : decode cX9_row 3 = .ok (.lconst 0, 1) := by decide +kernel
theorem dX9_row_4 : decode cX9_row 4 = .ok (.aload_n 0, 1) := by decide +kernel
theorem dX9_row_5 : decode cX9_row 5 = .ok (.getfield 81, 3) := by decide +kernel
theorem dX9_row_8 : decode cX9_row 8 = .ok (.iconst 1, 1) := by decide +kernel
theorem dX9_row_9 : decode cX9_row 9 = .ok (.isub, 1) := by decide +kernel
theorem dX9_row_10 : decode cX9_row 10 = .ok (.i2l, 1) := by decide +kernel
theorem dX9_row_11 : decode cX9_row 11 = .ok (.invokestatic 87, 3) := by decide +kernel
theorem dX9_row_14 : decode cX9_row 14 = .ok (.ifCond .ne 7, 3) := by decide +kernel
theorem dX9_row_17 : decode cX9_row 17 = .ok (.iconst 1, 1) := by decide +kernel
theorem dX9_row_18 : decode cX9_row 18 = .ok (.goto 4, 3) := by decide +kernel
theorem dX9_row_21 : decode cX9_row 21 = .ok (.iconst 0, 1) := by decide +kernel
theorem dX9_row_22 : decode cX9_row 22 = .ok (.invokestatic 160, 3) := by decide +kernel
theorem dX9_row_25 : decode cX9_row 25 = .ok (.putfield 77, 3) := by decide +kernel
theorem dX9_row_28 : decode cX9_row 28 = .ok (.aload_n 0, 1) := by decide +kernel
theorem dX9_row_29 : decode cX9_row 29 = .ok (.getfield 77, 3) := by decide +kernel
theorem dX9_row_32 : decode cX9_row 32 = .ok (.iconst 1, 1) := by decide +kernel
theorem dX9_row_33 : decode cX9_row 33 = .ok (.if_icmp .ne 7, 3) := by decide +kernel
theorem dX9_row_36 : decode cX9_row 36 = .ok (.lconst 0, 1) := by decide +kernel
theorem dX9_row_37 : decode cX9_row 37 = .ok (.goto 9, 3) := by decide +kernel
theorem dX9_row_40 : decode cX9_row 40 = .ok (.aload_n 0, 1) := by decide +kernel
theorem dX9_row_41 : decode cX9_row 41 = .ok (.getfield 7, 3) := by decide +kernel
theorem dX9_row_44 : decode cX9_row 44 = .ok (.iload_n 1, 1) := by decide +kernel
theorem dX9_row_45 : decode cX9_row 45 = .ok (.laload, 1) := by decide +kernel
theorem dX9_row_46 : decode cX9_row 46 = .ok (.lreturn, 1) := by decide +kernel
theorem dL_row_0 : decode cL_row 0 = .ok (.aload_n 2, 1) := by decide +kernel
theorem dL_row_1 : decode cL_row 1 = .ok (.iconst 0, 1) := by decide +kernel
theorem dL_row_2 : decode cL_row 2 = .ok (.aload_n 0, 1) := by decide +kernel
theorem dL_row_3 : decode cL_row 3 = .ok (.iload_n 1, 1) := by decide +kernel
theorem dL_row_4 : decode cL_row 4 = .ok (.invokevirtual 7, 3) := by decide +kernel
theorem dL_row_7 : decode cL_row 7 = .ok (.lastore, 1) := by decide +kernel
theorem dL_row_8 : decode cL_row 8 = .ok (.goto 6, 3) := by decide +kernel
theorem dL_row_11 : decode cL_row 11 = .ok (.astore_n 3, 1) := by decide +kernel
theorem dL_row_12 : decode cL_row 12 = .ok (.iconst 1, 1) := by decide +kernel
theorem dL_row_13 : decode cL_row 13 = .ok (.ireturn, 1) := by decide +kernel
theorem dL_row_14 : decode cL_row 14 = .ok (.iconst 0, 1) := by decide +kernel
theorem dL_row_15 : decode cL_row 15 = .ok (.ireturn, 1) := by decide +kernel
theorem dL_law_0 : decode cL_law 0 = .ok (.new 8, 3) := by decide +kernel
theorem dL_law_3 : decode cL_law 3 = .ok (.dup, 1) := by decide +kernel
theorem dL_law_4 : decode cL_law 4 = .ok (.invokespecial 15, 3) := by decide +kernel
theorem dL_law_7 : decode cL_law 7 = .ok (.astore_n 1, 1) := by decide +kernel
theorem dL_law_8 : decode cL_law 8 = .ok (.new 16, 3) := by decide +kernel
theorem dL_law_11 : decode cL_law 11 = .ok (.dup, 1) := by decide +kernel
theorem dL_law_12 : decode cL_law 12 = .ok (.invokespecial 18, 3) := by decide +kernel
theorem dL_law_15 : decode cL_law 15 = .ok (.astore_n 2, 1) := by decide +kernel
theorem dL_law_16 : decode cL_law 16 = .ok (.iconst 1, 1) := by decide +kernel
theorem dL_law_17 : decode cL_law 17 = .ok (.newarray .long, 2) := by decide +kernel
theorem dL_law_19 : decode cL_law 19 = .ok (.astore_n 3, 1) := by decide +kernel
theorem dL_law_20 : decode cL_law 20 = .ok (.iconst 0, 1) := by decide +kernel
theorem dL_law_21 : decode cL_law 21 = .ok (.istore 4, 2) := by decide +kernel
theorem dL_law_23 : decode cL_law 23 = .ok (.iload 4, 2) := by decide +kernel
theorem dL_law_25 : decode cL_law 25 = .ok (.aload_n 0, 1) := by decide +kernel
theorem dL_law_26 : decode cL_law 26 = .ok (.arraylength, 1) := by decide +kernel
theorem dL_law_27 : decode cL_law 27 = .ok (.iconst 5, 1) := by decide +kernel
theorem dL_law_28 : decode cL_law 28 = .ok (.isub, 1) := by decide +kernel
theorem dL_law_29 : decode cL_law 29 = .ok (.if_icmp .gt 1399, 3) := by decide +kernel
theorem dL_law_32 : decode cL_law 32 = .ok (.aload_n 0, 1) := by decide +kernel
theorem dL_law_33 : decode cL_law 33 = .ok (.iload 4, 2) := by decide +kernel
theorem dL_law_35 : decode cL_law 35 = .ok (.iaload, 1) := by decide +kernel
theorem dL_law_36 : decode cL_law 36 = .ok (.bipush 63, 2) := by decide +kernel
theorem dL_law_38 : decode cL_law 38 = .ok (.iand, 1) := by decide +kernel
theorem dL_law_39 : decode cL_law 39 = .ok (.tableswitch 1383 0 35 #[157, 182, 207, 220, 233, 294, 319, 332, 393, 442, 455, 468, 505, 546, 583, 608, 645, 682, 707, 744, 769, 806, 831, 856, 905, 930, 967, 1004, 1041, 1066, 1131, 1168, 1229, 1254, 1303, 1328], 157) := by decide +kernel
theorem dL_law_196 : decode cL_law 196 = .ok (.aload_n 1, 1) := by decide +kernel
theorem dL_law_197 : decode cL_law 197 = .ok (.aload_n 0, 1) := by decide +kernel
theorem dL_law_198 : decode cL_law 198 = .ok (.iload 4, 2) := by decide +kernel
theorem dL_law_200 : decode cL_law 200 = .ok (.iconst 1, 1) := by decide +kernel
theorem dL_law_201 : decode cL_law 201 = .ok (.iadd, 1) := by decide +kernel
theorem dL_law_202 : decode cL_law 202 = .ok (.iaload, 1) := by decide +kernel
theorem dL_law_203 : decode cL_law 203 = .ok (.invokevirtual 19, 3) := by decide +kernel
theorem dL_law_206 : decode cL_law 206 = .ok (.aload_n 2, 1) := by decide +kernel
theorem dL_law_207 : decode cL_law 207 = .ok (.aload_n 0, 1) := by decide +kernel
theorem dL_law_208 : decode cL_law 208 = .ok (.iload 4, 2) := by decide +kernel
theorem dL_law_210 : decode cL_law 210 = .ok (.iconst 1, 1) := by decide +kernel
theorem dL_law_211 : decode cL_law 211 = .ok (.iadd, 1) := by decide +kernel
theorem dL_law_212 : decode cL_law 212 = .ok (.iaload, 1) := by decide +kernel
theorem dL_law_213 : decode cL_law 213 = .ok (.invokevirtual 23, 3) := by decide +kernel
theorem dL_law_216 : decode cL_law 216 = .ok (.if_icmp .eq 1206, 3) := by decide +kernel
theorem dL_law_219 : decode cL_law 219 = .ok (.iconst 0, 1) := by decide +kernel
theorem dL_law_220 : decode cL_law 220 = .ok (.ireturn, 1) := by decide +kernel
theorem dL_law_221 : decode cL_law 221 = .ok (.aload_n 1, 1) := by decide +kernel
theorem dL_law_222 : decode cL_law 222 = .ok (.aload_n 0, 1) := by decide +kernel
theorem dL_law_223 : decode cL_law 223 = .ok (.iload 4, 2) := by decide +kernel
theorem dL_law_225 : decode cL_law 225 = .ok (.iconst 1, 1) := by decide +kernel
theorem dL_law_226 : decode cL_law 226 = .ok (.iadd, 1) := by decide +kernel
theorem dL_law_227 : decode cL_law 227 = .ok (.iaload, 1) := by decide +kernel
theorem dL_law_228 : decode cL_law 228 = .ok (.invokevirtual 24, 3) := by decide +kernel
theorem dL_law_231 : decode cL_law 231 = .ok (.aload_n 2, 1) := by decide +kernel
theorem dL_law_232 : decode cL_law 232 = .ok (.aload_n 0, 1) := by decide +kernel
theorem dL_law_233 : decode cL_law 233 = .ok (.iload 4, 2) := by decide +kernel
theorem dL_law_235 : decode cL_law 235 = .ok (.iconst 1, 1) := by decide +kernel
theorem dL_law_236 : decode cL_law 236 = .ok (.iadd, 1) := by decide +kernel
theorem dL_law_237 : decode cL_law 237 = .ok (.iaload, 1) := by decide +kernel
theorem dL_law_238 : decode cL_law 238 = .ok (.invokevirtual 28, 3) := by decide +kernel
theorem dL_law_241 : decode cL_law 241 = .ok (.if_icmp .eq 1181, 3) := by decide +kernel
theorem dL_law_244 : decode cL_law 244 = .ok (.iconst 0, 1) := by decide +kernel
theorem dL_law_245 : decode cL_law 245 = .ok (.ireturn, 1) := by decide +kernel
theorem dL_law_246 : decode cL_law 246 = .ok (.aload_n 1, 1) := by decide +kernel
theorem dL_law_247 : decode cL_law 247 = .ok (.invokevirtual 29, 3) := by decide +kernel
theorem dL_law_250 : decode cL_law 250 = .ok (.aload_n 2, 1) := by decide +kernel
theorem dL_law_251 : decode cL_law 251 = .ok (.invokevirtual 33, 3) := by decide +kernel
theorem dL_law_254 : decode cL_law 254 = .ok (.if_icmp .eq 1168, 3) := by decide +kernel
theorem dL_law_257 : decode cL_law 257 = .ok (.iconst 0, 1) := by decide +kernel
theorem dL_law_258 : decode cL_law 258 = .ok (.ireturn, 1) := by decide +kernel
theorem dL_law_259 : decode cL_law 259 = .ok (.aload_n 1, 1) := by decide +kernel
theorem dL_law_260 : decode cL_law 260 = .ok (.invokevirtual 34, 3) := by decide +kernel
theorem dL_law_263 : decode cL_law 263 = .ok (.aload_n 2, 1) := by decide +kernel
theorem dL_law_264 : decode cL_law 264 = .ok (.invokevirtual 37, 3) := by decide +kernel
theorem dL_law_267 : decode cL_law 267 = .ok (.if_icmp .eq 1155, 3) := by decide +kernel
theorem dL_law_270 : decode cL_law 270 = .ok (.iconst 0, 1) := by decide +kernel
theorem dL_law_271 : decode cL_law 271 = .ok (.ireturn, 1) := by decide +kernel
theorem dL_law_272 : decode cL_law 272 = .ok (.aload_n 1, 1) := by decide +kernel
theorem dL_law_273 : decode cL_law 273 = .ok (.aload_n 0, 1) := by decide +kernel
theorem dL_law_274 : decode cL_law 274 = .ok (.iload 4, 2) := by decide +kernel
theorem dL_law_276 : decode cL_law 276 = .ok (.iconst 1, 1) := by decide +kernel
theorem dL_law_277 : decode cL_law 277 = .ok (.iadd, 1) := by decide +kernel
theorem dL_law_278 : decode cL_law 278 = .ok (.iaload, 1) := by decide +kernel
theorem dL_law_279 : decode cL_law 279 = .ok (.aload_n 0, 1) := by decide +kernel
theorem dL_law_280 : decode cL_law 280 = .ok (.iload 4, 2) := by decide +kernel
theorem dL_law_282 : decode cL_law 282 = .ok (.iconst 2, 1) := by decide +kernel
theorem dL_law_283 : decode cL_law 283 = .ok (.iadd, 1) := by decide +kernel
theorem dL_law_284 : decode cL_law 284 = .ok (.iaload, 1) := by decide +kernel
theorem dL_law_285 : decode cL_law 285 = .ok (.aload_n 0, 1) := by decide +kernel
theorem dL_law_286 : decode cL_law 286 = .ok (.iload 4, 2) := by decide +kernel
theorem dL_law_288 : decode cL_law 288 = .ok (.iconst 3, 1) := by decide +kernel
theorem dL_law_289 : decode cL_law 289 = .ok (.iadd, 1) := by decide +kernel
theorem dL_law_290 : decode cL_law 290 = .ok (.iaload, 1) := by decide +kernel
theorem dL_law_291 : decode cL_law 291 = .ok (.aload_n 0, 1) := by decide +kernel
theorem dL_law_292 : decode cL_law 292 = .ok (.iload 4, 2) := by decide +kernel
theorem dL_law_294 : decode cL_law 294 = .ok (.iconst 4, 1) := by decide +kernel
theorem dL_law_295 : decode cL_law 295 = .ok (.iadd, 1) := by decide +kernel
theorem dL_law_296 : decode cL_law 296 = .ok (.iaload, 1) := by decide +kernel
theorem dL_law_297 : decode cL_law 297 = .ok (.invokevirtual 38, 3) := by decide +kernel
theorem dL_law_300 : decode cL_law 300 = .ok (.aload_n 2, 1) := by decide +kernel
theorem dL_law_301 : decode cL_law 301 = .ok (.aload_n 0, 1) := by decide +kernel
theorem dL_law_302 : decode cL_law 302 = .ok (.iload 4, 2) := by decide +kernel
theorem dL_law_304 : decode cL_law 304 = .ok (.iconst 1, 1) := by decide +kernel
theorem dL_law_305 : decode cL_law 305 = .ok (.iadd, 1) := by decide +kernel
theorem dL_law_306 : decode cL_law 306 = .ok (.iaload, 1) := by decide +kernel
theorem dL_law_307 : decode cL_law 307 = .ok (.aload_n 0, 1) := by decide +kernel
theorem dL_law_308 : decode cL_law 308 = .ok (.iload 4, 2) := by decide +kernel
theorem dL_law_310 : decode cL_law 310 = .ok (.iconst 2, 1) := by decide +kernel
theorem dL_law_311 : decode cL_law 311 = .ok (.iadd, 1) := by decide +kernel
theorem dL_law_312 : decode cL_law 312 = .ok (.iaload, 1) := by decide +kernel
theorem dL_law_313 : decode cL_law 313 = .ok (.aload_n 0, 1) := by decide +kernel
theorem dL_law_314 : decode cL_law 314 = .ok (.iload 4, 2) := by decide +kernel
theorem dL_law_316 : decode cL_law 316 = .ok (.iconst 3, 1) := by decide +kernel
theorem dL_law_317 : decode cL_law 317 = .ok (.iadd, 1) := by decide +kernel
theorem dL_law_318 : decode cL_law 318 = .ok (.iaload, 1) := by decide +kernel
theorem dL_law_319 : decode cL_law 319 = .ok (.aload_n 0, 1) := by decide +kernel
theorem dL_law_320 : decode cL_law 320 = .ok (.iload 4, 2) := by decide +kernel
theorem dL_law_322 : decode cL_law 322 = .ok (.iconst 4, 1) := by decide +kernel
theorem dL_law_323 : decode cL_law 323 = .ok (.iadd, 1) := by decide +kernel
theorem dL_law_324 : decode cL_law 324 = .ok (.iaload, 1) := by decide +kernel
theorem dL_law_325 : decode cL_law 325 = .ok (.invokevirtual 42, 3) := by decide +kernel
theorem dL_law_328 : decode cL_law 328 = .ok (.if_icmp .eq 1094, 3) := by decide +kernel
theorem dL_law_331 : decode cL_law 331 = .ok (.iconst 0, 1) := by decide +kernel
theorem dL_law_332 : decode cL_law 332 = .ok (.ireturn, 1) := by decide +kernel
theorem dL_law_333 : decode cL_law 333 = .ok (.aload_n 1, 1) := by decide +kernel
theorem dL_law_334 : decode cL_law 334 = .ok (.aload_n 0, 1) := by decide +kernel
theorem dL_law_335 : decode cL_law 335 = .ok (.iload 4, 2) := by decide +kernel
theorem dL_law_337 : decode cL_law 337 = .ok (.iconst 1, 1) := by decide +kernel
theorem dL_law_338 : decode cL_law 338 = .ok (.iadd, 1) := by decide +kernel
theorem dL_law_339 : decode cL_law 339 = .ok (.iaload, 1) := by decide +kernel
theorem dL_law_340 : decode cL_law 340 = .ok (.invokevirtual 43, 3) := by decide +kernel
theorem dL_law_343 : decode cL_law 343 = .ok (.aload_n 2, 1) := by decide +kernel
theorem dL_law_344 : decode cL_law 344 = .ok (.aload_n 0, 1) := by decide +kernel
theorem dL_law_345 : decode cL_law 345 = .ok (.iload 4, 2) := by decide +kernel
theorem dL_law_347 : decode cL_law 347 = .ok (.iconst 1, 1) := by decide +kernel
theorem dL_law_348 : decode cL_law 348 = .ok (.iadd, 1) := by decide +kernel
theorem dL_law_349 : decode cL_law 349 = .ok (.iaload, 1) := by decide +kernel
theorem dL_law_350 : decode cL_law 350 = .ok (.invokevirtual 46, 3) := by decide +kernel
theorem dL_law_353 : decode cL_law 353 = .ok (.if_icmp .eq 1069, 3) := by decide +kernel
theorem dL_law_356 : decode cL_law 356 = .ok (.iconst 0, 1) := by decide +kernel
theorem dL_law_357 : decode cL_law 357 = .ok (.ireturn, 1) := by decide +kernel
theorem dL_law_358 : decode cL_law 358 = .ok (.aload_n 1, 1) := by decide +kernel
theorem dL_law_359 : decode cL_law 359 = .ok (.invokevirtual 47, 3) := by decide +kernel
theorem dL_law_362 : decode cL_law 362 = .ok (.aload_n 2, 1) := by decide +kernel
theorem dL_law_363 : decode cL_law 363 = .ok (.invokevirtual 50, 3) := by decide +kernel
theorem dL_law_366 : decode cL_law 366 = .ok (.if_icmp .eq 1056, 3) := by decide +kernel
theorem dL_law_369 : decode cL_law 369 = .ok (.iconst 0, 1) := by decide +kernel
theorem dL_law_370 : decode cL_law 370 = .ok (.ireturn, 1) := by decide +kernel
theorem dL_law_371 : decode cL_law 371 = .ok (.aload_n 1, 1) := by decide +kernel
theorem dL_law_372 : decode cL_law 372 = .ok (.aload_n 0, 1) := by decide +kernel
theorem dL_law_373 : decode cL_law 373 = .ok (.iload 4, 2) := by decide +kernel
theorem dL_law_375 : decode cL_law 375 = .ok (.iconst 1, 1) := by decide +kernel
theorem dL_law_376 : decode cL_law 376 = .ok (.iadd, 1) := by decide +kernel
theorem dL_law_377 : decode cL_law 377 = .ok (.iaload, 1) := by decide +kernel
theorem dL_law_378 : decode cL_law 378 = .ok (.aload_n 0, 1) := by decide +kernel
theorem dL_law_379 : decode cL_law 379 = .ok (.iload 4, 2) := by decide +kernel
theorem dL_law_381 : decode cL_law 381 = .ok (.iconst 2, 1) := by decide +kernel
theorem dL_law_382 : decode cL_law 382 = .ok (.iadd, 1) := by decide +kernel
theorem dL_law_383 : decode cL_law 383 = .ok (.iaload, 1) := by decide +kernel
theorem dL_law_384 : decode cL_law 384 = .ok (.aload_n 0, 1) := by decide +kernel
theorem dL_law_385 : decode cL_law 385 = .ok (.iload 4, 2) := by decide +kernel
theorem dL_law_387 : decode cL_law 387 = .ok (.iconst 3, 1) := by decide +kernel
theorem dL_law_388 : decode cL_law 388 = .ok (.iadd, 1) := by decide +kernel
theorem dL_law_389 : decode cL_law 389 = .ok (.iaload, 1) := by decide +kernel
theorem dL_law_390 : decode cL_law 390 = .ok (.aload_n 0, 1) := by decide +kernel
theorem dL_law_391 : decode cL_law 391 = .ok (.iload 4, 2) := by decide +kernel
theorem dL_law_393 : decode cL_law 393 = .ok (.iconst 4, 1) := by decide +kernel
theorem dL_law_394 : decode cL_law 394 = .ok (.iadd, 1) := by decide +kernel
theorem dL_law_395 : decode cL_law 395 = .ok (.iaload, 1) := by decide +kernel
theorem dL_law_396 : decode cL_law 396 = .ok (.invokevirtual 51, 3) := by decide +kernel
theorem dL_law_399 : decode cL_law 399 = .ok (.aload_n 2, 1) := by decide +kernel
theorem dL_law_400 : decode cL_law 400 = .ok (.aload_n 0, 1) := by decide +kernel
theorem dL_law_401 : decode cL_law 401 = .ok (.iload 4, 2) := by decide +kernel
theorem dL_law_403 : decode cL_law 403 = .ok (.iconst 1, 1) := by decide +kernel
theorem dL_law_404 : decode cL_law 404 = .ok (.iadd, 1) := by decide +kernel
theorem dL_law_405 : decode cL_law 405 = .ok (.iaload, 1) := by decide +kernel
theorem dL_law_406 : decode cL_law 406 = .ok (.aload_n 0, 1) := by decide +kernel
theorem dL_law_407 : decode cL_law 407 = .ok (.iload 4, 2) := by decide +kernel
theorem dL_law_409 : decode cL_law 409 = .ok (.iconst 2, 1) := by decide +kernel
theorem dL_law_410 : decode cL_law 410 = .ok (.iadd, 1) := by decide +kernel
theorem dL_law_411 : decode cL_law 411 = .ok (.iaload, 1) := by decide +kernel
theorem dL_law_412 : decode cL_law 412 = .ok (.aload_n 0, 1) := by decide +kernel
theorem dL_law_413 : decode cL_law 413 = .ok (.iload 4, 2) := by decide +kernel
theorem dL_law_415 : decode cL_law 415 = .ok (.iconst 3, 1) := by decide +kernel
theorem dL_law_416 : decode cL_law 416 = .ok (.iadd, 1) := by decide +kernel
theorem dL_law_417 : decode cL_law 417 = .ok (.iaload, 1) := by decide +kernel
theorem dL_law_418 : decode cL_law 418 = .ok (.aload_n 0, 1) := by decide +kernel
theorem dL_law_419 : decode cL_law 419 = .ok (.iload 4, 2) := by decide +kernel
theorem dL_law_421 : decode cL_law 421 = .ok (.iconst 4, 1) := by decide +kernel
