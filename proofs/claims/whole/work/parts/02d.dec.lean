theorem dX8_odds_41 : decode cX8_odds 41 = .ok (.iload_n 2, 1) := by decide +kernel
theorem dX8_odds_42 : decode cX8_odds 42 = .ok (.iload_n 3, 1) := by decide +kernel
theorem dX8_odds_43 : decode cX8_odds 43 = .ok (.iload 4, 2) := by decide +kernel
theorem dX8_odds_45 : decode cX8_odds 45 = .ok (.aload_n 0, 1) := by decide +kernel
theorem dX8_odds_46 : decode cX8_odds 46 = .ok (.getfield 28, 3) := by decide +kernel
theorem dX8_odds_49 : decode cX8_odds 49 = .ok (.getfield 111, 3) := by decide +kernel
theorem dX8_odds_52 : decode cX8_odds 52 = .ok (.imul, 1) := by decide +kernel
theorem dX8_odds_53 : decode cX8_odds 53 = .ok (.invokevirtual 117, 3) := by decide +kernel
theorem dX8_odds_56 : decode cX8_odds 56 = .ok (.ireturn, 1) := by decide +kernel
theorem dX8_lifter_0 : decode cX8_lifter 0 = .ok (.aload_n 0, 1) := by decide +kernel
theorem dX8_lifter_1 : decode cX8_lifter 1 = .ok (.iload_n 1, 1) := by decide +kernel
theorem dX8_lifter_2 : decode cX8_lifter 2 = .ok (.invokevirtual 97, 3) := by decide +kernel
theorem dX8_lifter_5 : decode cX8_lifter 5 = .ok (.ifCond .eq 10, 3) := by decide +kernel
theorem dX8_lifter_8 : decode cX8_lifter 8 = .ok (.iload_n 2, 1) := by decide +kernel
theorem dX8_lifter_9 : decode cX8_lifter 9 = .ok (.invokestatic 100, 3) := by decide +kernel
theorem dX8_lifter_12 : decode cX8_lifter 12 = .ok (.ifCond .ne 5, 3) := by decide +kernel
theorem dX8_lifter_15 : decode cX8_lifter 15 = .ok (.iconst (-1), 1) := by decide +kernel
theorem dX8_lifter_16 : decode cX8_lifter 16 = .ok (.ireturn, 1) := by decide +kernel
theorem dX8_lifter_17 : decode cX8_lifter 17 = .ok (.aload_n 0, 1) := by decide +kernel
theorem dX8_lifter_18 : decode cX8_lifter 18 = .ok (.getfield 18, 3) := by decide +kernel
theorem dX8_lifter_21 : decode cX8_lifter 21 = .ok (.iload_n 1, 1) := by decide +kernel
theorem dX8_lifter_22 : decode cX8_lifter 22 = .ok (.aaload, 1) := by decide +kernel
theorem dX8_lifter_23 : decode cX8_lifter 23 = .ok (.astore 4, 2) := by decide +kernel
theorem dX8_lifter_25 : decode cX8_lifter 25 = .ok (.iload_n 3, 1) := by decide +kernel
theorem dX8_lifter_26 : decode cX8_lifter 26 = .ok (.tableswitch 195 0 11 #[62, 68, 74, 84, 96, 108, 122, 132, 141, 151, 168, 186], 62) := by decide +kernel
theorem dX8_lifter_88 : decode cX8_lifter 88 = .ok (.aload 4, 2) := by decide +kernel
theorem dX8_lifter_90 : decode cX8_lifter 90 = .ok (.getfield 121, 3) := by decide +kernel
theorem dX8_lifter_93 : decode cX8_lifter 93 = .ok (.ireturn, 1) := by decide +kernel
theorem dX8_lifter_94 : decode cX8_lifter 94 = .ok (.aload 4, 2) := by decide +kernel
theorem dX8_lifter_96 : decode cX8_lifter 96 = .ok (.getfield 124, 3) := by decide +kernel
theorem dX8_lifter_99 : decode cX8_lifter 99 = .ok (.ireturn, 1) := by decide +kernel
theorem dX8_lifter_100 : decode cX8_lifter 100 = .ok (.aload 4, 2) := by decide +kernel
theorem dX8_lifter_102 : decode cX8_lifter 102 = .ok (.getfield 107, 3) := by decide +kernel
theorem dX8_lifter_105 : decode cX8_lifter 105 = .ok (.iload_n 2, 1) := by decide +kernel
theorem dX8_lifter_106 : decode cX8_lifter 106 = .ok (.iconst 3, 1) := by decide +kernel
theorem dX8_lifter_107 : decode cX8_lifter 107 = .ok (.imul, 1) := by decide +kernel
theorem dX8_lifter_108 : decode cX8_lifter 108 = .ok (.iaload, 1) := by decide +kernel
theorem dX8_lifter_109 : decode cX8_lifter 109 = .ok (.ireturn, 1) := by decide +kernel
theorem dX8_lifter_110 : decode cX8_lifter 110 = .ok (.aload 4, 2) := by decide +kernel
theorem dX8_lifter_112 : decode cX8_lifter 112 = .ok (.getfield 107, 3) := by decide +kernel
theorem dX8_lifter_115 : decode cX8_lifter 115 = .ok (.iload_n 2, 1) := by decide +kernel
theorem dX8_lifter_116 : decode cX8_lifter 116 = .ok (.iconst 3, 1) := by decide +kernel
theorem dX8_lifter_117 : decode cX8_lifter 117 = .ok (.imul, 1) := by decide +kernel
theorem dX8_lifter_118 : decode cX8_lifter 118 = .ok (.iconst 1, 1) := by decide +kernel
theorem dX8_lifter_119 : decode cX8_lifter 119 = .ok (.iadd, 1) := by decide +kernel
theorem dX8_lifter_120 : decode cX8_lifter 120 = .ok (.iaload, 1) := by decide +kernel
theorem dX8_lifter_121 : decode cX8_lifter 121 = .ok (.ireturn, 1) := by decide +kernel
theorem dX8_lifter_122 : decode cX8_lifter 122 = .ok (.aload 4, 2) := by decide +kernel
theorem dX8_lifter_124 : decode cX8_lifter 124 = .ok (.getfield 107, 3) := by decide +kernel
theorem dX8_lifter_127 : decode cX8_lifter 127 = .ok (.iload_n 2, 1) := by decide +kernel
theorem dX8_lifter_128 : decode cX8_lifter 128 = .ok (.iconst 3, 1) := by decide +kernel
theorem dX8_lifter_129 : decode cX8_lifter 129 = .ok (.imul, 1) := by decide +kernel
theorem dX8_lifter_130 : decode cX8_lifter 130 = .ok (.iconst 2, 1) := by decide +kernel
theorem dX8_lifter_131 : decode cX8_lifter 131 = .ok (.iadd, 1) := by decide +kernel
theorem dX8_lifter_132 : decode cX8_lifter 132 = .ok (.iaload, 1) := by decide +kernel
theorem dX8_lifter_133 : decode cX8_lifter 133 = .ok (.ireturn, 1) := by decide +kernel
theorem dX8_lifter_134 : decode cX8_lifter 134 = .ok (.aload_n 0, 1) := by decide +kernel
theorem dX8_lifter_135 : decode cX8_lifter 135 = .ok (.getfield 28, 3) := by decide +kernel
theorem dX8_lifter_138 : decode cX8_lifter 138 = .ok (.getfield 127, 3) := by decide +kernel
theorem dX8_lifter_141 : decode cX8_lifter 141 = .ok (.iload_n 1, 1) := by decide +kernel
theorem dX8_lifter_142 : decode cX8_lifter 142 = .ok (.iconst 3, 1) := by decide +kernel
theorem dX8_lifter_143 : decode cX8_lifter 143 = .ok (.imul, 1) := by decide +kernel
theorem dX8_lifter_144 : decode cX8_lifter 144 = .ok (.iload_n 2, 1) := by decide +kernel
theorem dX8_lifter_145 : decode cX8_lifter 145 = .ok (.iadd, 1) := by decide +kernel
theorem dX8_lifter_146 : decode cX8_lifter 146 = .ok (.iaload, 1) := by decide +kernel
theorem dX8_lifter_147 : decode cX8_lifter 147 = .ok (.ireturn, 1) := by decide +kernel
theorem dX8_lifter_148 : decode cX8_lifter 148 = .ok (.aload_n 0, 1) := by decide +kernel
theorem dX8_lifter_149 : decode cX8_lifter 149 = .ok (.getfield 28, 3) := by decide +kernel
theorem dX8_lifter_152 : decode cX8_lifter 152 = .ok (.getfield 130, 3) := by decide +kernel
theorem dX8_lifter_155 : decode cX8_lifter 155 = .ok (.iload_n 1, 1) := by decide +kernel
theorem dX8_lifter_156 : decode cX8_lifter 156 = .ok (.iaload, 1) := by decide +kernel
theorem dX8_lifter_157 : decode cX8_lifter 157 = .ok (.ireturn, 1) := by decide +kernel
theorem dX8_lifter_158 : decode cX8_lifter 158 = .ok (.aload_n 0, 1) := by decide +kernel
theorem dX8_lifter_159 : decode cX8_lifter 159 = .ok (.getfield 28, 3) := by decide +kernel
theorem dX8_lifter_162 : decode cX8_lifter 162 = .ok (.iload_n 1, 1) := by decide +kernel
theorem dX8_lifter_163 : decode cX8_lifter 163 = .ok (.invokevirtual 133, 3) := by decide +kernel
theorem dX8_lifter_166 : decode cX8_lifter 166 = .ok (.ireturn, 1) := by decide +kernel
theorem dX8_lifter_167 : decode cX8_lifter 167 = .ok (.aload_n 0, 1) := by decide +kernel
theorem dX8_lifter_168 : decode cX8_lifter 168 = .ok (.getfield 28, 3) := by decide +kernel
theorem dX8_lifter_171 : decode cX8_lifter 171 = .ok (.getfield 137, 3) := by decide +kernel
theorem dX8_lifter_174 : decode cX8_lifter 174 = .ok (.iload_n 1, 1) := by decide +kernel
theorem dX8_lifter_175 : decode cX8_lifter 175 = .ok (.iaload, 1) := by decide +kernel
theorem dX8_lifter_176 : decode cX8_lifter 176 = .ok (.ireturn, 1) := by decide +kernel
theorem dX8_lifter_177 : decode cX8_lifter 177 = .ok (.aload_n 0, 1) := by decide +kernel
theorem dX8_lifter_178 : decode cX8_lifter 178 = .ok (.getfield 28, 3) := by decide +kernel
theorem dX8_lifter_181 : decode cX8_lifter 181 = .ok (.iload_n 1, 1) := by decide +kernel
theorem dX8_lifter_182 : decode cX8_lifter 182 = .ok (.invokevirtual 140, 3) := by decide +kernel
theorem dX8_lifter_185 : decode cX8_lifter 185 = .ok (.ifCond .eq 7, 3) := by decide +kernel
theorem dX8_lifter_188 : decode cX8_lifter 188 = .ok (.iconst 1, 1) := by decide +kernel
theorem dX8_lifter_189 : decode cX8_lifter 189 = .ok (.goto 4, 3) := by decide +kernel
theorem dX8_lifter_192 : decode cX8_lifter 192 = .ok (.iconst 0, 1) := by decide +kernel
theorem dX8_lifter_193 : decode cX8_lifter 193 = .ok (.ireturn, 1) := by decide +kernel
theorem dX8_lifter_194 : decode cX8_lifter 194 = .ok (.aload_n 0, 1) := by decide +kernel
theorem dX8_lifter_195 : decode cX8_lifter 195 = .ok (.getfield 28, 3) := by decide +kernel
theorem dX8_lifter_198 : decode cX8_lifter 198 = .ok (.getfield 143, 3) := by decide +kernel
theorem dX8_lifter_201 : decode cX8_lifter 201 = .ok (.iload_n 1, 1) := by decide +kernel
theorem dX8_lifter_202 : decode cX8_lifter 202 = .ok (.baload, 1) := by decide +kernel
theorem dX8_lifter_203 : decode cX8_lifter 203 = .ok (.ifCond .eq 7, 3) := by decide +kernel
theorem dX8_lifter_206 : decode cX8_lifter 206 = .ok (.iconst 1, 1) := by decide +kernel
theorem dX8_lifter_207 : decode cX8_lifter 207 = .ok (.goto 4, 3) := by decide +kernel
theorem dX8_lifter_210 : decode cX8_lifter 210 = .ok (.iconst 0, 1) := by decide +kernel
theorem dX8_lifter_211 : decode cX8_lifter 211 = .ok (.ireturn, 1) := by decide +kernel
theorem dX8_lifter_212 : decode cX8_lifter 212 = .ok (.aload_n 0, 1) := by decide +kernel
theorem dX8_lifter_213 : decode cX8_lifter 213 = .ok (.getfield 28, 3) := by decide +kernel
theorem dX8_lifter_216 : decode cX8_lifter 216 = .ok (.iload_n 1, 1) := by decide +kernel
theorem dX8_lifter_217 : decode cX8_lifter 217 = .ok (.invokevirtual 147, 3) := by decide +kernel
theorem dX8_lifter_220 : decode cX8_lifter 220 = .ok (.ireturn, 1) := by decide +kernel
theorem dX8_lifter_221 : decode cX8_lifter 221 = .ok (.iconst (-1), 1) := by decide +kernel
theorem dX8_lifter_222 : decode cX8_lifter 222 = .ok (.ireturn, 1) := by decide +kernel
theorem dX8_called_0 : decode cX8_called 0 = .ok (.aload_n 0, 1) := by decide +kernel
theorem dX8_called_1 : decode cX8_called 1 = .ok (.getfield 28, 3) := by decide +kernel
theorem dX8_called_4 : decode cX8_called 4 = .ok (.invokevirtual 150, 3) := by decide +kernel
theorem dX8_called_7 : decode cX8_called 7 = .ok (.istore_n 1, 1) := by decide +kernel
theorem dX8_called_8 : decode cX8_called 8 = .ok (.iload_n 1, 1) := by decide +kernel
theorem dX8_called_9 : decode cX8_called 9 = .ok (.ifCond .ge 6, 3) := by decide +kernel
theorem dX8_called_12 : decode cX8_called 12 = .ok (.bipush (-2), 2) := by decide +kernel
theorem dX8_called_14 : decode cX8_called 14 = .ok (.ireturn, 1) := by decide +kernel
theorem dX8_called_15 : decode cX8_called 15 = .ok (.aload_n 0, 1) := by decide +kernel
theorem dX8_called_16 : decode cX8_called 16 = .ok (.aload_n 0, 1) := by decide +kernel
theorem dX8_called_17 : decode cX8_called 17 = .ok (.getfield 28, 3) := by decide +kernel
theorem dX8_called_20 : decode cX8_called 20 = .ok (.getfield 130, 3) := by decide +kernel
theorem dX8_called_23 : decode cX8_called 23 = .ok (.iload_n 1, 1) := by decide +kernel
theorem dX8_called_24 : decode cX8_called 24 = .ok (.iaload, 1) := by decide +kernel
theorem dX8_called_25 : decode cX8_called 25 = .ok (.aload_n 0, 1) := by decide +kernel
theorem dX8_called_26 : decode cX8_called 26 = .ok (.getfield 28, 3) := by decide +kernel
theorem dX8_called_29 : decode cX8_called 29 = .ok (.iload_n 1, 1) := by decide +kernel
theorem dX8_called_30 : decode cX8_called 30 = .ok (.invokevirtual 154, 3) := by decide +kernel
theorem dX8_called_33 : decode cX8_called 33 = .ok (.invokevirtual 157, 3) := by decide +kernel
theorem dX8_called_36 : decode cX8_called 36 = .ok (.iload_n 1, 1) := by decide +kernel
theorem dX8_called_37 : decode cX8_called 37 = .ok (.ireturn, 1) := by decide +kernel
theorem dX8_order_0 : decode cX8_order 0 = .ok (.aload_n 0, 1) := by decide +kernel
theorem dX8_order_1 : decode cX8_order 1 = .ok (.iconst 0, 1) := by decide +kernel
theorem dX8_order_2 : decode cX8_order 2 = .ok (.putfield 65, 3) := by decide +kernel
theorem dX8_order_5 : decode cX8_order 5 = .ok (.iconst 0, 1) := by decide +kernel
theorem dX8_order_6 : decode cX8_order 6 = .ok (.istore_n 1, 1) := by decide +kernel
theorem dX8_order_7 : decode cX8_order 7 = .ok (.iload_n 1, 1) := by decide +kernel
theorem dX8_order_8 : decode cX8_order 8 = .ok (.aload_n 0, 1) := by decide +kernel
theorem dX8_order_9 : decode cX8_order 9 = .ok (.getfield 28, 3) := by decide +kernel
theorem dX8_order_12 : decode cX8_order 12 = .ok (.getfield 87, 3) := by decide +kernel
theorem dX8_order_15 : decode cX8_order 15 = .ok (.if_icmp .ge 54, 3) := by decide +kernel
theorem dX8_order_18 : decode cX8_order 18 = .ok (.aload_n 0, 1) := by decide +kernel
theorem dX8_order_19 : decode cX8_order 19 = .ok (.getfield 28, 3) := by decide +kernel
theorem dX8_order_22 : decode cX8_order 22 = .ok (.iload_n 1, 1) := by decide +kernel
theorem dX8_order_23 : decode cX8_order 23 = .ok (.invokevirtual 140, 3) := by decide +kernel
theorem dX8_order_26 : decode cX8_order 26 = .ok (.ifCond .eq 37, 3) := by decide +kernel
theorem dX8_order_29 : decode cX8_order 29 = .ok (.aload_n 0, 1) := by decide +kernel
theorem dX8_order_30 : decode cX8_order 30 = .ok (.getfield 61, 3) := by decide +kernel
theorem dX8_order_33 : decode cX8_order 33 = .ok (.aload_n 0, 1) := by decide +kernel
theorem dX8_order_34 : decode cX8_order 34 = .ok (.getfield 28, 3) := by decide +kernel
theorem dX8_order_37 : decode cX8_order 37 = .ok (.iload_n 1, 1) := by decide +kernel
theorem dX8_order_38 : decode cX8_order 38 = .ok (.aload_n 0, 1) := by decide +kernel
theorem dX8_order_39 : decode cX8_order 39 = .ok (.getfield 28, 3) := by decide +kernel
theorem dX8_order_42 : decode cX8_order 42 = .ok (.getfield 130, 3) := by decide +kernel
theorem dX8_order_45 : decode cX8_order 45 = .ok (.iload_n 1, 1) := by decide +kernel
theorem dX8_order_46 : decode cX8_order 46 = .ok (.iaload, 1) := by decide +kernel
theorem dX8_order_47 : decode cX8_order 47 = .ok (.invokevirtual 161, 3) := by decide +kernel
theorem dX8_order_50 : decode cX8_order 50 = .ok (.iload_n 1, 1) := by decide +kernel
theorem dX8_order_51 : decode cX8_order 51 = .ok (.i2l, 1) := by decide +kernel
theorem dX8_order_52 : decode cX8_order 52 = .ok (.lastore, 1) := by decide +kernel
theorem dX8_order_53 : decode cX8_order 53 = .ok (.aload_n 0, 1) := by decide +kernel
theorem dX8_order_54 : decode cX8_order 54 = .ok (.dup, 1) := by decide +kernel
theorem dX8_order_55 : decode cX8_order 55 = .ok (.getfield 65, 3) := by decide +kernel
theorem dX8_order_58 : decode cX8_order 58 = .ok (.iconst 1, 1) := by decide +kernel
theorem dX8_order_59 : decode cX8_order 59 = .ok (.iadd, 1) := by decide +kernel
theorem dX8_order_60 : decode cX8_order 60 = .ok (.putfield 65, 3) := by decide +kernel
theorem dX8_order_63 : decode cX8_order 63 = .ok (.iinc 1 1, 3) := by decide +kernel
theorem dX8_order_66 : decode cX8_order 66 = .ok (.goto (-59), 3) := by decide +kernel
theorem dX8_order_69 : decode cX8_order 69 = .ok (.aload_n 0, 1) := by decide +kernel
theorem dX8_order_70 : decode cX8_order 70 = .ok (.getfield 65, 3) := by decide +kernel
theorem dX8_order_73 : decode cX8_order 73 = .ok (.ireturn, 1) := by decide +kernel
theorem dX8_asks_0 : decode cX8_asks 0 = .ok (.aload_n 0, 1) := by decide +kernel
theorem dX8_asks_1 : decode cX8_asks 1 = .ok (.iload_n 1, 1) := by decide +kernel
theorem dX8_asks_2 : decode cX8_asks 2 = .ok (.invokevirtual 97, 3) := by decide +kernel
theorem dX8_asks_5 : decode cX8_asks 5 = .ok (.ifCond .eq 10, 3) := by decide +kernel
theorem dX8_asks_8 : decode cX8_asks 8 = .ok (.iload_n 2, 1) := by decide +kernel
theorem dX8_asks_9 : decode cX8_asks 9 = .ok (.invokestatic 114, 3) := by decide +kernel
theorem dX8_asks_12 : decode cX8_asks 12 = .ok (.ifCond .ne 5, 3) := by decide +kernel
theorem dX8_asks_15 : decode cX8_asks 15 = .ok (.iconst (-1), 1) := by decide +kernel
theorem dX8_asks_16 : decode cX8_asks 16 = .ok (.ireturn, 1) := by decide +kernel
theorem dX8_asks_17 : decode cX8_asks 17 = .ok (.aload_n 0, 1) := by decide +kernel
theorem dX8_asks_18 : decode cX8_asks 18 = .ok (.getfield 28, 3) := by decide +kernel
theorem dX8_asks_21 : decode cX8_asks 21 = .ok (.iload_n 1, 1) := by decide +kernel
theorem dX8_asks_22 : decode cX8_asks 22 = .ok (.invokevirtual 140, 3) := by decide +kernel
theorem dX8_asks_25 : decode cX8_asks 25 = .ok (.ifCond .ne 6, 3) := by decide +kernel
theorem dX8_asks_28 : decode cX8_asks 28 = .ok (.bipush (-2), 2) := by decide +kernel
theorem dX8_asks_30 : decode cX8_asks 30 = .ok (.ireturn, 1) := by decide +kernel
theorem dX8_asks_31 : decode cX8_asks 31 = .ok (.aload_n 0, 1) := by decide +kernel
theorem dX8_asks_32 : decode cX8_asks 32 = .ok (.getfield 28, 3) := by decide +kernel
theorem dX8_asks_35 : decode cX8_asks 35 = .ok (.getfield 137, 3) := by decide +kernel
theorem dX8_asks_38 : decode cX8_asks 38 = .ok (.iload_n 1, 1) := by decide +kernel
theorem dX8_asks_39 : decode cX8_asks 39 = .ok (.iaload, 1) := by decide +kernel
theorem dX8_asks_40 : decode cX8_asks 40 = .ok (.ifCond .gt 6, 3) := by decide +kernel
theorem dX8_asks_43 : decode cX8_asks 43 = .ok (.bipush (-3), 2) := by decide +kernel
theorem dX8_asks_45 : decode cX8_asks 45 = .ok (.ireturn, 1) := by decide +kernel
theorem dX8_asks_46 : decode cX8_asks 46 = .ok (.iload_n 2, 1) := by decide +kernel
theorem dX8_asks_47 : decode cX8_asks 47 = .ok (.aload_n 0, 1) := by decide +kernel
theorem dX8_asks_48 : decode cX8_asks 48 = .ok (.getfield 28, 3) := by decide +kernel
theorem dX8_asks_51 : decode cX8_asks 51 = .ok (.iload_n 1, 1) := by decide +kernel
theorem dX8_asks_52 : decode cX8_asks 52 = .ok (.invokevirtual 133, 3) := by decide +kernel
theorem dX8_asks_55 : decode cX8_asks 55 = .ok (.if_icmp .lt 16, 3) := by decide +kernel
theorem dX8_asks_58 : decode cX8_asks 58 = .ok (.iload_n 2, 1) := by decide +kernel
theorem dX8_asks_59 : decode cX8_asks 59 = .ok (.aload_n 0, 1) := by decide +kernel
theorem dX8_asks_60 : decode cX8_asks 60 = .ok (.getfield 28, 3) := by decide +kernel
theorem dX8_asks_63 : decode cX8_asks 63 = .ok (.getfield 130, 3) := by decide +kernel
theorem dX8_asks_66 : decode cX8_asks 66 = .ok (.iload_n 1, 1) := by decide +kernel
theorem dX8_asks_67 : decode cX8_asks 67 = .ok (.iaload, 1) := by decide +kernel
theorem dX8_asks_68 : decode cX8_asks 68 = .ok (.if_icmp .ne 6, 3) := by decide +kernel
theorem dX8_asks_71 : decode cX8_asks 71 = .ok (.bipush (-4), 2) := by decide +kernel
theorem dX8_asks_73 : decode cX8_asks 73 = .ok (.ireturn, 1) := by decide +kernel
theorem dX8_asks_74 : decode cX8_asks 74 = .ok (.aload_n 0, 1) := by decide +kernel
theorem dX8_asks_75 : decode cX8_asks 75 = .ok (.getfield 28, 3) := by decide +kernel
theorem dX8_asks_78 : decode cX8_asks 78 = .ok (.getfield 130, 3) := by decide +kernel
theorem dX8_asks_81 : decode cX8_asks 81 = .ok (.iload_n 1, 1) := by decide +kernel
theorem dX8_asks_82 : decode cX8_asks 82 = .ok (.iload_n 2, 1) := by decide +kernel
theorem dX8_asks_83 : decode cX8_asks 83 = .ok (.iastore, 1) := by decide +kernel
theorem dX8_asks_84 : decode cX8_asks 84 = .ok (.aload_n 0, 1) := by decide +kernel
theorem dX8_asks_85 : decode cX8_asks 85 = .ok (.getfield 28, 3) := by decide +kernel
theorem dX8_asks_88 : decode cX8_asks 88 = .ok (.getfield 137, 3) := by decide +kernel
theorem dX8_asks_91 : decode cX8_asks 91 = .ok (.iload_n 1, 1) := by decide +kernel
theorem dX8_asks_92 : decode cX8_asks 92 = .ok (.dup2, 1) := by decide +kernel
theorem dX8_asks_93 : decode cX8_asks 93 = .ok (.iaload, 1) := by decide +kernel
theorem dX8_asks_94 : decode cX8_asks 94 = .ok (.iconst 1, 1) := by decide +kernel
theorem dX8_asks_95 : decode cX8_asks 95 = .ok (.isub, 1) := by decide +kernel
theorem dX8_asks_96 : decode cX8_asks 96 = .ok (.iastore, 1) := by decide +kernel
theorem dX8_asks_97 : decode cX8_asks 97 = .ok (.aload_n 0, 1) := by decide +kernel
theorem dX8_asks_98 : decode cX8_asks 98 = .ok (.getfield 28, 3) := by decide +kernel
theorem dX8_asks_101 : decode cX8_asks 101 = .ok (.getfield 137, 3) := by decide +kernel
theorem dX8_asks_104 : decode cX8_asks 104 = .ok (.iload_n 1, 1) := by decide +kernel
theorem dX8_asks_105 : decode cX8_asks 105 = .ok (.iaload, 1) := by decide +kernel
theorem dX8_asks_106 : decode cX8_asks 106 = .ok (.ireturn, 1) := by decide +kernel
theorem dX8_tries_0 : decode cX8_tries 0 = .ok (.aload_n 0, 1) := by decide +kernel
theorem dX8_tries_1 : decode cX8_tries 1 = .ok (.getfield 28, 3) := by decide +kernel
theorem dX8_tries_4 : decode cX8_tries 4 = .ok (.invokevirtual 150, 3) := by decide +kernel
theorem dX8_tries_7 : decode cX8_tries 7 = .ok (.istore_n 2, 1) := by decide +kernel
theorem dX8_tries_8 : decode cX8_tries 8 = .ok (.iload_n 2, 1) := by decide +kernel
theorem dX8_tries_9 : decode cX8_tries 9 = .ok (.ifCond .ge 6, 3) := by decide +kernel
theorem dX8_tries_12 : decode cX8_tries 12 = .ok (.bipush (-2), 2) := by decide +kernel
theorem dX8_tries_14 : decode cX8_tries 14 = .ok (.ireturn, 1) := by decide +kernel
theorem dX8_tries_15 : decode cX8_tries 15 = .ok (.aload_n 0, 1) := by decide +kernel
theorem dX8_tries_16 : decode cX8_tries 16 = .ok (.getfield 28, 3) := by decide +kernel
theorem dX8_tries_19 : decode cX8_tries 19 = .ok (.getfield 130, 3) := by decide +kernel
theorem dX8_tries_22 : decode cX8_tries 22 = .ok (.iload_n 2, 1) := by decide +kernel
theorem dX8_tries_23 : decode cX8_tries 23 = .ok (.iaload, 1) := by decide +kernel
theorem dX8_tries_24 : decode cX8_tries 24 = .ok (.istore_n 3, 1) := by decide +kernel
theorem dX8_tries_25 : decode cX8_tries 25 = .ok (.aload_n 0, 1) := by decide +kernel
theorem dX8_tries_26 : decode cX8_tries 26 = .ok (.getfield 28, 3) := by decide +kernel
theorem dX8_tries_29 : decode cX8_tries 29 = .ok (.iload_n 2, 1) := by decide +kernel
theorem dX8_tries_30 : decode cX8_tries 30 = .ok (.iload_n 1, 1) := by decide +kernel
theorem dX8_tries_31 : decode cX8_tries 31 = .ok (.invokevirtual 165, 3) := by decide +kernel
theorem dX8_tries_34 : decode cX8_tries 34 = .ok (.aload_n 0, 1) := by decide +kernel
theorem dX8_tries_35 : decode cX8_tries 35 = .ok (.iload_n 3, 1) := by decide +kernel
theorem dX8_tries_36 : decode cX8_tries 36 = .ok (.aload_n 0, 1) := by decide +kernel
theorem dX8_tries_37 : decode cX8_tries 37 = .ok (.getfield 28, 3) := by decide +kernel
theorem dX8_tries_40 : decode cX8_tries 40 = .ok (.getfield 130, 3) := by decide +kernel
theorem dX8_tries_43 : decode cX8_tries 43 = .ok (.iload_n 2, 1) := by decide +kernel
theorem dX8_tries_44 : decode cX8_tries 44 = .ok (.iaload, 1) := by decide +kernel
theorem dX8_tries_45 : decode cX8_tries 45 = .ok (.invokevirtual 157, 3) := by decide +kernel
theorem dX8_tries_48 : decode cX8_tries 48 = .ok (.aload_n 0, 1) := by decide +kernel
theorem dX8_tries_49 : decode cX8_tries 49 = .ok (.getfield 28, 3) := by decide +kernel
theorem dX8_tries_52 : decode cX8_tries 52 = .ok (.invokevirtual 169, 3) := by decide +kernel
theorem dX8_tries_55 : decode cX8_tries 55 = .ok (.iload_n 2, 1) := by decide +kernel
theorem dX8_tries_56 : decode cX8_tries 56 = .ok (.ireturn, 1) := by decide +kernel
theorem dX8_tried_0 : decode cX8_tried 0 = .ok (.iload_n 1, 1) := by decide +kernel
theorem dX8_tried_1 : decode cX8_tried 1 = .ok (.ifCond .lt 23, 3) := by decide +kernel
theorem dX8_tried_4 : decode cX8_tried 4 = .ok (.iload_n 1, 1) := by decide +kernel
theorem dX8_tried_5 : decode cX8_tried 5 = .ok (.aload_n 0, 1) := by decide +kernel
theorem dX8_tried_6 : decode cX8_tried 6 = .ok (.getfield 28, 3) := by decide +kernel
theorem dX8_tried_9 : decode cX8_tried 9 = .ok (.getfield 172, 3) := by decide +kernel
theorem dX8_tried_12 : decode cX8_tried 12 = .ok (.if_icmp .ge 12, 3) := by decide +kernel
theorem dX8_tried_15 : decode cX8_tried 15 = .ok (.iload_n 2, 1) := by decide +kernel
theorem dX8_tried_16 : decode cX8_tried 16 = .ok (.ifCond .lt 8, 3) := by decide +kernel
theorem dX8_tried_19 : decode cX8_tried 19 = .ok (.iload_n 2, 1) := by decide +kernel
theorem dX8_tried_20 : decode cX8_tried 20 = .ok (.iconst 3, 1) := by decide +kernel
theorem dX8_tried_21 : decode cX8_tried 21 = .ok (.if_icmp .le 5, 3) := by decide +kernel
theorem dX8_tried_24 : decode cX8_tried 24 = .ok (.iconst (-1), 1) := by decide +kernel
theorem dX8_tried_25 : decode cX8_tried 25 = .ok (.ireturn, 1) := by decide +kernel
theorem dX8_tried_26 : decode cX8_tried 26 = .ok (.aload_n 0, 1) := by decide +kernel
theorem dX8_tried_27 : decode cX8_tried 27 = .ok (.getfield 28, 3) := by decide +kernel
theorem dX8_tried_30 : decode cX8_tried 30 = .ok (.getfield 175, 3) := by decide +kernel
theorem dX8_tried_33 : decode cX8_tried 33 = .ok (.iload_n 1, 1) := by decide +kernel
theorem dX8_tried_34 : decode cX8_tried 34 = .ok (.iconst 4, 1) := by decide +kernel
theorem dX8_tried_35 : decode cX8_tried 35 = .ok (.imul, 1) := by decide +kernel
theorem dX8_tried_36 : decode cX8_tried 36 = .ok (.iload_n 2, 1) := by decide +kernel
theorem dX8_tried_37 : decode cX8_tried 37 = .ok (.iadd, 1) := by decide +kernel
theorem dX8_tried_38 : decode cX8_tried 38 = .ok (.iaload, 1) := by decide +kernel
theorem dX8_tried_39 : decode cX8_tried 39 = .ok (.ireturn, 1) := by decide +kernel
theorem dX8_place_0 : decode cX8_place 0 = .ok (.aload_n 0, 1) := by decide +kernel
theorem dX8_place_1 : decode cX8_place 1 = .ok (.iload_n 1, 1) := by decide +kernel
theorem dX8_place_2 : decode cX8_place 2 = .ok (.invokevirtual 97, 3) := by decide +kernel
theorem dX8_place_5 : decode cX8_place 5 = .ok (.ifCond .ne 5, 3) := by decide +kernel
theorem dX8_place_8 : decode cX8_place 8 = .ok (.iconst (-1), 1) := by decide +kernel
theorem dX8_place_9 : decode cX8_place 9 = .ok (.ireturn, 1) := by decide +kernel
theorem dX8_place_10 : decode cX8_place 10 = .ok (.aload_n 0, 1) := by decide +kernel
theorem dX8_place_11 : decode cX8_place 11 = .ok (.invokevirtual 178, 3) := by decide +kernel
theorem dX8_place_14 : decode cX8_place 14 = .ok (.aload_n 0, 1) := by decide +kernel
theorem dX8_place_15 : decode cX8_place 15 = .ok (.getfield 28, 3) := by decide +kernel
theorem dX8_place_18 : decode cX8_place 18 = .ok (.iload_n 1, 1) := by decide +kernel
theorem dX8_place_19 : decode cX8_place 19 = .ok (.invokevirtual 181, 3) := by decide +kernel
theorem dX8_place_22 : decode cX8_place 22 = .ok (.ireturn, 1) := by decide +kernel
theorem dX8_slot_0 : decode cX8_slot 0 = .ok (.aload_n 0, 1) := by decide +kernel
theorem dX8_slot_1 : decode cX8_slot 1 = .ok (.iload_n 1, 1) := by decide +kernel
theorem dX8_slot_2 : decode cX8_slot 2 = .ok (.invokevirtual 97, 3) := by decide +kernel
theorem dX8_slot_5 : decode cX8_slot 5 = .ok (.ifCond .eq 7, 3) := by decide +kernel
theorem dX8_slot_8 : decode cX8_slot 8 = .ok (.iload_n 2, 1) := by decide +kernel
theorem dX8_slot_9 : decode cX8_slot 9 = .ok (.ifCond .ge 5, 3) := by decide +kernel
theorem dX8_slot_12 : decode cX8_slot 12 = .ok (.iconst (-1), 1) := by decide +kernel
theorem dX8_slot_13 : decode cX8_slot 13 = .ok (.ireturn, 1) := by decide +kernel
theorem dX8_slot_14 : decode cX8_slot 14 = .ok (.aload_n 0, 1) := by decide +kernel
theorem dX8_slot_15 : decode cX8_slot 15 = .ok (.getfield 28, 3) := by decide +kernel
theorem dX8_slot_18 : decode cX8_slot 18 = .ok (.iload_n 1, 1) := by decide +kernel
theorem dX8_slot_19 : decode cX8_slot 19 = .ok (.invokevirtual 140, 3) := by decide +kernel
theorem dX8_slot_22 : decode cX8_slot 22 = .ok (.ifCond .ne 6, 3) := by decide +kernel
theorem dX8_slot_25 : decode cX8_slot 25 = .ok (.bipush (-2), 2) := by decide +kernel
theorem dX8_slot_27 : decode cX8_slot 27 = .ok (.ireturn, 1) := by decide +kernel
theorem dX8_slot_28 : decode cX8_slot 28 = .ok (.aload_n 0, 1) := by decide +kernel
theorem dX8_slot_29 : decode cX8_slot 29 = .ok (.getfield 28, 3) := by decide +kernel
theorem dX8_slot_32 : decode cX8_slot 32 = .ok (.iload_n 1, 1) := by decide +kernel
theorem dX8_slot_33 : decode cX8_slot 33 = .ok (.invokevirtual 133, 3) := by decide +kernel
theorem dX8_slot_36 : decode cX8_slot 36 = .ok (.istore_n 3, 1) := by decide +kernel
theorem dX8_slot_37 : decode cX8_slot 37 = .ok (.iload_n 3, 1) := by decide +kernel
theorem dX8_slot_38 : decode cX8_slot 38 = .ok (.bipush 40, 2) := by decide +kernel
theorem dX8_slot_40 : decode cX8_slot 40 = .ok (.if_icmp .gt 24, 3) := by decide +kernel
theorem dX8_slot_43 : decode cX8_slot 43 = .ok (.aload_n 0, 1) := by decide +kernel
theorem dX8_slot_44 : decode cX8_slot 44 = .ok (.getfield 28, 3) := by decide +kernel
theorem dX8_slot_47 : decode cX8_slot 47 = .ok (.iload_n 1, 1) := by decide +kernel
theorem dX8_slot_48 : decode cX8_slot 48 = .ok (.iload_n 3, 1) := by decide +kernel
theorem dX8_slot_49 : decode cX8_slot 49 = .ok (.invokevirtual 161, 3) := by decide +kernel
theorem dX8_slot_52 : decode cX8_slot 52 = .ok (.iload_n 2, 1) := by decide +kernel
theorem dX8_slot_53 : decode cX8_slot 53 = .ok (.if_icmp .ne 5, 3) := by decide +kernel
theorem dX8_slot_56 : decode cX8_slot 56 = .ok (.iload_n 3, 1) := by decide +kernel
theorem dX8_slot_57 : decode cX8_slot 57 = .ok (.ireturn, 1) := by decide +kernel
theorem dX8_slot_58 : decode cX8_slot 58 = .ok (.iinc 3 1, 3) := by decide +kernel
theorem dX8_slot_61 : decode cX8_slot 61 = .ok (.goto (-24), 3) := by decide +kernel
theorem dX8_slot_64 : decode cX8_slot 64 = .ok (.bipush (-3), 2) := by decide +kernel
theorem dX8_slot_66 : decode cX8_slot 66 = .ok (.ireturn, 1) := by decide +kernel
theorem dX8_needs_0 : decode cX8_needs 0 = .ok (.aload_n 0, 1) := by decide +kernel
theorem dX8_needs_1 : decode cX8_needs 1 = .ok (.iload_n 1, 1) := by decide +kernel
theorem dX8_needs_2 : decode cX8_needs 2 = .ok (.invokevirtual 97, 3) := by decide +kernel
theorem dX8_needs_5 : decode cX8_needs 5 = .ok (.ifCond .eq 16, 3) := by decide +kernel
theorem dX8_needs_8 : decode cX8_needs 8 = .ok (.aload_n 0, 1) := by decide +kernel
theorem dX8_needs_9 : decode cX8_needs 9 = .ok (.iload_n 2, 1) := by decide +kernel
theorem dX8_needs_10 : decode cX8_needs 10 = .ok (.invokevirtual 97, 3) := by decide +kernel
theorem dX8_needs_13 : decode cX8_needs 13 = .ok (.ifCond .eq 8, 3) := by decide +kernel
theorem dX8_needs_16 : decode cX8_needs 16 = .ok (.iload_n 1, 1) := by decide +kernel
theorem dX8_needs_17 : decode cX8_needs 17 = .ok (.iload_n 2, 1) := by decide +kernel
theorem dX8_needs_18 : decode cX8_needs 18 = .ok (.if_icmp .ne 5, 3) := by decide +kernel
theorem dX8_needs_21 : decode cX8_needs 21 = .ok (.iconst (-1), 1) := by decide +kernel
theorem dX8_needs_22 : decode cX8_needs 22 = .ok (.ireturn, 1) := by decide +kernel
theorem dX8_needs_23 : decode cX8_needs 23 = .ok (.aload_n 0, 1) := by decide +kernel
theorem dX8_needs_24 : decode cX8_needs 24 = .ok (.getfield 28, 3) := by decide +kernel
theorem dX8_needs_27 : decode cX8_needs 27 = .ok (.iload_n 1, 1) := by decide +kernel
theorem dX8_needs_28 : decode cX8_needs 28 = .ok (.iload_n 2, 1) := by decide +kernel
theorem dX8_needs_29 : decode cX8_needs 29 = .ok (.invokevirtual 184, 3) := by decide +kernel
theorem dX8_needs_32 : decode cX8_needs 32 = .ok (.ifCond .eq 5, 3) := by decide +kernel
theorem dX8_needs_35 : decode cX8_needs 35 = .ok (.iconst 0, 1) := by decide +kernel
theorem dX8_needs_36 : decode cX8_needs 36 = .ok (.ireturn, 1) := by decide +kernel
theorem dX8_needs_37 : decode cX8_needs 37 = .ok (.aload_n 0, 1) := by decide +kernel
theorem dX8_needs_38 : decode cX8_needs 38 = .ok (.getfield 28, 3) := by decide +kernel
theorem dX8_needs_41 : decode cX8_needs 41 = .ok (.getfield 130, 3) := by decide +kernel
theorem dX8_needs_44 : decode cX8_needs 44 = .ok (.iload_n 1, 1) := by decide +kernel
theorem dX8_needs_45 : decode cX8_needs 45 = .ok (.iaload, 1) := by decide +kernel
theorem dX8_needs_46 : decode cX8_needs 46 = .ok (.ifCond .ne 6, 3) := by decide +kernel
theorem dX8_needs_49 : decode cX8_needs 49 = .ok (.bipush (-2), 2) := by decide +kernel
theorem dX8_needs_51 : decode cX8_needs 51 = .ok (.ireturn, 1) := by decide +kernel
theorem dX8_needs_52 : decode cX8_needs 52 = .ok (.aload_n 0, 1) := by decide +kernel
theorem dX8_needs_53 : decode cX8_needs 53 = .ok (.getfield 28, 3) := by decide +kernel
theorem dX8_needs_56 : decode cX8_needs 56 = .ok (.iload_n 1, 1) := by decide +kernel
theorem dX8_needs_57 : decode cX8_needs 57 = .ok (.invokevirtual 133, 3) := by decide +kernel
theorem dX8_needs_60 : decode cX8_needs 60 = .ok (.istore_n 3, 1) := by decide +kernel
theorem dX8_needs_61 : decode cX8_needs 61 = .ok (.iload_n 3, 1) := by decide +kernel
theorem dX8_needs_62 : decode cX8_needs 62 = .ok (.bipush 40, 2) := by decide +kernel
theorem dX8_needs_64 : decode cX8_needs 64 = .ok (.if_icmp .gt 24, 3) := by decide +kernel
theorem dX8_needs_67 : decode cX8_needs 67 = .ok (.aload_n 0, 1) := by decide +kernel
theorem dX8_needs_68 : decode cX8_needs 68 = .ok (.getfield 28, 3) := by decide +kernel
theorem dX8_needs_71 : decode cX8_needs 71 = .ok (.iload_n 1, 1) := by decide +kernel
theorem dX8_needs_72 : decode cX8_needs 72 = .ok (.iload_n 3, 1) := by decide +kernel
theorem dX8_needs_73 : decode cX8_needs 73 = .ok (.iload_n 2, 1) := by decide +kernel
theorem dX8_needs_74 : decode cX8_needs 74 = .ok (.invokevirtual 187, 3) := by decide +kernel
theorem dX8_needs_77 : decode cX8_needs 77 = .ok (.ifCond .eq 5, 3) := by decide +kernel
theorem dX8_needs_80 : decode cX8_needs 80 = .ok (.iload_n 3, 1) := by decide +kernel
theorem dX8_needs_81 : decode cX8_needs 81 = .ok (.ireturn, 1) := by decide +kernel
theorem dX8_needs_82 : decode cX8_needs 82 = .ok (.iinc 3 1, 3) := by decide +kernel
theorem dX8_needs_85 : decode cX8_needs 85 = .ok (.goto (-24), 3) := by decide +kernel
theorem dX8_needs_88 : decode cX8_needs 88 = .ok (.bipush (-3), 2) := by decide +kernel
theorem dX8_needs_90 : decode cX8_needs 90 = .ok (.ireturn, 1) := by decide +kernel
theorem dX8_mass_0 : decode cX8_mass 0 = .ok (.aload_n 0, 1) := by decide +kernel
theorem dX8_mass_1 : decode cX8_mass 1 = .ok (.iload_n 1, 1) := by decide +kernel
theorem dX8_mass_2 : decode cX8_mass 2 = .ok (.invokevirtual 97, 3) := by decide +kernel
theorem dX8_mass_5 : decode cX8_mass 5 = .ok (.ifCond .ne 5, 3) := by decide +kernel
theorem dX8_mass_8 : decode cX8_mass 8 = .ok (.iconst (-1), 1) := by decide +kernel
theorem dX8_mass_9 : decode cX8_mass 9 = .ok (.ireturn, 1) := by decide +kernel
theorem dX8_mass_10 : decode cX8_mass 10 = .ok (.aload_n 0, 1) := by decide +kernel
theorem dX8_mass_11 : decode cX8_mass 11 = .ok (.getfield 45, 3) := by decide +kernel
theorem dX8_mass_14 : decode cX8_mass 14 = .ok (.invokevirtual 191, 3) := by decide +kernel
theorem dX8_mass_17 : decode cX8_mass 17 = .ok (.aload_n 0, 1) := by decide +kernel
theorem dX8_mass_18 : decode cX8_mass 18 = .ok (.iload_n 1, 1) := by decide +kernel
theorem dX8_mass_19 : decode cX8_mass 19 = .ok (.invokevirtual 194, 3) := by decide +kernel
theorem dX8_mass_22 : decode cX8_mass 22 = .ok (.ireturn, 1) := by decide +kernel
theorem dX8_chance_0 : decode cX8_chance 0 = .ok (.aload_n 0, 1) := by decide +kernel
theorem dX8_chance_1 : decode cX8_chance 1 = .ok (.iload_n 1, 1) := by decide +kernel
theorem dX8_chance_2 : decode cX8_chance 2 = .ok (.invokevirtual 97, 3) := by decide +kernel
theorem dX8_chance_5 : decode cX8_chance 5 = .ok (.ifCond .eq 10, 3) := by decide +kernel
theorem dX8_chance_8 : decode cX8_chance 8 = .ok (.iload_n 2, 1) := by decide +kernel
theorem dX8_chance_9 : decode cX8_chance 9 = .ok (.invokestatic 197, 3) := by decide +kernel
theorem dX8_chance_12 : decode cX8_chance 12 = .ok (.ifCond .ne 5, 3) := by decide +kernel
theorem dX8_chance_15 : decode cX8_chance 15 = .ok (.iconst (-1), 1) := by decide +kernel
theorem dX8_chance_16 : decode cX8_chance 16 = .ok (.ireturn, 1) := by decide +kernel
theorem dX8_chance_17 : decode cX8_chance 17 = .ok (.aload_n 0, 1) := by decide +kernel
theorem dX8_chance_18 : decode cX8_chance 18 = .ok (.getfield 45, 3) := by decide +kernel
theorem dX8_chance_21 : decode cX8_chance 21 = .ok (.iload_n 2, 1) := by decide +kernel
theorem dX8_chance_22 : decode cX8_chance 22 = .ok (.invokevirtual 200, 3) := by decide +kernel
theorem dX8_chance_25 : decode cX8_chance 25 = .ok (.aload_n 0, 1) := by decide +kernel
theorem dX8_chance_26 : decode cX8_chance 26 = .ok (.iload_n 1, 1) := by decide +kernel
theorem dX8_chance_27 : decode cX8_chance 27 = .ok (.invokevirtual 194, 3) := by decide +kernel
theorem dX8_chance_30 : decode cX8_chance 30 = .ok (.ireturn, 1) := by decide +kernel
theorem dX8_likeliest_0 : decode cX8_likeliest 0 = .ok (.aload_n 0, 1) := by decide +kernel
theorem dX8_likeliest_1 : decode cX8_likeliest 1 = .ok (.iload_n 1, 1) := by decide +kernel
theorem dX8_likeliest_2 : decode cX8_likeliest 2 = .ok (.invokevirtual 97, 3) := by decide +kernel
theorem dX8_likeliest_5 : decode cX8_likeliest 5 = .ok (.ifCond .ne 5, 3) := by decide +kernel
theorem dX8_likeliest_8 : decode cX8_likeliest 8 = .ok (.iconst (-1), 1) := by decide +kernel
theorem dX8_likeliest_9 : decode cX8_likeliest 9 = .ok (.ireturn, 1) := by decide +kernel
theorem dX8_likeliest_10 : decode cX8_likeliest 10 = .ok (.aload_n 0, 1) := by decide +kernel
theorem dX8_likeliest_11 : decode cX8_likeliest 11 = .ok (.iload_n 1, 1) := by decide +kernel
theorem dX8_likeliest_12 : decode cX8_likeliest 12 = .ok (.invokevirtual 204, 3) := by decide +kernel
theorem dX8_likeliest_15 : decode cX8_likeliest 15 = .ok (.aload_n 0, 1) := by decide +kernel
theorem dX8_likeliest_16 : decode cX8_likeliest 16 = .ok (.getfield 58, 3) := by decide +kernel
theorem dX8_likeliest_19 : decode cX8_likeliest 19 = .ok (.iload_n 1, 1) := by decide +kernel
theorem dX8_likeliest_20 : decode cX8_likeliest 20 = .ok (.aaload, 1) := by decide +kernel
theorem dX8_likeliest_21 : decode cX8_likeliest 21 = .ok (.astore_n 2, 1) := by decide +kernel
theorem dX8_likeliest_22 : decode cX8_likeliest 22 = .ok (.iconst 0, 1) := by decide +kernel
theorem dX8_likeliest_23 : decode cX8_likeliest 23 = .ok (.istore_n 3, 1) := by decide +kernel
theorem dX8_likeliest_24 : decode cX8_likeliest 24 = .ok (.iconst 1, 1) := by decide +kernel
theorem dX8_likeliest_25 : decode cX8_likeliest 25 = .ok (.istore 4, 2) := by decide +kernel
theorem dX8_likeliest_27 : decode cX8_likeliest 27 = .ok (.iload 4, 2) := by decide +kernel
theorem dX8_likeliest_29 : decode cX8_likeliest 29 = .ok (.bipush 120, 2) := by decide +kernel
theorem dX8_likeliest_31 : decode cX8_likeliest 31 = .ok (.if_icmp .gt 35, 3) := by decide +kernel
theorem dX8_likeliest_34 : decode cX8_likeliest 34 = .ok (.aload_n 2, 1) := by decide +kernel
theorem dX8_likeliest_35 : decode cX8_likeliest 35 = .ok (.iload 4, 2) := by decide +kernel
theorem dX8_likeliest_37 : decode cX8_likeliest 37 = .ok (.iaload, 1) := by decide +kernel
theorem dX8_likeliest_38 : decode cX8_likeliest 38 = .ok (.aload_n 2, 1) := by decide +kernel
theorem dX8_likeliest_39 : decode cX8_likeliest 39 = .ok (.iload 4, 2) := by decide +kernel
theorem dX8_likeliest_41 : decode cX8_likeliest 41 = .ok (.iconst 1, 1) := by decide +kernel
theorem dX8_likeliest_42 : decode cX8_likeliest 42 = .ok (.iadd, 1) := by decide +kernel
theorem dX8_likeliest_43 : decode cX8_likeliest 43 = .ok (.iaload, 1) := by decide +kernel
theorem dX8_likeliest_44 : decode cX8_likeliest 44 = .ok (.isub, 1) := by decide +kernel
theorem dX8_likeliest_45 : decode cX8_likeliest 45 = .ok (.aload_n 2, 1) := by decide +kernel
theorem dX8_likeliest_46 : decode cX8_likeliest 46 = .ok (.iload_n 3, 1) := by decide +kernel
theorem dX8_likeliest_47 : decode cX8_likeliest 47 = .ok (.iaload, 1) := by decide +kernel
theorem dX8_likeliest_48 : decode cX8_likeliest 48 = .ok (.aload_n 2, 1) := by decide +kernel
theorem dX8_likeliest_49 : decode cX8_likeliest 49 = .ok (.iload_n 3, 1) := by decide +kernel
theorem dX8_likeliest_50 : decode cX8_likeliest 50 = .ok (.iconst 1, 1) := by decide +kernel
theorem dX8_likeliest_51 : decode cX8_likeliest 51 = .ok (.iadd, 1) := by decide +kernel
theorem dX8_likeliest_52 : decode cX8_likeliest 52 = .ok (.iaload, 1) := by decide +kernel
theorem dX8_likeliest_53 : decode cX8_likeliest 53 = .ok (.isub, 1) := by decide +kernel
theorem dX8_likeliest_54 : decode cX8_likeliest 54 = .ok (.if_icmp .le 6, 3) := by decide +kernel
theorem dX8_likeliest_57 : decode cX8_likeliest 57 = .ok (.iload 4, 2) := by decide +kernel
theorem dX8_likeliest_59 : decode cX8_likeliest 59 = .ok (.istore_n 3, 1) := by decide +kernel
theorem dX8_likeliest_60 : decode cX8_likeliest 60 = .ok (.iinc 4 1, 3) := by decide +kernel
theorem dX8_likeliest_63 : decode cX8_likeliest 63 = .ok (.goto (-36), 3) := by decide +kernel
theorem dX8_likeliest_66 : decode cX8_likeliest 66 = .ok (.aload_n 0, 1) := by decide +kernel
theorem dX8_likeliest_67 : decode cX8_likeliest 67 = .ok (.aload_n 2, 1) := by decide +kernel
theorem dX8_likeliest_68 : decode cX8_likeliest 68 = .ok (.iload_n 3, 1) := by decide +kernel
theorem dX8_likeliest_69 : decode cX8_likeliest 69 = .ok (.iaload, 1) := by decide +kernel
theorem dX8_likeliest_70 : decode cX8_likeliest 70 = .ok (.aload_n 2, 1) := by decide +kernel
theorem dX8_likeliest_71 : decode cX8_likeliest 71 = .ok (.iload_n 3, 1) := by decide +kernel
theorem dX8_likeliest_72 : decode cX8_likeliest 72 = .ok (.iconst 1, 1) := by decide +kernel
theorem dX8_likeliest_73 : decode cX8_likeliest 73 = .ok (.iadd, 1) := by decide +kernel
theorem dX8_likeliest_74 : decode cX8_likeliest 74 = .ok (.iaload, 1) := by decide +kernel
theorem dX8_likeliest_75 : decode cX8_likeliest 75 = .ok (.isub, 1) := by decide +kernel
theorem dX8_likeliest_76 : decode cX8_likeliest 76 = .ok (.aload_n 2, 1) := by decide +kernel
theorem dX8_likeliest_77 : decode cX8_likeliest 77 = .ok (.iconst 1, 1) := by decide +kernel
theorem dX8_likeliest_78 : decode cX8_likeliest 78 = .ok (.iaload, 1) := by decide +kernel
theorem dX8_likeliest_79 : decode cX8_likeliest 79 = .ok (.invokevirtual 157, 3) := by decide +kernel
theorem dX8_likeliest_82 : decode cX8_likeliest 82 = .ok (.iload_n 3, 1) := by decide +kernel
theorem dX8_likeliest_83 : decode cX8_likeliest 83 = .ok (.ireturn, 1) := by decide +kernel
theorem dX8_beats_0 : decode cX8_beats 0 = .ok (.aload_n 0, 1) := by decide +kernel
theorem dX8_beats_1 : decode cX8_beats 1 = .ok (.iload_n 1, 1) := by decide +kernel
theorem dX8_beats_2 : decode cX8_beats 2 = .ok (.invokevirtual 97, 3) := by decide +kernel
theorem dX8_beats_5 : decode cX8_beats 5 = .ok (.ifCond .eq 16, 3) := by decide +kernel
theorem dX8_beats_8 : decode cX8_beats 8 = .ok (.aload_n 0, 1) := by decide +kernel
theorem dX8_beats_9 : decode cX8_beats 9 = .ok (.iload_n 2, 1) := by decide +kernel
theorem dX8_beats_10 : decode cX8_beats 10 = .ok (.invokevirtual 97, 3) := by decide +kernel
theorem dX8_beats_13 : decode cX8_beats 13 = .ok (.ifCond .eq 8, 3) := by decide +kernel
theorem dX8_beats_16 : decode cX8_beats 16 = .ok (.iload_n 1, 1) := by decide +kernel
theorem dX8_beats_17 : decode cX8_beats 17 = .ok (.iload_n 2, 1) := by decide +kernel
theorem dX8_beats_18 : decode cX8_beats 18 = .ok (.if_icmp .ne 5, 3) := by decide +kernel
theorem dX8_beats_21 : decode cX8_beats 21 = .ok (.iconst (-1), 1) := by decide +kernel
theorem dX8_beats_22 : decode cX8_beats 22 = .ok (.ireturn, 1) := by decide +kernel
theorem dX8_beats_23 : decode cX8_beats 23 = .ok (.aload_n 0, 1) := by decide +kernel
theorem dX8_beats_24 : decode cX8_beats 24 = .ok (.iload_n 1, 1) := by decide +kernel
theorem dX8_beats_25 : decode cX8_beats 25 = .ok (.iload_n 2, 1) := by decide +kernel
theorem dX8_beats_26 : decode cX8_beats 26 = .ok (.invokevirtual 207, 3) := by decide +kernel
theorem dX8_beats_29 : decode cX8_beats 29 = .ok (.aload_n 0, 1) := by decide +kernel
theorem dX8_beats_30 : decode cX8_beats 30 = .ok (.iload_n 1, 1) := by decide +kernel
theorem dX8_beats_31 : decode cX8_beats 31 = .ok (.invokevirtual 194, 3) := by decide +kernel
theorem dX8_beats_34 : decode cX8_beats 34 = .ok (.ireturn, 1) := by decide +kernel
theorem dX8_wins_0 : decode cX8_wins 0 = .ok (.aload_n 0, 1) := by decide +kernel
theorem dX8_wins_1 : decode cX8_wins 1 = .ok (.iload_n 1, 1) := by decide +kernel
theorem dX8_wins_2 : decode cX8_wins 2 = .ok (.invokevirtual 97, 3) := by decide +kernel
theorem dX8_wins_5 : decode cX8_wins 5 = .ok (.ifCond .ne 5, 3) := by decide +kernel
theorem dX8_wins_8 : decode cX8_wins 8 = .ok (.iconst (-1), 1) := by decide +kernel
theorem dX8_wins_9 : decode cX8_wins 9 = .ok (.ireturn, 1) := by decide +kernel
theorem dX8_wins_10 : decode cX8_wins 10 = .ok (.iconst 0, 1) := by decide +kernel
theorem dX8_wins_11 : decode cX8_wins 11 = .ok (.istore_n 2, 1) := by decide +kernel
theorem dX8_wins_12 : decode cX8_wins 12 = .ok (.iload_n 2, 1) := by decide +kernel
theorem dX8_wins_13 : decode cX8_wins 13 = .ok (.aload_n 0, 1) := by decide +kernel
theorem dX8_wins_14 : decode cX8_wins 14 = .ok (.getfield 28, 3) := by decide +kernel
theorem dX8_wins_17 : decode cX8_wins 17 = .ok (.getfield 87, 3) := by decide +kernel
theorem dX8_wins_20 : decode cX8_wins 20 = .ok (.if_icmp .ge 14, 3) := by decide +kernel
theorem dX8_wins_23 : decode cX8_wins 23 = .ok (.aload_n 0, 1) := by decide +kernel
theorem dX8_wins_24 : decode cX8_wins 24 = .ok (.iload_n 2, 1) := by decide +kernel
theorem dX8_wins_25 : decode cX8_wins 25 = .ok (.invokevirtual 204, 3) := by decide +kernel
theorem dX8_wins_28 : decode cX8_wins 28 = .ok (.iinc 2 1, 3) := by decide +kernel
theorem dX8_wins_31 : decode cX8_wins 31 = .ok (.goto (-19), 3) := by decide +kernel
theorem dX8_wins_34 : decode cX8_wins 34 = .ok (.iconst 0, 1) := by decide +kernel
theorem dX8_wins_35 : decode cX8_wins 35 = .ok (.istore_n 2, 1) := by decide +kernel
theorem dX8_wins_36 : decode cX8_wins 36 = .ok (.iload_n 2, 1) := by decide +kernel
theorem dX8_wins_37 : decode cX8_wins 37 = .ok (.aload_n 0, 1) := by decide +kernel
theorem dX8_wins_38 : decode cX8_wins 38 = .ok (.getfield 28, 3) := by decide +kernel
theorem dX8_wins_41 : decode cX8_wins 41 = .ok (.getfield 87, 3) := by decide +kernel
theorem dX8_wins_44 : decode cX8_wins 44 = .ok (.if_icmp .ge 26, 3) := by decide +kernel
theorem dX8_wins_47 : decode cX8_wins 47 = .ok (.aload_n 0, 1) := by decide +kernel
theorem dX8_wins_48 : decode cX8_wins 48 = .ok (.iload_n 2, 1) := by decide +kernel
theorem dX8_wins_49 : decode cX8_wins 49 = .ok (.invokevirtual 210, 3) := by decide +kernel
theorem dX8_wins_52 : decode cX8_wins 52 = .ok (.aload_n 0, 1) := by decide +kernel
theorem dX8_wins_53 : decode cX8_wins 53 = .ok (.getfield 61, 3) := by decide +kernel
theorem dX8_wins_56 : decode cX8_wins 56 = .ok (.iload_n 2, 1) := by decide +kernel
theorem dX8_wins_57 : decode cX8_wins 57 = .ok (.aload_n 0, 1) := by decide +kernel
theorem dX8_wins_58 : decode cX8_wins 58 = .ok (.iload_n 2, 1) := by decide +kernel
theorem dX8_wins_59 : decode cX8_wins 59 = .ok (.invokevirtual 194, 3) := by decide +kernel
theorem dX8_wins_62 : decode cX8_wins 62 = .ok (.i2l, 1) := by decide +kernel
theorem dX8_wins_63 : decode cX8_wins 63 = .ok (.lastore, 1) := by decide +kernel
theorem dX8_wins_64 : decode cX8_wins 64 = .ok (.iinc 2 1, 3) := by decide +kernel
theorem dX8_wins_67 : decode cX8_wins 67 = .ok (.goto (-31), 3) := by decide +kernel
theorem dX8_wins_70 : decode cX8_wins 70 = .ok (.aload_n 0, 1) := by decide +kernel
theorem dX8_wins_71 : decode cX8_wins 71 = .ok (.aload_n 0, 1) := by decide +kernel
theorem dX8_wins_72 : decode cX8_wins 72 = .ok (.getfield 28, 3) := by decide +kernel
theorem dX8_wins_75 : decode cX8_wins 75 = .ok (.getfield 87, 3) := by decide +kernel
theorem dX8_wins_78 : decode cX8_wins 78 = .ok (.putfield 65, 3) := by decide +kernel
theorem dX8_wins_81 : decode cX8_wins 81 = .ok (.aload_n 0, 1) := by decide +kernel
theorem dX8_wins_82 : decode cX8_wins 82 = .ok (.getfield 61, 3) := by decide +kernel
theorem dX8_wins_85 : decode cX8_wins 85 = .ok (.iload_n 1, 1) := by decide +kernel
theorem dX8_wins_86 : decode cX8_wins 86 = .ok (.laload, 1) := by decide +kernel
theorem dX8_wins_87 : decode cX8_wins 87 = .ok (.l2i, 1) := by decide +kernel
theorem dX8_wins_88 : decode cX8_wins 88 = .ok (.ireturn, 1) := by decide +kernel
theorem dX8_bombs_0 : decode cX8_bombs 0 = .ok (.aload_n 0, 1) := by decide +kernel
theorem dX8_bombs_1 : decode cX8_bombs 1 = .ok (.iload_n 1, 1) := by decide +kernel
theorem dX8_bombs_2 : decode cX8_bombs 2 = .ok (.invokevirtual 97, 3) := by decide +kernel
theorem dX8_bombs_5 : decode cX8_bombs 5 = .ok (.ifCond .ne 5, 3) := by decide +kernel
theorem dX8_bombs_8 : decode cX8_bombs 8 = .ok (.iconst (-1), 1) := by decide +kernel
theorem dX8_bombs_9 : decode cX8_bombs 9 = .ok (.ireturn, 1) := by decide +kernel
theorem dX8_bombs_10 : decode cX8_bombs 10 = .ok (.aload_n 0, 1) := by decide +kernel
theorem dX8_bombs_11 : decode cX8_bombs 11 = .ok (.getfield 45, 3) := by decide +kernel
theorem dX8_bombs_14 : decode cX8_bombs 14 = .ok (.iconst 1, 1) := by decide +kernel
theorem dX8_bombs_15 : decode cX8_bombs 15 = .ok (.invokevirtual 200, 3) := by decide +kernel
theorem dX8_bombs_18 : decode cX8_bombs 18 = .ok (.ldc 213, 2) := by decide +kernel
theorem dX8_bombs_20 : decode cX8_bombs 20 = .ok (.aload_n 0, 1) := by decide +kernel
theorem dX8_bombs_21 : decode cX8_bombs 21 = .ok (.iload_n 1, 1) := by decide +kernel
theorem dX8_bombs_22 : decode cX8_bombs 22 = .ok (.invokevirtual 194, 3) := by decide +kernel
theorem dX8_bombs_25 : decode cX8_bombs 25 = .ok (.isub, 1) := by decide +kernel
theorem dX8_bombs_26 : decode cX8_bombs 26 = .ok (.istore_n 2, 1) := by decide +kernel
theorem dX8_bombs_27 : decode cX8_bombs 27 = .ok (.aload_n 0, 1) := by decide +kernel
theorem dX8_bombs_28 : decode cX8_bombs 28 = .ok (.getfield 18, 3) := by decide +kernel
theorem dX8_bombs_31 : decode cX8_bombs 31 = .ok (.iload_n 1, 1) := by decide +kernel
theorem dX8_bombs_32 : decode cX8_bombs 32 = .ok (.aaload, 1) := by decide +kernel
theorem dX8_bombs_33 : decode cX8_bombs 33 = .ok (.getfield 107, 3) := by decide +kernel
theorem dX8_bombs_36 : decode cX8_bombs 36 = .ok (.astore_n 3, 1) := by decide +kernel
theorem dX8_bombs_37 : decode cX8_bombs 37 = .ok (.iconst 0, 1) := by decide +kernel
theorem dX8_bombs_38 : decode cX8_bombs 38 = .ok (.istore 4, 2) := by decide +kernel
theorem dX8_bombs_40 : decode cX8_bombs 40 = .ok (.iload 4, 2) := by decide +kernel
theorem dX8_bombs_42 : decode cX8_bombs 42 = .ok (.iconst 3, 1) := by decide +kernel
theorem dX8_bombs_43 : decode cX8_bombs 43 = .ok (.if_icmp .ge 38, 3) := by decide +kernel
theorem dX8_bombs_46 : decode cX8_bombs 46 = .ok (.aload_n 0, 1) := by decide +kernel
theorem dX8_bombs_47 : decode cX8_bombs 47 = .ok (.getfield 61, 3) := by decide +kernel
theorem dX8_bombs_50 : decode cX8_bombs 50 = .ok (.iload 4, 2) := by decide +kernel
theorem dX8_bombs_52 : decode cX8_bombs 52 = .ok (.aload_n 0, 1) := by decide +kernel
theorem dX8_bombs_53 : decode cX8_bombs 53 = .ok (.iload_n 1, 1) := by decide +kernel
theorem dX8_bombs_54 : decode cX8_bombs 54 = .ok (.iload 4, 2) := by decide +kernel
theorem dX8_bombs_56 : decode cX8_bombs 56 = .ok (.aload_n 3, 1) := by decide +kernel
theorem dX8_bombs_57 : decode cX8_bombs 57 = .ok (.iload 4, 2) := by decide +kernel
theorem dX8_bombs_59 : decode cX8_bombs 59 = .ok (.iconst 3, 1) := by decide +kernel
theorem dX8_bombs_60 : decode cX8_bombs 60 = .ok (.imul, 1) := by decide +kernel
theorem dX8_bombs_61 : decode cX8_bombs 61 = .ok (.iaload, 1) := by decide +kernel
theorem dX8_bombs_62 : decode cX8_bombs 62 = .ok (.aload_n 3, 1) := by decide +kernel
theorem dX8_bombs_63 : decode cX8_bombs 63 = .ok (.iload 4, 2) := by decide +kernel
theorem dX8_bombs_65 : decode cX8_bombs 65 = .ok (.iconst 3, 1) := by decide +kernel
theorem dX8_bombs_66 : decode cX8_bombs 66 = .ok (.imul, 1) := by decide +kernel
theorem dX8_bombs_67 : decode cX8_bombs 67 = .ok (.iconst 2, 1) := by decide +kernel
theorem dX8_bombs_68 : decode cX8_bombs 68 = .ok (.iadd, 1) := by decide +kernel
theorem dX8_bombs_69 : decode cX8_bombs 69 = .ok (.iaload, 1) := by decide +kernel
theorem dX8_bombs_70 : decode cX8_bombs 70 = .ok (.invokevirtual 214, 3) := by decide +kernel
theorem dX8_bombs_73 : decode cX8_bombs 73 = .ok (.i2l, 1) := by decide +kernel
theorem dX8_bombs_74 : decode cX8_bombs 74 = .ok (.lastore, 1) := by decide +kernel
theorem dX8_bombs_75 : decode cX8_bombs 75 = .ok (.iinc 4 1, 3) := by decide +kernel
theorem dX8_bombs_78 : decode cX8_bombs 78 = .ok (.goto (-38), 3) := by decide +kernel
theorem dX8_bombs_81 : decode cX8_bombs 81 = .ok (.aload_n 0, 1) := by decide +kernel
theorem dX8_bombs_82 : decode cX8_bombs 82 = .ok (.iconst 3, 1) := by decide +kernel
theorem dX8_bombs_83 : decode cX8_bombs 83 = .ok (.putfield 65, 3) := by decide +kernel
theorem dX8_bombs_86 : decode cX8_bombs 86 = .ok (.iload_n 2, 1) := by decide +kernel
theorem dX8_bombs_87 : decode cX8_bombs 87 = .ok (.ireturn, 1) := by decide +kernel
theorem dX8_opener_0 : decode cX8_opener 0 = .ok (.aload_n 0, 1) := by decide +kernel
theorem dX8_opener_1 : decode cX8_opener 1 = .ok (.iload_n 1, 1) := by decide +kernel
theorem dX8_opener_2 : decode cX8_opener 2 = .ok (.invokevirtual 97, 3) := by decide +kernel
theorem dX8_opener_5 : decode cX8_opener 5 = .ok (.ifCond .eq 20, 3) := by decide +kernel
theorem dX8_opener_8 : decode cX8_opener 8 = .ok (.iload_n 2, 1) := by decide +kernel
theorem dX8_opener_9 : decode cX8_opener 9 = .ok (.invokestatic 100, 3) := by decide +kernel
theorem dX8_opener_12 : decode cX8_opener 12 = .ok (.ifCond .eq 13, 3) := by decide +kernel
theorem dX8_opener_15 : decode cX8_opener 15 = .ok (.iload_n 3, 1) := by decide +kernel
theorem dX8_opener_16 : decode cX8_opener 16 = .ok (.ifCond .lt 9, 3) := by decide +kernel
theorem dX8_opener_19 : decode cX8_opener 19 = .ok (.iload_n 3, 1) := by decide +kernel
theorem dX8_opener_20 : decode cX8_opener 20 = .ok (.ldc 213, 2) := by decide +kernel
theorem dX8_opener_22 : decode cX8_opener 22 = .ok (.if_icmp .le 5, 3) := by decide +kernel
theorem dX8_opener_25 : decode cX8_opener 25 = .ok (.iconst (-1), 1) := by decide +kernel
theorem dX8_opener_26 : decode cX8_opener 26 = .ok (.ireturn, 1) := by decide +kernel
theorem dX8_opener_27 : decode cX8_opener 27 = .ok (.bipush 40, 2) := by decide +kernel
theorem dX8_opener_29 : decode cX8_opener 29 = .ok (.istore 4, 2) := by decide +kernel
theorem dX8_opener_31 : decode cX8_opener 31 = .ok (.iload 4, 2) := by decide +kernel
theorem dX8_opener_33 : decode cX8_opener 33 = .ok (.iconst 1, 1) := by decide +kernel
theorem dX8_opener_34 : decode cX8_opener 34 = .ok (.if_icmp .lt 25, 3) := by decide +kernel
theorem dX8_opener_37 : decode cX8_opener 37 = .ok (.aload_n 0, 1) := by decide +kernel
theorem dX8_opener_38 : decode cX8_opener 38 = .ok (.iload_n 1, 1) := by decide +kernel
theorem dX8_opener_39 : decode cX8_opener 39 = .ok (.iload_n 2, 1) := by decide +kernel
theorem dX8_opener_40 : decode cX8_opener 40 = .ok (.iload 4, 2) := by decide +kernel
theorem dX8_opener_42 : decode cX8_opener 42 = .ok (.iconst 0, 1) := by decide +kernel
theorem dX8_opener_43 : decode cX8_opener 43 = .ok (.invokevirtual 214, 3) := by decide +kernel
theorem dX8_opener_46 : decode cX8_opener 46 = .ok (.iload_n 3, 1) := by decide +kernel
theorem dX8_opener_47 : decode cX8_opener 47 = .ok (.if_icmp .gt 6, 3) := by decide +kernel
theorem dX8_opener_50 : decode cX8_opener 50 = .ok (.iload 4, 2) := by decide +kernel
theorem dX8_opener_52 : decode cX8_opener 52 = .ok (.ireturn, 1) := by decide +kernel
theorem dX8_opener_53 : decode cX8_opener 53 = .ok (.iinc 4 (-1), 3) := by decide +kernel
theorem dX8_opener_56 : decode cX8_opener 56 = .ok (.goto (-25), 3) := by decide +kernel
theorem dX8_opener_59 : decode cX8_opener 59 = .ok (.bipush (-2), 2) := by decide +kernel
theorem dX8_opener_61 : decode cX8_opener 61 = .ok (.ireturn, 1) := by decide +kernel
theorem dX8_heavy_0 : decode cX8_heavy 0 = .ok (.aload_n 0, 1) := by decide +kernel
theorem dX8_heavy_1 : decode cX8_heavy 1 = .ok (.iload_n 1, 1) := by decide +kernel
theorem dX8_heavy_2 : decode cX8_heavy 2 = .ok (.invokevirtual 97, 3) := by decide +kernel
theorem dX8_heavy_5 : decode cX8_heavy 5 = .ok (.ifCond .ne 5, 3) := by decide +kernel
theorem dX8_heavy_8 : decode cX8_heavy 8 = .ok (.iconst (-1), 1) := by decide +kernel
theorem dX8_heavy_9 : decode cX8_heavy 9 = .ok (.ireturn, 1) := by decide +kernel
theorem dX8_heavy_10 : decode cX8_heavy 10 = .ok (.aload_n 0, 1) := by decide +kernel
theorem dX8_heavy_11 : decode cX8_heavy 11 = .ok (.getfield 45, 3) := by decide +kernel
theorem dX8_heavy_14 : decode cX8_heavy 14 = .ok (.invokevirtual 191, 3) := by decide +kernel
theorem dX8_heavy_17 : decode cX8_heavy 17 = .ok (.aload_n 0, 1) := by decide +kernel
theorem dX8_heavy_18 : decode cX8_heavy 18 = .ok (.iload_n 1, 1) := by decide +kernel
theorem dX8_heavy_19 : decode cX8_heavy 19 = .ok (.invokevirtual 218, 3) := by decide +kernel
theorem dX8_heavy_22 : decode cX8_heavy 22 = .ok (.ireturn, 1) := by decide +kernel
theorem dX8_reach_0 : decode cX8_reach 0 = .ok (.aload_n 0, 1) := by decide +kernel
theorem dX8_reach_1 : decode cX8_reach 1 = .ok (.iload_n 1, 1) := by decide +kernel
theorem dX8_reach_2 : decode cX8_reach 2 = .ok (.invokevirtual 97, 3) := by decide +kernel
theorem dX8_reach_5 : decode cX8_reach 5 = .ok (.ifCond .eq 10, 3) := by decide +kernel
theorem dX8_reach_8 : decode cX8_reach 8 = .ok (.iload_n 2, 1) := by decide +kernel
theorem dX8_reach_9 : decode cX8_reach 9 = .ok (.invokestatic 197, 3) := by decide +kernel
theorem dX8_reach_12 : decode cX8_reach 12 = .ok (.ifCond .ne 5, 3) := by decide +kernel
theorem dX8_reach_15 : decode cX8_reach 15 = .ok (.iconst (-1), 1) := by decide +kernel
theorem dX8_reach_16 : decode cX8_reach 16 = .ok (.ireturn, 1) := by decide +kernel
theorem dX8_reach_17 : decode cX8_reach 17 = .ok (.aload_n 0, 1) := by decide +kernel
theorem dX8_reach_18 : decode cX8_reach 18 = .ok (.getfield 45, 3) := by decide +kernel
theorem dX8_reach_21 : decode cX8_reach 21 = .ok (.iload_n 2, 1) := by decide +kernel
theorem dX8_reach_22 : decode cX8_reach 22 = .ok (.invokevirtual 200, 3) := by decide +kernel
theorem dX8_reach_25 : decode cX8_reach 25 = .ok (.aload_n 0, 1) := by decide +kernel
theorem dX8_reach_26 : decode cX8_reach 26 = .ok (.iload_n 1, 1) := by decide +kernel
theorem dX8_reach_27 : decode cX8_reach 27 = .ok (.invokevirtual 218, 3) := by decide +kernel
theorem dX8_reach_30 : decode cX8_reach 30 = .ok (.ireturn, 1) := by decide +kernel
theorem dX8_aim_0 : decode cX8_aim 0 = .ok (.aload_n 0, 1) := by decide +kernel
theorem dX8_aim_1 : decode cX8_aim 1 = .ok (.iload_n 1, 1) := by decide +kernel
theorem dX8_aim_2 : decode cX8_aim 2 = .ok (.invokevirtual 97, 3) := by decide +kernel
theorem dX8_aim_5 : decode cX8_aim 5 = .ok (.ifCond .eq 14, 3) := by decide +kernel
theorem dX8_aim_8 : decode cX8_aim 8 = .ok (.iload_n 2, 1) := by decide +kernel
theorem dX8_aim_9 : decode cX8_aim 9 = .ok (.iconst 1, 1) := by decide +kernel
theorem dX8_aim_10 : decode cX8_aim 10 = .ok (.if_icmp .lt 9, 3) := by decide +kernel
theorem dX8_aim_13 : decode cX8_aim 13 = .ok (.iload_n 2, 1) := by decide +kernel
theorem dX8_aim_14 : decode cX8_aim 14 = .ok (.ldc 213, 2) := by decide +kernel
theorem dX8_aim_16 : decode cX8_aim 16 = .ok (.if_icmp .le 5, 3) := by decide +kernel
theorem dX8_aim_19 : decode cX8_aim 19 = .ok (.iconst (-1), 1) := by decide +kernel
theorem dX8_aim_20 : decode cX8_aim 20 = .ok (.ireturn, 1) := by decide +kernel
theorem dX8_aim_21 : decode cX8_aim 21 = .ok (.aload_n 0, 1) := by decide +kernel
theorem dX8_aim_22 : decode cX8_aim 22 = .ok (.iload_n 1, 1) := by decide +kernel
theorem dX8_aim_23 : decode cX8_aim 23 = .ok (.iconst 1, 1) := by decide +kernel
theorem dX8_aim_24 : decode cX8_aim 24 = .ok (.invokevirtual 221, 3) := by decide +kernel
theorem dX8_aim_27 : decode cX8_aim 27 = .ok (.astore_n 3, 1) := by decide +kernel
theorem dX8_aim_28 : decode cX8_aim 28 = .ok (.iconst 0, 1) := by decide +kernel
theorem dX8_aim_29 : decode cX8_aim 29 = .ok (.istore 4, 2) := by decide +kernel
theorem dX8_aim_31 : decode cX8_aim 31 = .ok (.ldc 213, 2) := by decide +kernel
theorem dX8_aim_33 : decode cX8_aim 33 = .ok (.istore 5, 2) := by decide +kernel
theorem dX8_aim_35 : decode cX8_aim 35 = .ok (.bipush 64, 2) := by decide +kernel
theorem dX8_aim_37 : decode cX8_aim 37 = .ok (.istore 6, 2) := by decide +kernel
theorem dX8_aim_39 : decode cX8_aim 39 = .ok (.iload 6, 2) := by decide +kernel
theorem dX8_aim_41 : decode cX8_aim 41 = .ok (.ifCond .le 79, 3) := by decide +kernel
theorem dX8_aim_44 : decode cX8_aim 44 = .ok (.iload 4, 2) := by decide +kernel
theorem dX8_aim_46 : decode cX8_aim 46 = .ok (.iload 6, 2) := by decide +kernel
theorem dX8_aim_48 : decode cX8_aim 48 = .ok (.iadd, 1) := by decide +kernel
theorem dX8_aim_49 : decode cX8_aim 49 = .ok (.istore 7, 2) := by decide +kernel
theorem dX8_aim_51 : decode cX8_aim 51 = .ok (.iload 7, 2) := by decide +kernel
theorem dX8_aim_53 : decode cX8_aim 53 = .ok (.bipush 120, 2) := by decide +kernel
theorem dX8_aim_55 : decode cX8_aim 55 = .ok (.if_icmp .gt 56, 3) := by decide +kernel
theorem dX8_aim_58 : decode cX8_aim 58 = .ok (.aload_n 0, 1) := by decide +kernel
theorem dX8_aim_59 : decode cX8_aim 59 = .ok (.getfield 38, 3) := by decide +kernel
theorem dX8_aim_62 : decode cX8_aim 62 = .ok (.aload_n 0, 1) := by decide +kernel
theorem dX8_aim_63 : decode cX8_aim 63 = .ok (.getfield 28, 3) := by decide +kernel
theorem dX8_aim_66 : decode cX8_aim 66 = .ok (.iload_n 1, 1) := by decide +kernel
theorem dX8_aim_67 : decode cX8_aim 67 = .ok (.invokevirtual 225, 3) := by decide +kernel
theorem dX8_aim_70 : decode cX8_aim 70 = .ok (.aload_n 0, 1) := by decide +kernel
theorem dX8_aim_71 : decode cX8_aim 71 = .ok (.getfield 38, 3) := by decide +kernel
theorem dX8_aim_74 : decode cX8_aim 74 = .ok (.dup, 1) := by decide +kernel
theorem dX8_aim_75 : decode cX8_aim 75 = .ok (.getfield 229, 3) := by decide +kernel
theorem dX8_aim_78 : decode cX8_aim 78 = .ok (.bipush 121, 2) := by decide +kernel
theorem dX8_aim_80 : decode cX8_aim 80 = .ok (.iload 7, 2) := by decide +kernel
theorem dX8_aim_82 : decode cX8_aim 82 = .ok (.isub, 1) := by decide +kernel
theorem dX8_aim_83 : decode cX8_aim 83 = .ok (.iadd, 1) := by decide +kernel
theorem dX8_aim_84 : decode cX8_aim 84 = .ok (.putfield 229, 3) := by decide +kernel
theorem dX8_aim_87 : decode cX8_aim 87 = .ok (.aload_n 3, 1) := by decide +kernel
theorem dX8_aim_88 : decode cX8_aim 88 = .ok (.aload_n 0, 1) := by decide +kernel
theorem dX8_aim_89 : decode cX8_aim 89 = .ok (.getfield 38, 3) := by decide +kernel
theorem dX8_aim_92 : decode cX8_aim 92 = .ok (.invokevirtual 232, 3) := by decide +kernel
theorem dX8_aim_95 : decode cX8_aim 95 = .ok (.istore 8, 2) := by decide +kernel
theorem dX8_aim_97 : decode cX8_aim 97 = .ok (.iload 8, 2) := by decide +kernel
theorem dX8_aim_99 : decode cX8_aim 99 = .ok (.iload_n 2, 1) := by decide +kernel
theorem dX8_aim_100 : decode cX8_aim 100 = .ok (.if_icmp .lt 11, 3) := by decide +kernel
theorem dX8_aim_103 : decode cX8_aim 103 = .ok (.iload 7, 2) := by decide +kernel
theorem dX8_aim_105 : decode cX8_aim 105 = .ok (.istore 4, 2) := by decide +kernel
theorem dX8_aim_107 : decode cX8_aim 107 = .ok (.iload 8, 2) := by decide +kernel
theorem dX8_aim_109 : decode cX8_aim 109 = .ok (.istore 5, 2) := by decide +kernel
theorem dX8_aim_111 : decode cX8_aim 111 = .ok (.iload 6, 2) := by decide +kernel
theorem dX8_aim_113 : decode cX8_aim 113 = .ok (.iconst 2, 1) := by decide +kernel
theorem dX8_aim_114 : decode cX8_aim 114 = .ok (.idiv, 1) := by decide +kernel
theorem dX8_aim_115 : decode cX8_aim 115 = .ok (.istore 6, 2) := by decide +kernel
theorem dX8_aim_117 : decode cX8_aim 117 = .ok (.goto (-78), 3) := by decide +kernel
theorem dX8_aim_120 : decode cX8_aim 120 = .ok (.aload_n 0, 1) := by decide +kernel
theorem dX8_aim_121 : decode cX8_aim 121 = .ok (.getfield 61, 3) := by decide +kernel
theorem dX8_aim_124 : decode cX8_aim 124 = .ok (.iconst 0, 1) := by decide +kernel
theorem dX8_aim_125 : decode cX8_aim 125 = .ok (.iload 5, 2) := by decide +kernel
theorem dX8_aim_127 : decode cX8_aim 127 = .ok (.i2l, 1) := by decide +kernel
theorem dX8_aim_128 : decode cX8_aim 128 = .ok (.lastore, 1) := by decide +kernel
theorem dX8_aim_129 : decode cX8_aim 129 = .ok (.aload_n 0, 1) := by decide +kernel
theorem dX8_aim_130 : decode cX8_aim 130 = .ok (.iconst 1, 1) := by decide +kernel
theorem dX8_aim_131 : decode cX8_aim 131 = .ok (.putfield 65, 3) := by decide +kernel
theorem dX8_aim_134 : decode cX8_aim 134 = .ok (.iload 4, 2) := by decide +kernel
theorem dX8_aim_136 : decode cX8_aim 136 = .ok (.ireturn, 1) := by decide +kernel
theorem dX8_against_0 : decode cX8_against 0 = .ok (.aload_n 0, 1) := by decide +kernel
theorem dX8_against_1 : decode cX8_against 1 = .ok (.iload_n 1, 1) := by decide +kernel
theorem dX8_against_2 : decode cX8_against 2 = .ok (.invokevirtual 97, 3) := by decide +kernel
theorem dX8_against_5 : decode cX8_against 5 = .ok (.ifCond .eq 16, 3) := by decide +kernel
theorem dX8_against_8 : decode cX8_against 8 = .ok (.aload_n 0, 1) := by decide +kernel
theorem dX8_against_9 : decode cX8_against 9 = .ok (.iload_n 2, 1) := by decide +kernel
theorem dX8_against_10 : decode cX8_against 10 = .ok (.invokevirtual 97, 3) := by decide +kernel
theorem dX8_against_13 : decode cX8_against 13 = .ok (.ifCond .eq 8, 3) := by decide +kernel
theorem dX8_against_16 : decode cX8_against 16 = .ok (.iload_n 1, 1) := by decide +kernel
theorem dX8_against_17 : decode cX8_against 17 = .ok (.iload_n 2, 1) := by decide +kernel
theorem dX8_against_18 : decode cX8_against 18 = .ok (.if_icmp .ne 5, 3) := by decide +kernel
theorem dX8_against_21 : decode cX8_against 21 = .ok (.iconst (-1), 1) := by decide +kernel
theorem dX8_against_22 : decode cX8_against 22 = .ok (.ireturn, 1) := by decide +kernel
theorem dX8_against_23 : decode cX8_against 23 = .ok (.aload_n 0, 1) := by decide +kernel
theorem dX8_against_24 : decode cX8_against 24 = .ok (.iload_n 1, 1) := by decide +kernel
theorem dX8_against_25 : decode cX8_against 25 = .ok (.iload_n 2, 1) := by decide +kernel
theorem dX8_against_26 : decode cX8_against 26 = .ok (.invokevirtual 207, 3) := by decide +kernel
theorem dX8_against_29 : decode cX8_against 29 = .ok (.aload_n 0, 1) := by decide +kernel
theorem dX8_against_30 : decode cX8_against 30 = .ok (.iload_n 1, 1) := by decide +kernel
theorem dX8_against_31 : decode cX8_against 31 = .ok (.invokevirtual 218, 3) := by decide +kernel
theorem dX8_against_34 : decode cX8_against 34 = .ok (.ireturn, 1) := by decide +kernel
theorem dX8_gold_0 : decode cX8_gold 0 = .ok (.aload_n 0, 1) := by decide +kernel
theorem dX8_gold_1 : decode cX8_gold 1 = .ok (.iload_n 1, 1) := by decide +kernel
theorem dX8_gold_2 : decode cX8_gold 2 = .ok (.invokevirtual 97, 3) := by decide +kernel
theorem dX8_gold_5 : decode cX8_gold 5 = .ok (.ifCond .ne 5, 3) := by decide +kernel
theorem dX8_gold_8 : decode cX8_gold 8 = .ok (.iconst (-1), 1) := by decide +kernel
theorem dX8_gold_9 : decode cX8_gold 9 = .ok (.ireturn, 1) := by decide +kernel
theorem dX8_gold_10 : decode cX8_gold 10 = .ok (.aload_n 0, 1) := by decide +kernel
theorem dX8_gold_11 : decode cX8_gold 11 = .ok (.iload_n 1, 1) := by decide +kernel
theorem dX8_gold_12 : decode cX8_gold 12 = .ok (.invokevirtual 238, 3) := by decide +kernel
theorem dX8_gold_15 : decode cX8_gold 15 = .ok (.aload_n 0, 1) := by decide +kernel
theorem dX8_gold_16 : decode cX8_gold 16 = .ok (.iload_n 1, 1) := by decide +kernel
theorem dX8_gold_17 : decode cX8_gold 17 = .ok (.invokevirtual 218, 3) := by decide +kernel
theorem dX8_gold_20 : decode cX8_gold 20 = .ok (.ireturn, 1) := by decide +kernel
theorem dX8_line_0 : decode cX8_line 0 = .ok (.aload_n 0, 1) := by decide +kernel
theorem dX8_line_1 : decode cX8_line 1 = .ok (.iload_n 1, 1) := by decide +kernel
theorem dX8_line_2 : decode cX8_line 2 = .ok (.invokevirtual 97, 3) := by decide +kernel
theorem dX8_line_5 : decode cX8_line 5 = .ok (.ifCond .eq 12, 3) := by decide +kernel
theorem dX8_line_8 : decode cX8_line 8 = .ok (.iload_n 2, 1) := by decide +kernel
theorem dX8_line_9 : decode cX8_line 9 = .ok (.ifCond .lt 8, 3) := by decide +kernel
theorem dX8_line_12 : decode cX8_line 12 = .ok (.iload_n 2, 1) := by decide +kernel
theorem dX8_line_13 : decode cX8_line 13 = .ok (.iconst 1, 1) := by decide +kernel
theorem dX8_line_14 : decode cX8_line 14 = .ok (.if_icmp .le 5, 3) := by decide +kernel
theorem dX8_line_17 : decode cX8_line 17 = .ok (.iconst (-1), 1) := by decide +kernel
theorem dX8_line_18 : decode cX8_line 18 = .ok (.ireturn, 1) := by decide +kernel
theorem dX8_line_19 : decode cX8_line 19 = .ok (.iload_n 2, 1) := by decide +kernel
theorem dX8_line_20 : decode cX8_line 20 = .ok (.ifCond .ne 13, 3) := by decide +kernel
theorem dX8_line_23 : decode cX8_line 23 = .ok (.aload_n 0, 1) := by decide +kernel
theorem dX8_line_24 : decode cX8_line 24 = .ok (.getfield 45, 3) := by decide +kernel
theorem dX8_line_27 : decode cX8_line 27 = .ok (.invokevirtual 191, 3) := by decide +kernel
theorem dX8_line_30 : decode cX8_line 30 = .ok (.goto 8, 3) := by decide +kernel
theorem dX8_line_33 : decode cX8_line 33 = .ok (.aload_n 0, 1) := by decide +kernel
theorem dX8_line_34 : decode cX8_line 34 = .ok (.iload_n 1, 1) := by decide +kernel
theorem dX8_line_35 : decode cX8_line 35 = .ok (.invokevirtual 238, 3) := by decide +kernel
theorem dX8_line_38 : decode cX8_line 38 = .ok (.aload_n 0, 1) := by decide +kernel
theorem dX8_line_39 : decode cX8_line 39 = .ok (.iload_n 1, 1) := by decide +kernel
theorem dX8_line_40 : decode cX8_line 40 = .ok (.iconst 0, 1) := by decide +kernel
theorem dX8_line_41 : decode cX8_line 41 = .ok (.invokevirtual 221, 3) := by decide +kernel
theorem dX8_line_44 : decode cX8_line 44 = .ok (.astore 4, 2) := by decide +kernel
theorem dX8_line_46 : decode cX8_line 46 = .ok (.aload_n 0, 1) := by decide +kernel
theorem dX8_line_47 : decode cX8_line 47 = .ok (.getfield 38, 3) := by decide +kernel
theorem dX8_line_50 : decode cX8_line 50 = .ok (.aload_n 0, 1) := by decide +kernel
theorem dX8_line_51 : decode cX8_line 51 = .ok (.getfield 28, 3) := by decide +kernel
theorem dX8_line_54 : decode cX8_line 54 = .ok (.iload_n 1, 1) := by decide +kernel
theorem dX8_line_55 : decode cX8_line 55 = .ok (.invokevirtual 225, 3) := by decide +kernel
theorem dX8_line_58 : decode cX8_line 58 = .ok (.aload_n 0, 1) := by decide +kernel
theorem dX8_line_59 : decode cX8_line 59 = .ok (.iconst 0, 1) := by decide +kernel
theorem dX8_line_60 : decode cX8_line 60 = .ok (.putfield 65, 3) := by decide +kernel
theorem dX8_line_63 : decode cX8_line 63 = .ok (.iconst 0, 1) := by decide +kernel
theorem dX8_line_64 : decode cX8_line 64 = .ok (.istore 5, 2) := by decide +kernel
theorem dX8_line_66 : decode cX8_line 66 = .ok (.iload 5, 2) := by decide +kernel
theorem dX8_line_68 : decode cX8_line 68 = .ok (.aload_n 0, 1) := by decide +kernel
theorem dX8_line_69 : decode cX8_line 69 = .ok (.getfield 61, 3) := by decide +kernel
theorem dX8_line_72 : decode cX8_line 72 = .ok (.arraylength, 1) := by decide +kernel
theorem dX8_line_73 : decode cX8_line 73 = .ok (.if_icmp .ge 65, 3) := by decide +kernel
theorem dX8_line_76 : decode cX8_line 76 = .ok (.aload_n 0, 1) := by decide +kernel
theorem dX8_line_77 : decode cX8_line 77 = .ok (.getfield 38, 3) := by decide +kernel
theorem dX8_line_80 : decode cX8_line 80 = .ok (.invokevirtual 241, 3) := by decide +kernel
theorem dX8_line_83 : decode cX8_line 83 = .ok (.ifCond .eq 55, 3) := by decide +kernel
theorem dX8_line_86 : decode cX8_line 86 = .ok (.aload 4, 2) := by decide +kernel
theorem dX8_line_88 : decode cX8_line 88 = .ok (.aload_n 0, 1) := by decide +kernel
theorem dX8_line_89 : decode cX8_line 89 = .ok (.getfield 38, 3) := by decide +kernel
theorem dX8_line_92 : decode cX8_line 92 = .ok (.invokevirtual 232, 3) := by decide +kernel
theorem dX8_line_95 : decode cX8_line 95 = .ok (.pop, 1) := by decide +kernel
theorem dX8_line_96 : decode cX8_line 96 = .ok (.aload_n 0, 1) := by decide +kernel
theorem dX8_line_97 : decode cX8_line 97 = .ok (.getfield 61, 3) := by decide +kernel
theorem dX8_line_100 : decode cX8_line 100 = .ok (.iload 5, 2) := by decide +kernel
theorem dX8_line_102 : decode cX8_line 102 = .ok (.aload 4, 2) := by decide +kernel
theorem dX8_line_104 : decode cX8_line 104 = .ok (.getfield 245, 3) := by decide +kernel
theorem dX8_line_107 : decode cX8_line 107 = .ok (.i2l, 1) := by decide +kernel
theorem dX8_line_108 : decode cX8_line 108 = .ok (.lastore, 1) := by decide +kernel
theorem dX8_line_109 : decode cX8_line 109 = .ok (.aload_n 0, 1) := by decide +kernel
theorem dX8_line_110 : decode cX8_line 110 = .ok (.dup, 1) := by decide +kernel
theorem dX8_line_111 : decode cX8_line 111 = .ok (.getfield 65, 3) := by decide +kernel
theorem dX8_line_114 : decode cX8_line 114 = .ok (.iconst 1, 1) := by decide +kernel
theorem dX8_line_115 : decode cX8_line 115 = .ok (.iadd, 1) := by decide +kernel
theorem dX8_line_116 : decode cX8_line 116 = .ok (.putfield 65, 3) := by decide +kernel
theorem dX8_line_119 : decode cX8_line 119 = .ok (.aload_n 0, 1) := by decide +kernel
theorem dX8_line_120 : decode cX8_line 120 = .ok (.getfield 38, 3) := by decide +kernel
theorem dX8_line_123 : decode cX8_line 123 = .ok (.aload 4, 2) := by decide +kernel
theorem dX8_line_125 : decode cX8_line 125 = .ok (.getfield 245, 3) := by decide +kernel
theorem dX8_line_128 : decode cX8_line 128 = .ok (.iload_n 3, 1) := by decide +kernel
theorem dX8_line_129 : decode cX8_line 129 = .ok (.invokevirtual 248, 3) := by decide +kernel
theorem dX8_line_132 : decode cX8_line 132 = .ok (.iinc 5 1, 3) := by decide +kernel
theorem dX8_line_135 : decode cX8_line 135 = .ok (.goto (-69), 3) := by decide +kernel
theorem dX8_line_138 : decode cX8_line 138 = .ok (.aload_n 0, 1) := by decide +kernel
theorem dX8_line_139 : decode cX8_line 139 = .ok (.getfield 65, 3) := by decide +kernel
theorem dX8_line_142 : decode cX8_line 142 = .ok (.ireturn, 1) := by decide +kernel
theorem dX8_duel_0 : decode cX8_duel 0 = .ok (.aload_n 0, 1) := by decide +kernel
theorem dX8_duel_1 : decode cX8_duel 1 = .ok (.iload_n 1, 1) := by decide +kernel
theorem dX8_duel_2 : decode cX8_duel 2 = .ok (.invokevirtual 97, 3) := by decide +kernel
theorem dX8_duel_5 : decode cX8_duel 5 = .ok (.ifCond .eq 16, 3) := by decide +kernel
theorem dX8_duel_8 : decode cX8_duel 8 = .ok (.aload_n 0, 1) := by decide +kernel
theorem dX8_duel_9 : decode cX8_duel 9 = .ok (.iload_n 2, 1) := by decide +kernel
theorem dX8_duel_10 : decode cX8_duel 10 = .ok (.invokevirtual 97, 3) := by decide +kernel
theorem dX8_duel_13 : decode cX8_duel 13 = .ok (.ifCond .eq 8, 3) := by decide +kernel
theorem dX8_duel_16 : decode cX8_duel 16 = .ok (.iload_n 1, 1) := by decide +kernel
theorem dX8_duel_17 : decode cX8_duel 17 = .ok (.iload_n 2, 1) := by decide +kernel
theorem dX8_duel_18 : decode cX8_duel 18 = .ok (.if_icmp .ne 5, 3) := by decide +kernel
theorem dX8_duel_21 : decode cX8_duel 21 = .ok (.iconst (-1), 1) := by decide +kernel
theorem dX8_duel_22 : decode cX8_duel 22 = .ok (.ireturn, 1) := by decide +kernel
theorem dX8_duel_23 : decode cX8_duel 23 = .ok (.aload_n 0, 1) := by decide +kernel
theorem dX8_duel_24 : decode cX8_duel 24 = .ok (.iload_n 1, 1) := by decide +kernel
theorem dX8_duel_25 : decode cX8_duel 25 = .ok (.iload_n 2, 1) := by decide +kernel
theorem dX8_duel_26 : decode cX8_duel 26 = .ok (.aload_n 0, 1) := by decide +kernel
theorem dX8_duel_27 : decode cX8_duel 27 = .ok (.getfield 28, 3) := by decide +kernel
theorem dX8_duel_30 : decode cX8_duel 30 = .ok (.getfield 137, 3) := by decide +kernel
theorem dX8_duel_33 : decode cX8_duel 33 = .ok (.iload_n 1, 1) := by decide +kernel
theorem dX8_duel_34 : decode cX8_duel 34 = .ok (.iaload, 1) := by decide +kernel
theorem dX8_duel_35 : decode cX8_duel 35 = .ok (.aload_n 0, 1) := by decide +kernel
theorem dX8_duel_36 : decode cX8_duel 36 = .ok (.getfield 28, 3) := by decide +kernel
theorem dX8_duel_39 : decode cX8_duel 39 = .ok (.getfield 137, 3) := by decide +kernel
theorem dX8_duel_42 : decode cX8_duel 42 = .ok (.iload_n 2, 1) := by decide +kernel
theorem dX8_duel_43 : decode cX8_duel 43 = .ok (.iaload, 1) := by decide +kernel
theorem dX8_duel_44 : decode cX8_duel 44 = .ok (.iconst 3, 1) := by decide +kernel
theorem dX8_duel_45 : decode cX8_duel 45 = .ok (.invokevirtual 249, 3) := by decide +kernel
theorem dX8_duel_48 : decode cX8_duel 48 = .ok (.ireturn, 1) := by decide +kernel
theorem dX8_bluff_0 : decode cX8_bluff 0 = .ok (.aload_n 0, 1) := by decide +kernel
theorem dX8_bluff_1 : decode cX8_bluff 1 = .ok (.iload_n 1, 1) := by decide +kernel
theorem dX8_bluff_2 : decode cX8_bluff 2 = .ok (.invokevirtual 97, 3) := by decide +kernel
theorem dX8_bluff_5 : decode cX8_bluff 5 = .ok (.ifCond .eq 36, 3) := by decide +kernel
theorem dX8_bluff_8 : decode cX8_bluff 8 = .ok (.aload_n 0, 1) := by decide +kernel
theorem dX8_bluff_9 : decode cX8_bluff 9 = .ok (.iload_n 2, 1) := by decide +kernel
theorem dX8_bluff_10 : decode cX8_bluff 10 = .ok (.invokevirtual 97, 3) := by decide +kernel
theorem dX8_bluff_13 : decode cX8_bluff 13 = .ok (.ifCond .eq 28, 3) := by decide +kernel
theorem dX8_bluff_16 : decode cX8_bluff 16 = .ok (.iload_n 1, 1) := by decide +kernel
theorem dX8_bluff_17 : decode cX8_bluff 17 = .ok (.iload_n 2, 1) := by decide +kernel
theorem dX8_bluff_18 : decode cX8_bluff 18 = .ok (.if_icmp .eq 23, 3) := by decide +kernel
theorem dX8_bluff_21 : decode cX8_bluff 21 = .ok (.iload_n 3, 1) := by decide +kernel
theorem dX8_bluff_22 : decode cX8_bluff 22 = .ok (.ifCond .lt 19, 3) := by decide +kernel
theorem dX8_bluff_25 : decode cX8_bluff 25 = .ok (.iload_n 3, 1) := by decide +kernel
theorem dX8_bluff_26 : decode cX8_bluff 26 = .ok (.iconst 2, 1) := by decide +kernel
theorem dX8_bluff_27 : decode cX8_bluff 27 = .ok (.if_icmp .gt 14, 3) := by decide +kernel
theorem dX8_bluff_30 : decode cX8_bluff 30 = .ok (.iload 4, 2) := by decide +kernel
theorem dX8_bluff_32 : decode cX8_bluff 32 = .ok (.ifCond .lt 9, 3) := by decide +kernel
theorem dX8_bluff_35 : decode cX8_bluff 35 = .ok (.iload 4, 2) := by decide +kernel
theorem dX8_bluff_37 : decode cX8_bluff 37 = .ok (.iconst 2, 1) := by decide +kernel
theorem dX8_bluff_38 : decode cX8_bluff 38 = .ok (.if_icmp .le 5, 3) := by decide +kernel
theorem dX8_bluff_41 : decode cX8_bluff 41 = .ok (.iconst (-1), 1) := by decide +kernel
theorem dX8_bluff_42 : decode cX8_bluff 42 = .ok (.ireturn, 1) := by decide +kernel
theorem dX8_bluff_43 : decode cX8_bluff 43 = .ok (.aload_n 0, 1) := by decide +kernel
theorem dX8_bluff_44 : decode cX8_bluff 44 = .ok (.iload_n 1, 1) := by decide +kernel
theorem dX8_bluff_45 : decode cX8_bluff 45 = .ok (.iload_n 2, 1) := by decide +kernel
theorem dX8_bluff_46 : decode cX8_bluff 46 = .ok (.iload_n 3, 1) := by decide +kernel
theorem dX8_bluff_47 : decode cX8_bluff 47 = .ok (.iload 4, 2) := by decide +kernel
theorem dX8_bluff_49 : decode cX8_bluff 49 = .ok (.iconst 2, 1) := by decide +kernel
theorem dX8_bluff_50 : decode cX8_bluff 50 = .ok (.invokevirtual 249, 3) := by decide +kernel
theorem dX8_bluff_53 : decode cX8_bluff 53 = .ok (.ireturn, 1) := by decide +kernel
theorem dX8_plays_0 : decode cX8_plays 0 = .ok (.aload_n 0, 1) := by decide +kernel
theorem dX8_plays_1 : decode cX8_plays 1 = .ok (.getfield 28, 3) := by decide +kernel
theorem dX8_plays_4 : decode cX8_plays 4 = .ok (.invokevirtual 150, 3) := by decide +kernel
theorem dX8_plays_7 : decode cX8_plays 7 = .ok (.ifCond .ge 6, 3) := by decide +kernel
theorem dX8_plays_10 : decode cX8_plays 10 = .ok (.bipush (-2), 2) := by decide +kernel
theorem dX8_plays_12 : decode cX8_plays 12 = .ok (.ireturn, 1) := by decide +kernel
theorem dX8_plays_13 : decode cX8_plays 13 = .ok (.aload_n 0, 1) := by decide +kernel
theorem dX8_plays_14 : decode cX8_plays 14 = .ok (.getfield 28, 3) := by decide +kernel
theorem dX8_plays_17 : decode cX8_plays 17 = .ok (.getfield 172, 3) := by decide +kernel
theorem dX8_plays_20 : decode cX8_plays 20 = .ok (.istore_n 2, 1) := by decide +kernel
theorem dX8_plays_21 : decode cX8_plays 21 = .ok (.aload_n 0, 1) := by decide +kernel
theorem dX8_plays_22 : decode cX8_plays 22 = .ok (.getfield 28, 3) := by decide +kernel
theorem dX8_plays_25 : decode cX8_plays 25 = .ok (.iload_n 1, 1) := by decide +kernel
theorem dX8_plays_26 : decode cX8_plays 26 = .ok (.invokevirtual 253, 3) := by decide +kernel
theorem dX8_plays_29 : decode cX8_plays 29 = .ok (.pop, 1) := by decide +kernel
theorem dX8_plays_30 : decode cX8_plays 30 = .ok (.aload_n 0, 1) := by decide +kernel
theorem dX8_plays_31 : decode cX8_plays 31 = .ok (.invokevirtual 178, 3) := by decide +kernel
theorem dX8_plays_34 : decode cX8_plays 34 = .ok (.aload_n 0, 1) := by decide +kernel
theorem dX8_plays_35 : decode cX8_plays 35 = .ok (.getfield 28, 3) := by decide +kernel
theorem dX8_plays_38 : decode cX8_plays 38 = .ok (.getfield 172, 3) := by decide +kernel
theorem dX8_plays_41 : decode cX8_plays 41 = .ok (.iload_n 2, 1) := by decide +kernel
theorem dX8_plays_42 : decode cX8_plays 42 = .ok (.isub, 1) := by decide +kernel
theorem dX8_plays_43 : decode cX8_plays 43 = .ok (.ireturn, 1) := by decide +kernel
theorem dX8_often_0 : decode cX8_often 0 = .ok (.aload_n 0, 1) := by decide +kernel
theorem dX8_often_1 : decode cX8_often 1 = .ok (.iload_n 1, 1) := by decide +kernel
theorem dX8_often_2 : decode cX8_often 2 = .ok (.invokevirtual 97, 3) := by decide +kernel
theorem dX8_often_5 : decode cX8_often 5 = .ok (.ifCond .eq 14, 3) := by decide +kernel
theorem dX8_often_8 : decode cX8_often 8 = .ok (.iload_n 2, 1) := by decide +kernel
theorem dX8_often_9 : decode cX8_often 9 = .ok (.iconst 1, 1) := by decide +kernel
theorem dX8_often_10 : decode cX8_often 10 = .ok (.if_icmp .lt 9, 3) := by decide +kernel
theorem dX8_often_13 : decode cX8_often 13 = .ok (.iload_n 2, 1) := by decide +kernel
theorem dX8_often_14 : decode cX8_often 14 = .ok (.bipush 50, 2) := by decide +kernel
theorem dX8_often_16 : decode cX8_often 16 = .ok (.if_icmp .le 5, 3) := by decide +kernel
theorem dX8_often_19 : decode cX8_often 19 = .ok (.iconst (-1), 1) := by decide +kernel
theorem dX8_often_20 : decode cX8_often 20 = .ok (.ireturn, 1) := by decide +kernel
theorem dX8_often_21 : decode cX8_often 21 = .ok (.iload_n 3, 1) := by decide +kernel
theorem dX8_often_22 : decode cX8_often 22 = .ok (.istore 4, 2) := by decide +kernel
theorem dX8_often_24 : decode cX8_often 24 = .ok (.iconst 0, 1) := by decide +kernel
theorem dX8_often_25 : decode cX8_often 25 = .ok (.istore 5, 2) := by decide +kernel
theorem dX8_often_27 : decode cX8_often 27 = .ok (.iconst 0, 1) := by decide +kernel
theorem dX8_often_28 : decode cX8_often 28 = .ok (.istore 6, 2) := by decide +kernel
theorem dX8_often_30 : decode cX8_often 30 = .ok (.iconst 0, 1) := by decide +kernel
theorem dX8_often_31 : decode cX8_often 31 = .ok (.istore 7, 2) := by decide +kernel
theorem dX8_often_33 : decode cX8_often 33 = .ok (.iconst 0, 1) := by decide +kernel
theorem dX8_often_34 : decode cX8_often 34 = .ok (.istore 8, 2) := by decide +kernel
theorem dX8_often_36 : decode cX8_often 36 = .ok (.iload 8, 2) := by decide +kernel
theorem dX8_often_38 : decode cX8_often 38 = .ok (.iload_n 2, 1) := by decide +kernel
theorem dX8_often_39 : decode cX8_often 39 = .ok (.if_icmp .ge 76, 3) := by decide +kernel
theorem dX8_often_42 : decode cX8_often 42 = .ok (.aload_n 0, 1) := by decide +kernel
theorem dX8_often_43 : decode cX8_often 43 = .ok (.getfield 32, 3) := by decide +kernel
theorem dX8_often_46 : decode cX8_often 46 = .ok (.aload_n 0, 1) := by decide +kernel
theorem dX8_often_47 : decode cX8_often 47 = .ok (.getfield 28, 3) := by decide +kernel
theorem dX8_often_50 : decode cX8_often 50 = .ok (.invokevirtual 256, 3) := by decide +kernel
theorem dX8_often_53 : decode cX8_often 53 = .ok (.aload_n 0, 1) := by decide +kernel
theorem dX8_often_54 : decode cX8_often 54 = .ok (.getfield 32, 3) := by decide +kernel
theorem dX8_often_57 : decode cX8_often 57 = .ok (.iload 4, 2) := by decide +kernel
theorem dX8_often_59 : decode cX8_often 59 = .ok (.invokevirtual 253, 3) := by decide +kernel
theorem dX8_often_62 : decode cX8_often 62 = .ok (.istore 4, 2) := by decide +kernel
theorem dX8_often_64 : decode cX8_often 64 = .ok (.aload_n 0, 1) := by decide +kernel
theorem dX8_often_65 : decode cX8_often 65 = .ok (.getfield 32, 3) := by decide +kernel
theorem dX8_often_68 : decode cX8_often 68 = .ok (.getfield 143, 3) := by decide +kernel
theorem dX8_often_71 : decode cX8_often 71 = .ok (.iload_n 1, 1) := by decide +kernel
theorem dX8_often_72 : decode cX8_often 72 = .ok (.baload, 1) := by decide +kernel
theorem dX8_often_73 : decode cX8_often 73 = .ok (.ifCond .eq 9, 3) := by decide +kernel
theorem dX8_often_76 : decode cX8_often 76 = .ok (.iinc 6 1, 3) := by decide +kernel
theorem dX8_often_79 : decode cX8_often 79 = .ok (.goto 17, 3) := by decide +kernel
theorem dX8_often_82 : decode cX8_often 82 = .ok (.aload_n 0, 1) := by decide +kernel
theorem dX8_often_83 : decode cX8_often 83 = .ok (.getfield 32, 3) := by decide +kernel
theorem dX8_often_86 : decode cX8_often 86 = .ok (.iload_n 1, 1) := by decide +kernel
theorem dX8_often_87 : decode cX8_often 87 = .ok (.invokevirtual 181, 3) := by decide +kernel
theorem dX8_often_90 : decode cX8_often 90 = .ok (.ifCond .ne 6, 3) := by decide +kernel
theorem dX8_often_93 : decode cX8_often 93 = .ok (.iinc 5 1, 3) := by decide +kernel
theorem dX8_often_96 : decode cX8_often 96 = .ok (.iload 7, 2) := by decide +kernel
theorem dX8_often_98 : decode cX8_often 98 = .ok (.aload_n 0, 1) := by decide +kernel
theorem dX8_often_99 : decode cX8_often 99 = .ok (.getfield 32, 3) := by decide +kernel
theorem dX8_often_102 : decode cX8_often 102 = .ok (.iload_n 1, 1) := by decide +kernel
theorem dX8_often_103 : decode cX8_often 103 = .ok (.invokevirtual 147, 3) := by decide +kernel
theorem dX8_often_106 : decode cX8_often 106 = .ok (.iadd, 1) := by decide +kernel
theorem dX8_often_107 : decode cX8_often 107 = .ok (.istore 7, 2) := by decide +kernel
theorem dX8_often_109 : decode cX8_often 109 = .ok (.iinc 8 1, 3) := by decide +kernel
theorem dX8_often_112 : decode cX8_often 112 = .ok (.goto (-76), 3) := by decide +kernel
theorem dX8_often_115 : decode cX8_often 115 = .ok (.aload_n 0, 1) := by decide +kernel
theorem dX8_often_116 : decode cX8_often 116 = .ok (.iload 6, 2) := by decide +kernel
theorem dX8_often_118 : decode cX8_often 118 = .ok (.iload 7, 2) := by decide +kernel
theorem dX8_often_120 : decode cX8_often 120 = .ok (.invokevirtual 157, 3) := by decide +kernel
theorem dX8_often_123 : decode cX8_often 123 = .ok (.iload 5, 2) := by decide +kernel
theorem dX8_often_125 : decode cX8_often 125 = .ok (.ireturn, 1) := by decide +kernel
theorem dX8_count_0 : decode cX8_count 0 = .ok (.iload_n 1, 1) := by decide +kernel
theorem dX8_count_1 : decode cX8_count 1 = .ok (.tableswitch 132 0 9 #[55, 63, 71, 79, 87, 95, 103, 111, 116, 124], 55) := by decide +kernel
theorem dX8_count_56 : decode cX8_count 56 = .ok (.aload_n 0, 1) := by decide +kernel
theorem dX8_count_57 : decode cX8_count 57 = .ok (.getfield 28, 3) := by decide +kernel
theorem dX8_count_60 : decode cX8_count 60 = .ok (.getfield 87, 3) := by decide +kernel
theorem dX8_count_63 : decode cX8_count 63 = .ok (.ireturn, 1) := by decide +kernel
theorem dX8_count_64 : decode cX8_count 64 = .ok (.aload_n 0, 1) := by decide +kernel
theorem dX8_count_65 : decode cX8_count 65 = .ok (.getfield 28, 3) := by decide +kernel
theorem dX8_count_68 : decode cX8_count 68 = .ok (.getfield 260, 3) := by decide +kernel
theorem dX8_count_71 : decode cX8_count 71 = .ok (.ireturn, 1) := by decide +kernel
theorem dX8_count_72 : decode cX8_count 72 = .ok (.aload_n 0, 1) := by decide +kernel
theorem dX8_count_73 : decode cX8_count 73 = .ok (.getfield 28, 3) := by decide +kernel
theorem dX8_count_76 : decode cX8_count 76 = .ok (.getfield 263, 3) := by decide +kernel
theorem dX8_count_79 : decode cX8_count 79 = .ok (.ireturn, 1) := by decide +kernel
theorem dX8_count_80 : decode cX8_count 80 = .ok (.aload_n 0, 1) := by decide +kernel
theorem dX8_count_81 : decode cX8_count 81 = .ok (.getfield 28, 3) := by decide +kernel
theorem dX8_count_84 : decode cX8_count 84 = .ok (.getfield 266, 3) := by decide +kernel
theorem dX8_count_87 : decode cX8_count 87 = .ok (.ireturn, 1) := by decide +kernel
theorem dX8_count_88 : decode cX8_count 88 = .ok (.aload_n 0, 1) := by decide +kernel
theorem dX8_count_89 : decode cX8_count 89 = .ok (.getfield 28, 3) := by decide +kernel
theorem dX8_count_92 : decode cX8_count 92 = .ok (.getfield 172, 3) := by decide +kernel
theorem dX8_count_95 : decode cX8_count 95 = .ok (.ireturn, 1) := by decide +kernel
theorem dX8_count_96 : decode cX8_count 96 = .ok (.aload_n 0, 1) := by decide +kernel
theorem dX8_count_97 : decode cX8_count 97 = .ok (.getfield 28, 3) := by decide +kernel
theorem dX8_count_100 : decode cX8_count 100 = .ok (.getfield 269, 3) := by decide +kernel
theorem dX8_count_103 : decode cX8_count 103 = .ok (.ireturn, 1) := by decide +kernel
theorem dX8_count_104 : decode cX8_count 104 = .ok (.aload_n 0, 1) := by decide +kernel
theorem dX8_count_105 : decode cX8_count 105 = .ok (.getfield 28, 3) := by decide +kernel
theorem dX8_count_108 : decode cX8_count 108 = .ok (.getfield 111, 3) := by decide +kernel
theorem dX8_count_111 : decode cX8_count 111 = .ok (.ireturn, 1) := by decide +kernel
theorem dX8_count_112 : decode cX8_count 112 = .ok (.aload_n 0, 1) := by decide +kernel
theorem dX8_count_113 : decode cX8_count 113 = .ok (.getfield 65, 3) := by decide +kernel
theorem dX8_count_116 : decode cX8_count 116 = .ok (.ireturn, 1) := by decide +kernel
theorem dX8_count_117 : decode cX8_count 117 = .ok (.aload_n 0, 1) := by decide +kernel
theorem dX8_count_118 : decode cX8_count 118 = .ok (.getfield 12, 3) := by decide +kernel
theorem dX8_count_121 : decode cX8_count 121 = .ok (.getfield 81, 3) := by decide +kernel
theorem dX8_count_124 : decode cX8_count 124 = .ok (.ireturn, 1) := by decide +kernel
theorem dX8_count_125 : decode cX8_count 125 = .ok (.aload_n 0, 1) := by decide +kernel
theorem dX8_count_126 : decode cX8_count 126 = .ok (.getfield 28, 3) := by decide +kernel
theorem dX8_count_129 : decode cX8_count 129 = .ok (.invokevirtual 272, 3) := by decide +kernel
theorem dX8_count_132 : decode cX8_count 132 = .ok (.ireturn, 1) := by decide +kernel
theorem dX8_count_133 : decode cX8_count 133 = .ok (.iconst (-1), 1) := by decide +kernel
theorem dX8_count_134 : decode cX8_count 134 = .ok (.ireturn, 1) := by decide +kernel
theorem dX8_row_0 : decode cX8_row 0 = .ok (.iload_n 1, 1) := by decide +kernel
theorem dX8_row_1 : decode cX8_row 1 = .ok (.ifCond .lt 20, 3) := by decide +kernel
theorem dX8_row_4 : decode cX8_row 4 = .ok (.iload_n 1, 1) := by decide +kernel
theorem dX8_row_5 : decode cX8_row 5 = .ok (.aload_n 0, 1) := by decide +kernel
theorem dX8_row_6 : decode cX8_row 6 = .ok (.getfield 65, 3) := by decide +kernel
theorem dX8_row_9 : decode cX8_row 9 = .ok (.if_icmp .ge 12, 3) := by decide +kernel
theorem dX8_row_12 : decode cX8_row 12 = .ok (.iload_n 1, 1) := by decide +kernel
theorem dX8_row_13 : decode cX8_row 13 = .ok (.aload_n 0, 1) := by decide +kernel
theorem dX8_row_14 : decode cX8_row 14 = .ok (.getfield 61, 3) := by decide +kernel
theorem dX8_row_17 : decode cX8_row 17 = .ok (.arraylength, 1) := by decide +kernel
theorem dX8_row_18 : decode cX8_row 18 = .ok (.if_icmp .lt 11, 3) := by decide +kernel
theorem dX8_row_21 : decode cX8_row 21 = .ok (.new 275, 3) := by decide +kernel
theorem dX8_row_24 : decode cX8_row 24 = .ok (.dup, 1) := by decide +kernel
theorem dX8_row_25 : decode cX8_row 25 = .ok (.invokespecial 277, 3) := by decide +kernel
theorem dX8_row_28 : decode cX8_row 28 = .ok (.athrow, 1) := by decide +kernel
theorem dX8_row_29 : decode cX8_row 29 = .ok (.aload_n 0, 1) := by decide +kernel
theorem dX8_row_30 : decode cX8_row 30 = .ok (.getfield 61, 3) := by decide +kernel
theorem dX8_row_33 : decode cX8_row 33 = .ok (.iload_n 1, 1) := by decide +kernel
theorem dX8_row_34 : decode cX8_row 34 = .ok (.laload, 1) := by decide +kernel
theorem dX8_row_35 : decode cX8_row 35 = .ok (.lreturn, 1) := by decide +kernel
theorem dX8_isLifter_0 : decode cX8_isLifter 0 = .ok (.iload_n 1, 1) := by decide +kernel
theorem dX8_isLifter_1 : decode cX8_isLifter 1 = .ok (.ifCond .lt 18, 3) := by decide +kernel
theorem dX8_isLifter_4 : decode cX8_isLifter 4 = .ok (.iload_n 1, 1) := by decide +kernel
theorem dX8_isLifter_5 : decode cX8_isLifter 5 = .ok (.aload_n 0, 1) := by decide +kernel
theorem dX8_isLifter_6 : decode cX8_isLifter 6 = .ok (.getfield 28, 3) := by decide +kernel
theorem dX8_isLifter_9 : decode cX8_isLifter 9 = .ok (.getfield 87, 3) := by decide +kernel
theorem dX8_isLifter_12 : decode cX8_isLifter 12 = .ok (.if_icmp .ge 7, 3) := by decide +kernel
theorem dX8_isLifter_15 : decode cX8_isLifter 15 = .ok (.iconst 1, 1) := by decide +kernel
theorem dX8_isLifter_16 : decode cX8_isLifter 16 = .ok (.goto 4, 3) := by decide +kernel
theorem dX8_isLifter_19 : decode cX8_isLifter 19 = .ok (.iconst 0, 1) := by decide +kernel
theorem dX8_isLifter_20 : decode cX8_isLifter 20 = .ok (.ireturn, 1) := by decide +kernel
theorem dX8_isLift_0 : decode cX8_isLift 0 = .ok (.iload_n 0, 1) := by decide +kernel
theorem dX8_isLift_1 : decode cX8_isLift 1 = .ok (.ifCond .lt 12, 3) := by decide +kernel
theorem dX8_isLift_4 : decode cX8_isLift 4 = .ok (.iload_n 0, 1) := by decide +kernel
theorem dX8_isLift_5 : decode cX8_isLift 5 = .ok (.iconst 3, 1) := by decide +kernel
theorem dX8_isLift_6 : decode cX8_isLift 6 = .ok (.if_icmp .ge 7, 3) := by decide +kernel
theorem dX8_isLift_9 : decode cX8_isLift 9 = .ok (.iconst 1, 1) := by decide +kernel
theorem dX8_isLift_10 : decode cX8_isLift 10 = .ok (.goto 4, 3) := by decide +kernel
theorem dX8_isLift_13 : decode cX8_isLift 13 = .ok (.iconst 0, 1) := by decide +kernel
theorem dX8_isLift_14 : decode cX8_isLift 14 = .ok (.ireturn, 1) := by decide +kernel
theorem dX8_isLoad_0 : decode cX8_isLoad 0 = .ok (.iload_n 0, 1) := by decide +kernel
theorem dX8_isLoad_1 : decode cX8_isLoad 1 = .ok (.iconst 1, 1) := by decide +kernel
theorem dX8_isLoad_2 : decode cX8_isLoad 2 = .ok (.if_icmp .lt 13, 3) := by decide +kernel
theorem dX8_isLoad_5 : decode cX8_isLoad 5 = .ok (.iload_n 0, 1) := by decide +kernel
theorem dX8_isLoad_6 : decode cX8_isLoad 6 = .ok (.bipush 40, 2) := by decide +kernel
theorem dX8_isLoad_8 : decode cX8_isLoad 8 = .ok (.if_icmp .gt 7, 3) := by decide +kernel
theorem dX8_isLoad_11 : decode cX8_isLoad 11 = .ok (.iconst 1, 1) := by decide +kernel
theorem dX8_isLoad_12 : decode cX8_isLoad 12 = .ok (.goto 4, 3) := by decide +kernel
theorem dX8_isLoad_15 : decode cX8_isLoad 15 = .ok (.iconst 0, 1) := by decide +kernel
theorem dX8_isLoad_16 : decode cX8_isLoad 16 = .ok (.ireturn, 1) := by decide +kernel
theorem dX8_isAimed_0 : decode cX8_isAimed 0 = .ok (.iload_n 0, 1) := by decide +kernel
theorem dX8_isAimed_1 : decode cX8_isAimed 1 = .ok (.ifCond .lt 13, 3) := by decide +kernel
theorem dX8_isAimed_4 : decode cX8_isAimed 4 = .ok (.iload_n 0, 1) := by decide +kernel
theorem dX8_isAimed_5 : decode cX8_isAimed 5 = .ok (.bipush 121, 2) := by decide +kernel
theorem dX8_isAimed_7 : decode cX8_isAimed 7 = .ok (.if_icmp .gt 7, 3) := by decide +kernel
theorem dX8_isAimed_10 : decode cX8_isAimed 10 = .ok (.iconst 1, 1) := by decide +kernel
theorem dX8_isAimed_11 : decode cX8_isAimed 11 = .ok (.goto 4, 3) := by decide +kernel
theorem dX8_isAimed_14 : decode cX8_isAimed 14 = .ok (.iconst 0, 1) := by decide +kernel
theorem dX8_isAimed_15 : decode cX8_isAimed 15 = .ok (.ireturn, 1) := by decide +kernel
theorem dX8_isPlan_0 : decode cX8_isPlan 0 = .ok (.iload_n 0, 1) := by decide +kernel
theorem dX8_isPlan_1 : decode cX8_isPlan 1 = .ok (.tableswitch 65 0 2 #[27, 32, 49], 27) := by decide +kernel
theorem dX8_isPlan_28 : decode cX8_isPlan 28 = .ok (.iload_n 1, 1) := by decide +kernel
theorem dX8_isPlan_29 : decode cX8_isPlan 29 = .ok (.invokestatic 114, 3) := by decide +kernel
theorem dX8_isPlan_32 : decode cX8_isPlan 32 = .ok (.ireturn, 1) := by decide +kernel
theorem dX8_isPlan_33 : decode cX8_isPlan 33 = .ok (.iload_n 1, 1) := by decide +kernel
theorem dX8_isPlan_34 : decode cX8_isPlan 34 = .ok (.iconst 1, 1) := by decide +kernel
theorem dX8_isPlan_35 : decode cX8_isPlan 35 = .ok (.if_icmp .lt 13, 3) := by decide +kernel
theorem dX8_isPlan_38 : decode cX8_isPlan 38 = .ok (.iload_n 1, 1) := by decide +kernel
theorem dX8_isPlan_39 : decode cX8_isPlan 39 = .ok (.bipush 9, 2) := by decide +kernel
theorem dX8_isPlan_41 : decode cX8_isPlan 41 = .ok (.if_icmp .gt 7, 3) := by decide +kernel
theorem dX8_isPlan_44 : decode cX8_isPlan 44 = .ok (.iconst 1, 1) := by decide +kernel
theorem dX8_isPlan_45 : decode cX8_isPlan 45 = .ok (.goto 4, 3) := by decide +kernel
theorem dX8_isPlan_48 : decode cX8_isPlan 48 = .ok (.iconst 0, 1) := by decide +kernel
theorem dX8_isPlan_49 : decode cX8_isPlan 49 = .ok (.ireturn, 1) := by decide +kernel
theorem dX8_isPlan_50 : decode cX8_isPlan 50 = .ok (.iload_n 1, 1) := by decide +kernel
theorem dX8_isPlan_51 : decode cX8_isPlan 51 = .ok (.ifCond .lt 13, 3) := by decide +kernel
theorem dX8_isPlan_54 : decode cX8_isPlan 54 = .ok (.iload_n 1, 1) := by decide +kernel
theorem dX8_isPlan_55 : decode cX8_isPlan 55 = .ok (.bipush 9, 2) := by decide +kernel
theorem dX8_isPlan_57 : decode cX8_isPlan 57 = .ok (.if_icmp .gt 7, 3) := by decide +kernel
theorem dX8_isPlan_60 : decode cX8_isPlan 60 = .ok (.iconst 1, 1) := by decide +kernel
theorem dX8_isPlan_61 : decode cX8_isPlan 61 = .ok (.goto 4, 3) := by decide +kernel
theorem dX8_isPlan_64 : decode cX8_isPlan 64 = .ok (.iconst 0, 1) := by decide +kernel
theorem dX8_isPlan_65 : decode cX8_isPlan 65 = .ok (.ireturn, 1) := by decide +kernel
theorem dX8_isPlan_66 : decode cX8_isPlan 66 = .ok (.iconst 0, 1) := by decide +kernel
theorem dX8_isPlan_67 : decode cX8_isPlan 67 = .ok (.ireturn, 1) := by decide +kernel
theorem dX8_tellTwo_0 : decode cX8_tellTwo 0 = .ok (.aload_n 0, 1) := by decide +kernel
theorem dX8_tellTwo_1 : decode cX8_tellTwo 1 = .ok (.getfield 61, 3) := by decide +kernel
theorem dX8_tellTwo_4 : decode cX8_tellTwo 4 = .ok (.iconst 0, 1) := by decide +kernel
theorem dX8_tellTwo_5 : decode cX8_tellTwo 5 = .ok (.iload_n 1, 1) := by decide +kernel
theorem dX8_tellTwo_6 : decode cX8_tellTwo 6 = .ok (.i2l, 1) := by decide +kernel
theorem dX8_tellTwo_7 : decode cX8_tellTwo 7 = .ok (.lastore, 1) := by decide +kernel
theorem dX8_tellTwo_8 : decode cX8_tellTwo 8 = .ok (.aload_n 0, 1) := by decide +kernel
theorem dX8_tellTwo_9 : decode cX8_tellTwo 9 = .ok (.getfield 61, 3) := by decide +kernel
theorem dX8_tellTwo_12 : decode cX8_tellTwo 12 = .ok (.iconst 1, 1) := by decide +kernel
theorem dX8_tellTwo_13 : decode cX8_tellTwo 13 = .ok (.iload_n 2, 1) := by decide +kernel
theorem dX8_tellTwo_14 : decode cX8_tellTwo 14 = .ok (.i2l, 1) := by decide +kernel
theorem dX8_tellTwo_15 : decode cX8_tellTwo 15 = .ok (.lastore, 1) := by decide +kernel
theorem dX8_tellTwo_16 : decode cX8_tellTwo 16 = .ok (.aload_n 0, 1) := by decide +kernel
theorem dX8_tellTwo_17 : decode cX8_tellTwo 17 = .ok (.iconst 2, 1) := by decide +kernel
theorem dX8_tellTwo_18 : decode cX8_tellTwo 18 = .ok (.putfield 65, 3) := by decide +kernel
theorem dX8_tellTwo_21 : decode cX8_tellTwo 21 = .ok (.return_, 1) := by decide +kernel
theorem dX8_tellPlaces_0 : decode cX8_tellPlaces 0 = .ok (.iconst 0, 1) := by decide +kernel
theorem dX8_tellPlaces_1 : decode cX8_tellPlaces 1 = .ok (.istore_n 1, 1) := by decide +kernel
theorem dX8_tellPlaces_2 : decode cX8_tellPlaces 2 = .ok (.iload_n 1, 1) := by decide +kernel
theorem dX8_tellPlaces_3 : decode cX8_tellPlaces 3 = .ok (.aload_n 0, 1) := by decide +kernel
theorem dX8_tellPlaces_4 : decode cX8_tellPlaces 4 = .ok (.getfield 28, 3) := by decide +kernel
theorem dX8_tellPlaces_7 : decode cX8_tellPlaces 7 = .ok (.getfield 87, 3) := by decide +kernel
theorem dX8_tellPlaces_10 : decode cX8_tellPlaces 10 = .ok (.if_icmp .ge 24, 3) := by decide +kernel
theorem dX8_tellPlaces_13 : decode cX8_tellPlaces 13 = .ok (.aload_n 0, 1) := by decide +kernel
theorem dX8_tellPlaces_14 : decode cX8_tellPlaces 14 = .ok (.getfield 61, 3) := by decide +kernel
theorem dX8_tellPlaces_17 : decode cX8_tellPlaces 17 = .ok (.aload_n 0, 1) := by decide +kernel
theorem dX8_tellPlaces_18 : decode cX8_tellPlaces 18 = .ok (.getfield 28, 3) := by decide +kernel
theorem dX8_tellPlaces_21 : decode cX8_tellPlaces 21 = .ok (.iload_n 1, 1) := by decide +kernel
theorem dX8_tellPlaces_22 : decode cX8_tellPlaces 22 = .ok (.invokevirtual 181, 3) := by decide +kernel
theorem dX8_tellPlaces_25 : decode cX8_tellPlaces 25 = .ok (.iload_n 1, 1) := by decide +kernel
theorem dX8_tellPlaces_26 : decode cX8_tellPlaces 26 = .ok (.i2l, 1) := by decide +kernel
theorem dX8_tellPlaces_27 : decode cX8_tellPlaces 27 = .ok (.lastore, 1) := by decide +kernel
theorem dX8_tellPlaces_28 : decode cX8_tellPlaces 28 = .ok (.iinc 1 1, 3) := by decide +kernel
theorem dX8_tellPlaces_31 : decode cX8_tellPlaces 31 = .ok (.goto (-29), 3) := by decide +kernel
theorem dX8_tellPlaces_34 : decode cX8_tellPlaces 34 = .ok (.aload_n 0, 1) := by decide +kernel
theorem dX8_tellPlaces_35 : decode cX8_tellPlaces 35 = .ok (.aload_n 0, 1) := by decide +kernel
theorem dX8_tellPlaces_36 : decode cX8_tellPlaces 36 = .ok (.getfield 28, 3) := by decide +kernel
theorem dX8_tellPlaces_39 : decode cX8_tellPlaces 39 = .ok (.getfield 87, 3) := by decide +kernel
theorem dX8_tellPlaces_42 : decode cX8_tellPlaces 42 = .ok (.putfield 65, 3) := by decide +kernel
theorem dX8_tellPlaces_45 : decode cX8_tellPlaces 45 = .ok (.return_, 1) := by decide +kernel
theorem dX8_mix_0 : decode cX8_mix 0 = .ok (.iload_n 0, 1) := by decide +kernel
theorem dX8_mix_1 : decode cX8_mix 1 = .ok (.iload_n 1, 1) := by decide +kernel
theorem dX8_mix_2 : decode cX8_mix 2 = .ok (.imul, 1) := by decide +kernel
theorem dX8_mix_3 : decode cX8_mix 3 = .ok (.sipush 1000, 3) := by decide +kernel
theorem dX8_mix_6 : decode cX8_mix 6 = .ok (.iload_n 0, 1) := by decide +kernel
theorem dX8_mix_7 : decode cX8_mix 7 = .ok (.isub, 1) := by decide +kernel
theorem dX8_mix_8 : decode cX8_mix 8 = .ok (.iload_n 2, 1) := by decide +kernel
theorem dX8_mix_9 : decode cX8_mix 9 = .ok (.imul, 1) := by decide +kernel
theorem dX8_mix_10 : decode cX8_mix 10 = .ok (.iadd, 1) := by decide +kernel
theorem dX8_mix_11 : decode cX8_mix 11 = .ok (.sipush 1000, 3) := by decide +kernel
theorem dX8_mix_14 : decode cX8_mix 14 = .ok (.idiv, 1) := by decide +kernel
theorem dX8_mix_15 : decode cX8_mix 15 = .ok (.ireturn, 1) := by decide +kernel
theorem dX8_allFail_0 : decode cX8_allFail 0 = .ok (.ldc 213, 2) := by decide +kernel
theorem dX8_allFail_2 : decode cX8_allFail 2 = .ok (.istore 5, 2) := by decide +kernel
theorem dX8_allFail_4 : decode cX8_allFail 4 = .ok (.iload_n 3, 1) := by decide +kernel
theorem dX8_allFail_5 : decode cX8_allFail 5 = .ok (.istore 6, 2) := by decide +kernel
theorem dX8_allFail_7 : decode cX8_allFail 7 = .ok (.iconst 0, 1) := by decide +kernel
theorem dX8_allFail_8 : decode cX8_allFail 8 = .ok (.istore 7, 2) := by decide +kernel
theorem dX8_allFail_10 : decode cX8_allFail 10 = .ok (.iload 7, 2) := by decide +kernel
theorem dX8_allFail_12 : decode cX8_allFail 12 = .ok (.iconst 3, 1) := by decide +kernel
theorem dX8_allFail_13 : decode cX8_allFail 13 = .ok (.if_icmp .ge 58, 3) := by decide +kernel
theorem dX8_allFail_16 : decode cX8_allFail 16 = .ok (.iload 6, 2) := by decide +kernel
theorem dX8_allFail_18 : decode cX8_allFail 18 = .ok (.bipush 40, 2) := by decide +kernel
theorem dX8_allFail_20 : decode cX8_allFail 20 = .ok (.if_icmp .gt 51, 3) := by decide +kernel
theorem dX8_allFail_23 : decode cX8_allFail 23 = .ok (.iload 5, 2) := by decide +kernel
theorem dX8_allFail_25 : decode cX8_allFail 25 = .ok (.sipush 1000, 3) := by decide +kernel
theorem dX8_allFail_28 : decode cX8_allFail 28 = .ok (.aload_n 0, 1) := by decide +kernel
theorem dX8_allFail_29 : decode cX8_allFail 29 = .ok (.getfield 18, 3) := by decide +kernel
theorem dX8_allFail_32 : decode cX8_allFail 32 = .ok (.iload_n 1, 1) := by decide +kernel
theorem dX8_allFail_33 : decode cX8_allFail 33 = .ok (.aaload, 1) := by decide +kernel
theorem dX8_allFail_34 : decode cX8_allFail 34 = .ok (.iload_n 2, 1) := by decide +kernel
theorem dX8_allFail_35 : decode cX8_allFail 35 = .ok (.iload 6, 2) := by decide +kernel
theorem dX8_allFail_37 : decode cX8_allFail 37 = .ok (.iload 7, 2) := by decide +kernel
theorem dX8_allFail_39 : decode cX8_allFail 39 = .ok (.aload_n 0, 1) := by decide +kernel
theorem dX8_allFail_40 : decode cX8_allFail 40 = .ok (.getfield 28, 3) := by decide +kernel
theorem dX8_allFail_43 : decode cX8_allFail 43 = .ok (.getfield 111, 3) := by decide +kernel
theorem dX8_allFail_46 : decode cX8_allFail 46 = .ok (.imul, 1) := by decide +kernel
theorem dX8_allFail_47 : decode cX8_allFail 47 = .ok (.invokevirtual 117, 3) := by decide +kernel
theorem dX8_allFail_50 : decode cX8_allFail 50 = .ok (.isub, 1) := by decide +kernel
