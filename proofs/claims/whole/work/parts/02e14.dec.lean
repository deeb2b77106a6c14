set_option maxRecDepth 20000 in
theorem gX9_doesTry_X9_sets : GoodIn wsX9_doesTry (wsV RX9 109 RX9 yX9_sets wsX9_sets) := goodIn_app (goodIn_of _ (by decide +kernel)) ggX9_doesTry_X9_sets
set_option maxRecDepth 20000 in
theorem ggX9_doesTry_X9_flag : GoodIn wsX9_doesTry wsX9_flag := goodIn_r _ [30] (by decide +kernel) (by decide +kernel)
set_option maxRecDepth 20000 in
theorem gX9_doesTry_X9_flag : GoodIn wsX9_doesTry (va_wsS RX9 160 yX9_flag wsX9_flag) := goodIn_app (goodIn_of _ (by decide +kernel)) ggX9_doesTry_X9_flag
set_option maxRecDepth 20000 in
theorem ggX9_doesTry_X9_goesOn : GoodIn wsX9_doesTry wsX9_goesOn := goodIn_r _ [34, 35, 1, 36, 37, 38, 13, 39, 40, 41, 42, 43, 44, 45, 46, 47, 10, 11, 12, 14, 48, 49, 50, 51, 52, 53, 54, 55, 56, 57, 58, 59, 60, 24, 25, 26, 27, 61, 62, 63, 64, 19, 20, 21, 22, 23, 65, 66, 67, 68, 69, 70, 71, 72, 73, 74, 75, 76, 77, 78, 79, 80, 81, 82, 83, 84, 85, 86, 87, 88, 89, 90, 91, 92, 93, 94, 95, 96, 97, 98, 99, 100, 101, 102, 103, 104, 105, 106, 107, 108, 109, 110, 111, 112] (by decide +kernel) (by decide +kernel)
set_option maxRecDepth 20000 in
theorem gX9_doesTry_X9_goesOn : GoodIn wsX9_doesTry (wsV RX9 164 RX9 yX9_goesOn wsX9_goesOn) := goodIn_app (goodIn_of _ (by decide +kernel)) ggX9_doesTry_X9_goesOn
theorem dX9_doesTry_0 : decode cX9_doesTry 0 = .ok (.aload_n 0, 1) := by decide +kernel
theorem dX9_doesTry_1 : decode cX9_doesTry 1 = .ok (.getfield 32, 3) := by decide +kernel
theorem dX9_doesTry_4 : decode cX9_doesTry 4 = .ok (.iconst 0, 1) := by decide +kernel
theorem dX9_doesTry_5 : decode cX9_doesTry 5 = .ok (.iaload, 1) := by decide +kernel
theorem dX9_doesTry_6 : decode cX9_doesTry 6 = .ok (.istore_n 3, 1) := by decide +kernel
theorem dX9_doesTry_7 : decode cX9_doesTry 7 = .ok (.aload_n 0, 1) := by decide +kernel
theorem dX9_doesTry_8 : decode cX9_doesTry 8 = .ok (.iload_n 1, 1) := by decide +kernel
theorem dX9_doesTry_9 : decode cX9_doesTry 9 = .ok (.iconst 0, 1) := by decide +kernel
theorem dX9_doesTry_10 : decode cX9_doesTry 10 = .ok (.invokevirtual 106, 3) := by decide +kernel
theorem dX9_doesTry_13 : decode cX9_doesTry 13 = .ok (.istore 4, 2) := by decide +kernel
theorem dX9_doesTry_15 : decode cX9_doesTry 15 = .ok (.aload_n 0, 1) := by decide +kernel
theorem dX9_doesTry_16 : decode cX9_doesTry 16 = .ok (.aload_n 0, 1) := by decide +kernel
theorem dX9_doesTry_17 : decode cX9_doesTry 17 = .ok (.iload_n 1, 1) := by decide +kernel
theorem dX9_doesTry_18 : decode cX9_doesTry 18 = .ok (.iload_n 3, 1) := by decide +kernel
theorem dX9_doesTry_19 : decode cX9_doesTry 19 = .ok (.aload_n 0, 1) := by decide +kernel
theorem dX9_doesTry_20 : decode cX9_doesTry 20 = .ok (.getfield 32, 3) := by decide +kernel
theorem dX9_doesTry_23 : decode cX9_doesTry 23 = .ok (.iconst 1, 1) := by decide +kernel
theorem dX9_doesTry_24 : decode cX9_doesTry 24 = .ok (.iaload, 1) := by decide +kernel
theorem dX9_doesTry_25 : decode cX9_doesTry 25 = .ok (.iload 4, 2) := by decide +kernel
theorem dX9_doesTry_27 : decode cX9_doesTry 27 = .ok (.iload_n 2, 1) := by decide +kernel
theorem dX9_doesTry_28 : decode cX9_doesTry 28 = .ok (.invokevirtual 153, 3) := by decide +kernel
theorem dX9_doesTry_31 : decode cX9_doesTry 31 = .ok (.putfield 157, 3) := by decide +kernel
theorem dX9_doesTry_34 : decode cX9_doesTry 34 = .ok (.aload_n 0, 1) := by decide +kernel
theorem dX9_doesTry_35 : decode cX9_doesTry 35 = .ok (.getfield 32, 3) := by decide +kernel
theorem dX9_doesTry_38 : decode cX9_doesTry 38 = .ok (.iconst 2, 1) := by decide +kernel
theorem dX9_doesTry_39 : decode cX9_doesTry 39 = .ok (.aload_n 0, 1) := by decide +kernel
theorem dX9_doesTry_40 : decode cX9_doesTry 40 = .ok (.getfield 32, 3) := by decide +kernel
theorem dX9_doesTry_43 : decode cX9_doesTry 43 = .ok (.iconst 2, 1) := by decide +kernel
theorem dX9_doesTry_44 : decode cX9_doesTry 44 = .ok (.iaload, 1) := by decide +kernel
theorem dX9_doesTry_45 : decode cX9_doesTry 45 = .ok (.iload 4, 2) := by decide +kernel
theorem dX9_doesTry_47 : decode cX9_doesTry 47 = .ok (.invokestatic 100, 3) := by decide +kernel
theorem dX9_doesTry_50 : decode cX9_doesTry 50 = .ok (.iastore, 1) := by decide +kernel
theorem dX9_doesTry_51 : decode cX9_doesTry 51 = .ok (.aload_n 0, 1) := by decide +kernel
theorem dX9_doesTry_52 : decode cX9_doesTry 52 = .ok (.iload_n 1, 1) := by decide +kernel
theorem dX9_doesTry_53 : decode cX9_doesTry 53 = .ok (.iconst 1, 1) := by decide +kernel
theorem dX9_doesTry_54 : decode cX9_doesTry 54 = .ok (.iconst 1, 1) := by decide +kernel
theorem dX9_doesTry_55 : decode cX9_doesTry 55 = .ok (.invokevirtual 109, 3) := by decide +kernel
theorem dX9_doesTry_58 : decode cX9_doesTry 58 = .ok (.aload_n 0, 1) := by decide +kernel
theorem dX9_doesTry_59 : decode cX9_doesTry 59 = .ok (.iload_n 1, 1) := by decide +kernel
theorem dX9_doesTry_60 : decode cX9_doesTry 60 = .ok (.iconst 2, 1) := by decide +kernel
theorem dX9_doesTry_61 : decode cX9_doesTry 61 = .ok (.iload 4, 2) := by decide +kernel
theorem dX9_doesTry_63 : decode cX9_doesTry 63 = .ok (.invokevirtual 109, 3) := by decide +kernel
theorem dX9_doesTry_66 : decode cX9_doesTry 66 = .ok (.aload_n 0, 1) := by decide +kernel
theorem dX9_doesTry_67 : decode cX9_doesTry 67 = .ok (.iload_n 1, 1) := by decide +kernel
theorem dX9_doesTry_68 : decode cX9_doesTry 68 = .ok (.iconst 3, 1) := by decide +kernel
theorem dX9_doesTry_69 : decode cX9_doesTry 69 = .ok (.iload_n 2, 1) := by decide +kernel
theorem dX9_doesTry_70 : decode cX9_doesTry 70 = .ok (.invokestatic 160, 3) := by decide +kernel
theorem dX9_doesTry_73 : decode cX9_doesTry 73 = .ok (.invokevirtual 109, 3) := by decide +kernel
theorem dX9_doesTry_76 : decode cX9_doesTry 76 = .ok (.aload_n 0, 1) := by decide +kernel
theorem dX9_doesTry_77 : decode cX9_doesTry 77 = .ok (.iload_n 1, 1) := by decide +kernel
theorem dX9_doesTry_78 : decode cX9_doesTry 78 = .ok (.iconst 0, 1) := by decide +kernel
theorem dX9_doesTry_79 : decode cX9_doesTry 79 = .ok (.aload_n 0, 1) := by decide +kernel
theorem dX9_doesTry_80 : decode cX9_doesTry 80 = .ok (.getfield 157, 3) := by decide +kernel
theorem dX9_doesTry_83 : decode cX9_doesTry 83 = .ok (.invokevirtual 109, 3) := by decide +kernel
theorem dX9_doesTry_86 : decode cX9_doesTry 86 = .ok (.iload_n 2, 1) := by decide +kernel
theorem dX9_doesTry_87 : decode cX9_doesTry 87 = .ok (.ifCond .eq 29, 3) := by decide +kernel
theorem dX9_doesTry_90 : decode cX9_doesTry 90 = .ok (.aload_n 0, 1) := by decide +kernel
theorem dX9_doesTry_91 : decode cX9_doesTry 91 = .ok (.iload_n 1, 1) := by decide +kernel
theorem dX9_doesTry_92 : decode cX9_doesTry 92 = .ok (.bipush 7, 2) := by decide +kernel
theorem dX9_doesTry_94 : decode cX9_doesTry 94 = .ok (.iload_n 3, 1) := by decide +kernel
theorem dX9_doesTry_95 : decode cX9_doesTry 95 = .ok (.iadd, 1) := by decide +kernel
theorem dX9_doesTry_96 : decode cX9_doesTry 96 = .ok (.iload 4, 2) := by decide +kernel
theorem dX9_doesTry_98 : decode cX9_doesTry 98 = .ok (.aload_n 0, 1) := by decide +kernel
theorem dX9_doesTry_99 : decode cX9_doesTry 99 = .ok (.iload_n 1, 1) := by decide +kernel
theorem dX9_doesTry_100 : decode cX9_doesTry 100 = .ok (.bipush 7, 2) := by decide +kernel
theorem dX9_doesTry_102 : decode cX9_doesTry 102 = .ok (.iload_n 3, 1) := by decide +kernel
theorem dX9_doesTry_103 : decode cX9_doesTry 103 = .ok (.iadd, 1) := by decide +kernel
theorem dX9_doesTry_104 : decode cX9_doesTry 104 = .ok (.invokevirtual 106, 3) := by decide +kernel
theorem dX9_doesTry_107 : decode cX9_doesTry 107 = .ok (.invokestatic 100, 3) := by decide +kernel
theorem dX9_doesTry_110 : decode cX9_doesTry 110 = .ok (.invokevirtual 109, 3) := by decide +kernel
theorem dX9_doesTry_113 : decode cX9_doesTry 113 = .ok (.goto 17, 3) := by decide +kernel
theorem dX9_doesTry_116 : decode cX9_doesTry 116 = .ok (.aload_n 0, 1) := by decide +kernel
theorem dX9_doesTry_117 : decode cX9_doesTry 117 = .ok (.iload_n 1, 1) := by decide +kernel
theorem dX9_doesTry_118 : decode cX9_doesTry 118 = .ok (.iconst 4, 1) := by decide +kernel
theorem dX9_doesTry_119 : decode cX9_doesTry 119 = .ok (.aload_n 0, 1) := by decide +kernel
theorem dX9_doesTry_120 : decode cX9_doesTry 120 = .ok (.iload_n 1, 1) := by decide +kernel
theorem dX9_doesTry_121 : decode cX9_doesTry 121 = .ok (.iconst 4, 1) := by decide +kernel
theorem dX9_doesTry_122 : decode cX9_doesTry 122 = .ok (.invokevirtual 106, 3) := by decide +kernel
theorem dX9_doesTry_125 : decode cX9_doesTry 125 = .ok (.iconst 1, 1) := by decide +kernel
theorem dX9_doesTry_126 : decode cX9_doesTry 126 = .ok (.iadd, 1) := by decide +kernel
theorem dX9_doesTry_127 : decode cX9_doesTry 127 = .ok (.invokevirtual 109, 3) := by decide +kernel
theorem dX9_doesTry_130 : decode cX9_doesTry 130 = .ok (.aload_n 0, 1) := by decide +kernel
theorem dX9_doesTry_131 : decode cX9_doesTry 131 = .ok (.getfield 38, 3) := by decide +kernel
theorem dX9_doesTry_134 : decode cX9_doesTry 134 = .ok (.iconst 4, 1) := by decide +kernel
theorem dX9_doesTry_135 : decode cX9_doesTry 135 = .ok (.aload_n 0, 1) := by decide +kernel
theorem dX9_doesTry_136 : decode cX9_doesTry 136 = .ok (.getfield 131, 3) := by decide +kernel
theorem dX9_doesTry_139 : decode cX9_doesTry 139 = .ok (.imul, 1) := by decide +kernel
theorem dX9_doesTry_140 : decode cX9_doesTry 140 = .ok (.iload_n 1, 1) := by decide +kernel
theorem dX9_doesTry_141 : decode cX9_doesTry 141 = .ok (.iastore, 1) := by decide +kernel
theorem dX9_doesTry_142 : decode cX9_doesTry 142 = .ok (.aload_n 0, 1) := by decide +kernel
theorem dX9_doesTry_143 : decode cX9_doesTry 143 = .ok (.getfield 38, 3) := by decide +kernel
theorem dX9_doesTry_146 : decode cX9_doesTry 146 = .ok (.iconst 4, 1) := by decide +kernel
theorem dX9_doesTry_147 : decode cX9_doesTry 147 = .ok (.aload_n 0, 1) := by decide +kernel
theorem dX9_doesTry_148 : decode cX9_doesTry 148 = .ok (.getfield 131, 3) := by decide +kernel
theorem dX9_doesTry_151 : decode cX9_doesTry 151 = .ok (.imul, 1) := by decide +kernel
theorem dX9_doesTry_152 : decode cX9_doesTry 152 = .ok (.iconst 1, 1) := by decide +kernel
theorem dX9_doesTry_153 : decode cX9_doesTry 153 = .ok (.iadd, 1) := by decide +kernel
theorem dX9_doesTry_154 : decode cX9_doesTry 154 = .ok (.iload_n 3, 1) := by decide +kernel
theorem dX9_doesTry_155 : decode cX9_doesTry 155 = .ok (.iastore, 1) := by decide +kernel
theorem dX9_doesTry_156 : decode cX9_doesTry 156 = .ok (.aload_n 0, 1) := by decide +kernel
theorem dX9_doesTry_157 : decode cX9_doesTry 157 = .ok (.getfield 38, 3) := by decide +kernel
theorem dX9_doesTry_160 : decode cX9_doesTry 160 = .ok (.iconst 4, 1) := by decide +kernel
theorem dX9_doesTry_161 : decode cX9_doesTry 161 = .ok (.aload_n 0, 1) := by decide +kernel
theorem dX9_doesTry_162 : decode cX9_doesTry 162 = .ok (.getfield 131, 3) := by decide +kernel
theorem dX9_doesTry_165 : decode cX9_doesTry 165 = .ok (.imul, 1) := by decide +kernel
theorem dX9_doesTry_166 : decode cX9_doesTry 166 = .ok (.iconst 2, 1) := by decide +kernel
theorem dX9_doesTry_167 : decode cX9_doesTry 167 = .ok (.iadd, 1) := by decide +kernel
theorem dX9_doesTry_168 : decode cX9_doesTry 168 = .ok (.iload 4, 2) := by decide +kernel
theorem dX9_doesTry_170 : decode cX9_doesTry 170 = .ok (.iastore, 1) := by decide +kernel
theorem dX9_doesTry_171 : decode cX9_doesTry 171 = .ok (.aload_n 0, 1) := by decide +kernel
theorem dX9_doesTry_172 : decode cX9_doesTry 172 = .ok (.getfield 38, 3) := by decide +kernel
theorem dX9_doesTry_175 : decode cX9_doesTry 175 = .ok (.iconst 4, 1) := by decide +kernel
theorem dX9_doesTry_176 : decode cX9_doesTry 176 = .ok (.aload_n 0, 1) := by decide +kernel
theorem dX9_doesTry_177 : decode cX9_doesTry 177 = .ok (.getfield 131, 3) := by decide +kernel
theorem dX9_doesTry_180 : decode cX9_doesTry 180 = .ok (.imul, 1) := by decide +kernel
theorem dX9_doesTry_181 : decode cX9_doesTry 181 = .ok (.iconst 3, 1) := by decide +kernel
theorem dX9_doesTry_182 : decode cX9_doesTry 182 = .ok (.iadd, 1) := by decide +kernel
theorem dX9_doesTry_183 : decode cX9_doesTry 183 = .ok (.iload_n 2, 1) := by decide +kernel
theorem dX9_doesTry_184 : decode cX9_doesTry 184 = .ok (.invokestatic 160, 3) := by decide +kernel
theorem dX9_doesTry_187 : decode cX9_doesTry 187 = .ok (.iastore, 1) := by decide +kernel
theorem dX9_doesTry_188 : decode cX9_doesTry 188 = .ok (.aload_n 0, 1) := by decide +kernel
theorem dX9_doesTry_189 : decode cX9_doesTry 189 = .ok (.dup, 1) := by decide +kernel
theorem dX9_doesTry_190 : decode cX9_doesTry 190 = .ok (.getfield 131, 3) := by decide +kernel
theorem dX9_doesTry_193 : decode cX9_doesTry 193 = .ok (.iconst 1, 1) := by decide +kernel
theorem dX9_doesTry_194 : decode cX9_doesTry 194 = .ok (.iadd, 1) := by decide +kernel
theorem dX9_doesTry_195 : decode cX9_doesTry 195 = .ok (.putfield 131, 3) := by decide +kernel
theorem dX9_doesTry_198 : decode cX9_doesTry 198 = .ok (.aload_n 0, 1) := by decide +kernel
theorem dX9_doesTry_199 : decode cX9_doesTry 199 = .ok (.dup, 1) := by decide +kernel
theorem dX9_doesTry_200 : decode cX9_doesTry 200 = .ok (.getfield 134, 3) := by decide +kernel
theorem dX9_doesTry_203 : decode cX9_doesTry 203 = .ok (.iload_n 2, 1) := by decide +kernel
theorem dX9_doesTry_204 : decode cX9_doesTry 204 = .ok (.invokestatic 160, 3) := by decide +kernel
theorem dX9_doesTry_207 : decode cX9_doesTry 207 = .ok (.iadd, 1) := by decide +kernel
theorem dX9_doesTry_208 : decode cX9_doesTry 208 = .ok (.putfield 134, 3) := by decide +kernel
theorem dX9_doesTry_211 : decode cX9_doesTry 211 = .ok (.aload_n 0, 1) := by decide +kernel
theorem dX9_doesTry_212 : decode cX9_doesTry 212 = .ok (.invokevirtual 164, 3) := by decide +kernel
theorem dX9_doesTry_215 : decode cX9_doesTry 215 = .ok (.return_, 1) := by decide +kernel
set_option maxRecDepth 20000 in
theorem ggX9_leastOf_X9_of : GoodIn wsX9_leastOf wsX9_of := goodIn_r _ [10, 1, 19, 20, 21, 22, 23, 24, 25, 26, 27, 28, 29, 30, 31, 32, 33, 34, 35, 36, 37, 38, 39, 40, 41, 42, 43, 44, 45, 46, 47, 48, 49, 50, 51, 52, 53, 54, 55, 56, 57, 58] (by decide +kernel) (by decide +kernel)
set_option maxRecDepth 20000 in
theorem gX9_leastOf_X9_of : GoodIn wsX9_leastOf (wsV RX9 106 RX9 yX9_of wsX9_of) := goodIn_app (goodIn_of _ (by decide +kernel)) ggX9_leastOf_X9_of
set_option maxRecDepth 20000 in
theorem ggX9_leastOf_X9_isOut : GoodIn wsX9_leastOf wsX9_isOut := goodIn_r _ [14, 6, 7, 8, 9, 10, 1, 19, 20, 21, 22, 23, 24, 25, 26, 27, 28, 29, 30, 31, 32, 33, 34, 35, 36, 37, 38, 39, 40, 41, 42, 43, 44, 45, 46, 47, 48, 49, 50, 51, 52, 53, 54, 55, 56, 57, 58] (by decide +kernel) (by decide +kernel)
set_option maxRecDepth 20000 in
theorem gX9_leastOf_X9_isOut : GoodIn wsX9_leastOf (wsV RX9 121 RX9 yX9_isOut wsX9_isOut) := goodIn_app (goodIn_of _ (by decide +kernel)) ggX9_leastOf_X9_isOut
set_option maxRecDepth 20000 in
theorem ggX9_leastOf_X9_isOver : GoodIn wsX9_leastOf wsX9_isOver := goodIn_r _ [18, 1, 19, 20, 21, 22, 23, 24, 25, 26, 27, 28, 29, 30, 31, 32, 33, 34, 35, 36, 37, 38, 39, 40, 41, 42, 43, 44, 45, 46, 47, 48, 49, 50, 51, 52, 53, 54, 55, 56, 57, 58] (by decide +kernel) (by decide +kernel)
set_option maxRecDepth 20000 in
theorem gX9_leastOf_X9_isOver : GoodIn wsX9_leastOf (wsV RX9 113 RX9 yX9_isOver wsX9_isOver) := goodIn_app (goodIn_of _ (by decide +kernel)) ggX9_leastOf_X9_isOver
theorem dX9_leastOf_0 : decode cX9_leastOf 0 = .ok (.aload_n 0, 1) := by decide +kernel
theorem dX9_leastOf_1 : decode cX9_leastOf 1 = .ok (.iload_n 1, 1) := by decide +kernel
theorem dX9_leastOf_2 : decode cX9_leastOf 2 = .ok (.iconst 0, 1) := by decide +kernel
theorem dX9_leastOf_3 : decode cX9_leastOf 3 = .ok (.invokevirtual 106, 3) := by decide +kernel
theorem dX9_leastOf_6 : decode cX9_leastOf 6 = .ok (.ifCond .eq 18, 3) := by decide +kernel
theorem dX9_leastOf_9 : decode cX9_leastOf 9 = .ok (.aload_n 0, 1) := by decide +kernel
theorem dX9_leastOf_10 : decode cX9_leastOf 10 = .ok (.iload_n 1, 1) := by decide +kernel
theorem dX9_leastOf_11 : decode cX9_leastOf 11 = .ok (.invokevirtual 121, 3) := by decide +kernel
theorem dX9_leastOf_14 : decode cX9_leastOf 14 = .ok (.ifCond .ne 10, 3) := by decide +kernel
theorem dX9_leastOf_17 : decode cX9_leastOf 17 = .ok (.aload_n 0, 1) := by decide +kernel
theorem dX9_leastOf_18 : decode cX9_leastOf 18 = .ok (.invokevirtual 113, 3) := by decide +kernel
theorem dX9_leastOf_21 : decode cX9_leastOf 21 = .ok (.ifCond .eq 5, 3) := by decide +kernel
theorem dX9_leastOf_24 : decode cX9_leastOf 24 = .ok (.iconst 0, 1) := by decide +kernel
theorem dX9_leastOf_25 : decode cX9_leastOf 25 = .ok (.ireturn, 1) := by decide +kernel
theorem dX9_leastOf_26 : decode cX9_leastOf 26 = .ok (.aload_n 0, 1) := by decide +kernel
theorem dX9_leastOf_27 : decode cX9_leastOf 27 = .ok (.iload_n 1, 1) := by decide +kernel
theorem dX9_leastOf_28 : decode cX9_leastOf 28 = .ok (.iconst 2, 1) := by decide +kernel
theorem dX9_leastOf_29 : decode cX9_leastOf 29 = .ok (.invokevirtual 106, 3) := by decide +kernel
theorem dX9_leastOf_32 : decode cX9_leastOf 32 = .ok (.ifCond .ne 7, 3) := by decide +kernel
theorem dX9_leastOf_35 : decode cX9_leastOf 35 = .ok (.iconst 1, 1) := by decide +kernel
theorem dX9_leastOf_36 : decode cX9_leastOf 36 = .ok (.goto 16, 3) := by decide +kernel
theorem dX9_leastOf_39 : decode cX9_leastOf 39 = .ok (.aload_n 0, 1) := by decide +kernel
theorem dX9_leastOf_40 : decode cX9_leastOf 40 = .ok (.iload_n 1, 1) := by decide +kernel
theorem dX9_leastOf_41 : decode cX9_leastOf 41 = .ok (.iconst 2, 1) := by decide +kernel
theorem dX9_leastOf_42 : decode cX9_leastOf 42 = .ok (.invokevirtual 106, 3) := by decide +kernel
theorem dX9_leastOf_45 : decode cX9_leastOf 45 = .ok (.aload_n 0, 1) := by decide +kernel
theorem dX9_leastOf_46 : decode cX9_leastOf 46 = .ok (.iload_n 1, 1) := by decide +kernel
theorem dX9_leastOf_47 : decode cX9_leastOf 47 = .ok (.iconst 3, 1) := by decide +kernel
theorem dX9_leastOf_48 : decode cX9_leastOf 48 = .ok (.invokevirtual 106, 3) := by decide +kernel
theorem dX9_leastOf_51 : decode cX9_leastOf 51 = .ok (.iadd, 1) := by decide +kernel
theorem dX9_leastOf_52 : decode cX9_leastOf 52 = .ok (.istore_n 2, 1) := by decide +kernel
theorem dX9_leastOf_53 : decode cX9_leastOf 53 = .ok (.aload_n 0, 1) := by decide +kernel
theorem dX9_leastOf_54 : decode cX9_leastOf 54 = .ok (.iload_n 1, 1) := by decide +kernel
theorem dX9_leastOf_55 : decode cX9_leastOf 55 = .ok (.iconst 1, 1) := by decide +kernel
theorem dX9_leastOf_56 : decode cX9_leastOf 56 = .ok (.invokevirtual 106, 3) := by decide +kernel
theorem dX9_leastOf_59 : decode cX9_leastOf 59 = .ok (.ifCond .ne 16, 3) := by decide +kernel
theorem dX9_leastOf_62 : decode cX9_leastOf 62 = .ok (.iload_n 2, 1) := by decide +kernel
theorem dX9_leastOf_63 : decode cX9_leastOf 63 = .ok (.aload_n 0, 1) := by decide +kernel
theorem dX9_leastOf_64 : decode cX9_leastOf 64 = .ok (.getfield 32, 3) := by decide +kernel
theorem dX9_leastOf_67 : decode cX9_leastOf 67 = .ok (.iconst 2, 1) := by decide +kernel
theorem dX9_leastOf_68 : decode cX9_leastOf 68 = .ok (.iaload, 1) := by decide +kernel
theorem dX9_leastOf_69 : decode cX9_leastOf 69 = .ok (.invokestatic 100, 3) := by decide +kernel
theorem dX9_leastOf_72 : decode cX9_leastOf 72 = .ok (.goto 4, 3) := by decide +kernel
theorem dX9_leastOf_75 : decode cX9_leastOf 75 = .ok (.iload_n 2, 1) := by decide +kernel
theorem dX9_leastOf_76 : decode cX9_leastOf 76 = .ok (.ireturn, 1) := by decide +kernel
set_option maxRecDepth 20000 in
theorem ggX9_sumOf_X9_isOut : GoodIn wsX9_sumOf wsX9_isOut := goodIn_r _ [5, 6, 7, 8, 4, 9, 10, 11, 12, 13, 14, 15, 16, 17, 18, 19, 20, 21, 22, 23, 24, 25, 26, 27, 28, 29, 30, 31, 32, 33, 34, 35, 36, 37, 38, 39, 40, 41, 42, 43, 44, 45, 46, 47, 48, 49, 50] (by decide +kernel) (by decide +kernel)
set_option maxRecDepth 20000 in
theorem gX9_sumOf_X9_isOut : GoodIn wsX9_sumOf (wsV RX9 121 RX9 yX9_isOut wsX9_isOut) := goodIn_app (goodIn_of _ (by decide +kernel)) ggX9_sumOf_X9_isOut
set_option maxRecDepth 20000 in
theorem ggX9_sumOf_X9_of : GoodIn wsX9_sumOf wsX9_of := goodIn_r _ [9, 10, 11, 12, 13, 14, 15, 16, 17, 18, 19, 20, 21, 22, 23, 24, 25, 26, 27, 28, 29, 30, 31, 32, 33, 34, 35, 36, 37, 38, 39, 40, 41, 42, 43, 44, 45, 46, 47, 48, 49, 50] (by decide +kernel) (by decide +kernel)
set_option maxRecDepth 20000 in
theorem gX9_sumOf_X9_of : GoodIn wsX9_sumOf (wsV RX9 106 RX9 yX9_of wsX9_of) := goodIn_app (goodIn_of _ (by decide +kernel)) ggX9_sumOf_X9_of
theorem dX9_sumOf_0 : decode cX9_sumOf 0 = .ok (.aload_n 0, 1) := by decide +kernel
theorem dX9_sumOf_1 : decode cX9_sumOf 1 = .ok (.iload_n 1, 1) := by decide +kernel
theorem dX9_sumOf_2 : decode cX9_sumOf 2 = .ok (.invokevirtual 121, 3) := by decide +kernel
theorem dX9_sumOf_5 : decode cX9_sumOf 5 = .ok (.ifCond .eq 7, 3) := by decide +kernel
theorem dX9_sumOf_8 : decode cX9_sumOf 8 = .ok (.iconst 0, 1) := by decide +kernel
theorem dX9_sumOf_9 : decode cX9_sumOf 9 = .ok (.goto 26, 3) := by decide +kernel
theorem dX9_sumOf_12 : decode cX9_sumOf 12 = .ok (.aload_n 0, 1) := by decide +kernel
theorem dX9_sumOf_13 : decode cX9_sumOf 13 = .ok (.iload_n 1, 1) := by decide +kernel
theorem dX9_sumOf_14 : decode cX9_sumOf 14 = .ok (.bipush 7, 2) := by decide +kernel
theorem dX9_sumOf_16 : decode cX9_sumOf 16 = .ok (.invokevirtual 106, 3) := by decide +kernel
theorem dX9_sumOf_19 : decode cX9_sumOf 19 = .ok (.aload_n 0, 1) := by decide +kernel
theorem dX9_sumOf_20 : decode cX9_sumOf 20 = .ok (.iload_n 1, 1) := by decide +kernel
theorem dX9_sumOf_21 : decode cX9_sumOf 21 = .ok (.bipush 8, 2) := by decide +kernel
theorem dX9_sumOf_23 : decode cX9_sumOf 23 = .ok (.invokevirtual 106, 3) := by decide +kernel
theorem dX9_sumOf_26 : decode cX9_sumOf 26 = .ok (.iadd, 1) := by decide +kernel
theorem dX9_sumOf_27 : decode cX9_sumOf 27 = .ok (.aload_n 0, 1) := by decide +kernel
theorem dX9_sumOf_28 : decode cX9_sumOf 28 = .ok (.iload_n 1, 1) := by decide +kernel
theorem dX9_sumOf_29 : decode cX9_sumOf 29 = .ok (.bipush 9, 2) := by decide +kernel
theorem dX9_sumOf_31 : decode cX9_sumOf 31 = .ok (.invokevirtual 106, 3) := by decide +kernel
theorem dX9_sumOf_34 : decode cX9_sumOf 34 = .ok (.iadd, 1) := by decide +kernel
theorem dX9_sumOf_35 : decode cX9_sumOf 35 = .ok (.ireturn, 1) := by decide +kernel
theorem dX9_isLighter_0 : decode cX9_isLighter 0 = .ok (.aload_n 0, 1) := by decide +kernel
theorem dX9_isLighter_1 : decode cX9_isLighter 1 = .ok (.getfield 13, 3) := by decide +kernel
theorem dX9_isLighter_4 : decode cX9_isLighter 4 = .ok (.iload_n 1, 1) := by decide +kernel
theorem dX9_isLighter_5 : decode cX9_isLighter 5 = .ok (.iaload, 1) := by decide +kernel
theorem dX9_isLighter_6 : decode cX9_isLighter 6 = .ok (.aload_n 0, 1) := by decide +kernel
theorem dX9_isLighter_7 : decode cX9_isLighter 7 = .ok (.getfield 13, 3) := by decide +kernel
theorem dX9_isLighter_10 : decode cX9_isLighter 10 = .ok (.iload_n 2, 1) := by decide +kernel
theorem dX9_isLighter_11 : decode cX9_isLighter 11 = .ok (.iaload, 1) := by decide +kernel
theorem dX9_isLighter_12 : decode cX9_isLighter 12 = .ok (.if_icmp .lt 33, 3) := by decide +kernel
theorem dX9_isLighter_15 : decode cX9_isLighter 15 = .ok (.aload_n 0, 1) := by decide +kernel
theorem dX9_isLighter_16 : decode cX9_isLighter 16 = .ok (.getfield 13, 3) := by decide +kernel
theorem dX9_isLighter_19 : decode cX9_isLighter 19 = .ok (.iload_n 1, 1) := by decide +kernel
theorem dX9_isLighter_20 : decode cX9_isLighter 20 = .ok (.iaload, 1) := by decide +kernel
theorem dX9_isLighter_21 : decode cX9_isLighter 21 = .ok (.aload_n 0, 1) := by decide +kernel
theorem dX9_isLighter_22 : decode cX9_isLighter 22 = .ok (.getfield 13, 3) := by decide +kernel
theorem dX9_isLighter_25 : decode cX9_isLighter 25 = .ok (.iload_n 2, 1) := by decide +kernel
theorem dX9_isLighter_26 : decode cX9_isLighter 26 = .ok (.iaload, 1) := by decide +kernel
theorem dX9_isLighter_27 : decode cX9_isLighter 27 = .ok (.if_icmp .ne 22, 3) := by decide +kernel
theorem dX9_isLighter_30 : decode cX9_isLighter 30 = .ok (.aload_n 0, 1) := by decide +kernel
theorem dX9_isLighter_31 : decode cX9_isLighter 31 = .ok (.getfield 17, 3) := by decide +kernel
theorem dX9_isLighter_34 : decode cX9_isLighter 34 = .ok (.iload_n 1, 1) := by decide +kernel
theorem dX9_isLighter_35 : decode cX9_isLighter 35 = .ok (.iaload, 1) := by decide +kernel
theorem dX9_isLighter_36 : decode cX9_isLighter 36 = .ok (.aload_n 0, 1) := by decide +kernel
theorem dX9_isLighter_37 : decode cX9_isLighter 37 = .ok (.getfield 17, 3) := by decide +kernel
theorem dX9_isLighter_40 : decode cX9_isLighter 40 = .ok (.iload_n 2, 1) := by decide +kernel
theorem dX9_isLighter_41 : decode cX9_isLighter 41 = .ok (.iaload, 1) := by decide +kernel
theorem dX9_isLighter_42 : decode cX9_isLighter 42 = .ok (.if_icmp .ge 7, 3) := by decide +kernel
theorem dX9_isLighter_45 : decode cX9_isLighter 45 = .ok (.iconst 1, 1) := by decide +kernel
theorem dX9_isLighter_46 : decode cX9_isLighter 46 = .ok (.goto 4, 3) := by decide +kernel
theorem dX9_isLighter_49 : decode cX9_isLighter 49 = .ok (.iconst 0, 1) := by decide +kernel
theorem dX9_isLighter_50 : decode cX9_isLighter 50 = .ok (.ireturn, 1) := by decide +kernel
set_option maxRecDepth 20000 in
theorem ggX9_isAhead_X9_isOut : GoodIn wsX9_isAhead wsX9_isOut := goodIn_r _ [5, 6, 7, 8, 4, 9, 10, 21, 22, 23, 24, 25, 26, 27, 28, 29, 30, 31, 32, 33, 34, 35, 36, 37, 38, 39, 40, 41, 42, 43, 44, 45, 46, 47, 48, 49, 50, 51, 52, 53, 54, 55, 56, 57, 58, 59, 60] (by decide +kernel) (by decide +kernel)
set_option maxRecDepth 20000 in
theorem gX9_isAhead_X9_isOut : GoodIn wsX9_isAhead (wsV RX9 121 RX9 yX9_isOut wsX9_isOut) := goodIn_app (goodIn_of _ (by decide +kernel)) ggX9_isAhead_X9_isOut
set_option maxRecDepth 20000 in
theorem ggX9_isAhead_X9_sumOf : GoodIn wsX9_isAhead wsX9_sumOf := goodIn_r _ [14, 1, 2, 3, 4, 5, 6, 7, 8, 9, 10, 21, 22, 23, 24, 25, 26, 27, 28, 29, 30, 31, 32, 33, 34, 35, 36, 37, 38, 39, 40, 41, 42, 43, 44, 45, 46, 47, 48, 49, 50, 51, 52, 53, 54, 55, 56, 57, 58, 59, 60] (by decide +kernel) (by decide +kernel)
set_option maxRecDepth 20000 in
theorem gX9_isAhead_X9_sumOf : GoodIn wsX9_isAhead (wsV RX9 167 RX9 yX9_sumOf wsX9_sumOf) := goodIn_app (goodIn_of _ (by decide +kernel)) ggX9_isAhead_X9_sumOf
