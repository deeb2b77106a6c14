theorem dX9_plays_21 : decode cX9_plays 21 = .ok (.aload_n 0, 1) := by decide +kernel
theorem dX9_plays_22 : decode cX9_plays 22 = .ok (.invokevirtual 416, 3) := by decide +kernel
theorem dX9_plays_25 : decode cX9_plays 25 = .ok (.istore_n 2, 1) := by decide +kernel
theorem dX9_plays_26 : decode cX9_plays 26 = .ok (.aload_n 0, 1) := by decide +kernel
theorem dX9_plays_27 : decode cX9_plays 27 = .ok (.invokevirtual 261, 3) := by decide +kernel
theorem dX9_plays_30 : decode cX9_plays 30 = .ok (.iload_n 2, 1) := by decide +kernel
theorem dX9_plays_31 : decode cX9_plays 31 = .ok (.ireturn, 1) := by decide +kernel
set_option maxRecDepth 20000 in
theorem ggX9_often_X9_isLifter : GoodIn wsX9_often wsX9_isLifter := goodIn_r _ [13, 14, 15, 16, 12, 17, 132, 133, 134, 135, 136, 137, 138, 139, 140, 141, 142, 143, 144, 145, 146, 147, 148, 149, 150, 151, 152, 153, 154, 155, 156, 157, 158, 159, 160, 161, 162, 163, 164, 165, 166, 167, 168, 169, 170, 171] (by decide +kernel) (by decide +kernel)
set_option maxRecDepth 20000 in
theorem gX9_often_X9_isLifter : GoodIn wsX9_often (wsV RX9 233 RX9 yX9_isLifter wsX9_isLifter) := goodIn_app (goodIn_of _ (by decide +kernel)) ggX9_often_X9_isLifter
set_option maxRecDepth 20000 in
theorem ggX9_often_X9_in : GoodIn wsX9_often wsX9_in := goodIn_r _ [17] (by decide +kernel) (by decide +kernel)
set_option maxRecDepth 20000 in
theorem gX9_often_X9_in : GoodIn wsX9_often (va_wsS RX9 87 yX9_in wsX9_in) := goodIn_app (goodIn_of _ (by decide +kernel)) ggX9_often_X9_in
set_option maxRecDepth 20000 in
theorem ggX9_often_X9_playsOn : GoodIn wsX9_often wsX9_playsOn := goodIn_r _ [21, 5, 22, 23, 24, 12, 25, 14, 26, 27, 28, 29, 30, 31, 32, 33, 34, 35, 36, 37, 38, 39, 40, 41, 42, 43, 44, 45, 46, 47, 48, 49, 50, 7, 51, 52, 53, 54, 55, 56, 57, 58, 59, 60, 61, 62, 63, 64, 65, 66, 67, 68, 69, 70, 71, 72, 73, 3, 4, 74, 75, 76, 77, 78, 79, 80, 81, 82, 83, 84, 85, 86, 87, 88, 89, 90, 91, 92, 93, 94, 95, 96, 97, 98, 99, 100, 101, 102, 103, 104, 105, 106, 107, 108, 109, 132, 133, 134, 135, 136, 137, 138, 139, 140, 141, 142, 143, 144, 145, 146, 147, 148, 149, 150, 151, 152, 153, 154, 155, 156, 157, 158, 159, 160, 161, 162, 163, 164, 165, 166, 167, 168, 169, 170, 171] (by decide +kernel) (by decide +kernel)
set_option maxRecDepth 20000 in
theorem gX9_often_X9_playsOn : GoodIn wsX9_often (wsV RX9 416 RX9 yX9_playsOn wsX9_playsOn) := goodIn_app (goodIn_of _ (by decide +kernel)) ggX9_often_X9_playsOn
set_option maxRecDepth 20000 in
theorem ggX9_often_X9_isOut : GoodIn wsX9_often wsX9_isOut := goodIn_r _ [37, 30, 31, 32, 12, 33, 5, 132, 133, 134, 135, 136, 137, 138, 139, 140, 141, 142, 143, 144, 145, 146, 147, 148, 149, 150, 151, 152, 153, 154, 155, 156, 157, 158, 159, 160, 161, 162, 163, 164, 165, 166, 167, 168, 169, 170, 171] (by decide +kernel) (by decide +kernel)
set_option maxRecDepth 20000 in
theorem gX9_often_X9_isOut : GoodIn wsX9_often (wsV RX9 121 RX9 yX9_isOut wsX9_isOut) := goodIn_app (goodIn_of _ (by decide +kernel)) ggX9_often_X9_isOut
set_option maxRecDepth 20000 in
theorem ggX9_often_X9_aheadOf : GoodIn wsX9_often wsX9_aheadOf := goodIn_r _ [113, 14, 114, 115, 116, 12, 117, 34, 35, 36, 37, 30, 31, 32, 33, 5, 118, 119, 120, 121, 122, 123, 124, 125, 126, 46, 87, 88, 89, 132, 133, 134, 135, 136, 137, 138, 139, 140, 141, 142, 143, 144, 145, 146, 147, 148, 149, 150, 151, 152, 153, 154, 155, 156, 157, 158, 159, 160, 161, 162, 163, 164, 165, 166, 167, 168, 169, 170, 171] (by decide +kernel) (by decide +kernel)
set_option maxRecDepth 20000 in
theorem gX9_often_X9_aheadOf : GoodIn wsX9_often (wsV RX9 177 RX9 yX9_aheadOf wsX9_aheadOf) := goodIn_app (goodIn_of _ (by decide +kernel)) ggX9_often_X9_aheadOf
set_option maxRecDepth 20000 in
theorem ggX9_often_X9_flag : GoodIn wsX9_often wsX9_flag := goodIn_r _ [89] (by decide +kernel) (by decide +kernel)
set_option maxRecDepth 20000 in
theorem gX9_often_X9_flag : GoodIn wsX9_often (va_wsS RX9 160 yX9_flag wsX9_flag) := goodIn_app (goodIn_of _ (by decide +kernel)) ggX9_often_X9_flag
set_option maxRecDepth 20000 in
theorem ggX9_often_X9_sumOf : GoodIn wsX9_often wsX9_sumOf := goodIn_r _ [121, 34, 35, 36, 12, 37, 30, 31, 32, 33, 5, 132, 133, 134, 135, 136, 137, 138, 139, 140, 141, 142, 143, 144, 145, 146, 147, 148, 149, 150, 151, 152, 153, 154, 155, 156, 157, 158, 159, 160, 161, 162, 163, 164, 165, 166, 167, 168, 169, 170, 171] (by decide +kernel) (by decide +kernel)
set_option maxRecDepth 20000 in
theorem gX9_often_X9_sumOf : GoodIn wsX9_often (wsV RX9 167 RX9 yX9_sumOf wsX9_sumOf) := goodIn_app (goodIn_of _ (by decide +kernel)) ggX9_often_X9_sumOf
set_option maxRecDepth 20000 in
theorem ggX9_often_X9_notes : GoodIn wsX9_often wsX9_notes := goodIn_r _ [130, 131, 8, 132, 133, 134, 135, 136, 137, 138, 139, 140, 141, 142, 143, 144, 145, 146, 147, 148, 149, 150, 151, 152, 153, 154, 155, 156, 157, 158, 159, 160, 161, 162, 163, 164, 165, 166, 167, 168, 169, 170, 171] (by decide +kernel) (by decide +kernel)
set_option maxRecDepth 20000 in
theorem gX9_often_X9_notes : GoodIn wsX9_often (wsV RX9 180 RX9 yX9_notes wsX9_notes) := goodIn_app (goodIn_of _ (by decide +kernel)) ggX9_often_X9_notes
theorem dX9_often_0 : decode cX9_often 0 = .ok (.aload_n 0, 1) := by decide +kernel
theorem dX9_often_1 : decode cX9_often 1 = .ok (.iconst 0, 1) := by decide +kernel
theorem dX9_often_2 : decode cX9_often 2 = .ok (.putfield 77, 3) := by decide +kernel
theorem dX9_often_5 : decode cX9_often 5 = .ok (.aload_n 0, 1) := by decide +kernel
theorem dX9_often_6 : decode cX9_often 6 = .ok (.iload_n 1, 1) := by decide +kernel
theorem dX9_often_7 : decode cX9_often 7 = .ok (.invokevirtual 233, 3) := by decide +kernel
theorem dX9_often_10 : decode cX9_often 10 = .ok (.ifCond .eq 15, 3) := by decide +kernel
theorem dX9_often_13 : decode cX9_often 13 = .ok (.iload_n 2, 1) := by decide +kernel
theorem dX9_often_14 : decode cX9_often 14 = .ok (.i2l, 1) := by decide +kernel
theorem dX9_often_15 : decode cX9_often 15 = .ok (.lconst 1, 1) := by decide +kernel
theorem dX9_often_16 : decode cX9_often 16 = .ok (.ldc2_w 419, 3) := by decide +kernel
theorem dX9_often_19 : decode cX9_often 19 = .ok (.invokestatic 87, 3) := by decide +kernel
theorem dX9_often_22 : decode cX9_often 22 = .ok (.ifCond .ne 5, 3) := by decide +kernel
theorem dX9_often_25 : decode cX9_often 25 = .ok (.iconst (-1), 1) := by decide +kernel
theorem dX9_often_26 : decode cX9_often 26 = .ok (.ireturn, 1) := by decide +kernel
theorem dX9_often_27 : decode cX9_often 27 = .ok (.aload_n 0, 1) := by decide +kernel
theorem dX9_often_28 : decode cX9_often 28 = .ok (.getfield 131, 3) := by decide +kernel
theorem dX9_often_31 : decode cX9_often 31 = .ok (.istore 4, 2) := by decide +kernel
theorem dX9_often_33 : decode cX9_often 33 = .ok (.aload_n 0, 1) := by decide +kernel
theorem dX9_often_34 : decode cX9_often 34 = .ok (.getfield 134, 3) := by decide +kernel
theorem dX9_often_37 : decode cX9_often 37 = .ok (.istore 5, 2) := by decide +kernel
theorem dX9_often_39 : decode cX9_often 39 = .ok (.iconst 0, 1) := by decide +kernel
theorem dX9_often_40 : decode cX9_often 40 = .ok (.istore 6, 2) := by decide +kernel
theorem dX9_often_42 : decode cX9_often 42 = .ok (.iload 6, 2) := by decide +kernel
theorem dX9_often_44 : decode cX9_often 44 = .ok (.aload_n 0, 1) := by decide +kernel
theorem dX9_often_45 : decode cX9_often 45 = .ok (.getfield 32, 3) := by decide +kernel
theorem dX9_often_48 : decode cX9_often 48 = .ok (.arraylength, 1) := by decide +kernel
theorem dX9_often_49 : decode cX9_often 49 = .ok (.if_icmp .ge 23, 3) := by decide +kernel
theorem dX9_often_52 : decode cX9_often 52 = .ok (.aload_n 0, 1) := by decide +kernel
theorem dX9_often_53 : decode cX9_often 53 = .ok (.getfield 35, 3) := by decide +kernel
theorem dX9_often_56 : decode cX9_often 56 = .ok (.iload 6, 2) := by decide +kernel
theorem dX9_often_58 : decode cX9_often 58 = .ok (.aload_n 0, 1) := by decide +kernel
theorem dX9_often_59 : decode cX9_often 59 = .ok (.getfield 32, 3) := by decide +kernel
theorem dX9_often_62 : decode cX9_often 62 = .ok (.iload 6, 2) := by decide +kernel
theorem dX9_often_64 : decode cX9_often 64 = .ok (.iaload, 1) := by decide +kernel
theorem dX9_often_65 : decode cX9_often 65 = .ok (.iastore, 1) := by decide +kernel
theorem dX9_often_66 : decode cX9_often 66 = .ok (.iinc 6 1, 3) := by decide +kernel
theorem dX9_often_69 : decode cX9_often 69 = .ok (.goto (-27), 3) := by decide +kernel
theorem dX9_often_72 : decode cX9_often 72 = .ok (.aload_n 0, 1) := by decide +kernel
theorem dX9_often_73 : decode cX9_often 73 = .ok (.iload_n 3, 1) := by decide +kernel
theorem dX9_often_74 : decode cX9_often 74 = .ok (.putfield 409, 3) := by decide +kernel
theorem dX9_often_77 : decode cX9_often 77 = .ok (.iconst 0, 1) := by decide +kernel
theorem dX9_often_78 : decode cX9_often 78 = .ok (.istore 6, 2) := by decide +kernel
theorem dX9_often_80 : decode cX9_often 80 = .ok (.iconst 0, 1) := by decide +kernel
theorem dX9_often_81 : decode cX9_often 81 = .ok (.istore 7, 2) := by decide +kernel
theorem dX9_often_83 : decode cX9_often 83 = .ok (.iconst 0, 1) := by decide +kernel
theorem dX9_often_84 : decode cX9_often 84 = .ok (.istore 8, 2) := by decide +kernel
theorem dX9_often_86 : decode cX9_often 86 = .ok (.iconst 0, 1) := by decide +kernel
theorem dX9_often_87 : decode cX9_often 87 = .ok (.istore 9, 2) := by decide +kernel
theorem dX9_often_89 : decode cX9_often 89 = .ok (.iload 9, 2) := by decide +kernel
theorem dX9_often_91 : decode cX9_often 91 = .ok (.iload_n 2, 1) := by decide +kernel
theorem dX9_often_92 : decode cX9_often 92 = .ok (.if_icmp .ge 111, 3) := by decide +kernel
theorem dX9_often_95 : decode cX9_often 95 = .ok (.aload_n 0, 1) := by decide +kernel
theorem dX9_often_96 : decode cX9_often 96 = .ok (.invokevirtual 416, 3) := by decide +kernel
theorem dX9_often_99 : decode cX9_often 99 = .ok (.pop, 1) := by decide +kernel
theorem dX9_often_100 : decode cX9_often 100 = .ok (.iload 6, 2) := by decide +kernel
theorem dX9_often_102 : decode cX9_often 102 = .ok (.aload_n 0, 1) := by decide +kernel
theorem dX9_often_103 : decode cX9_often 103 = .ok (.iload_n 1, 1) := by decide +kernel
theorem dX9_often_104 : decode cX9_often 104 = .ok (.invokevirtual 121, 3) := by decide +kernel
theorem dX9_often_107 : decode cX9_often 107 = .ok (.ifCond .ne 15, 3) := by decide +kernel
theorem dX9_often_110 : decode cX9_often 110 = .ok (.aload_n 0, 1) := by decide +kernel
theorem dX9_often_111 : decode cX9_often 111 = .ok (.iload_n 1, 1) := by decide +kernel
theorem dX9_often_112 : decode cX9_often 112 = .ok (.invokevirtual 177, 3) := by decide +kernel
theorem dX9_often_115 : decode cX9_often 115 = .ok (.ifCond .ne 7, 3) := by decide +kernel
theorem dX9_often_118 : decode cX9_often 118 = .ok (.iconst 1, 1) := by decide +kernel
theorem dX9_often_119 : decode cX9_often 119 = .ok (.goto 4, 3) := by decide +kernel
theorem dX9_often_122 : decode cX9_often 122 = .ok (.iconst 0, 1) := by decide +kernel
theorem dX9_often_123 : decode cX9_often 123 = .ok (.invokestatic 160, 3) := by decide +kernel
theorem dX9_often_126 : decode cX9_often 126 = .ok (.iadd, 1) := by decide +kernel
theorem dX9_often_127 : decode cX9_often 127 = .ok (.istore 6, 2) := by decide +kernel
theorem dX9_often_129 : decode cX9_often 129 = .ok (.iload 7, 2) := by decide +kernel
theorem dX9_often_131 : decode cX9_often 131 = .ok (.aload_n 0, 1) := by decide +kernel
theorem dX9_often_132 : decode cX9_often 132 = .ok (.iload_n 1, 1) := by decide +kernel
theorem dX9_often_133 : decode cX9_often 133 = .ok (.invokevirtual 121, 3) := by decide +kernel
theorem dX9_often_136 : decode cX9_often 136 = .ok (.invokestatic 160, 3) := by decide +kernel
theorem dX9_often_139 : decode cX9_often 139 = .ok (.iadd, 1) := by decide +kernel
theorem dX9_often_140 : decode cX9_often 140 = .ok (.istore 7, 2) := by decide +kernel
theorem dX9_often_142 : decode cX9_often 142 = .ok (.iload 8, 2) := by decide +kernel
theorem dX9_often_144 : decode cX9_often 144 = .ok (.aload_n 0, 1) := by decide +kernel
theorem dX9_often_145 : decode cX9_often 145 = .ok (.iload_n 1, 1) := by decide +kernel
theorem dX9_often_146 : decode cX9_often 146 = .ok (.invokevirtual 167, 3) := by decide +kernel
theorem dX9_often_149 : decode cX9_often 149 = .ok (.iadd, 1) := by decide +kernel
theorem dX9_often_150 : decode cX9_often 150 = .ok (.istore 8, 2) := by decide +kernel
theorem dX9_often_152 : decode cX9_often 152 = .ok (.iconst 0, 1) := by decide +kernel
theorem dX9_often_153 : decode cX9_often 153 = .ok (.istore 10, 2) := by decide +kernel
theorem dX9_often_155 : decode cX9_often 155 = .ok (.iload 10, 2) := by decide +kernel
theorem dX9_often_157 : decode cX9_often 157 = .ok (.aload_n 0, 1) := by decide +kernel
theorem dX9_often_158 : decode cX9_often 158 = .ok (.getfield 32, 3) := by decide +kernel
theorem dX9_often_161 : decode cX9_often 161 = .ok (.arraylength, 1) := by decide +kernel
theorem dX9_often_162 : decode cX9_often 162 = .ok (.if_icmp .ge 23, 3) := by decide +kernel
theorem dX9_often_165 : decode cX9_often 165 = .ok (.aload_n 0, 1) := by decide +kernel
theorem dX9_often_166 : decode cX9_often 166 = .ok (.getfield 32, 3) := by decide +kernel
theorem dX9_often_169 : decode cX9_often 169 = .ok (.iload 10, 2) := by decide +kernel
theorem dX9_often_171 : decode cX9_often 171 = .ok (.aload_n 0, 1) := by decide +kernel
theorem dX9_often_172 : decode cX9_often 172 = .ok (.getfield 35, 3) := by decide +kernel
theorem dX9_often_175 : decode cX9_often 175 = .ok (.iload 10, 2) := by decide +kernel
theorem dX9_often_177 : decode cX9_often 177 = .ok (.iaload, 1) := by decide +kernel
theorem dX9_often_178 : decode cX9_often 178 = .ok (.iastore, 1) := by decide +kernel
theorem dX9_often_179 : decode cX9_often 179 = .ok (.iinc 10 1, 3) := by decide +kernel
theorem dX9_often_182 : decode cX9_often 182 = .ok (.goto (-27), 3) := by decide +kernel
theorem dX9_often_185 : decode cX9_often 185 = .ok (.aload_n 0, 1) := by decide +kernel
theorem dX9_often_186 : decode cX9_often 186 = .ok (.iload 4, 2) := by decide +kernel
theorem dX9_often_188 : decode cX9_often 188 = .ok (.putfield 131, 3) := by decide +kernel
theorem dX9_often_191 : decode cX9_often 191 = .ok (.aload_n 0, 1) := by decide +kernel
theorem dX9_often_192 : decode cX9_often 192 = .ok (.iload 5, 2) := by decide +kernel
theorem dX9_often_194 : decode cX9_often 194 = .ok (.putfield 134, 3) := by decide +kernel
theorem dX9_often_197 : decode cX9_often 197 = .ok (.iinc 9 1, 3) := by decide +kernel
theorem dX9_often_200 : decode cX9_often 200 = .ok (.goto (-111), 3) := by decide +kernel
theorem dX9_often_203 : decode cX9_often 203 = .ok (.aload_n 0, 1) := by decide +kernel
theorem dX9_often_204 : decode cX9_often 204 = .ok (.iconst 0, 1) := by decide +kernel
theorem dX9_often_205 : decode cX9_often 205 = .ok (.putfield 81, 3) := by decide +kernel
theorem dX9_often_208 : decode cX9_often 208 = .ok (.aload_n 0, 1) := by decide +kernel
theorem dX9_often_209 : decode cX9_often 209 = .ok (.iload 7, 2) := by decide +kernel
theorem dX9_often_211 : decode cX9_often 211 = .ok (.i2l, 1) := by decide +kernel
theorem dX9_often_212 : decode cX9_often 212 = .ok (.invokevirtual 180, 3) := by decide +kernel
theorem dX9_often_215 : decode cX9_often 215 = .ok (.aload_n 0, 1) := by decide +kernel
theorem dX9_often_216 : decode cX9_often 216 = .ok (.iload 8, 2) := by decide +kernel
theorem dX9_often_218 : decode cX9_often 218 = .ok (.i2l, 1) := by decide +kernel
theorem dX9_often_219 : decode cX9_often 219 = .ok (.invokevirtual 180, 3) := by decide +kernel
theorem dX9_often_222 : decode cX9_often 222 = .ok (.iload 6, 2) := by decide +kernel
theorem dX9_often_224 : decode cX9_often 224 = .ok (.ireturn, 1) := by decide +kernel
set_option maxRecDepth 20000 in
theorem ggX9_outs_X9_of : GoodIn wsX9_outs wsX9_of := goodIn_r _ [6, 7, 8, 9, 10, 11, 12, 13, 14, 15, 16, 17, 18, 19, 20, 21, 22, 23, 24, 25, 26, 27, 28, 29, 30, 31, 32, 33, 34, 35, 36, 37, 38, 39, 40, 41, 42, 43, 44, 45, 46, 47] (by decide +kernel) (by decide +kernel)
set_option maxRecDepth 20000 in
theorem gX9_outs_X9_of : GoodIn wsX9_outs (wsV RX9 106 RX9 yX9_of wsX9_of) := goodIn_app (goodIn_of _ (by decide +kernel)) ggX9_outs_X9_of
theorem dX9_outs_0 : decode cX9_outs 0 = .ok (.iconst 0, 1) := by decide +kernel
theorem dX9_outs_1 : decode cX9_outs 1 = .ok (.istore_n 1, 1) := by decide +kernel
theorem dX9_outs_2 : decode cX9_outs 2 = .ok (.iconst 0, 1) := by decide +kernel
theorem dX9_outs_3 : decode cX9_outs 3 = .ok (.istore_n 2, 1) := by decide +kernel
theorem dX9_outs_4 : decode cX9_outs 4 = .ok (.iload_n 2, 1) := by decide +kernel
theorem dX9_outs_5 : decode cX9_outs 5 = .ok (.aload_n 0, 1) := by decide +kernel
theorem dX9_outs_6 : decode cX9_outs 6 = .ok (.getfield 84, 3) := by decide +kernel
theorem dX9_outs_9 : decode cX9_outs 9 = .ok (.if_icmp .ge 21, 3) := by decide +kernel
theorem dX9_outs_12 : decode cX9_outs 12 = .ok (.iload_n 1, 1) := by decide +kernel
theorem dX9_outs_13 : decode cX9_outs 13 = .ok (.aload_n 0, 1) := by decide +kernel
theorem dX9_outs_14 : decode cX9_outs 14 = .ok (.iload_n 2, 1) := by decide +kernel
theorem dX9_outs_15 : decode cX9_outs 15 = .ok (.bipush 6, 2) := by decide +kernel
theorem dX9_outs_17 : decode cX9_outs 17 = .ok (.invokevirtual 106, 3) := by decide +kernel
theorem dX9_outs_20 : decode cX9_outs 20 = .ok (.iload_n 2, 1) := by decide +kernel
theorem dX9_outs_21 : decode cX9_outs 21 = .ok (.ishl, 1) := by decide +kernel
theorem dX9_outs_22 : decode cX9_outs 22 = .ok (.ior, 1) := by decide +kernel
theorem dX9_outs_23 : decode cX9_outs 23 = .ok (.istore_n 1, 1) := by decide +kernel
theorem dX9_outs_24 : decode cX9_outs 24 = .ok (.iinc 2 1, 3) := by decide +kernel
theorem dX9_outs_27 : decode cX9_outs 27 = .ok (.goto (-23), 3) := by decide +kernel
theorem dX9_outs_30 : decode cX9_outs 30 = .ok (.iload_n 1, 1) := by decide +kernel
theorem dX9_outs_31 : decode cX9_outs 31 = .ok (.ireturn, 1) := by decide +kernel
set_option maxRecDepth 20000 in
theorem ggX9_count_X9_outs : GoodIn wsX9_count wsX9_outs := goodIn_r _ [13, 2, 14, 15, 16, 12, 17, 3, 18, 19, 20, 21, 22, 23, 24, 25, 26, 27, 28, 29, 30, 31, 32, 33, 34, 35, 36, 37, 38, 39, 40, 41, 42, 43, 44, 45, 46, 47, 48, 49, 50, 51, 52, 53, 54, 55, 56, 57] (by decide +kernel) (by decide +kernel)
set_option maxRecDepth 20000 in
theorem gX9_count_X9_outs : GoodIn wsX9_count (wsV RX9 421 RX9 yX9_outs wsX9_outs) := goodIn_app (goodIn_of _ (by decide +kernel)) ggX9_count_X9_outs
theorem dX9_count_0 : decode cX9_count 0 = .ok (.aload_n 0, 1) := by decide +kernel
theorem dX9_count_1 : decode cX9_count 1 = .ok (.iconst 0, 1) := by decide +kernel
theorem dX9_count_2 : decode cX9_count 2 = .ok (.putfield 77, 3) := by decide +kernel
theorem dX9_count_5 : decode cX9_count 5 = .ok (.iload_n 1, 1) := by decide +kernel
theorem dX9_count_6 : decode cX9_count 6 = .ok (.tableswitch 110 0 9 #[54, 59, 66, 73, 80, 85, 90, 95, 100, 105], 54) := by decide +kernel
theorem dX9_count_60 : decode cX9_count 60 = .ok (.aload_n 0, 1) := by decide +kernel
theorem dX9_count_61 : decode cX9_count 61 = .ok (.getfield 84, 3) := by decide +kernel
theorem dX9_count_64 : decode cX9_count 64 = .ok (.ireturn, 1) := by decide +kernel
theorem dX9_count_65 : decode cX9_count 65 = .ok (.aload_n 0, 1) := by decide +kernel
theorem dX9_count_66 : decode cX9_count 66 = .ok (.getfield 32, 3) := by decide +kernel
theorem dX9_count_69 : decode cX9_count 69 = .ok (.iconst 0, 1) := by decide +kernel
theorem dX9_count_70 : decode cX9_count 70 = .ok (.iaload, 1) := by decide +kernel
theorem dX9_count_71 : decode cX9_count 71 = .ok (.ireturn, 1) := by decide +kernel
theorem dX9_count_72 : decode cX9_count 72 = .ok (.aload_n 0, 1) := by decide +kernel
theorem dX9_count_73 : decode cX9_count 73 = .ok (.getfield 32, 3) := by decide +kernel
theorem dX9_count_76 : decode cX9_count 76 = .ok (.iconst 1, 1) := by decide +kernel
theorem dX9_count_77 : decode cX9_count 77 = .ok (.iaload, 1) := by decide +kernel
theorem dX9_count_78 : decode cX9_count 78 = .ok (.ireturn, 1) := by decide +kernel
theorem dX9_count_79 : decode cX9_count 79 = .ok (.aload_n 0, 1) := by decide +kernel
theorem dX9_count_80 : decode cX9_count 80 = .ok (.getfield 32, 3) := by decide +kernel
theorem dX9_count_83 : decode cX9_count 83 = .ok (.iconst 2, 1) := by decide +kernel
theorem dX9_count_84 : decode cX9_count 84 = .ok (.iaload, 1) := by decide +kernel
theorem dX9_count_85 : decode cX9_count 85 = .ok (.ireturn, 1) := by decide +kernel
theorem dX9_count_86 : decode cX9_count 86 = .ok (.aload_n 0, 1) := by decide +kernel
theorem dX9_count_87 : decode cX9_count 87 = .ok (.getfield 131, 3) := by decide +kernel
theorem dX9_count_90 : decode cX9_count 90 = .ok (.ireturn, 1) := by decide +kernel
theorem dX9_count_91 : decode cX9_count 91 = .ok (.aload_n 0, 1) := by decide +kernel
theorem dX9_count_92 : decode cX9_count 92 = .ok (.getfield 134, 3) := by decide +kernel
theorem dX9_count_95 : decode cX9_count 95 = .ok (.ireturn, 1) := by decide +kernel
theorem dX9_count_96 : decode cX9_count 96 = .ok (.aload_n 0, 1) := by decide +kernel
theorem dX9_count_97 : decode cX9_count 97 = .ok (.getfield 97, 3) := by decide +kernel
theorem dX9_count_100 : decode cX9_count 100 = .ok (.ireturn, 1) := by decide +kernel
theorem dX9_count_101 : decode cX9_count 101 = .ok (.aload_n 0, 1) := by decide +kernel
theorem dX9_count_102 : decode cX9_count 102 = .ok (.getfield 81, 3) := by decide +kernel
theorem dX9_count_105 : decode cX9_count 105 = .ok (.ireturn, 1) := by decide +kernel
theorem dX9_count_106 : decode cX9_count 106 = .ok (.aload_n 0, 1) := by decide +kernel
theorem dX9_count_107 : decode cX9_count 107 = .ok (.getfield 184, 3) := by decide +kernel
theorem dX9_count_110 : decode cX9_count 110 = .ok (.ireturn, 1) := by decide +kernel
theorem dX9_count_111 : decode cX9_count 111 = .ok (.aload_n 0, 1) := by decide +kernel
theorem dX9_count_112 : decode cX9_count 112 = .ok (.invokevirtual 421, 3) := by decide +kernel
theorem dX9_count_115 : decode cX9_count 115 = .ok (.ireturn, 1) := by decide +kernel
theorem dX9_count_116 : decode cX9_count 116 = .ok (.iconst (-1), 1) := by decide +kernel
theorem dX9_count_117 : decode cX9_count 117 = .ok (.ireturn, 1) := by decide +kernel
set_option maxRecDepth 20000 in
theorem ggX9_row_X9_in : GoodIn wsX9_row wsX9_in := goodIn_r _ [7] (by decide +kernel) (by decide +kernel)
set_option maxRecDepth 20000 in
theorem gX9_row_X9_in : GoodIn wsX9_row (va_wsS RX9 87 yX9_in wsX9_in) := goodIn_app (goodIn_of _ (by decide +kernel)) ggX9_row_X9_in
set_option maxRecDepth 20000 in
theorem ggX9_row_X9_flag : GoodIn wsX9_row wsX9_flag := goodIn_r _ [10] (by decide +kernel) (by decide +kernel)
