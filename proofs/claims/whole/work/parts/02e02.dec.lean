theorem dX8_lifter_120 : decode cX8_lifter 120 = .ok (.iaload, 1) := by decide +kernel
theorem dX8_lifter_121 : decode cX8_lifter 121 = .ok (.ireturn, 1) := by decide +kernel
theorem dX8_lifter_122 : decode cX8_lifter 122 = .ok (.aload 4, 2) := by decide +kernel
theorem dX8_lifter_124 : decode cX8_lifter 124 = .ok (.getfield 107, 3) := by decide +kernel
theorem dX8_lifter_127 : decode cX8_lifter 127 = .ok (.iload_n 2, 1) := by decide +kernel
theorem dX8_lifter_128 : decode cX8_lifter 128 = .ok (.iconst 3, 1) := by decide +kernel
theorem dX8_lifter_129 : decode cX8_lifter 129 = .ok (.imul, 1) := by decide +kernel
theorem dX8_lifter_130 : decode cX8_lifter 130 = .ok (.iconst 2, 1) := by decide +kernel
theorem dX8_lifter_131 : decode cX8_lifter 131 = .ok (.iadd, 1) := by decide +kernel
theorem dX8_lifter_132 : decode cX8_lifter 132 = .ok (.iaload, 1) := by decide +kernel
theorem dX8_lifter_133 : decode cX8_lifter 133 = .ok (.ireturn, 1) := by decide +kernel
theorem dX8_lifter_134 : decode cX8_lifter 134 = .ok (.aload_n 0, 1) := by decide +kernel
theorem dX8_lifter_135 : decode cX8_lifter 135 = .ok (.getfield 28, 3) := by decide +kernel
theorem dX8_lifter_138 : decode cX8_lifter 138 = .ok (.getfield 127, 3) := by decide +kernel
theorem dX8_lifter_141 : decode cX8_lifter 141 = .ok (.iload_n 1, 1) := by decide +kernel
theorem dX8_lifter_142 : decode cX8_lifter 142 = .ok (.iconst 3, 1) := by decide +kernel
theorem dX8_lifter_143 : decode cX8_lifter 143 = .ok (.imul, 1) := by decide +kernel
theorem dX8_lifter_144 : decode cX8_lifter 144 = .ok (.iload_n 2, 1) := by decide +kernel
theorem dX8_lifter_145 : decode cX8_lifter 145 = .ok (.iadd, 1) := by decide +kernel
theorem dX8_lifter_146 : decode cX8_lifter 146 = .ok (.iaload, 1) := by decide +kernel
theorem dX8_lifter_147 : decode cX8_lifter 147 = .ok (.ireturn, 1) := by decide +kernel
theorem dX8_lifter_148 : decode cX8_lifter 148 = .ok (.aload_n 0, 1) := by decide +kernel
theorem dX8_lifter_149 : decode cX8_lifter 149 = .ok (.getfield 28, 3) := by decide +kernel
theorem dX8_lifter_152 : decode cX8_lifter 152 = .ok (.getfield 130, 3) := by decide +kernel
theorem dX8_lifter_155 : decode cX8_lifter 155 = .ok (.iload_n 1, 1) := by decide +kernel
theorem dX8_lifter_156 : decode cX8_lifter 156 = .ok (.iaload, 1) := by decide +kernel
theorem dX8_lifter_157 : decode cX8_lifter 157 = .ok (.ireturn, 1) := by decide +kernel
theorem dX8_lifter_158 : decode cX8_lifter 158 = .ok (.aload_n 0, 1) := by decide +kernel
theorem dX8_lifter_159 : decode cX8_lifter 159 = .ok (.getfield 28, 3) := by decide +kernel
theorem dX8_lifter_162 : decode cX8_lifter 162 = .ok (.iload_n 1, 1) := by decide +kernel
theorem dX8_lifter_163 : decode cX8_lifter 163 = .ok (.invokevirtual 133, 3) := by decide +kernel
theorem dX8_lifter_166 : decode cX8_lifter 166 = .ok (.ireturn, 1) := by decide +kernel
theorem dX8_lifter_167 : decode cX8_lifter 167 = .ok (.aload_n 0, 1) := by decide +kernel
theorem dX8_lifter_168 : decode cX8_lifter 168 = .ok (.getfield 28, 3) := by decide +kernel
theorem dX8_lifter_171 : decode cX8_lifter 171 = .ok (.getfield 137, 3) := by decide +kernel
theorem dX8_lifter_174 : decode cX8_lifter 174 = .ok (.iload_n 1, 1) := by decide +kernel
theorem dX8_lifter_175 : decode cX8_lifter 175 = .ok (.iaload, 1) := by decide +kernel
theorem dX8_lifter_176 : decode cX8_lifter 176 = .ok (.ireturn, 1) := by decide +kernel
theorem dX8_lifter_177 : decode cX8_lifter 177 = .ok (.aload_n 0, 1) := by decide +kernel
theorem dX8_lifter_178 : decode cX8_lifter 178 = .ok (.getfield 28, 3) := by decide +kernel
theorem dX8_lifter_181 : decode cX8_lifter 181 = .ok (.iload_n 1, 1) := by decide +kernel
theorem dX8_lifter_182 : decode cX8_lifter 182 = .ok (.invokevirtual 140, 3) := by decide +kernel
theorem dX8_lifter_185 : decode cX8_lifter 185 = .ok (.ifCond .eq 7, 3) := by decide +kernel
theorem dX8_lifter_188 : decode cX8_lifter 188 = .ok (.iconst 1, 1) := by decide +kernel
theorem dX8_lifter_189 : decode cX8_lifter 189 = .ok (.goto 4, 3) := by decide +kernel
theorem dX8_lifter_192 : decode cX8_lifter 192 = .ok (.iconst 0, 1) := by decide +kernel
theorem dX8_lifter_193 : decode cX8_lifter 193 = .ok (.ireturn, 1) := by decide +kernel
theorem dX8_lifter_194 : decode cX8_lifter 194 = .ok (.aload_n 0, 1) := by decide +kernel
theorem dX8_lifter_195 : decode cX8_lifter 195 = .ok (.getfield 28, 3) := by decide +kernel
theorem dX8_lifter_198 : decode cX8_lifter 198 = .ok (.getfield 143, 3) := by decide +kernel
theorem dX8_lifter_201 : decode cX8_lifter 201 = .ok (.iload_n 1, 1) := by decide +kernel
theorem dX8_lifter_202 : decode cX8_lifter 202 = .ok (.baload, 1) := by decide +kernel
theorem dX8_lifter_203 : decode cX8_lifter 203 = .ok (.ifCond .eq 7, 3) := by decide +kernel
theorem dX8_lifter_206 : decode cX8_lifter 206 = .ok (.iconst 1, 1) := by decide +kernel
theorem dX8_lifter_207 : decode cX8_lifter 207 = .ok (.goto 4, 3) := by decide +kernel
theorem dX8_lifter_210 : decode cX8_lifter 210 = .ok (.iconst 0, 1) := by decide +kernel
theorem dX8_lifter_211 : decode cX8_lifter 211 = .ok (.ireturn, 1) := by decide +kernel
theorem dX8_lifter_212 : decode cX8_lifter 212 = .ok (.aload_n 0, 1) := by decide +kernel
theorem dX8_lifter_213 : decode cX8_lifter 213 = .ok (.getfield 28, 3) := by decide +kernel
theorem dX8_lifter_216 : decode cX8_lifter 216 = .ok (.iload_n 1, 1) := by decide +kernel
theorem dX8_lifter_217 : decode cX8_lifter 217 = .ok (.invokevirtual 147, 3) := by decide +kernel
theorem dX8_lifter_220 : decode cX8_lifter 220 = .ok (.ireturn, 1) := by decide +kernel
theorem dX8_lifter_221 : decode cX8_lifter 221 = .ok (.iconst (-1), 1) := by decide +kernel
theorem dX8_lifter_222 : decode cX8_lifter 222 = .ok (.ireturn, 1) := by decide +kernel
set_option maxRecDepth 20000 in
theorem ggX8_called_X4_next : GoodIn wsX8_called wsX4_next := goodIn_r _ [7, 8, 9, 10, 11, 12, 6, 13, 14, 15, 16, 17, 18, 19, 20, 57, 58, 59, 60, 61, 62, 63, 64, 65, 66, 67, 68, 69, 70, 71, 72, 73, 74, 75, 76] (by decide +kernel) (by decide +kernel)
set_option maxRecDepth 20000 in
theorem gX8_called_X4_next : GoodIn wsX8_called (wsV RX8 150 RX4 yX4_next wsX4_next) := goodIn_app (goodIn_of _ (by decide +kernel)) ggX8_called_X4_next
set_option maxRecDepth 20000 in
theorem ggX8_called_X4_oddsNow : GoodIn wsX8_called wsX4_oddsNow := goodIn_r _ [24, 19, 25, 9, 26, 27, 28, 29, 30, 31, 32, 33, 34, 35, 36, 37, 57, 58, 59, 60, 61, 62, 63, 64, 65, 66, 67, 68, 69, 70, 71, 72, 73, 74, 75, 76] (by decide +kernel) (by decide +kernel)
set_option maxRecDepth 20000 in
theorem gX8_called_X4_oddsNow : GoodIn wsX8_called (wsV RX8 154 RX4 yX4_oddsNow wsX4_oddsNow) := goodIn_app (goodIn_of _ (by decide +kernel)) ggX8_called_X4_oddsNow
set_option maxRecDepth 20000 in
theorem ggX8_called_X8_tellTwo : GoodIn wsX8_called wsX8_tellTwo := goodIn_r _ [42, 43, 44, 45, 46, 47, 48, 49, 50, 51, 52, 53, 54, 55, 56] (by decide +kernel) (by decide +kernel)
set_option maxRecDepth 20000 in
theorem gX8_called_X8_tellTwo : GoodIn wsX8_called (wsV RX8 157 RX8 yX8_tellTwo wsX8_tellTwo) := goodIn_app (goodIn_of _ (by decide +kernel)) ggX8_called_X8_tellTwo
theorem dX8_called_0 : decode cX8_called 0 = .ok (.aload_n 0, 1) := by decide +kernel
theorem dX8_called_1 : decode cX8_called 1 = .ok (.getfield 28, 3) := by decide +kernel
theorem dX8_called_4 : decode cX8_called 4 = .ok (.invokevirtual 150, 3) := by decide +kernel
theorem dX8_called_7 : decode cX8_called 7 = .ok (.istore_n 1, 1) := by decide +kernel
theorem dX8_called_8 : decode cX8_called 8 = .ok (.iload_n 1, 1) := by decide +kernel
theorem dX8_called_9 : decode cX8_called 9 = .ok (.ifCond .ge 6, 3) := by decide +kernel
theorem dX8_called_12 : decode cX8_called 12 = .ok (.bipush (-2), 2) := by decide +kernel
theorem dX8_called_14 : decode cX8_called 14 = .ok (.ireturn, 1) := by decide +kernel
theorem dX8_called_15 : decode cX8_called 15 = .ok (.aload_n 0, 1) := by decide +kernel
theorem dX8_called_16 : decode cX8_called 16 = .ok (.aload_n 0, 1) := by decide +kernel
theorem dX8_called_17 : decode cX8_called 17 = .ok (.getfield 28, 3) := by decide +kernel
theorem dX8_called_20 : decode cX8_called 20 = .ok (.getfield 130, 3) := by decide +kernel
theorem dX8_called_23 : decode cX8_called 23 = .ok (.iload_n 1, 1) := by decide +kernel
theorem dX8_called_24 : decode cX8_called 24 = .ok (.iaload, 1) := by decide +kernel
theorem dX8_called_25 : decode cX8_called 25 = .ok (.aload_n 0, 1) := by decide +kernel
theorem dX8_called_26 : decode cX8_called 26 = .ok (.getfield 28, 3) := by decide +kernel
theorem dX8_called_29 : decode cX8_called 29 = .ok (.iload_n 1, 1) := by decide +kernel
theorem dX8_called_30 : decode cX8_called 30 = .ok (.invokevirtual 154, 3) := by decide +kernel
theorem dX8_called_33 : decode cX8_called 33 = .ok (.invokevirtual 157, 3) := by decide +kernel
theorem dX8_called_36 : decode cX8_called 36 = .ok (.iload_n 1, 1) := by decide +kernel
theorem dX8_called_37 : decode cX8_called 37 = .ok (.ireturn, 1) := by decide +kernel
set_option maxRecDepth 20000 in
theorem ggX8_order_X4_waits : GoodIn wsX8_order wsX4_waits := goodIn_r _ [10, 11, 12, 33, 34, 35, 36, 37, 38, 39, 40, 41, 42, 43, 44, 45, 46, 47, 48] (by decide +kernel) (by decide +kernel)
set_option maxRecDepth 20000 in
theorem gX8_order_X4_waits : GoodIn wsX8_order (wsV RX8 140 RX4 yX4_waits wsX4_waits) := goodIn_app (goodIn_of _ (by decide +kernel)) ggX8_order_X4_waits
set_option maxRecDepth 20000 in
theorem ggX8_order_X4_sooner : GoodIn wsX8_order wsX4_sooner := goodIn_r _ [16, 17, 11, 18, 19, 20, 7, 8, 9, 10, 12, 33, 34, 35, 36, 37, 38, 39, 40, 41, 42, 43, 44, 45, 46, 47, 48, 49, 50, 51, 52] (by decide +kernel) (by decide +kernel)
set_option maxRecDepth 20000 in
theorem gX8_order_X4_sooner : GoodIn wsX8_order (wsV RX8 161 RX4 yX4_sooner wsX4_sooner) := goodIn_app (goodIn_of _ (by decide +kernel)) ggX8_order_X4_sooner
theorem dX8_order_0 : decode cX8_order 0 = .ok (.aload_n 0, 1) := by decide +kernel
theorem dX8_order_1 : decode cX8_order 1 = .ok (.iconst 0, 1) := by decide +kernel
theorem dX8_order_2 : decode cX8_order 2 = .ok (.putfield 65, 3) := by decide +kernel
theorem dX8_order_5 : decode cX8_order 5 = .ok (.iconst 0, 1) := by decide +kernel
theorem dX8_order_6 : decode cX8_order 6 = .ok (.istore_n 1, 1) := by decide +kernel
theorem dX8_order_7 : decode cX8_order 7 = .ok (.iload_n 1, 1) := by decide +kernel
theorem dX8_order_8 : decode cX8_order 8 = .ok (.aload_n 0, 1) := by decide +kernel
theorem dX8_order_9 : decode cX8_order 9 = .ok (.getfield 28, 3) := by decide +kernel
theorem dX8_order_12 : decode cX8_order 12 = .ok (.getfield 87, 3) := by decide +kernel
theorem dX8_order_15 : decode cX8_order 15 = .ok (.if_icmp .ge 54, 3) := by decide +kernel
theorem dX8_order_18 : decode cX8_order 18 = .ok (.aload_n 0, 1) := by decide +kernel
theorem dX8_order_19 : decode cX8_order 19 = .ok (.getfield 28, 3) := by decide +kernel
theorem dX8_order_22 : decode cX8_order 22 = .ok (.iload_n 1, 1) := by decide +kernel
theorem dX8_order_23 : decode cX8_order 23 = .ok (.invokevirtual 140, 3) := by decide +kernel
theorem dX8_order_26 : decode cX8_order 26 = .ok (.ifCond .eq 37, 3) := by decide +kernel
theorem dX8_order_29 : decode cX8_order 29 = .ok (.aload_n 0, 1) := by decide +kernel
theorem dX8_order_30 : decode cX8_order 30 = .ok (.getfield 61, 3) := by decide +kernel
theorem dX8_order_33 : decode cX8_order 33 = .ok (.aload_n 0, 1) := by decide +kernel
theorem dX8_order_34 : decode cX8_order 34 = .ok (.getfield 28, 3) := by decide +kernel
theorem dX8_order_37 : decode cX8_order 37 = .ok (.iload_n 1, 1) := by decide +kernel
theorem dX8_order_38 : decode cX8_order 38 = .ok (.aload_n 0, 1) := by decide +kernel
theorem dX8_order_39 : decode cX8_order 39 = .ok (.getfield 28, 3) := by decide +kernel
theorem dX8_order_42 : decode cX8_order 42 = .ok (.getfield 130, 3) := by decide +kernel
theorem dX8_order_45 : decode cX8_order 45 = .ok (.iload_n 1, 1) := by decide +kernel
theorem dX8_order_46 : decode cX8_order 46 = .ok (.iaload, 1) := by decide +kernel
theorem dX8_order_47 : decode cX8_order 47 = .ok (.invokevirtual 161, 3) := by decide +kernel
theorem dX8_order_50 : decode cX8_order 50 = .ok (.iload_n 1, 1) := by decide +kernel
theorem dX8_order_51 : decode cX8_order 51 = .ok (.i2l, 1) := by decide +kernel
theorem dX8_order_52 : decode cX8_order 52 = .ok (.lastore, 1) := by decide +kernel
theorem dX8_order_53 : decode cX8_order 53 = .ok (.aload_n 0, 1) := by decide +kernel
theorem dX8_order_54 : decode cX8_order 54 = .ok (.dup, 1) := by decide +kernel
theorem dX8_order_55 : decode cX8_order 55 = .ok (.getfield 65, 3) := by decide +kernel
theorem dX8_order_58 : decode cX8_order 58 = .ok (.iconst 1, 1) := by decide +kernel
theorem dX8_order_59 : decode cX8_order 59 = .ok (.iadd, 1) := by decide +kernel
theorem dX8_order_60 : decode cX8_order 60 = .ok (.putfield 65, 3) := by decide +kernel
theorem dX8_order_63 : decode cX8_order 63 = .ok (.iinc 1 1, 3) := by decide +kernel
theorem dX8_order_66 : decode cX8_order 66 = .ok (.goto (-59), 3) := by decide +kernel
theorem dX8_order_69 : decode cX8_order 69 = .ok (.aload_n 0, 1) := by decide +kernel
theorem dX8_order_70 : decode cX8_order 70 = .ok (.getfield 65, 3) := by decide +kernel
theorem dX8_order_73 : decode cX8_order 73 = .ok (.ireturn, 1) := by decide +kernel
set_option maxRecDepth 20000 in
theorem ggX8_asks_X8_isLifter : GoodIn wsX8_asks wsX8_isLifter := goodIn_r _ [8, 1, 9, 30, 31, 32, 33, 34, 35, 36, 37, 38, 39, 40, 41, 42, 43, 44, 45, 46, 47, 48, 49, 50, 51, 52, 53, 54, 55, 56, 57] (by decide +kernel) (by decide +kernel)
set_option maxRecDepth 20000 in
theorem gX8_asks_X8_isLifter : GoodIn wsX8_asks (wsV RX8 97 RX8 yX8_isLifter wsX8_isLifter) := goodIn_app (goodIn_of _ (by decide +kernel)) ggX8_asks_X8_isLifter
set_option maxRecDepth 20000 in
theorem ggX8_asks_X8_isLoad : GoodIn wsX8_asks wsX8_isLoad := goodIn_r _ [12] (by decide +kernel) (by decide +kernel)
set_option maxRecDepth 20000 in
theorem gX8_asks_X8_isLoad : GoodIn wsX8_asks (va_wsS RX8 114 yX8_isLoad wsX8_isLoad) := goodIn_app (goodIn_of _ (by decide +kernel)) ggX8_asks_X8_isLoad
set_option maxRecDepth 20000 in
theorem ggX8_asks_X4_waits : GoodIn wsX8_asks wsX4_waits := goodIn_r _ [17, 18, 19, 42, 43, 44, 45, 46, 47, 48, 49, 50, 51, 52, 53, 54, 55, 56, 57] (by decide +kernel) (by decide +kernel)
set_option maxRecDepth 20000 in
theorem gX8_asks_X4_waits : GoodIn wsX8_asks (wsV RX8 140 RX4 yX4_waits wsX4_waits) := goodIn_app (goodIn_of _ (by decide +kernel)) ggX8_asks_X4_waits
set_option maxRecDepth 20000 in
theorem ggX8_asks_X4_leastOf : GoodIn wsX8_asks wsX4_leastOf := goodIn_r _ [23, 18, 19, 24, 25, 26, 27, 28, 29, 42, 43, 44, 45, 46, 47, 48, 49, 50, 51, 52, 53, 54, 55, 56, 57] (by decide +kernel) (by decide +kernel)
set_option maxRecDepth 20000 in
theorem gX8_asks_X4_leastOf : GoodIn wsX8_asks (wsV RX8 133 RX4 yX4_leastOf wsX4_leastOf) := goodIn_app (goodIn_of _ (by decide +kernel)) ggX8_asks_X4_leastOf
theorem dX8_asks_0 : decode cX8_asks 0 = .ok (.aload_n 0, 1) := by decide +kernel
theorem dX8_asks_1 : decode cX8_asks 1 = .ok (.iload_n 1, 1) := by decide +kernel
theorem dX8_asks_2 : decode cX8_asks 2 = .ok (.invokevirtual 97, 3) := by decide +kernel
theorem dX8_asks_5 : decode cX8_asks 5 = .ok (.ifCond .eq 10, 3) := by decide +kernel
theorem dX8_asks_8 : decode cX8_asks 8 = .ok (.iload_n 2, 1) := by decide +kernel
theorem dX8_asks_9 : decode cX8_asks 9 = .ok (.invokestatic 114, 3) := by decide +kernel
theorem dX8_asks_12 : decode cX8_asks 12 = .ok (.ifCond .ne 5, 3) := by decide +kernel
theorem dX8_asks_15 : decode cX8_asks 15 = .ok (.iconst (-1), 1) := by decide +kernel
theorem dX8_asks_16 : decode cX8_asks 16 = .ok (.ireturn, 1) := by decide +kernel
theorem dX8_asks_17 : decode cX8_asks 17 = .ok (.aload_n 0, 1) := by decide +kernel
theorem dX8_asks_18 : decode cX8_asks 18 = .ok (.getfield 28, 3) := by decide +kernel
theorem dX8_asks_21 : decode cX8_asks 21 = .ok (.iload_n 1, 1) := by decide +kernel
theorem dX8_asks_22 : decode cX8_asks 22 = .ok (.invokevirtual 140, 3) := by decide +kernel
theorem dX8_asks_25 : decode cX8_asks 25 = .ok (.ifCond .ne 6, 3) := by decide +kernel
theorem dX8_asks_28 : decode cX8_asks 28 = .ok (.bipush (-2), 2) := by decide +kernel
theorem dX8_asks_30 : decode cX8_asks 30 = .ok (.ireturn, 1) := by decide +kernel
theorem dX8_asks_31 : decode cX8_asks 31 = .ok (.aload_n 0, 1) := by decide +kernel
theorem dX8_asks_32 : decode cX8_asks 32 = .ok (.getfield 28, 3) := by decide +kernel
theorem dX8_asks_35 : decode cX8_asks 35 = .ok (.getfield 137, 3) := by decide +kernel
theorem dX8_asks_38 : decode cX8_asks 38 = .ok (.iload_n 1, 1) := by decide +kernel
theorem dX8_asks_39 : decode cX8_asks 39 = .ok (.iaload, 1) := by decide +kernel
theorem dX8_asks_40 : decode cX8_asks 40 = .ok (.ifCond .gt 6, 3) := by decide +kernel
theorem dX8_asks_43 : decode cX8_asks 43 = .ok (.bipush (-3), 2) := by decide +kernel
theorem dX8_asks_45 : decode cX8_asks 45 = .ok (.ireturn, 1) := by decide +kernel
theorem dX8_asks_46 : decode cX8_asks 46 = .ok (.iload_n 2, 1) := by decide +kernel
theorem dX8_asks_47 : decode cX8_asks 47 = .ok (.aload_n 0, 1) := by decide +kernel
theorem dX8_asks_48 : decode cX8_asks 48 = .ok (.getfield 28, 3) := by decide +kernel
theorem dX8_asks_51 : decode cX8_asks 51 = .ok (.iload_n 1, 1) := by decide +kernel
theorem dX8_asks_52 : decode cX8_asks 52 = .ok (.invokevirtual 133, 3) := by decide +kernel
theorem dX8_asks_55 : decode cX8_asks 55 = .ok (.if_icmp .lt 16, 3) := by decide +kernel
theorem dX8_asks_58 : decode cX8_asks 58 = .ok (.iload_n 2, 1) := by decide +kernel
theorem dX8_asks_59 : decode cX8_asks 59 = .ok (.aload_n 0, 1) := by decide +kernel
theorem dX8_asks_60 : decode cX8_asks 60 = .ok (.getfield 28, 3) := by decide +kernel
theorem dX8_asks_63 : decode cX8_asks 63 = .ok (.getfield 130, 3) := by decide +kernel
theorem dX8_asks_66 : decode cX8_asks 66 = .ok (.iload_n 1, 1) := by decide +kernel
theorem dX8_asks_67 : decode cX8_asks 67 = .ok (.iaload, 1) := by decide +kernel
theorem dX8_asks_68 : decode cX8_asks 68 = .ok (.if_icmp .ne 6, 3) := by decide +kernel
theorem dX8_asks_71 : decode cX8_asks 71 = .ok (.bipush (-4), 2) := by decide +kernel
theorem dX8_asks_73 : decode cX8_asks 73 = .ok (.ireturn, 1) := by decide +kernel
theorem dX8_asks_74 : decode cX8_asks 74 = .ok (.aload_n 0, 1) := by decide +kernel
theorem dX8_asks_75 : decode cX8_asks 75 = .ok (.getfield 28, 3) := by decide +kernel
theorem dX8_asks_78 : decode cX8_asks 78 = .ok (.getfield 130, 3) := by decide +kernel
theorem dX8_asks_81 : decode cX8_asks 81 = .ok (.iload_n 1, 1) := by decide +kernel
theorem dX8_asks_82 : decode cX8_asks 82 = .ok (.iload_n 2, 1) := by decide +kernel
theorem dX8_asks_83 : decode cX8_asks 83 = .ok (.iastore, 1) := by decide +kernel
theorem dX8_asks_84 : decode cX8_asks 84 = .ok (.aload_n 0, 1) := by decide +kernel
theorem dX8_asks_85 : decode cX8_asks 85 = .ok (.getfield 28, 3) := by decide +kernel
theorem dX8_asks_88 : decode cX8_asks 88 = .ok (.getfield 137, 3) := by decide +kernel
theorem dX8_asks_91 : decode cX8_asks 91 = .ok (.iload_n 1, 1) := by decide +kernel
theorem dX8_asks_92 : decode cX8_asks 92 = .ok (.dup2, 1) := by decide +kernel
theorem dX8_asks_93 : decode cX8_asks 93 = .ok (.iaload, 1) := by decide +kernel
theorem dX8_asks_94 : decode cX8_asks 94 = .ok (.iconst 1, 1) := by decide +kernel
theorem dX8_asks_95 : decode cX8_asks 95 = .ok (.isub, 1) := by decide +kernel
theorem dX8_asks_96 : decode cX8_asks 96 = .ok (.iastore, 1) := by decide +kernel
theorem dX8_asks_97 : decode cX8_asks 97 = .ok (.aload_n 0, 1) := by decide +kernel
theorem dX8_asks_98 : decode cX8_asks 98 = .ok (.getfield 28, 3) := by decide +kernel
theorem dX8_asks_101 : decode cX8_asks 101 = .ok (.getfield 137, 3) := by decide +kernel
theorem dX8_asks_104 : decode cX8_asks 104 = .ok (.iload_n 1, 1) := by decide +kernel
theorem dX8_asks_105 : decode cX8_asks 105 = .ok (.iaload, 1) := by decide +kernel
theorem dX8_asks_106 : decode cX8_asks 106 = .ok (.ireturn, 1) := by decide +kernel
set_option maxRecDepth 20000 in
theorem ggX8_tries_X4_next : GoodIn wsX8_tries wsX4_next := goodIn_r _ [7, 8, 9, 10, 11, 12, 6, 13, 14, 15, 16, 17, 18, 19, 20, 77, 78, 79, 80, 81, 82, 83, 84, 85, 86, 87, 88, 89, 90, 91, 92, 93, 94, 95, 96] (by decide +kernel) (by decide +kernel)
set_option maxRecDepth 20000 in
theorem gX8_tries_X4_next : GoodIn wsX8_tries (wsV RX8 150 RX4 yX4_next wsX4_next) := goodIn_app (goodIn_of _ (by decide +kernel)) ggX8_tries_X4_next
set_option maxRecDepth 20000 in
theorem ggX8_tries_X4_take : GoodIn wsX8_tries wsX4_take := goodIn_r _ [24, 25, 26, 9, 19, 27, 28, 14, 29, 30, 31, 32, 33, 34, 35, 36, 37, 38, 77, 78, 79, 80, 81, 82, 83, 84, 85, 86, 87, 88, 89, 90, 91, 92, 93, 94, 95, 96] (by decide +kernel) (by decide +kernel)
set_option maxRecDepth 20000 in
theorem gX8_tries_X4_take : GoodIn wsX8_tries (wsV RX8 165 RX4 yX4_take wsX4_take) := goodIn_app (goodIn_of _ (by decide +kernel)) ggX8_tries_X4_take
set_option maxRecDepth 20000 in
theorem ggX8_tries_X8_tellTwo : GoodIn wsX8_tries wsX8_tellTwo := goodIn_r _ [43, 44, 45, 65, 66, 67, 68, 69, 70, 71, 72, 73, 74, 75, 76] (by decide +kernel) (by decide +kernel)
set_option maxRecDepth 20000 in
theorem gX8_tries_X8_tellTwo : GoodIn wsX8_tries (wsV RX8 157 RX8 yX8_tellTwo wsX8_tellTwo) := goodIn_app (goodIn_of _ (by decide +kernel)) ggX8_tries_X8_tellTwo
