theorem dX9_lifter_122 : decode cX9_lifter 122 = .ok (.aload_n 0, 1) := by decide +kernel
theorem dX9_lifter_123 : decode cX9_lifter 123 = .ok (.iload_n 1, 1) := by decide +kernel
theorem dX9_lifter_124 : decode cX9_lifter 124 = .ok (.bipush 7, 2) := by decide +kernel
theorem dX9_lifter_126 : decode cX9_lifter 126 = .ok (.iload_n 2, 1) := by decide +kernel
theorem dX9_lifter_127 : decode cX9_lifter 127 = .ok (.iadd, 1) := by decide +kernel
theorem dX9_lifter_128 : decode cX9_lifter 128 = .ok (.invokevirtual 106, 3) := by decide +kernel
theorem dX9_lifter_131 : decode cX9_lifter 131 = .ok (.ireturn, 1) := by decide +kernel
theorem dX9_lifter_132 : decode cX9_lifter 132 = .ok (.aload_n 0, 1) := by decide +kernel
theorem dX9_lifter_133 : decode cX9_lifter 133 = .ok (.iload_n 1, 1) := by decide +kernel
theorem dX9_lifter_134 : decode cX9_lifter 134 = .ok (.iconst 0, 1) := by decide +kernel
theorem dX9_lifter_135 : decode cX9_lifter 135 = .ok (.invokevirtual 106, 3) := by decide +kernel
theorem dX9_lifter_138 : decode cX9_lifter 138 = .ok (.ireturn, 1) := by decide +kernel
theorem dX9_lifter_139 : decode cX9_lifter 139 = .ok (.aload_n 0, 1) := by decide +kernel
theorem dX9_lifter_140 : decode cX9_lifter 140 = .ok (.iload_n 1, 1) := by decide +kernel
theorem dX9_lifter_141 : decode cX9_lifter 141 = .ok (.invokevirtual 249, 3) := by decide +kernel
theorem dX9_lifter_144 : decode cX9_lifter 144 = .ok (.ireturn, 1) := by decide +kernel
theorem dX9_lifter_145 : decode cX9_lifter 145 = .ok (.aload_n 0, 1) := by decide +kernel
theorem dX9_lifter_146 : decode cX9_lifter 146 = .ok (.iload_n 1, 1) := by decide +kernel
theorem dX9_lifter_147 : decode cX9_lifter 147 = .ok (.iconst 5, 1) := by decide +kernel
theorem dX9_lifter_148 : decode cX9_lifter 148 = .ok (.invokevirtual 106, 3) := by decide +kernel
theorem dX9_lifter_151 : decode cX9_lifter 151 = .ok (.ireturn, 1) := by decide +kernel
theorem dX9_lifter_152 : decode cX9_lifter 152 = .ok (.aload_n 0, 1) := by decide +kernel
theorem dX9_lifter_153 : decode cX9_lifter 153 = .ok (.iload_n 1, 1) := by decide +kernel
theorem dX9_lifter_154 : decode cX9_lifter 154 = .ok (.invokevirtual 140, 3) := by decide +kernel
theorem dX9_lifter_157 : decode cX9_lifter 157 = .ok (.invokestatic 160, 3) := by decide +kernel
theorem dX9_lifter_160 : decode cX9_lifter 160 = .ok (.ireturn, 1) := by decide +kernel
theorem dX9_lifter_161 : decode cX9_lifter 161 = .ok (.aload_n 0, 1) := by decide +kernel
theorem dX9_lifter_162 : decode cX9_lifter 162 = .ok (.iload_n 1, 1) := by decide +kernel
theorem dX9_lifter_163 : decode cX9_lifter 163 = .ok (.bipush 6, 2) := by decide +kernel
theorem dX9_lifter_165 : decode cX9_lifter 165 = .ok (.invokevirtual 106, 3) := by decide +kernel
theorem dX9_lifter_168 : decode cX9_lifter 168 = .ok (.ireturn, 1) := by decide +kernel
theorem dX9_lifter_169 : decode cX9_lifter 169 = .ok (.aload_n 0, 1) := by decide +kernel
theorem dX9_lifter_170 : decode cX9_lifter 170 = .ok (.iload_n 1, 1) := by decide +kernel
theorem dX9_lifter_171 : decode cX9_lifter 171 = .ok (.invokevirtual 167, 3) := by decide +kernel
theorem dX9_lifter_174 : decode cX9_lifter 174 = .ok (.ireturn, 1) := by decide +kernel
theorem dX9_lifter_175 : decode cX9_lifter 175 = .ok (.iconst (-1), 1) := by decide +kernel
theorem dX9_lifter_176 : decode cX9_lifter 176 = .ok (.ireturn, 1) := by decide +kernel
set_option maxRecDepth 20000 in
theorem ggX9_called_X9_calledNow : GoodIn wsX9_called wsX9_calledNow := goodIn_r _ [8, 9, 10, 11, 12, 7, 13, 14, 15, 16, 17, 3, 18, 19, 20, 21, 22, 23, 24, 25, 26, 27, 28, 29, 30, 52, 53, 54, 55, 56, 57, 58, 59, 60, 61, 62, 63, 64, 65, 66, 67, 68, 69, 70, 71, 72, 73, 74, 75, 76, 77, 78, 79, 80, 81, 82, 83, 84, 85, 86, 87, 88, 89, 90, 91] (by decide +kernel) (by decide +kernel)
set_option maxRecDepth 20000 in
theorem gX9_called_X9_calledNow : GoodIn wsX9_called (wsV RX9 147 RX9 yX9_calledNow wsX9_calledNow) := goodIn_app (goodIn_of _ (by decide +kernel)) ggX9_called_X9_calledNow
set_option maxRecDepth 20000 in
theorem ggX9_called_X9_of : GoodIn wsX9_called wsX9_of := goodIn_r _ [17, 3, 52, 53, 54, 55, 56, 57, 58, 59, 60, 61, 62, 63, 64, 65, 66, 67, 68, 69, 70, 71, 72, 73, 74, 75, 76, 77, 78, 79, 80, 81, 82, 83, 84, 85, 86, 87, 88, 89, 90, 91] (by decide +kernel) (by decide +kernel)
set_option maxRecDepth 20000 in
theorem gX9_called_X9_of : GoodIn wsX9_called (wsV RX9 106 RX9 yX9_of wsX9_of) := goodIn_app (goodIn_of _ (by decide +kernel)) ggX9_called_X9_of
set_option maxRecDepth 20000 in
theorem ggX9_called_X9_notes : GoodIn wsX9_called wsX9_notes := goodIn_r _ [34, 35, 2, 52, 53, 54, 55, 56, 57, 58, 59, 60, 61, 62, 63, 64, 65, 66, 67, 68, 69, 70, 71, 72, 73, 74, 75, 76, 77, 78, 79, 80, 81, 82, 83, 84, 85, 86, 87, 88, 89, 90, 91] (by decide +kernel) (by decide +kernel)
set_option maxRecDepth 20000 in
theorem gX9_called_X9_notes : GoodIn wsX9_called (wsV RX9 180 RX9 yX9_notes wsX9_notes) := goodIn_app (goodIn_of _ (by decide +kernel)) ggX9_called_X9_notes
set_option maxRecDepth 20000 in
theorem ggX9_called_X9_oddsOf : GoodIn wsX9_called wsX9_oddsOf := goodIn_r _ [39, 40, 41, 42, 43, 44, 45, 46, 47, 7, 48, 49, 50, 51, 52, 53, 54, 55, 56, 57, 58, 59, 60, 61, 62, 63, 64, 65, 66, 67, 68, 69, 70, 71, 72, 73, 74, 75, 76, 77, 78, 79, 80, 81, 82, 83, 84, 85, 86, 87, 88, 89, 90, 91] (by decide +kernel) (by decide +kernel)
set_option maxRecDepth 20000 in
theorem gX9_called_X9_oddsOf : GoodIn wsX9_called (wsV RX9 245 RX9 yX9_oddsOf wsX9_oddsOf) := goodIn_app (goodIn_of _ (by decide +kernel)) ggX9_called_X9_oddsOf
theorem dX9_called_0 : decode cX9_called 0 = .ok (.aload_n 0, 1) := by decide +kernel
theorem dX9_called_1 : decode cX9_called 1 = .ok (.iconst 0, 1) := by decide +kernel
theorem dX9_called_2 : decode cX9_called 2 = .ok (.putfield 77, 3) := by decide +kernel
theorem dX9_called_5 : decode cX9_called 5 = .ok (.aload_n 0, 1) := by decide +kernel
theorem dX9_called_6 : decode cX9_called 6 = .ok (.invokevirtual 147, 3) := by decide +kernel
theorem dX9_called_9 : decode cX9_called 9 = .ok (.istore_n 1, 1) := by decide +kernel
theorem dX9_called_10 : decode cX9_called 10 = .ok (.iload_n 1, 1) := by decide +kernel
theorem dX9_called_11 : decode cX9_called 11 = .ok (.iconst (-1), 1) := by decide +kernel
theorem dX9_called_12 : decode cX9_called 12 = .ok (.if_icmp .ne 6, 3) := by decide +kernel
theorem dX9_called_15 : decode cX9_called 15 = .ok (.bipush (-2), 2) := by decide +kernel
theorem dX9_called_17 : decode cX9_called 17 = .ok (.ireturn, 1) := by decide +kernel
theorem dX9_called_18 : decode cX9_called 18 = .ok (.aload_n 0, 1) := by decide +kernel
theorem dX9_called_19 : decode cX9_called 19 = .ok (.iconst 0, 1) := by decide +kernel
theorem dX9_called_20 : decode cX9_called 20 = .ok (.putfield 81, 3) := by decide +kernel
theorem dX9_called_23 : decode cX9_called 23 = .ok (.aload_n 0, 1) := by decide +kernel
theorem dX9_called_24 : decode cX9_called 24 = .ok (.aload_n 0, 1) := by decide +kernel
theorem dX9_called_25 : decode cX9_called 25 = .ok (.iload_n 1, 1) := by decide +kernel
theorem dX9_called_26 : decode cX9_called 26 = .ok (.iconst 0, 1) := by decide +kernel
theorem dX9_called_27 : decode cX9_called 27 = .ok (.invokevirtual 106, 3) := by decide +kernel
theorem dX9_called_30 : decode cX9_called 30 = .ok (.i2l, 1) := by decide +kernel
theorem dX9_called_31 : decode cX9_called 31 = .ok (.invokevirtual 180, 3) := by decide +kernel
theorem dX9_called_34 : decode cX9_called 34 = .ok (.aload_n 0, 1) := by decide +kernel
theorem dX9_called_35 : decode cX9_called 35 = .ok (.aload_n 0, 1) := by decide +kernel
theorem dX9_called_36 : decode cX9_called 36 = .ok (.iload_n 1, 1) := by decide +kernel
theorem dX9_called_37 : decode cX9_called 37 = .ok (.aload_n 0, 1) := by decide +kernel
theorem dX9_called_38 : decode cX9_called 38 = .ok (.getfield 32, 3) := by decide +kernel
theorem dX9_called_41 : decode cX9_called 41 = .ok (.iconst 0, 1) := by decide +kernel
theorem dX9_called_42 : decode cX9_called 42 = .ok (.iaload, 1) := by decide +kernel
theorem dX9_called_43 : decode cX9_called 43 = .ok (.aload_n 0, 1) := by decide +kernel
theorem dX9_called_44 : decode cX9_called 44 = .ok (.iload_n 1, 1) := by decide +kernel
theorem dX9_called_45 : decode cX9_called 45 = .ok (.iconst 0, 1) := by decide +kernel
theorem dX9_called_46 : decode cX9_called 46 = .ok (.invokevirtual 106, 3) := by decide +kernel
theorem dX9_called_49 : decode cX9_called 49 = .ok (.aload_n 0, 1) := by decide +kernel
theorem dX9_called_50 : decode cX9_called 50 = .ok (.iload_n 1, 1) := by decide +kernel
theorem dX9_called_51 : decode cX9_called 51 = .ok (.iconst 4, 1) := by decide +kernel
theorem dX9_called_52 : decode cX9_called 52 = .ok (.invokevirtual 106, 3) := by decide +kernel
theorem dX9_called_55 : decode cX9_called 55 = .ok (.invokevirtual 245, 3) := by decide +kernel
theorem dX9_called_58 : decode cX9_called 58 = .ok (.i2l, 1) := by decide +kernel
theorem dX9_called_59 : decode cX9_called 59 = .ok (.invokevirtual 180, 3) := by decide +kernel
theorem dX9_called_62 : decode cX9_called 62 = .ok (.iload_n 1, 1) := by decide +kernel
theorem dX9_called_63 : decode cX9_called 63 = .ok (.ireturn, 1) := by decide +kernel
set_option maxRecDepth 20000 in
theorem ggX9_calledAhead_X9_isStill : GoodIn wsX9_calledAhead wsX9_isStill := goodIn_r _ [6, 7, 8, 9, 5, 10, 11, 12, 13, 14, 15, 16, 17, 18, 19, 28, 29, 30, 31, 32, 33, 34, 35, 36, 37, 38, 39, 40, 41, 42, 43, 44, 45, 46, 47, 48, 49, 50, 51, 52, 53, 54, 55, 56, 57, 58, 59, 60, 61, 62, 63, 64, 65, 66, 67] (by decide +kernel) (by decide +kernel)
set_option maxRecDepth 20000 in
theorem gX9_calledAhead_X9_isStill : GoodIn wsX9_calledAhead (wsV RX9 140 RX9 yX9_isStill wsX9_isStill) := goodIn_app (goodIn_of _ (by decide +kernel)) ggX9_calledAhead_X9_isStill
set_option maxRecDepth 20000 in
theorem ggX9_calledAhead_X9_isCalledAhead : GoodIn wsX9_calledAhead wsX9_isCalledAhead := goodIn_r _ [23, 24, 7, 8, 9, 5, 10, 11, 28, 29, 30, 31, 32, 33, 34, 35, 36, 37, 38, 39, 40, 41, 42, 43, 44, 45, 46, 47, 48, 49, 50, 51, 52, 53, 54, 55, 56, 57, 58, 59, 60, 61, 62, 63, 64, 65, 66, 67] (by decide +kernel) (by decide +kernel)
set_option maxRecDepth 20000 in
theorem gX9_calledAhead_X9_isCalledAhead : GoodIn wsX9_calledAhead (wsV RX9 143 RX9 yX9_isCalledAhead wsX9_isCalledAhead) := goodIn_app (goodIn_of _ (by decide +kernel)) ggX9_calledAhead_X9_isCalledAhead
set_option maxRecDepth 20000 in
theorem ggX9_calledAhead_X9_flag : GoodIn wsX9_calledAhead wsX9_flag := goodIn_r _ [27] (by decide +kernel) (by decide +kernel)
set_option maxRecDepth 20000 in
theorem gX9_calledAhead_X9_flag : GoodIn wsX9_calledAhead (va_wsS RX9 160 yX9_flag wsX9_flag) := goodIn_app (goodIn_of _ (by decide +kernel)) ggX9_calledAhead_X9_flag
theorem dX9_calledAhead_0 : decode cX9_calledAhead 0 = .ok (.iconst 0, 1) := by decide +kernel
theorem dX9_calledAhead_1 : decode cX9_calledAhead 1 = .ok (.istore_n 2, 1) := by decide +kernel
theorem dX9_calledAhead_2 : decode cX9_calledAhead 2 = .ok (.iconst 0, 1) := by decide +kernel
theorem dX9_calledAhead_3 : decode cX9_calledAhead 3 = .ok (.istore_n 3, 1) := by decide +kernel
theorem dX9_calledAhead_4 : decode cX9_calledAhead 4 = .ok (.iload_n 3, 1) := by decide +kernel
theorem dX9_calledAhead_5 : decode cX9_calledAhead 5 = .ok (.aload_n 0, 1) := by decide +kernel
theorem dX9_calledAhead_6 : decode cX9_calledAhead 6 = .ok (.getfield 84, 3) := by decide +kernel
theorem dX9_calledAhead_9 : decode cX9_calledAhead 9 = .ok (.if_icmp .ge 42, 3) := by decide +kernel
theorem dX9_calledAhead_12 : decode cX9_calledAhead 12 = .ok (.iload_n 2, 1) := by decide +kernel
theorem dX9_calledAhead_13 : decode cX9_calledAhead 13 = .ok (.iload_n 3, 1) := by decide +kernel
theorem dX9_calledAhead_14 : decode cX9_calledAhead 14 = .ok (.iload_n 1, 1) := by decide +kernel
theorem dX9_calledAhead_15 : decode cX9_calledAhead 15 = .ok (.if_icmp .eq 24, 3) := by decide +kernel
theorem dX9_calledAhead_18 : decode cX9_calledAhead 18 = .ok (.aload_n 0, 1) := by decide +kernel
theorem dX9_calledAhead_19 : decode cX9_calledAhead 19 = .ok (.iload_n 3, 1) := by decide +kernel
theorem dX9_calledAhead_20 : decode cX9_calledAhead 20 = .ok (.invokevirtual 140, 3) := by decide +kernel
theorem dX9_calledAhead_23 : decode cX9_calledAhead 23 = .ok (.ifCond .eq 16, 3) := by decide +kernel
theorem dX9_calledAhead_26 : decode cX9_calledAhead 26 = .ok (.aload_n 0, 1) := by decide +kernel
theorem dX9_calledAhead_27 : decode cX9_calledAhead 27 = .ok (.iload_n 3, 1) := by decide +kernel
theorem dX9_calledAhead_28 : decode cX9_calledAhead 28 = .ok (.iload_n 1, 1) := by decide +kernel
theorem dX9_calledAhead_29 : decode cX9_calledAhead 29 = .ok (.invokevirtual 143, 3) := by decide +kernel
theorem dX9_calledAhead_32 : decode cX9_calledAhead 32 = .ok (.ifCond .eq 7, 3) := by decide +kernel
theorem dX9_calledAhead_35 : decode cX9_calledAhead 35 = .ok (.iconst 1, 1) := by decide +kernel
theorem dX9_calledAhead_36 : decode cX9_calledAhead 36 = .ok (.goto 4, 3) := by decide +kernel
theorem dX9_calledAhead_39 : decode cX9_calledAhead 39 = .ok (.iconst 0, 1) := by decide +kernel
theorem dX9_calledAhead_40 : decode cX9_calledAhead 40 = .ok (.invokestatic 160, 3) := by decide +kernel
theorem dX9_calledAhead_43 : decode cX9_calledAhead 43 = .ok (.iadd, 1) := by decide +kernel
theorem dX9_calledAhead_44 : decode cX9_calledAhead 44 = .ok (.istore_n 2, 1) := by decide +kernel
theorem dX9_calledAhead_45 : decode cX9_calledAhead 45 = .ok (.iinc 3 1, 3) := by decide +kernel
theorem dX9_calledAhead_48 : decode cX9_calledAhead 48 = .ok (.goto (-44), 3) := by decide +kernel
theorem dX9_calledAhead_51 : decode cX9_calledAhead 51 = .ok (.iload_n 2, 1) := by decide +kernel
theorem dX9_calledAhead_52 : decode cX9_calledAhead 52 = .ok (.ireturn, 1) := by decide +kernel
set_option maxRecDepth 20000 in
theorem ggX9_order_X9_isStill : GoodIn wsX9_order wsX9_isStill := goodIn_r _ [8, 9, 10, 11, 7, 12, 13, 14, 15, 16, 17, 18, 19, 20, 21, 39, 40, 41, 42, 43, 44, 45, 46, 47, 48, 49, 50, 51, 52, 53, 54, 55, 56, 57, 58, 59, 60, 61, 62, 63, 64, 65, 66, 67, 68, 69, 70, 71, 72, 73, 74, 75, 76, 77, 78] (by decide +kernel) (by decide +kernel)
set_option maxRecDepth 20000 in
theorem gX9_order_X9_isStill : GoodIn wsX9_order (wsV RX9 140 RX9 yX9_isStill wsX9_isStill) := goodIn_app (goodIn_of _ (by decide +kernel)) ggX9_order_X9_isStill
set_option maxRecDepth 20000 in
theorem ggX9_order_X9_calledAhead : GoodIn wsX9_order wsX9_calledAhead := goodIn_r _ [25, 3, 4, 5, 6, 7, 8, 9, 10, 11, 12, 13, 14, 15, 16, 17, 18, 19, 20, 21, 26, 27, 28, 29, 30, 31, 32, 33, 39, 40, 41, 42, 43, 44, 45, 46, 47, 48, 49, 50, 51, 52, 53, 54, 55, 56, 57, 58, 59, 60, 61, 62, 63, 64, 65, 66, 67, 68, 69, 70, 71, 72, 73, 74, 75, 76, 77, 78] (by decide +kernel) (by decide +kernel)
set_option maxRecDepth 20000 in
theorem gX9_order_X9_calledAhead : GoodIn wsX9_order (wsV RX9 252 RX9 yX9_calledAhead wsX9_calledAhead) := goodIn_app (goodIn_of _ (by decide +kernel)) ggX9_order_X9_calledAhead
set_option maxRecDepth 20000 in
theorem ggX9_order_X9_notes : GoodIn wsX9_order wsX9_notes := goodIn_r _ [37, 38, 2, 39, 40, 41, 42, 43, 44, 45, 46, 47, 48, 49, 50, 51, 52, 53, 54, 55, 56, 57, 58, 59, 60, 61, 62, 63, 64, 65, 66, 67, 68, 69, 70, 71, 72, 73, 74, 75, 76, 77, 78] (by decide +kernel) (by decide +kernel)
set_option maxRecDepth 20000 in
theorem gX9_order_X9_notes : GoodIn wsX9_order (wsV RX9 180 RX9 yX9_notes wsX9_notes) := goodIn_app (goodIn_of _ (by decide +kernel)) ggX9_order_X9_notes
theorem dX9_order_0 : decode cX9_order 0 = .ok (.aload_n 0, 1) := by decide +kernel
theorem dX9_order_1 : decode cX9_order 1 = .ok (.iconst 0, 1) := by decide +kernel
theorem dX9_order_2 : decode cX9_order 2 = .ok (.putfield 77, 3) := by decide +kernel
theorem dX9_order_5 : decode cX9_order 5 = .ok (.aload_n 0, 1) := by decide +kernel
theorem dX9_order_6 : decode cX9_order 6 = .ok (.iconst 0, 1) := by decide +kernel
theorem dX9_order_7 : decode cX9_order 7 = .ok (.putfield 81, 3) := by decide +kernel
theorem dX9_order_10 : decode cX9_order 10 = .ok (.iconst 0, 1) := by decide +kernel
theorem dX9_order_11 : decode cX9_order 11 = .ok (.istore_n 1, 1) := by decide +kernel
theorem dX9_order_12 : decode cX9_order 12 = .ok (.iload_n 1, 1) := by decide +kernel
theorem dX9_order_13 : decode cX9_order 13 = .ok (.aload_n 0, 1) := by decide +kernel
theorem dX9_order_14 : decode cX9_order 14 = .ok (.getfield 84, 3) := by decide +kernel
theorem dX9_order_17 : decode cX9_order 17 = .ok (.if_icmp .ge 48, 3) := by decide +kernel
theorem dX9_order_20 : decode cX9_order 20 = .ok (.iconst 0, 1) := by decide +kernel
theorem dX9_order_21 : decode cX9_order 21 = .ok (.istore_n 2, 1) := by decide +kernel
theorem dX9_order_22 : decode cX9_order 22 = .ok (.iload_n 2, 1) := by decide +kernel
theorem dX9_order_23 : decode cX9_order 23 = .ok (.aload_n 0, 1) := by decide +kernel
theorem dX9_order_24 : decode cX9_order 24 = .ok (.getfield 84, 3) := by decide +kernel
theorem dX9_order_27 : decode cX9_order 27 = .ok (.if_icmp .ge 32, 3) := by decide +kernel
theorem dX9_order_30 : decode cX9_order 30 = .ok (.aload_n 0, 1) := by decide +kernel
theorem dX9_order_31 : decode cX9_order 31 = .ok (.iload_n 2, 1) := by decide +kernel
theorem dX9_order_32 : decode cX9_order 32 = .ok (.invokevirtual 140, 3) := by decide +kernel
theorem dX9_order_35 : decode cX9_order 35 = .ok (.ifCond .eq 18, 3) := by decide +kernel
theorem dX9_order_38 : decode cX9_order 38 = .ok (.aload_n 0, 1) := by decide +kernel
theorem dX9_order_39 : decode cX9_order 39 = .ok (.iload_n 2, 1) := by decide +kernel
theorem dX9_order_40 : decode cX9_order 40 = .ok (.invokevirtual 252, 3) := by decide +kernel
theorem dX9_order_43 : decode cX9_order 43 = .ok (.iload_n 1, 1) := by decide +kernel
theorem dX9_order_44 : decode cX9_order 44 = .ok (.if_icmp .ne 9, 3) := by decide +kernel
theorem dX9_order_47 : decode cX9_order 47 = .ok (.aload_n 0, 1) := by decide +kernel
theorem dX9_order_48 : decode cX9_order 48 = .ok (.iload_n 2, 1) := by decide +kernel
theorem dX9_order_49 : decode cX9_order 49 = .ok (.i2l, 1) := by decide +kernel
theorem dX9_order_50 : decode cX9_order 50 = .ok (.invokevirtual 180, 3) := by decide +kernel
theorem dX9_order_53 : decode cX9_order 53 = .ok (.iinc 2 1, 3) := by decide +kernel
theorem dX9_order_56 : decode cX9_order 56 = .ok (.goto (-34), 3) := by decide +kernel
theorem dX9_order_59 : decode cX9_order 59 = .ok (.iinc 1 1, 3) := by decide +kernel
theorem dX9_order_62 : decode cX9_order 62 = .ok (.goto (-50), 3) := by decide +kernel
theorem dX9_order_65 : decode cX9_order 65 = .ok (.aload_n 0, 1) := by decide +kernel
theorem dX9_order_66 : decode cX9_order 66 = .ok (.getfield 81, 3) := by decide +kernel
theorem dX9_order_69 : decode cX9_order 69 = .ok (.ireturn, 1) := by decide +kernel
set_option maxRecDepth 20000 in
theorem ggX9_asks_X9_isLifter : GoodIn wsX9_asks wsX9_isLifter := goodIn_r _ [7, 8, 9, 10, 6, 11, 41, 42, 43, 44, 45, 46, 47, 48, 49, 50, 51, 52, 53, 54, 55, 56, 57, 58, 59, 60, 61, 62, 63, 64, 65, 66, 67, 68, 69, 70, 71, 72, 73, 74, 75, 76, 77, 78, 79, 80] (by decide +kernel) (by decide +kernel)
set_option maxRecDepth 20000 in
theorem gX9_asks_X9_isLifter : GoodIn wsX9_asks (wsV RX9 233 RX9 yX9_isLifter wsX9_isLifter) := goodIn_app (goodIn_of _ (by decide +kernel)) ggX9_asks_X9_isLifter
set_option maxRecDepth 20000 in
theorem ggX9_asks_X9_in : GoodIn wsX9_asks wsX9_in := goodIn_r _ [11] (by decide +kernel) (by decide +kernel)
set_option maxRecDepth 20000 in
theorem gX9_asks_X9_in : GoodIn wsX9_asks (va_wsS RX9 87 yX9_in wsX9_in) := goodIn_app (goodIn_of _ (by decide +kernel)) ggX9_asks_X9_in
set_option maxRecDepth 20000 in
theorem ggX9_asks_X9_isStill : GoodIn wsX9_asks wsX9_isStill := goodIn_r _ [15, 16, 17, 18, 6, 19, 20, 21, 22, 23, 24, 25, 26, 27, 28, 41, 42, 43, 44, 45, 46, 47, 48, 49, 50, 51, 52, 53, 54, 55, 56, 57, 58, 59, 60, 61, 62, 63, 64, 65, 66, 67, 68, 69, 70, 71, 72, 73, 74, 75, 76, 77, 78, 79, 80] (by decide +kernel) (by decide +kernel)
set_option maxRecDepth 20000 in
theorem gX9_asks_X9_isStill : GoodIn wsX9_asks (wsV RX9 140 RX9 yX9_isStill wsX9_isStill) := goodIn_app (goodIn_of _ (by decide +kernel)) ggX9_asks_X9_isStill
set_option maxRecDepth 20000 in
theorem ggX9_asks_X9_of : GoodIn wsX9_asks wsX9_of := goodIn_r _ [19, 20, 41, 42, 43, 44, 45, 46, 47, 48, 49, 50, 51, 52, 53, 54, 55, 56, 57, 58, 59, 60, 61, 62, 63, 64, 65, 66, 67, 68, 69, 70, 71, 72, 73, 74, 75, 76, 77, 78, 79, 80] (by decide +kernel) (by decide +kernel)
