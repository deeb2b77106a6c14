set_option maxRecDepth 20000 in
theorem ggX9_gold_X9_tellsFree : GoodIn wsX9_gold wsX9_tellsFree := goodIn_r _ [114, 115, 116, 117, 118, 119, 5, 120, 18, 36, 121, 37, 38, 39, 40, 41, 42, 43, 44, 45, 46, 47, 48, 49, 50, 51, 52, 57, 58, 59, 60, 122, 123, 124, 125, 126, 127, 128, 129, 130, 131, 132, 133, 134, 135, 136, 137, 138, 139, 140, 141, 142, 143, 144, 67, 145, 146, 147, 148, 81, 82, 83, 84, 85, 65, 66, 68, 86, 87, 88, 89, 90, 91, 92, 93, 94, 95, 96, 149, 150, 151, 152, 153, 154, 155, 156, 53, 54, 55, 56, 157, 158, 159, 160, 161, 32, 33, 34, 35, 61, 62, 63, 64, 69, 70, 71, 72, 73, 74, 75, 76, 77, 78, 79, 80, 97, 162, 163, 164, 165, 166, 167, 168, 169, 170, 171, 172, 173, 174, 175, 176, 177, 178, 179, 180, 181, 182, 183, 184, 185, 186, 187, 188, 189, 190, 191, 192, 193, 194, 195, 196, 197, 198, 199, 200, 201] (by decide +kernel) (by decide +kernel)
set_option maxRecDepth 20000 in
theorem gX9_gold_X9_tellsFree : GoodIn wsX9_gold (wsV RX9 358 RX9 yX9_tellsFree wsX9_tellsFree) := goodIn_app (goodIn_of _ (by decide +kernel)) ggX9_gold_X9_tellsFree
theorem dX9_gold_0 : decode cX9_gold 0 = .ok (.aload_n 0, 1) := by decide +kernel
theorem dX9_gold_1 : decode cX9_gold 1 = .ok (.iconst 0, 1) := by decide +kernel
theorem dX9_gold_2 : decode cX9_gold 2 = .ok (.putfield 77, 3) := by decide +kernel
theorem dX9_gold_5 : decode cX9_gold 5 = .ok (.aload_n 0, 1) := by decide +kernel
theorem dX9_gold_6 : decode cX9_gold 6 = .ok (.iload_n 1, 1) := by decide +kernel
theorem dX9_gold_7 : decode cX9_gold 7 = .ok (.invokevirtual 233, 3) := by decide +kernel
theorem dX9_gold_10 : decode cX9_gold 10 = .ok (.ifCond .ne 5, 3) := by decide +kernel
theorem dX9_gold_13 : decode cX9_gold 13 = .ok (.iconst (-1), 1) := by decide +kernel
theorem dX9_gold_14 : decode cX9_gold 14 = .ok (.ireturn, 1) := by decide +kernel
theorem dX9_gold_15 : decode cX9_gold 15 = .ok (.aload_n 0, 1) := by decide +kernel
theorem dX9_gold_16 : decode cX9_gold 16 = .ok (.iload_n 1, 1) := by decide +kernel
theorem dX9_gold_17 : decode cX9_gold 17 = .ok (.invokevirtual 313, 3) := by decide +kernel
theorem dX9_gold_20 : decode cX9_gold 20 = .ok (.aload_n 0, 1) := by decide +kernel
theorem dX9_gold_21 : decode cX9_gold 21 = .ok (.iload_n 1, 1) := by decide +kernel
theorem dX9_gold_22 : decode cX9_gold 22 = .ok (.invokevirtual 358, 3) := by decide +kernel
theorem dX9_gold_25 : decode cX9_gold 25 = .ok (.ireturn, 1) := by decide +kernel
set_option maxRecDepth 20000 in
theorem ggX9_follows_X9_in : GoodIn wsX9_follows wsX9_in := goodIn_r _ [6] (by decide +kernel) (by decide +kernel)
set_option maxRecDepth 20000 in
theorem gX9_follows_X9_in : GoodIn wsX9_follows (va_wsS RX9 87 yX9_in wsX9_in) := goodIn_app (goodIn_of _ (by decide +kernel)) ggX9_follows_X9_in
set_option maxRecDepth 20000 in
theorem ggX9_follows_X9_laysRounds : GoodIn wsX9_follows wsX9_laysRounds := goodIn_r _ [10, 11, 12, 13, 5, 14, 15, 16, 17, 18, 19, 20, 21, 22, 23, 24, 2, 25, 26, 27, 28, 29, 30, 31, 32, 33, 34, 35, 36, 37, 38, 39, 40, 41, 42, 43, 44, 45, 46, 47, 48, 49, 50, 60, 61, 62, 63, 64, 65, 66, 67, 68, 69, 70, 71, 72, 73, 74, 75, 76, 77, 78, 79, 80, 81, 82, 83, 84, 85, 86, 87, 88, 89, 90, 91, 92, 93, 94, 95, 96, 97, 98, 99] (by decide +kernel) (by decide +kernel)
set_option maxRecDepth 20000 in
theorem gX9_follows_X9_laysRounds : GoodIn wsX9_follows (wsV RX9 342 RX9 yX9_laysRounds wsX9_laysRounds) := goodIn_app (goodIn_of _ (by decide +kernel)) ggX9_follows_X9_laysRounds
set_option maxRecDepth 20000 in
theorem ggX9_follows_X9_triesBest : GoodIn wsX9_follows wsX9_triesBest := goodIn_r _ [24, 2, 11, 25, 26, 27, 28, 29, 30, 5, 31, 32, 33, 34, 35, 36, 37, 38, 39, 40, 41, 42, 43, 44, 45, 46, 47, 48, 49, 50, 60, 61, 62, 63, 64, 65, 66, 67, 68, 69, 70, 71, 72, 73, 74, 75, 76, 77, 78, 79, 80, 81, 82, 83, 84, 85, 86, 87, 88, 89, 90, 91, 92, 93, 94, 95, 96, 97, 98, 99] (by decide +kernel) (by decide +kernel)
set_option maxRecDepth 20000 in
theorem gX9_follows_X9_triesBest : GoodIn wsX9_follows (wsV RX9 338 RX9 yX9_triesBest wsX9_triesBest) := goodIn_app (goodIn_of _ (by decide +kernel)) ggX9_follows_X9_triesBest
set_option maxRecDepth 20000 in
theorem ggX9_follows_X9_notes : GoodIn wsX9_follows wsX9_notes := goodIn_r _ [54, 55, 56, 60, 61, 62, 63, 64, 65, 66, 67, 68, 69, 70, 71, 72, 73, 74, 75, 76, 77, 78, 79, 80, 81, 82, 83, 84, 85, 86, 87, 88, 89, 90, 91, 92, 93, 94, 95, 96, 97, 98, 99] (by decide +kernel) (by decide +kernel)
set_option maxRecDepth 20000 in
theorem gX9_follows_X9_notes : GoodIn wsX9_follows (wsV RX9 180 RX9 yX9_notes wsX9_notes) := goodIn_app (goodIn_of _ (by decide +kernel)) ggX9_follows_X9_notes
set_option maxRecDepth 20000 in
theorem ggX9_follows_X9_flag : GoodIn wsX9_follows wsX9_flag := goodIn_r _ [59] (by decide +kernel) (by decide +kernel)
set_option maxRecDepth 20000 in
theorem gX9_follows_X9_flag : GoodIn wsX9_follows (va_wsS RX9 160 yX9_flag wsX9_flag) := goodIn_app (goodIn_of _ (by decide +kernel)) ggX9_follows_X9_flag
theorem dX9_follows_0 : decode cX9_follows 0 = .ok (.iload 4, 2) := by decide +kernel
theorem dX9_follows_2 : decode cX9_follows 2 = .ok (.istore 9, 2) := by decide +kernel
theorem dX9_follows_4 : decode cX9_follows 4 = .ok (.iload 5, 2) := by decide +kernel
theorem dX9_follows_6 : decode cX9_follows 6 = .ok (.istore 10, 2) := by decide +kernel
theorem dX9_follows_8 : decode cX9_follows 8 = .ok (.iload 6, 2) := by decide +kernel
theorem dX9_follows_10 : decode cX9_follows 10 = .ok (.istore 11, 2) := by decide +kernel
theorem dX9_follows_12 : decode cX9_follows 12 = .ok (.iload_n 3, 1) := by decide +kernel
theorem dX9_follows_13 : decode cX9_follows 13 = .ok (.istore 12, 2) := by decide +kernel
theorem dX9_follows_15 : decode cX9_follows 15 = .ok (.iload 12, 2) := by decide +kernel
theorem dX9_follows_17 : decode cX9_follows 17 = .ok (.iconst 3, 1) := by decide +kernel
theorem dX9_follows_18 : decode cX9_follows 18 = .ok (.if_icmp .ge 102, 3) := by decide +kernel
theorem dX9_follows_21 : decode cX9_follows 21 = .ok (.iload 9, 2) := by decide +kernel
theorem dX9_follows_23 : decode cX9_follows 23 = .ok (.i2l, 1) := by decide +kernel
theorem dX9_follows_24 : decode cX9_follows 24 = .ok (.lconst 1, 1) := by decide +kernel
theorem dX9_follows_25 : decode cX9_follows 25 = .ok (.ldc2_w 239, 3) := by decide +kernel
theorem dX9_follows_28 : decode cX9_follows 28 = .ok (.invokestatic 87, 3) := by decide +kernel
theorem dX9_follows_31 : decode cX9_follows 31 = .ok (.ifCond .eq 89, 3) := by decide +kernel
theorem dX9_follows_34 : decode cX9_follows 34 = .ok (.aload_n 0, 1) := by decide +kernel
theorem dX9_follows_35 : decode cX9_follows 35 = .ok (.iload_n 1, 1) := by decide +kernel
theorem dX9_follows_36 : decode cX9_follows 36 = .ok (.iload_n 2, 1) := by decide +kernel
theorem dX9_follows_37 : decode cX9_follows 37 = .ok (.iload 12, 2) := by decide +kernel
theorem dX9_follows_39 : decode cX9_follows 39 = .ok (.iload 7, 2) := by decide +kernel
theorem dX9_follows_41 : decode cX9_follows 41 = .ok (.invokevirtual 342, 3) := by decide +kernel
theorem dX9_follows_44 : decode cX9_follows 44 = .ok (.aload_n 0, 1) := by decide +kernel
theorem dX9_follows_45 : decode cX9_follows 45 = .ok (.iload_n 1, 1) := by decide +kernel
theorem dX9_follows_46 : decode cX9_follows 46 = .ok (.iload_n 2, 1) := by decide +kernel
theorem dX9_follows_47 : decode cX9_follows 47 = .ok (.iload 12, 2) := by decide +kernel
theorem dX9_follows_49 : decode cX9_follows 49 = .ok (.iload 10, 2) := by decide +kernel
theorem dX9_follows_51 : decode cX9_follows 51 = .ok (.iload 9, 2) := by decide +kernel
theorem dX9_follows_53 : decode cX9_follows 53 = .ok (.iload 11, 2) := by decide +kernel
theorem dX9_follows_55 : decode cX9_follows 55 = .ok (.invokevirtual 338, 3) := by decide +kernel
theorem dX9_follows_58 : decode cX9_follows 58 = .ok (.pop, 1) := by decide +kernel
theorem dX9_follows_59 : decode cX9_follows 59 = .ok (.aload_n 0, 1) := by decide +kernel
theorem dX9_follows_60 : decode cX9_follows 60 = .ok (.aload_n 0, 1) := by decide +kernel
theorem dX9_follows_61 : decode cX9_follows 61 = .ok (.getfield 322, 3) := by decide +kernel
theorem dX9_follows_64 : decode cX9_follows 64 = .ok (.i2l, 1) := by decide +kernel
theorem dX9_follows_65 : decode cX9_follows 65 = .ok (.invokevirtual 180, 3) := by decide +kernel
theorem dX9_follows_68 : decode cX9_follows 68 = .ok (.aload_n 0, 1) := by decide +kernel
theorem dX9_follows_69 : decode cX9_follows 69 = .ok (.getfield 322, 3) := by decide +kernel
theorem dX9_follows_72 : decode cX9_follows 72 = .ok (.iload 8, 2) := by decide +kernel
theorem dX9_follows_74 : decode cX9_follows 74 = .ok (.invokestatic 160, 3) := by decide +kernel
theorem dX9_follows_77 : decode cX9_follows 77 = .ok (.iadd, 1) := by decide +kernel
theorem dX9_follows_78 : decode cX9_follows 78 = .ok (.istore 9, 2) := by decide +kernel
theorem dX9_follows_80 : decode cX9_follows 80 = .ok (.iload 8, 2) := by decide +kernel
theorem dX9_follows_82 : decode cX9_follows 82 = .ok (.ifCond .eq 10, 3) := by decide +kernel
theorem dX9_follows_85 : decode cX9_follows 85 = .ok (.aload_n 0, 1) := by decide +kernel
theorem dX9_follows_86 : decode cX9_follows 86 = .ok (.getfield 322, 3) := by decide +kernel
theorem dX9_follows_89 : decode cX9_follows 89 = .ok (.goto 5, 3) := by decide +kernel
theorem dX9_follows_92 : decode cX9_follows 92 = .ok (.iload 11, 2) := by decide +kernel
theorem dX9_follows_94 : decode cX9_follows 94 = .ok (.istore 11, 2) := by decide +kernel
theorem dX9_follows_96 : decode cX9_follows 96 = .ok (.iload 10, 2) := by decide +kernel
theorem dX9_follows_98 : decode cX9_follows 98 = .ok (.iload 8, 2) := by decide +kernel
theorem dX9_follows_100 : decode cX9_follows 100 = .ok (.ifCond .ne 7, 3) := by decide +kernel
theorem dX9_follows_103 : decode cX9_follows 103 = .ok (.iconst 1, 1) := by decide +kernel
theorem dX9_follows_104 : decode cX9_follows 104 = .ok (.goto 4, 3) := by decide +kernel
theorem dX9_follows_107 : decode cX9_follows 107 = .ok (.iconst 0, 1) := by decide +kernel
theorem dX9_follows_108 : decode cX9_follows 108 = .ok (.invokestatic 160, 3) := by decide +kernel
theorem dX9_follows_111 : decode cX9_follows 111 = .ok (.iadd, 1) := by decide +kernel
theorem dX9_follows_112 : decode cX9_follows 112 = .ok (.istore 10, 2) := by decide +kernel
theorem dX9_follows_114 : decode cX9_follows 114 = .ok (.iinc 12 1, 3) := by decide +kernel
theorem dX9_follows_117 : decode cX9_follows 117 = .ok (.goto (-102), 3) := by decide +kernel
theorem dX9_follows_120 : decode cX9_follows 120 = .ok (.iload 11, 2) := by decide +kernel
theorem dX9_follows_122 : decode cX9_follows 122 = .ok (.ireturn, 1) := by decide +kernel
set_option maxRecDepth 20000 in
theorem ggX9_line_X9_isLifter : GoodIn wsX9_line wsX9_isLifter := goodIn_r _ [8, 9, 10, 11, 7, 12, 158, 159, 160, 161, 162, 163, 164, 165, 166, 167, 168, 169, 170, 171, 172, 173, 174, 175, 176, 177, 178, 179, 180, 181, 182, 183, 184, 185, 186, 187, 188, 189, 190, 191, 192, 193, 194, 195, 196, 197] (by decide +kernel) (by decide +kernel)
set_option maxRecDepth 20000 in
theorem gX9_line_X9_isLifter : GoodIn wsX9_line (wsV RX9 233 RX9 yX9_isLifter wsX9_isLifter) := goodIn_app (goodIn_of _ (by decide +kernel)) ggX9_line_X9_isLifter
set_option maxRecDepth 20000 in
theorem ggX9_line_X9_in : GoodIn wsX9_line wsX9_in := goodIn_r _ [12] (by decide +kernel) (by decide +kernel)
set_option maxRecDepth 20000 in
theorem gX9_line_X9_in : GoodIn wsX9_line (va_wsS RX9 87 yX9_in wsX9_in) := goodIn_app (goodIn_of _ (by decide +kernel)) ggX9_line_X9_in
set_option maxRecDepth 20000 in
theorem ggX9_line_X9_aimsMass : GoodIn wsX9_line wsX9_aimsMass := goodIn_r _ [16, 17, 158, 159, 160, 161, 162, 163, 164, 165, 166, 167, 168, 169, 170, 171, 172, 173, 174, 175, 176, 177, 178, 179, 180, 181, 182, 183, 184, 185, 186, 187, 188, 189, 190, 191, 192, 193, 194, 195, 196, 197] (by decide +kernel) (by decide +kernel)
set_option maxRecDepth 20000 in
theorem gX9_line_X9_aimsMass : GoodIn wsX9_line (wsV RX9 301 RX9 yX9_aimsMass wsX9_aimsMass) := goodIn_app (goodIn_of _ (by decide +kernel)) ggX9_line_X9_aimsMass
set_option maxRecDepth 20000 in
theorem ggX9_line_X9_aimsWin : GoodIn wsX9_line wsX9_aimsWin := goodIn_r _ [21, 22, 23, 9, 24, 17, 25, 26, 27, 7, 28, 29, 30, 31, 32, 33, 34, 35, 36, 37, 38, 39, 40, 41, 3, 42, 43, 44, 45, 46, 47, 48, 49, 50, 51, 52, 53, 54, 55, 56, 57, 58, 59, 60, 61, 62, 63, 64, 65, 66, 67, 68, 69, 70, 71, 72, 73, 74, 75, 76, 77, 78, 79, 80, 81, 82, 83, 84, 85, 86, 87, 88, 89, 90, 91, 92, 93, 94, 95, 96, 97, 98, 99, 100, 101, 102, 103, 104, 105, 106, 107, 108, 109, 110, 111, 112, 113, 114, 115, 158, 159, 160, 161, 162, 163, 164, 165, 166, 167, 168, 169, 170, 171, 172, 173, 174, 175, 176, 177, 178, 179, 180, 181, 182, 183, 184, 185, 186, 187, 188, 189, 190, 191, 192, 193, 194, 195, 196, 197] (by decide +kernel) (by decide +kernel)
set_option maxRecDepth 20000 in
theorem gX9_line_X9_aimsWin : GoodIn wsX9_line (wsV RX9 313 RX9 yX9_aimsWin wsX9_aimsWin) := goodIn_app (goodIn_of _ (by decide +kernel)) ggX9_line_X9_aimsWin
set_option maxRecDepth 20000 in
theorem ggX9_line_X9_isOut : GoodIn wsX9_line wsX9_isOut := goodIn_r _ [45, 46, 47, 48, 7, 49, 3, 158, 159, 160, 161, 162, 163, 164, 165, 166, 167, 168, 169, 170, 171, 172, 173, 174, 175, 176, 177, 178, 179, 180, 181, 182, 183, 184, 185, 186, 187, 188, 189, 190, 191, 192, 193, 194, 195, 196, 197] (by decide +kernel) (by decide +kernel)
set_option maxRecDepth 20000 in
theorem gX9_line_X9_isOut : GoodIn wsX9_line (wsV RX9 121 RX9 yX9_isOut wsX9_isOut) := goodIn_app (goodIn_of _ (by decide +kernel)) ggX9_line_X9_isOut
set_option maxRecDepth 20000 in
theorem ggX9_line_X9_isOver : GoodIn wsX9_line wsX9_isOver := goodIn_r _ [53, 3, 158, 159, 160, 161, 162, 163, 164, 165, 166, 167, 168, 169, 170, 171, 172, 173, 174, 175, 176, 177, 178, 179, 180, 181, 182, 183, 184, 185, 186, 187, 188, 189, 190, 191, 192, 193, 194, 195, 196, 197] (by decide +kernel) (by decide +kernel)
set_option maxRecDepth 20000 in
theorem gX9_line_X9_isOver : GoodIn wsX9_line (wsV RX9 113 RX9 yX9_isOver wsX9_isOver) := goodIn_app (goodIn_of _ (by decide +kernel)) ggX9_line_X9_isOver
set_option maxRecDepth 20000 in
theorem ggX9_line_X9_sumAhead : GoodIn wsX9_line wsX9_sumAhead := goodIn_r _ [65, 3, 46, 47, 48, 7, 49, 158, 159, 160, 161, 162, 163, 164, 165, 166, 167, 168, 169, 170, 171, 172, 173, 174, 175, 176, 177, 178, 179, 180, 181, 182, 183, 184, 185, 186, 187, 188, 189, 190, 191, 192, 193, 194, 195, 196, 197] (by decide +kernel) (by decide +kernel)
set_option maxRecDepth 20000 in
theorem gX9_line_X9_sumAhead : GoodIn wsX9_line (wsV RX9 280 RX9 yX9_sumAhead wsX9_sumAhead) := goodIn_app (goodIn_of _ (by decide +kernel)) ggX9_line_X9_sumAhead
set_option maxRecDepth 20000 in
theorem ggX9_line_X9_laysBehind : GoodIn wsX9_line wsX9_laysBehind := goodIn_r _ [119, 120, 17, 121, 122, 123, 7, 124, 125, 126, 127, 128, 129, 130, 131, 132, 133, 134, 135, 136, 137, 138, 139, 72, 140, 141, 142, 143, 86, 87, 88, 89, 90, 70, 71, 73, 91, 92, 93, 94, 95, 96, 97, 98, 99, 100, 101, 158, 159, 160, 161, 162, 163, 164, 165, 166, 167, 168, 169, 170, 171, 172, 173, 174, 175, 176, 177, 178, 179, 180, 181, 182, 183, 184, 185, 186, 187, 188, 189, 190, 191, 192, 193, 194, 195, 196, 197] (by decide +kernel) (by decide +kernel)
set_option maxRecDepth 20000 in
theorem gX9_line_X9_laysBehind : GoodIn wsX9_line (wsV RX9 349 RX9 yX9_laysBehind wsX9_laysBehind) := goodIn_app (goodIn_of _ (by decide +kernel)) ggX9_line_X9_laysBehind
set_option maxRecDepth 20000 in
theorem ggX9_line_X9_roundOf : GoodIn wsX9_line wsX9_roundOf := goodIn_r _ [61, 3, 46, 47, 48, 7, 49, 158, 159, 160, 161, 162, 163, 164, 165, 166, 167, 168, 169, 170, 171, 172, 173, 174, 175, 176, 177, 178, 179, 180, 181, 182, 183, 184, 185, 186, 187, 188, 189, 190, 191, 192, 193, 194, 195, 196, 197] (by decide +kernel) (by decide +kernel)
set_option maxRecDepth 20000 in
theorem gX9_line_X9_roundOf : GoodIn wsX9_line (wsV RX9 277 RX9 yX9_roundOf wsX9_roundOf) := goodIn_app (goodIn_of _ (by decide +kernel)) ggX9_line_X9_roundOf
set_option maxRecDepth 20000 in
theorem ggX9_line_X9_leastOf : GoodIn wsX9_line wsX9_leastOf := goodIn_r _ [147, 3, 70, 71, 72, 73, 46, 47, 48, 7, 49, 42, 43, 44, 45, 50, 51, 52, 53, 158, 159, 160, 161, 162, 163, 164, 165, 166, 167, 168, 169, 170, 171, 172, 173, 174, 175, 176, 177, 178, 179, 180, 181, 182, 183, 184, 185, 186, 187, 188, 189, 190, 191, 192, 193, 194, 195, 196, 197] (by decide +kernel) (by decide +kernel)
set_option maxRecDepth 20000 in
theorem gX9_line_X9_leastOf : GoodIn wsX9_line (wsV RX9 249 RX9 yX9_leastOf wsX9_leastOf) := goodIn_app (goodIn_of _ (by decide +kernel)) ggX9_line_X9_leastOf
set_option maxRecDepth 20000 in
theorem ggX9_line_X9_of : GoodIn wsX9_line wsX9_of := goodIn_r _ [49, 3, 158, 159, 160, 161, 162, 163, 164, 165, 166, 167, 168, 169, 170, 171, 172, 173, 174, 175, 176, 177, 178, 179, 180, 181, 182, 183, 184, 185, 186, 187, 188, 189, 190, 191, 192, 193, 194, 195, 196, 197] (by decide +kernel) (by decide +kernel)
set_option maxRecDepth 20000 in
theorem gX9_line_X9_of : GoodIn wsX9_line (wsV RX9 106 RX9 yX9_of wsX9_of) := goodIn_app (goodIn_of _ (by decide +kernel)) ggX9_line_X9_of
set_option maxRecDepth 20000 in
theorem ggX9_line_X9_follows : GoodIn wsX9_line wsX9_follows := goodIn_r _ [151, 152, 137, 10, 11, 7, 12, 121, 122, 123, 124, 125, 126, 127, 128, 129, 130, 131, 132, 17, 120, 133, 134, 135, 136, 138, 139, 72, 140, 141, 142, 143, 86, 87, 88, 89, 90, 70, 71, 73, 91, 92, 93, 94, 95, 96, 97, 98, 99, 100, 101, 153, 154, 155, 156, 157, 2, 113, 114, 115, 158, 159, 160, 161, 162, 163, 164, 165, 166, 167, 168, 169, 170, 171, 172, 173, 174, 175, 176, 177, 178, 179, 180, 181, 182, 183, 184, 185, 186, 187, 188, 189, 190, 191, 192, 193, 194, 195, 196, 197] (by decide +kernel) (by decide +kernel)
