set_option maxRecDepth 20000 in
theorem gX8_line_X5_look : GoodIn wsX8_line (wsV RX8 225 RX5 yX5_look wsX5_look) := goodIn_app (goodIn_of _ (by decide +kernel)) ggX8_line_X5_look
set_option maxRecDepth 20000 in
theorem ggX8_line_X5_findTry : GoodIn wsX8_line wsX5_findTry := goodIn_r _ [189, 62, 64, 66, 67, 69, 72, 75, 190, 191, 192, 59, 193, 284, 285, 286, 287, 288, 289, 290, 291] (by decide +kernel) (by decide +kernel)
set_option maxRecDepth 20000 in
theorem gX8_line_X5_findTry : GoodIn wsX8_line (wsV RX8 241 RX5 yX5_findTry wsX5_findTry) := goodIn_app (goodIn_of _ (by decide +kernel)) ggX8_line_X5_findTry
set_option maxRecDepth 20000 in
theorem ggX8_line_X2_valueFrom : GoodIn wsX8_line wsX2_valueFrom := goodIn_r _ [197, 160, 198, 161, 199, 200, 201, 202, 203, 204, 205, 206, 207, 154, 208, 166, 209, 210, 211, 212, 213, 214, 215, 165, 167, 216, 92, 93, 94, 217, 218, 219, 220, 168, 221, 222, 223, 224, 164, 172, 173, 169, 170, 171, 125, 10, 126, 225, 226, 227, 228, 229, 230, 231, 232, 233, 234, 235, 236, 237, 191, 192, 59, 193, 62, 64, 75, 72, 254, 255, 256, 257, 258, 259, 260, 261, 262, 263, 264, 265, 284, 285, 286, 287, 288, 289, 290, 291] (by decide +kernel) (by decide +kernel)
set_option maxRecDepth 20000 in
theorem gX8_line_X2_valueFrom : GoodIn wsX8_line (wsV RX8 232 RX2 yX2_valueFrom wsX2_valueFrom) := goodIn_app (goodIn_of _ (by decide +kernel)) ggX8_line_X2_valueFrom
set_option maxRecDepth 20000 in
theorem ggX8_line_X5_take : GoodIn wsX8_line wsX5_take := goodIn_r _ [241, 75, 66, 72, 69, 284, 285, 286, 287, 288, 289, 290, 291] (by decide +kernel) (by decide +kernel)
set_option maxRecDepth 20000 in
theorem gX8_line_X5_take : GoodIn wsX8_line (wsV RX8 248 RX5 yX5_take wsX5_take) := goodIn_app (goodIn_of _ (by decide +kernel)) ggX8_line_X5_take
theorem dX8_line_0 : decode cX8_line 0 = .ok (.aload_n 0, 1) := by decide +kernel
theorem dX8_line_1 : decode cX8_line 1 = .ok (.iload_n 1, 1) := by decide +kernel
theorem dX8_line_2 : decode cX8_line 2 = .ok (.invokevirtual 97, 3) := by decide +kernel
theorem dX8_line_5 : decode cX8_line 5 = .ok (.ifCond .eq 12, 3) := by decide +kernel
theorem dX8_line_8 : decode cX8_line 8 = .ok (.iload_n 2, 1) := by decide +kernel
theorem dX8_line_9 : decode cX8_line 9 = .ok (.ifCond .lt 8, 3) := by decide +kernel
theorem dX8_line_12 : decode cX8_line 12 = .ok (.iload_n 2, 1) := by decide +kernel
theorem dX8_line_13 : decode cX8_line 13 = .ok (.iconst 1, 1) := by decide +kernel
theorem dX8_line_14 : decode cX8_line 14 = .ok (.if_icmp .le 5, 3) := by decide +kernel
theorem dX8_line_17 : decode cX8_line 17 = .ok (.iconst (-1), 1) := by decide +kernel
theorem dX8_line_18 : decode cX8_line 18 = .ok (.ireturn, 1) := by decide +kernel
theorem dX8_line_19 : decode cX8_line 19 = .ok (.iload_n 2, 1) := by decide +kernel
theorem dX8_line_20 : decode cX8_line 20 = .ok (.ifCond .ne 13, 3) := by decide +kernel
theorem dX8_line_23 : decode cX8_line 23 = .ok (.aload_n 0, 1) := by decide +kernel
theorem dX8_line_24 : decode cX8_line 24 = .ok (.getfield 45, 3) := by decide +kernel
theorem dX8_line_27 : decode cX8_line 27 = .ok (.invokevirtual 191, 3) := by decide +kernel
theorem dX8_line_30 : decode cX8_line 30 = .ok (.goto 8, 3) := by decide +kernel
theorem dX8_line_33 : decode cX8_line 33 = .ok (.aload_n 0, 1) := by decide +kernel
theorem dX8_line_34 : decode cX8_line 34 = .ok (.iload_n 1, 1) := by decide +kernel
theorem dX8_line_35 : decode cX8_line 35 = .ok (.invokevirtual 238, 3) := by decide +kernel
theorem dX8_line_38 : decode cX8_line 38 = .ok (.aload_n 0, 1) := by decide +kernel
theorem dX8_line_39 : decode cX8_line 39 = .ok (.iload_n 1, 1) := by decide +kernel
theorem dX8_line_40 : decode cX8_line 40 = .ok (.iconst 0, 1) := by decide +kernel
theorem dX8_line_41 : decode cX8_line 41 = .ok (.invokevirtual 221, 3) := by decide +kernel
theorem dX8_line_44 : decode cX8_line 44 = .ok (.astore 4, 2) := by decide +kernel
theorem dX8_line_46 : decode cX8_line 46 = .ok (.aload_n 0, 1) := by decide +kernel
theorem dX8_line_47 : decode cX8_line 47 = .ok (.getfield 38, 3) := by decide +kernel
theorem dX8_line_50 : decode cX8_line 50 = .ok (.aload_n 0, 1) := by decide +kernel
theorem dX8_line_51 : decode cX8_line 51 = .ok (.getfield 28, 3) := by decide +kernel
theorem dX8_line_54 : decode cX8_line 54 = .ok (.iload_n 1, 1) := by decide +kernel
theorem dX8_line_55 : decode cX8_line 55 = .ok (.invokevirtual 225, 3) := by decide +kernel
theorem dX8_line_58 : decode cX8_line 58 = .ok (.aload_n 0, 1) := by decide +kernel
theorem dX8_line_59 : decode cX8_line 59 = .ok (.iconst 0, 1) := by decide +kernel
theorem dX8_line_60 : decode cX8_line 60 = .ok (.putfield 65, 3) := by decide +kernel
theorem dX8_line_63 : decode cX8_line 63 = .ok (.iconst 0, 1) := by decide +kernel
theorem dX8_line_64 : decode cX8_line 64 = .ok (.istore 5, 2) := by decide +kernel
theorem dX8_line_66 : decode cX8_line 66 = .ok (.iload 5, 2) := by decide +kernel
theorem dX8_line_68 : decode cX8_line 68 = .ok (.aload_n 0, 1) := by decide +kernel
theorem dX8_line_69 : decode cX8_line 69 = .ok (.getfield 61, 3) := by decide +kernel
theorem dX8_line_72 : decode cX8_line 72 = .ok (.arraylength, 1) := by decide +kernel
theorem dX8_line_73 : decode cX8_line 73 = .ok (.if_icmp .ge 65, 3) := by decide +kernel
theorem dX8_line_76 : decode cX8_line 76 = .ok (.aload_n 0, 1) := by decide +kernel
theorem dX8_line_77 : decode cX8_line 77 = .ok (.getfield 38, 3) := by decide +kernel
theorem dX8_line_80 : decode cX8_line 80 = .ok (.invokevirtual 241, 3) := by decide +kernel
theorem dX8_line_83 : decode cX8_line 83 = .ok (.ifCond .eq 55, 3) := by decide +kernel
theorem dX8_line_86 : decode cX8_line 86 = .ok (.aload 4, 2) := by decide +kernel
theorem dX8_line_88 : decode cX8_line 88 = .ok (.aload_n 0, 1) := by decide +kernel
theorem dX8_line_89 : decode cX8_line 89 = .ok (.getfield 38, 3) := by decide +kernel
theorem dX8_line_92 : decode cX8_line 92 = .ok (.invokevirtual 232, 3) := by decide +kernel
theorem dX8_line_95 : decode cX8_line 95 = .ok (.pop, 1) := by decide +kernel
theorem dX8_line_96 : decode cX8_line 96 = .ok (.aload_n 0, 1) := by decide +kernel
theorem dX8_line_97 : decode cX8_line 97 = .ok (.getfield 61, 3) := by decide +kernel
theorem dX8_line_100 : decode cX8_line 100 = .ok (.iload 5, 2) := by decide +kernel
theorem dX8_line_102 : decode cX8_line 102 = .ok (.aload 4, 2) := by decide +kernel
theorem dX8_line_104 : decode cX8_line 104 = .ok (.getfield 245, 3) := by decide +kernel
theorem dX8_line_107 : decode cX8_line 107 = .ok (.i2l, 1) := by decide +kernel
theorem dX8_line_108 : decode cX8_line 108 = .ok (.lastore, 1) := by decide +kernel
theorem dX8_line_109 : decode cX8_line 109 = .ok (.aload_n 0, 1) := by decide +kernel
theorem dX8_line_110 : decode cX8_line 110 = .ok (.dup, 1) := by decide +kernel
theorem dX8_line_111 : decode cX8_line 111 = .ok (.getfield 65, 3) := by decide +kernel
theorem dX8_line_114 : decode cX8_line 114 = .ok (.iconst 1, 1) := by decide +kernel
theorem dX8_line_115 : decode cX8_line 115 = .ok (.iadd, 1) := by decide +kernel
theorem dX8_line_116 : decode cX8_line 116 = .ok (.putfield 65, 3) := by decide +kernel
theorem dX8_line_119 : decode cX8_line 119 = .ok (.aload_n 0, 1) := by decide +kernel
theorem dX8_line_120 : decode cX8_line 120 = .ok (.getfield 38, 3) := by decide +kernel
theorem dX8_line_123 : decode cX8_line 123 = .ok (.aload 4, 2) := by decide +kernel
theorem dX8_line_125 : decode cX8_line 125 = .ok (.getfield 245, 3) := by decide +kernel
theorem dX8_line_128 : decode cX8_line 128 = .ok (.iload_n 3, 1) := by decide +kernel
theorem dX8_line_129 : decode cX8_line 129 = .ok (.invokevirtual 248, 3) := by decide +kernel
theorem dX8_line_132 : decode cX8_line 132 = .ok (.iinc 5 1, 3) := by decide +kernel
theorem dX8_line_135 : decode cX8_line 135 = .ok (.goto (-69), 3) := by decide +kernel
theorem dX8_line_138 : decode cX8_line 138 = .ok (.aload_n 0, 1) := by decide +kernel
theorem dX8_line_139 : decode cX8_line 139 = .ok (.getfield 65, 3) := by decide +kernel
theorem dX8_line_142 : decode cX8_line 142 = .ok (.ireturn, 1) := by decide +kernel
set_option maxRecDepth 20000 in
theorem ggX8_duel_X8_isLifter : GoodIn wsX8_duel wsX8_isLifter := goodIn_r _ [7, 1, 8, 129, 130, 131, 132, 133, 134, 135, 136, 137, 138, 139, 140, 141, 142, 143, 144, 145, 146, 147, 148, 149, 150, 151, 152, 153, 154, 155, 156] (by decide +kernel) (by decide +kernel)
set_option maxRecDepth 20000 in
theorem gX8_duel_X8_isLifter : GoodIn wsX8_duel (wsV RX8 97 RX8 yX8_isLifter wsX8_isLifter) := goodIn_app (goodIn_of _ (by decide +kernel)) ggX8_duel_X8_isLifter
set_option maxRecDepth 20000 in
theorem ggX8_duel_X8_fight : GoodIn wsX8_duel wsX8_fight := goodIn_r _ [12, 1, 13, 14, 15, 16, 17, 18, 19, 20, 21, 22, 23, 24, 25, 26, 27, 28, 29, 30, 31, 32, 33, 34, 35, 36, 37, 38, 39, 40, 41, 42, 43, 44, 45, 46, 47, 48, 49, 50, 51, 52, 53, 54, 55, 56, 57, 58, 59, 60, 61, 62, 63, 64, 65, 66, 67, 68, 69, 70, 71, 72, 73, 74, 75, 76, 77, 78, 79, 80, 81, 82, 83, 84, 85, 86, 87, 88, 89, 6, 90, 91, 92, 93, 94, 95, 96, 97, 98, 99, 100, 101, 102, 103, 104, 105, 106, 107, 108, 109, 110, 111, 112, 113, 114, 115, 116, 117, 118, 119, 120, 121, 122, 123, 124, 125, 126, 127, 128, 129, 130, 131, 132, 133, 134, 135, 136, 137, 138, 139, 140, 141, 142, 143, 144, 145, 146, 147, 148, 149, 150, 151, 152, 153, 154, 155, 156, 157, 158, 159, 160, 161, 162, 163, 164, 165, 166, 167, 168, 169, 170, 171, 172, 173, 174, 175, 176] (by decide +kernel) (by decide +kernel)
set_option maxRecDepth 20000 in
theorem gX8_duel_X8_fight : GoodIn wsX8_duel (wsV RX8 249 RX8 yX8_fight wsX8_fight) := goodIn_app (goodIn_of _ (by decide +kernel)) ggX8_duel_X8_fight
theorem dX8_duel_0 : decode cX8_duel 0 = .ok (.aload_n 0, 1) := by decide +kernel
theorem dX8_duel_1 : decode cX8_duel 1 = .ok (.iload_n 1, 1) := by decide +kernel
theorem dX8_duel_2 : decode cX8_duel 2 = .ok (.invokevirtual 97, 3) := by decide +kernel
theorem dX8_duel_5 : decode cX8_duel 5 = .ok (.ifCond .eq 16, 3) := by decide +kernel
theorem dX8_duel_8 : decode cX8_duel 8 = .ok (.aload_n 0, 1) := by decide +kernel
theorem dX8_duel_9 : decode cX8_duel 9 = .ok (.iload_n 2, 1) := by decide +kernel
theorem dX8_duel_10 : decode cX8_duel 10 = .ok (.invokevirtual 97, 3) := by decide +kernel
theorem dX8_duel_13 : decode cX8_duel 13 = .ok (.ifCond .eq 8, 3) := by decide +kernel
theorem dX8_duel_16 : decode cX8_duel 16 = .ok (.iload_n 1, 1) := by decide +kernel
theorem dX8_duel_17 : decode cX8_duel 17 = .ok (.iload_n 2, 1) := by decide +kernel
theorem dX8_duel_18 : decode cX8_duel 18 = .ok (.if_icmp .ne 5, 3) := by decide +kernel
theorem dX8_duel_21 : decode cX8_duel 21 = .ok (.iconst (-1), 1) := by decide +kernel
theorem dX8_duel_22 : decode cX8_duel 22 = .ok (.ireturn, 1) := by decide +kernel
theorem dX8_duel_23 : decode cX8_duel 23 = .ok (.aload_n 0, 1) := by decide +kernel
theorem dX8_duel_24 : decode cX8_duel 24 = .ok (.iload_n 1, 1) := by decide +kernel
theorem dX8_duel_25 : decode cX8_duel 25 = .ok (.iload_n 2, 1) := by decide +kernel
theorem dX8_duel_26 : decode cX8_duel 26 = .ok (.aload_n 0, 1) := by decide +kernel
theorem dX8_duel_27 : decode cX8_duel 27 = .ok (.getfield 28, 3) := by decide +kernel
theorem dX8_duel_30 : decode cX8_duel 30 = .ok (.getfield 137, 3) := by decide +kernel
theorem dX8_duel_33 : decode cX8_duel 33 = .ok (.iload_n 1, 1) := by decide +kernel
theorem dX8_duel_34 : decode cX8_duel 34 = .ok (.iaload, 1) := by decide +kernel
theorem dX8_duel_35 : decode cX8_duel 35 = .ok (.aload_n 0, 1) := by decide +kernel
theorem dX8_duel_36 : decode cX8_duel 36 = .ok (.getfield 28, 3) := by decide +kernel
theorem dX8_duel_39 : decode cX8_duel 39 = .ok (.getfield 137, 3) := by decide +kernel
theorem dX8_duel_42 : decode cX8_duel 42 = .ok (.iload_n 2, 1) := by decide +kernel
theorem dX8_duel_43 : decode cX8_duel 43 = .ok (.iaload, 1) := by decide +kernel
theorem dX8_duel_44 : decode cX8_duel 44 = .ok (.iconst 3, 1) := by decide +kernel
theorem dX8_duel_45 : decode cX8_duel 45 = .ok (.invokevirtual 249, 3) := by decide +kernel
theorem dX8_duel_48 : decode cX8_duel 48 = .ok (.ireturn, 1) := by decide +kernel
set_option maxRecDepth 20000 in
theorem ggX8_bluff_X8_isLifter : GoodIn wsX8_bluff wsX8_isLifter := goodIn_r _ [5, 6, 7, 128, 129, 130, 131, 132, 133, 134, 135, 136, 137, 138, 139, 140, 141, 142, 143, 144, 145, 146, 147, 148, 149, 150, 151, 152, 153, 154, 155] (by decide +kernel) (by decide +kernel)
set_option maxRecDepth 20000 in
theorem gX8_bluff_X8_isLifter : GoodIn wsX8_bluff (wsV RX8 97 RX8 yX8_isLifter wsX8_isLifter) := goodIn_app (goodIn_of _ (by decide +kernel)) ggX8_bluff_X8_isLifter
set_option maxRecDepth 20000 in
theorem ggX8_bluff_X8_fight : GoodIn wsX8_bluff wsX8_fight := goodIn_r _ [11, 6, 12, 13, 14, 15, 16, 17, 18, 19, 20, 21, 22, 23, 24, 25, 26, 27, 28, 29, 30, 31, 32, 33, 34, 35, 36, 37, 38, 39, 40, 41, 42, 43, 44, 45, 46, 47, 48, 49, 50, 51, 52, 53, 54, 55, 56, 57, 58, 59, 60, 61, 62, 63, 64, 65, 66, 67, 68, 69, 70, 71, 72, 73, 74, 75, 76, 77, 78, 79, 80, 81, 82, 83, 84, 85, 86, 87, 88, 4, 89, 90, 91, 92, 93, 94, 95, 96, 97, 98, 99, 100, 101, 102, 103, 104, 105, 106, 107, 108, 109, 110, 111, 112, 113, 114, 115, 116, 117, 118, 119, 120, 121, 122, 123, 124, 125, 126, 127, 128, 129, 130, 131, 132, 133, 134, 135, 136, 137, 138, 139, 140, 141, 142, 143, 144, 145, 146, 147, 148, 149, 150, 151, 152, 153, 154, 155, 156, 157, 158, 159, 160, 161, 162, 163, 164, 165, 166, 167, 168, 169, 170, 171, 172, 173, 174, 175] (by decide +kernel) (by decide +kernel)
set_option maxRecDepth 20000 in
theorem gX8_bluff_X8_fight : GoodIn wsX8_bluff (wsV RX8 249 RX8 yX8_fight wsX8_fight) := goodIn_app (goodIn_of _ (by decide +kernel)) ggX8_bluff_X8_fight
theorem dX8_bluff_0 : decode cX8_bluff 0 = .ok (.aload_n 0, 1) := by decide +kernel
theorem dX8_bluff_1 : decode cX8_bluff 1 = .ok (.iload_n 1, 1) := by decide +kernel
theorem dX8_bluff_2 : decode cX8_bluff 2 = .ok (.invokevirtual 97, 3) := by decide +kernel
theorem dX8_bluff_5 : decode cX8_bluff 5 = .ok (.ifCond .eq 36, 3) := by decide +kernel
theorem dX8_bluff_8 : decode cX8_bluff 8 = .ok (.aload_n 0, 1) := by decide +kernel
theorem dX8_bluff_9 : decode cX8_bluff 9 = .ok (.iload_n 2, 1) := by decide +kernel
theorem dX8_bluff_10 : decode cX8_bluff 10 = .ok (.invokevirtual 97, 3) := by decide +kernel
theorem dX8_bluff_13 : decode cX8_bluff 13 = .ok (.ifCond .eq 28, 3) := by decide +kernel
theorem dX8_bluff_16 : decode cX8_bluff 16 = .ok (.iload_n 1, 1) := by decide +kernel
theorem dX8_bluff_17 : decode cX8_bluff 17 = .ok (.iload_n 2, 1) := by decide +kernel
theorem dX8_bluff_18 : decode cX8_bluff 18 = .ok (.if_icmp .eq 23, 3) := by decide +kernel
theorem dX8_bluff_21 : decode cX8_bluff 21 = .ok (.iload_n 3, 1) := by decide +kernel
theorem dX8_bluff_22 : decode cX8_bluff 22 = .ok (.ifCond .lt 19, 3) := by decide +kernel
theorem dX8_bluff_25 : decode cX8_bluff 25 = .ok (.iload_n 3, 1) := by decide +kernel
theorem dX8_bluff_26 : decode cX8_bluff 26 = .ok (.iconst 2, 1) := by decide +kernel
theorem dX8_bluff_27 : decode cX8_bluff 27 = .ok (.if_icmp .gt 14, 3) := by decide +kernel
theorem dX8_bluff_30 : decode cX8_bluff 30 = .ok (.iload 4, 2) := by decide +kernel
theorem dX8_bluff_32 : decode cX8_bluff 32 = .ok (.ifCond .lt 9, 3) := by decide +kernel
theorem dX8_bluff_35 : decode cX8_bluff 35 = .ok (.iload 4, 2) := by decide +kernel
theorem dX8_bluff_37 : decode cX8_bluff 37 = .ok (.iconst 2, 1) := by decide +kernel
theorem dX8_bluff_38 : decode cX8_bluff 38 = .ok (.if_icmp .le 5, 3) := by decide +kernel
theorem dX8_bluff_41 : decode cX8_bluff 41 = .ok (.iconst (-1), 1) := by decide +kernel
theorem dX8_bluff_42 : decode cX8_bluff 42 = .ok (.ireturn, 1) := by decide +kernel
theorem dX8_bluff_43 : decode cX8_bluff 43 = .ok (.aload_n 0, 1) := by decide +kernel
theorem dX8_bluff_44 : decode cX8_bluff 44 = .ok (.iload_n 1, 1) := by decide +kernel
theorem dX8_bluff_45 : decode cX8_bluff 45 = .ok (.iload_n 2, 1) := by decide +kernel
theorem dX8_bluff_46 : decode cX8_bluff 46 = .ok (.iload_n 3, 1) := by decide +kernel
theorem dX8_bluff_47 : decode cX8_bluff 47 = .ok (.iload 4, 2) := by decide +kernel
theorem dX8_bluff_49 : decode cX8_bluff 49 = .ok (.iconst 2, 1) := by decide +kernel
theorem dX8_bluff_50 : decode cX8_bluff 50 = .ok (.invokevirtual 249, 3) := by decide +kernel
theorem dX8_bluff_53 : decode cX8_bluff 53 = .ok (.ireturn, 1) := by decide +kernel
set_option maxRecDepth 20000 in
theorem ggX8_plays_X4_next : GoodIn wsX8_plays wsX4_next := goodIn_r _ [7, 8, 9, 10, 11, 12, 6, 13, 14, 15, 16, 17, 18, 19, 20, 113, 114, 115, 116, 117, 118, 119, 120, 121, 122, 123, 124, 125, 126, 127, 128, 129, 130, 131, 132] (by decide +kernel) (by decide +kernel)
set_option maxRecDepth 20000 in
theorem gX8_plays_X4_next : GoodIn wsX8_plays (wsV RX8 150 RX4 yX4_next wsX4_next) := goodIn_app (goodIn_of _ (by decide +kernel)) ggX8_plays_X4_next
set_option maxRecDepth 20000 in
theorem ggX8_plays_X4_drawOn : GoodIn wsX8_plays wsX4_drawOn := goodIn_r _ [24, 25, 26, 4, 5, 6, 7, 8, 9, 10, 11, 12, 13, 14, 15, 16, 17, 18, 19, 20, 27, 28, 29, 30, 31, 32, 33, 34, 35, 36, 37, 38, 39, 40, 41, 42, 43, 44, 45, 46, 47, 48, 49, 50, 51, 52, 53, 54, 55, 56, 57, 58, 59, 60, 61, 62, 63, 64, 65, 66, 67, 68, 69, 70, 71, 72, 73, 74, 113, 114, 115, 116, 117, 118, 119, 120, 121, 122, 123, 124, 125, 126, 127, 128, 129, 130, 131, 132] (by decide +kernel) (by decide +kernel)
set_option maxRecDepth 20000 in
theorem gX8_plays_X4_drawOn : GoodIn wsX8_plays (wsV RX8 253 RX4 yX4_drawOn wsX4_drawOn) := goodIn_app (goodIn_of _ (by decide +kernel)) ggX8_plays_X4_drawOn
set_option maxRecDepth 20000 in
theorem ggX8_plays_X8_tellPlaces : GoodIn wsX8_plays wsX8_tellPlaces := goodIn_r _ [79, 1, 80, 81, 82, 83, 84, 85, 6, 86, 8, 87, 88, 89, 90, 70, 19, 91, 92, 93, 94, 54, 95, 96, 97, 37, 98, 99, 100, 101, 102, 103, 104, 105, 106, 107, 108, 109, 110, 111, 112, 113, 114, 115, 116, 117, 118, 119, 120, 121, 122, 123, 124, 125, 126, 127, 128, 129, 130, 131, 132] (by decide +kernel) (by decide +kernel)
set_option maxRecDepth 20000 in
theorem gX8_plays_X8_tellPlaces : GoodIn wsX8_plays (wsV RX8 178 RX8 yX8_tellPlaces wsX8_tellPlaces) := goodIn_app (goodIn_of _ (by decide +kernel)) ggX8_plays_X8_tellPlaces
theorem dX8_plays_0 : decode cX8_plays 0 = .ok (.aload_n 0, 1) := by decide +kernel
theorem dX8_plays_1 : decode cX8_plays 1 = .ok (.getfield 28, 3) := by decide +kernel
theorem dX8_plays_4 : decode cX8_plays 4 = .ok (.invokevirtual 150, 3) := by decide +kernel
theorem dX8_plays_7 : decode cX8_plays 7 = .ok (.ifCond .ge 6, 3) := by decide +kernel
theorem dX8_plays_10 : decode cX8_plays 10 = .ok (.bipush (-2), 2) := by decide +kernel
theorem dX8_plays_12 : decode cX8_plays 12 = .ok (.ireturn, 1) := by decide +kernel
theorem dX8_plays_13 : decode cX8_plays 13 = .ok (.aload_n 0, 1) := by decide +kernel
theorem dX8_plays_14 : decode cX8_plays 14 = .ok (.getfield 28, 3) := by decide +kernel
theorem dX8_plays_17 : decode cX8_plays 17 = .ok (.getfield 172, 3) := by decide +kernel
theorem dX8_plays_20 : decode cX8_plays 20 = .ok (.istore_n 2, 1) := by decide +kernel
theorem dX8_plays_21 : decode cX8_plays 21 = .ok (.aload_n 0, 1) := by decide +kernel
theorem dX8_plays_22 : decode cX8_plays 22 = .ok (.getfield 28, 3) := by decide +kernel
theorem dX8_plays_25 : decode cX8_plays 25 = .ok (.iload_n 1, 1) := by decide +kernel
theorem dX8_plays_26 : decode cX8_plays 26 = .ok (.invokevirtual 253, 3) := by decide +kernel
theorem dX8_plays_29 : decode cX8_plays 29 = .ok (.pop, 1) := by decide +kernel
theorem dX8_plays_30 : decode cX8_plays 30 = .ok (.aload_n 0, 1) := by decide +kernel
theorem dX8_plays_31 : decode cX8_plays 31 = .ok (.invokevirtual 178, 3) := by decide +kernel
theorem dX8_plays_34 : decode cX8_plays 34 = .ok (.aload_n 0, 1) := by decide +kernel
theorem dX8_plays_35 : decode cX8_plays 35 = .ok (.getfield 28, 3) := by decide +kernel
theorem dX8_plays_38 : decode cX8_plays 38 = .ok (.getfield 172, 3) := by decide +kernel
theorem dX8_plays_41 : decode cX8_plays 41 = .ok (.iload_n 2, 1) := by decide +kernel
theorem dX8_plays_42 : decode cX8_plays 42 = .ok (.isub, 1) := by decide +kernel
theorem dX8_plays_43 : decode cX8_plays 43 = .ok (.ireturn, 1) := by decide +kernel
set_option maxRecDepth 20000 in
theorem ggX8_often_X8_isLifter : GoodIn wsX8_often wsX8_isLifter := goodIn_r _ [8, 2, 9, 110, 111, 112, 113, 114, 115, 116, 117, 118, 119, 120, 121, 122, 123, 124, 125, 126, 127, 128, 129, 130, 131, 132, 133, 134, 135, 136, 137] (by decide +kernel) (by decide +kernel)
set_option maxRecDepth 20000 in
theorem gX8_often_X8_isLifter : GoodIn wsX8_often (wsV RX8 97 RX8 yX8_isLifter wsX8_isLifter) := goodIn_app (goodIn_of _ (by decide +kernel)) ggX8_often_X8_isLifter
set_option maxRecDepth 20000 in
theorem ggX8_often_X4_copy : GoodIn wsX8_often wsX4_copy := goodIn_r _ [14, 15, 16, 17, 18, 19, 20, 21, 22, 23, 24, 25, 26, 27, 28, 122, 123, 124, 125, 126, 127, 128, 129, 130, 131, 132, 133, 134, 135, 136, 137] (by decide +kernel) (by decide +kernel)
set_option maxRecDepth 20000 in
theorem gX8_often_X4_copy : GoodIn wsX8_often (wsV RX8 256 RX4 yX4_copy wsX4_copy) := goodIn_app (goodIn_of _ (by decide +kernel)) ggX8_often_X4_copy
set_option maxRecDepth 20000 in
theorem ggX8_often_X4_drawOn : GoodIn wsX8_often wsX4_drawOn := goodIn_r _ [32, 33, 34, 35, 36, 13, 37, 15, 22, 38, 39, 40, 41, 23, 42, 43, 44, 45, 46, 47, 48, 49, 50, 51, 17, 26, 16, 52, 53, 54, 55, 56, 57, 58, 59, 60, 61, 62, 63, 64, 65, 20, 66, 67, 19, 68, 21, 28, 27, 18, 69, 70, 71, 72, 73, 74, 75, 76, 24, 77, 78, 79, 80, 25, 81, 82, 83, 84, 122, 123, 124, 125, 126, 127, 128, 129, 130, 131, 132, 133, 134, 135, 136, 137, 138, 139, 140, 141] (by decide +kernel) (by decide +kernel)
set_option maxRecDepth 20000 in
theorem gX8_often_X4_drawOn : GoodIn wsX8_often (wsV RX8 253 RX4 yX4_drawOn wsX4_drawOn) := goodIn_app (goodIn_of _ (by decide +kernel)) ggX8_often_X4_drawOn
