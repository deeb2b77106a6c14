set_option maxRecDepth 20000 in
theorem gX8_reach_X8_byChoice : GoodIn wsX8_reach (wsV RX8 218 RX8 yX8_byChoice wsX8_byChoice) := goodIn_app (goodIn_of _ (by decide +kernel)) ggX8_reach_X8_byChoice
theorem dX8_reach_0 : decode cX8_reach 0 = .ok (.aload_n 0, 1) := by decide +kernel
theorem dX8_reach_1 : decode cX8_reach 1 = .ok (.iload_n 1, 1) := by decide +kernel
theorem dX8_reach_2 : decode cX8_reach 2 = .ok (.invokevirtual 97, 3) := by decide +kernel
theorem dX8_reach_5 : decode cX8_reach 5 = .ok (.ifCond .eq 10, 3) := by decide +kernel
theorem dX8_reach_8 : decode cX8_reach 8 = .ok (.iload_n 2, 1) := by decide +kernel
theorem dX8_reach_9 : decode cX8_reach 9 = .ok (.invokestatic 197, 3) := by decide +kernel
theorem dX8_reach_12 : decode cX8_reach 12 = .ok (.ifCond .ne 5, 3) := by decide +kernel
theorem dX8_reach_15 : decode cX8_reach 15 = .ok (.iconst (-1), 1) := by decide +kernel
theorem dX8_reach_16 : decode cX8_reach 16 = .ok (.ireturn, 1) := by decide +kernel
theorem dX8_reach_17 : decode cX8_reach 17 = .ok (.aload_n 0, 1) := by decide +kernel
theorem dX8_reach_18 : decode cX8_reach 18 = .ok (.getfield 45, 3) := by decide +kernel
theorem dX8_reach_21 : decode cX8_reach 21 = .ok (.iload_n 2, 1) := by decide +kernel
theorem dX8_reach_22 : decode cX8_reach 22 = .ok (.invokevirtual 200, 3) := by decide +kernel
theorem dX8_reach_25 : decode cX8_reach 25 = .ok (.aload_n 0, 1) := by decide +kernel
theorem dX8_reach_26 : decode cX8_reach 26 = .ok (.iload_n 1, 1) := by decide +kernel
theorem dX8_reach_27 : decode cX8_reach 27 = .ok (.invokevirtual 218, 3) := by decide +kernel
theorem dX8_reach_30 : decode cX8_reach 30 = .ok (.ireturn, 1) := by decide +kernel
set_option maxRecDepth 20000 in
theorem ggX8_aim_X8_isLifter : GoodIn wsX8_aim wsX8_isLifter := goodIn_r _ [11, 3, 12, 164, 165, 166, 167, 168, 169, 170, 171, 172, 173, 174, 175, 184, 185, 186, 187, 188, 189, 190, 191, 192, 193, 194, 195, 196, 197, 198, 199] (by decide +kernel) (by decide +kernel)
set_option maxRecDepth 20000 in
theorem gX8_aim_X8_isLifter : GoodIn wsX8_aim (wsV RX8 97 RX8 yX8_isLifter wsX8_isLifter) := goodIn_app (goodIn_of _ (by decide +kernel)) ggX8_aim_X8_isLifter
set_option maxRecDepth 20000 in
theorem ggX8_aim_X8_thinkFreely : GoodIn wsX8_aim wsX8_thinkFreely := goodIn_r _ [16, 17, 18, 19, 20, 21, 22, 3, 23, 24, 25, 26, 27, 28, 29, 30, 31, 32, 33, 34, 35, 36, 37, 38, 39, 40, 41, 42, 43, 44, 45, 46, 47, 48, 49, 50, 51, 52, 53, 54, 55, 56, 57, 58, 59, 60, 61, 62, 63, 64, 65, 66, 67, 68, 69, 70, 71, 72, 73, 74, 75, 76, 77, 78, 164, 165, 166, 167, 168, 169, 170, 171, 172, 173, 174, 175, 200, 201, 202, 203, 204, 205, 206, 207, 208, 209, 210, 211, 184, 185, 186, 187, 188, 189, 190, 191, 192, 193, 194, 195, 196, 197, 198, 199, 212, 213, 214, 215, 216, 217] (by decide +kernel) (by decide +kernel)
set_option maxRecDepth 20000 in
theorem gX8_aim_X8_thinkFreely : GoodIn wsX8_aim (wsV RX8 221 RX8 yX8_thinkFreely wsX8_thinkFreely) := goodIn_app (goodIn_of _ (by decide +kernel)) ggX8_aim_X8_thinkFreely
set_option maxRecDepth 20000 in
theorem ggX8_aim_X5_look : GoodIn wsX8_aim wsX5_look := goodIn_r _ [83, 84, 85, 86, 87, 88, 89, 90, 91, 92, 93, 94, 95, 96, 97, 98, 99, 100, 101, 102, 103, 104, 105, 106, 107, 108, 109, 110, 111, 112, 113, 114, 72, 73, 74, 184, 185, 186, 187, 188, 189, 190, 191, 192, 193, 194, 195, 196, 197, 198, 199, 176, 177, 178, 179, 180, 181, 182, 183] (by decide +kernel) (by decide +kernel)
set_option maxRecDepth 20000 in
theorem gX8_aim_X5_look : GoodIn wsX8_aim (wsV RX8 225 RX5 yX5_look wsX5_look) := goodIn_app (goodIn_of _ (by decide +kernel)) ggX8_aim_X5_look
set_option maxRecDepth 20000 in
theorem ggX8_aim_X2_valueFrom : GoodIn wsX8_aim wsX2_valueFrom := goodIn_r _ [118, 29, 119, 30, 120, 121, 122, 123, 124, 125, 126, 127, 128, 20, 129, 35, 130, 131, 132, 133, 134, 135, 136, 34, 36, 137, 72, 73, 74, 138, 139, 140, 141, 37, 142, 143, 144, 145, 33, 41, 42, 38, 39, 40, 146, 10, 147, 148, 149, 150, 151, 152, 153, 154, 155, 156, 157, 158, 159, 160, 161, 162, 82, 163, 85, 87, 98, 95, 200, 201, 202, 203, 204, 205, 206, 207, 208, 209, 210, 211, 176, 177, 178, 179, 180, 181, 182, 183] (by decide +kernel) (by decide +kernel)
set_option maxRecDepth 20000 in
theorem gX8_aim_X2_valueFrom : GoodIn wsX8_aim (wsV RX8 232 RX2 yX2_valueFrom wsX2_valueFrom) := goodIn_app (goodIn_of _ (by decide +kernel)) ggX8_aim_X2_valueFrom
theorem dX8_aim_0 : decode cX8_aim 0 = .ok (.aload_n 0, 1) := by decide +kernel
theorem dX8_aim_1 : decode cX8_aim 1 = .ok (.iload_n 1, 1) := by decide +kernel
theorem dX8_aim_2 : decode cX8_aim 2 = .ok (.invokevirtual 97, 3) := by decide +kernel
theorem dX8_aim_5 : decode cX8_aim 5 = .ok (.ifCond .eq 14, 3) := by decide +kernel
theorem dX8_aim_8 : decode cX8_aim 8 = .ok (.iload_n 2, 1) := by decide +kernel
theorem dX8_aim_9 : decode cX8_aim 9 = .ok (.iconst 1, 1) := by decide +kernel
theorem dX8_aim_10 : decode cX8_aim 10 = .ok (.if_icmp .lt 9, 3) := by decide +kernel
theorem dX8_aim_13 : decode cX8_aim 13 = .ok (.iload_n 2, 1) := by decide +kernel
theorem dX8_aim_14 : decode cX8_aim 14 = .ok (.ldc 213, 2) := by decide +kernel
theorem dX8_aim_16 : decode cX8_aim 16 = .ok (.if_icmp .le 5, 3) := by decide +kernel
theorem dX8_aim_19 : decode cX8_aim 19 = .ok (.iconst (-1), 1) := by decide +kernel
theorem dX8_aim_20 : decode cX8_aim 20 = .ok (.ireturn, 1) := by decide +kernel
theorem dX8_aim_21 : decode cX8_aim 21 = .ok (.aload_n 0, 1) := by decide +kernel
theorem dX8_aim_22 : decode cX8_aim 22 = .ok (.iload_n 1, 1) := by decide +kernel
theorem dX8_aim_23 : decode cX8_aim 23 = .ok (.iconst 1, 1) := by decide +kernel
theorem dX8_aim_24 : decode cX8_aim 24 = .ok (.invokevirtual 221, 3) := by decide +kernel
theorem dX8_aim_27 : decode cX8_aim 27 = .ok (.astore_n 3, 1) := by decide +kernel
theorem dX8_aim_28 : decode cX8_aim 28 = .ok (.iconst 0, 1) := by decide +kernel
theorem dX8_aim_29 : decode cX8_aim 29 = .ok (.istore 4, 2) := by decide +kernel
theorem dX8_aim_31 : decode cX8_aim 31 = .ok (.ldc 213, 2) := by decide +kernel
theorem dX8_aim_33 : decode cX8_aim 33 = .ok (.istore 5, 2) := by decide +kernel
theorem dX8_aim_35 : decode cX8_aim 35 = .ok (.bipush 64, 2) := by decide +kernel
theorem dX8_aim_37 : decode cX8_aim 37 = .ok (.istore 6, 2) := by decide +kernel
theorem dX8_aim_39 : decode cX8_aim 39 = .ok (.iload 6, 2) := by decide +kernel
theorem dX8_aim_41 : decode cX8_aim 41 = .ok (.ifCond .le 79, 3) := by decide +kernel
theorem dX8_aim_44 : decode cX8_aim 44 = .ok (.iload 4, 2) := by decide +kernel
theorem dX8_aim_46 : decode cX8_aim 46 = .ok (.iload 6, 2) := by decide +kernel
theorem dX8_aim_48 : decode cX8_aim 48 = .ok (.iadd, 1) := by decide +kernel
theorem dX8_aim_49 : decode cX8_aim 49 = .ok (.istore 7, 2) := by decide +kernel
theorem dX8_aim_51 : decode cX8_aim 51 = .ok (.iload 7, 2) := by decide +kernel
theorem dX8_aim_53 : decode cX8_aim 53 = .ok (.bipush 120, 2) := by decide +kernel
theorem dX8_aim_55 : decode cX8_aim 55 = .ok (.if_icmp .gt 56, 3) := by decide +kernel
theorem dX8_aim_58 : decode cX8_aim 58 = .ok (.aload_n 0, 1) := by decide +kernel
theorem dX8_aim_59 : decode cX8_aim 59 = .ok (.getfield 38, 3) := by decide +kernel
theorem dX8_aim_62 : decode cX8_aim 62 = .ok (.aload_n 0, 1) := by decide +kernel
theorem dX8_aim_63 : decode cX8_aim 63 = .ok (.getfield 28, 3) := by decide +kernel
theorem dX8_aim_66 : decode cX8_aim 66 = .ok (.iload_n 1, 1) := by decide +kernel
theorem dX8_aim_67 : decode cX8_aim 67 = .ok (.invokevirtual 225, 3) := by decide +kernel
theorem dX8_aim_70 : decode cX8_aim 70 = .ok (.aload_n 0, 1) := by decide +kernel
theorem dX8_aim_71 : decode cX8_aim 71 = .ok (.getfield 38, 3) := by decide +kernel
theorem dX8_aim_74 : decode cX8_aim 74 = .ok (.dup, 1) := by decide +kernel
theorem dX8_aim_75 : decode cX8_aim 75 = .ok (.getfield 229, 3) := by decide +kernel
theorem dX8_aim_78 : decode cX8_aim 78 = .ok (.bipush 121, 2) := by decide +kernel
theorem dX8_aim_80 : decode cX8_aim 80 = .ok (.iload 7, 2) := by decide +kernel
theorem dX8_aim_82 : decode cX8_aim 82 = .ok (.isub, 1) := by decide +kernel
theorem dX8_aim_83 : decode cX8_aim 83 = .ok (.iadd, 1) := by decide +kernel
theorem dX8_aim_84 : decode cX8_aim 84 = .ok (.putfield 229, 3) := by decide +kernel
theorem dX8_aim_87 : decode cX8_aim 87 = .ok (.aload_n 3, 1) := by decide +kernel
theorem dX8_aim_88 : decode cX8_aim 88 = .ok (.aload_n 0, 1) := by decide +kernel
theorem dX8_aim_89 : decode cX8_aim 89 = .ok (.getfield 38, 3) := by decide +kernel
theorem dX8_aim_92 : decode cX8_aim 92 = .ok (.invokevirtual 232, 3) := by decide +kernel
theorem dX8_aim_95 : decode cX8_aim 95 = .ok (.istore 8, 2) := by decide +kernel
theorem dX8_aim_97 : decode cX8_aim 97 = .ok (.iload 8, 2) := by decide +kernel
theorem dX8_aim_99 : decode cX8_aim 99 = .ok (.iload_n 2, 1) := by decide +kernel
theorem dX8_aim_100 : decode cX8_aim 100 = .ok (.if_icmp .lt 11, 3) := by decide +kernel
theorem dX8_aim_103 : decode cX8_aim 103 = .ok (.iload 7, 2) := by decide +kernel
theorem dX8_aim_105 : decode cX8_aim 105 = .ok (.istore 4, 2) := by decide +kernel
theorem dX8_aim_107 : decode cX8_aim 107 = .ok (.iload 8, 2) := by decide +kernel
theorem dX8_aim_109 : decode cX8_aim 109 = .ok (.istore 5, 2) := by decide +kernel
theorem dX8_aim_111 : decode cX8_aim 111 = .ok (.iload 6, 2) := by decide +kernel
theorem dX8_aim_113 : decode cX8_aim 113 = .ok (.iconst 2, 1) := by decide +kernel
theorem dX8_aim_114 : decode cX8_aim 114 = .ok (.idiv, 1) := by decide +kernel
theorem dX8_aim_115 : decode cX8_aim 115 = .ok (.istore 6, 2) := by decide +kernel
theorem dX8_aim_117 : decode cX8_aim 117 = .ok (.goto (-78), 3) := by decide +kernel
theorem dX8_aim_120 : decode cX8_aim 120 = .ok (.aload_n 0, 1) := by decide +kernel
theorem dX8_aim_121 : decode cX8_aim 121 = .ok (.getfield 61, 3) := by decide +kernel
theorem dX8_aim_124 : decode cX8_aim 124 = .ok (.iconst 0, 1) := by decide +kernel
theorem dX8_aim_125 : decode cX8_aim 125 = .ok (.iload 5, 2) := by decide +kernel
theorem dX8_aim_127 : decode cX8_aim 127 = .ok (.i2l, 1) := by decide +kernel
theorem dX8_aim_128 : decode cX8_aim 128 = .ok (.lastore, 1) := by decide +kernel
theorem dX8_aim_129 : decode cX8_aim 129 = .ok (.aload_n 0, 1) := by decide +kernel
theorem dX8_aim_130 : decode cX8_aim 130 = .ok (.iconst 1, 1) := by decide +kernel
theorem dX8_aim_131 : decode cX8_aim 131 = .ok (.putfield 65, 3) := by decide +kernel
theorem dX8_aim_134 : decode cX8_aim 134 = .ok (.iload 4, 2) := by decide +kernel
theorem dX8_aim_136 : decode cX8_aim 136 = .ok (.ireturn, 1) := by decide +kernel
set_option maxRecDepth 20000 in
theorem ggX8_against_X8_isLifter : GoodIn wsX8_against wsX8_isLifter := goodIn_r _ [5, 6, 7, 242, 243, 244, 245, 246, 247, 248, 249, 250, 251, 252, 253, 254, 255, 256, 257, 258, 259, 260, 261, 262, 263, 264, 265, 266, 267, 268, 269] (by decide +kernel) (by decide +kernel)
set_option maxRecDepth 20000 in
theorem gX8_against_X8_isLifter : GoodIn wsX8_against (wsV RX8 97 RX8 yX8_isLifter wsX8_isLifter) := goodIn_app (goodIn_of _ (by decide +kernel)) ggX8_against_X8_isLifter
set_option maxRecDepth 20000 in
theorem ggX8_against_X8_aimToBeat : GoodIn wsX8_against wsX8_aimToBeat := goodIn_r _ [11, 12, 13, 14, 15, 16, 17, 4, 18, 19, 6, 20, 21, 22, 23, 24, 25, 26, 27, 28, 29, 30, 31, 32, 33, 34, 35, 36, 37, 38, 39, 40, 41, 42, 43, 44, 45, 46, 47, 48, 49, 50, 51, 52, 53, 54, 55, 56, 57, 58, 59, 60, 61, 62, 63, 64, 65, 66, 67, 68, 69, 70, 71, 72, 73, 74, 75, 76, 77, 78, 79, 80, 81, 82, 83, 84, 85, 86, 87, 88, 89, 90, 91, 92, 93, 94, 95, 96, 97, 98, 99, 100, 101, 102, 103, 104, 105, 106, 107, 108, 109, 110, 111, 112, 113, 114, 115, 116, 117, 118, 119, 120, 121, 122, 123, 124, 125, 126, 127, 128, 129, 130, 131, 132, 133, 134, 135, 242, 243, 244, 245, 246, 247, 248, 249, 250, 251, 252, 253, 254, 255, 256, 257, 258, 259, 260, 261, 262, 263, 264, 265, 266, 267, 268, 269, 270, 271, 272, 273, 274, 275, 276, 277, 278, 279, 280, 281, 282, 283, 284, 285, 286, 287] (by decide +kernel) (by decide +kernel)
set_option maxRecDepth 20000 in
theorem gX8_against_X8_aimToBeat : GoodIn wsX8_against (wsV RX8 207 RX8 yX8_aimToBeat wsX8_aimToBeat) := goodIn_app (goodIn_of _ (by decide +kernel)) ggX8_against_X8_aimToBeat
set_option maxRecDepth 20000 in
theorem ggX8_against_X8_byChoice : GoodIn wsX8_against wsX8_byChoice := goodIn_r _ [139, 21, 6, 140, 141, 142, 143, 4, 144, 145, 146, 147, 148, 12, 13, 20, 149, 150, 151, 152, 153, 154, 155, 156, 157, 158, 159, 160, 161, 162, 163, 164, 165, 166, 167, 24, 25, 26, 27, 28, 29, 30, 31, 32, 33, 34, 35, 168, 169, 170, 171, 172, 173, 174, 175, 176, 177, 178, 112, 113, 114, 115, 116, 117, 85, 86, 87, 179, 46, 47, 48, 49, 50, 51, 52, 53, 54, 55, 56, 57, 58, 59, 60, 61, 62, 63, 64, 65, 66, 67, 68, 69, 70, 71, 72, 73, 74, 75, 76, 77, 78, 79, 80, 81, 82, 83, 84, 180, 181, 182, 183, 184, 185, 186, 187, 188, 189, 190, 191, 192, 193, 194, 195, 196, 197, 198, 199, 200, 201, 202, 203, 204, 205, 206, 207, 208, 209, 210, 211, 212, 213, 214, 215, 216, 217, 218, 118, 119, 219, 220, 221, 222, 223, 224, 225, 226, 227, 228, 229, 230, 231, 232, 233, 234, 235, 19, 36, 37, 38, 39, 40, 41, 42, 43, 44, 45, 88, 89, 90, 91, 92, 93, 94, 95, 96, 97, 98, 99, 100, 101, 102, 103, 104, 105, 106, 107, 108, 109, 110, 111, 236, 237, 238, 239, 240, 241, 242, 243, 244, 245, 246, 247, 248, 249, 250, 251, 252, 253, 288, 289, 290, 291, 292, 293, 294, 295, 296, 297, 298, 299, 254, 255, 256, 257, 258, 259, 260, 261, 262, 263, 264, 265, 266, 267, 268, 269, 278, 279, 284, 285, 286, 287, 270, 271, 272, 273, 274, 275, 276, 277, 280, 281, 282, 283] (by decide +kernel) (by decide +kernel)
set_option maxRecDepth 20000 in
theorem gX8_against_X8_byChoice : GoodIn wsX8_against (wsV RX8 218 RX8 yX8_byChoice wsX8_byChoice) := goodIn_app (goodIn_of _ (by decide +kernel)) ggX8_against_X8_byChoice
theorem dX8_against_0 : decode cX8_against 0 = .ok (.aload_n 0, 1) := by decide +kernel
theorem dX8_against_1 : decode cX8_against 1 = .ok (.iload_n 1, 1) := by decide +kernel
theorem dX8_against_2 : decode cX8_against 2 = .ok (.invokevirtual 97, 3) := by decide +kernel
theorem dX8_against_5 : decode cX8_against 5 = .ok (.ifCond .eq 16, 3) := by decide +kernel
theorem dX8_against_8 : decode cX8_against 8 = .ok (.aload_n 0, 1) := by decide +kernel
theorem dX8_against_9 : decode cX8_against 9 = .ok (.iload_n 2, 1) := by decide +kernel
theorem dX8_against_10 : decode cX8_against 10 = .ok (.invokevirtual 97, 3) := by decide +kernel
theorem dX8_against_13 : decode cX8_against 13 = .ok (.ifCond .eq 8, 3) := by decide +kernel
theorem dX8_against_16 : decode cX8_against 16 = .ok (.iload_n 1, 1) := by decide +kernel
theorem dX8_against_17 : decode cX8_against 17 = .ok (.iload_n 2, 1) := by decide +kernel
theorem dX8_against_18 : decode cX8_against 18 = .ok (.if_icmp .ne 5, 3) := by decide +kernel
theorem dX8_against_21 : decode cX8_against 21 = .ok (.iconst (-1), 1) := by decide +kernel
theorem dX8_against_22 : decode cX8_against 22 = .ok (.ireturn, 1) := by decide +kernel
theorem dX8_against_23 : decode cX8_against 23 = .ok (.aload_n 0, 1) := by decide +kernel
theorem dX8_against_24 : decode cX8_against 24 = .ok (.iload_n 1, 1) := by decide +kernel
theorem dX8_against_25 : decode cX8_against 25 = .ok (.iload_n 2, 1) := by decide +kernel
theorem dX8_against_26 : decode cX8_against 26 = .ok (.invokevirtual 207, 3) := by decide +kernel
theorem dX8_against_29 : decode cX8_against 29 = .ok (.aload_n 0, 1) := by decide +kernel
theorem dX8_against_30 : decode cX8_against 30 = .ok (.iload_n 1, 1) := by decide +kernel
theorem dX8_against_31 : decode cX8_against 31 = .ok (.invokevirtual 218, 3) := by decide +kernel
theorem dX8_against_34 : decode cX8_against 34 = .ok (.ireturn, 1) := by decide +kernel
set_option maxRecDepth 20000 in
theorem ggX8_gold_X8_isLifter : GoodIn wsX8_gold wsX8_isLifter := goodIn_r _ [5, 6, 7, 246, 247, 248, 249, 250, 251, 252, 253, 254, 255, 256, 257, 258, 259, 260, 261, 262, 263, 264, 265, 266, 267, 268, 269, 270, 271, 272, 273] (by decide +kernel) (by decide +kernel)
set_option maxRecDepth 20000 in
theorem gX8_gold_X8_isLifter : GoodIn wsX8_gold (wsV RX8 97 RX8 yX8_isLifter wsX8_isLifter) := goodIn_app (goodIn_of _ (by decide +kernel)) ggX8_gold_X8_isLifter
set_option maxRecDepth 20000 in
theorem ggX8_gold_X8_aimToWin : GoodIn wsX8_gold wsX8_aimToWin := goodIn_r _ [11, 6, 7, 12, 13, 14, 4, 15, 16, 17, 18, 19, 20, 21, 22, 23, 24, 25, 26, 27, 28, 29, 30, 31, 32, 33, 34, 35, 36, 37, 38, 39, 40, 41, 42, 43, 44, 45, 46, 47, 48, 49, 50, 51, 52, 53, 54, 55, 56, 57, 58, 59, 60, 61, 62, 63, 64, 65, 66, 67, 68, 69, 70, 71, 72, 73, 74, 75, 76, 77, 78, 79, 80, 81, 82, 83, 84, 85, 86, 87, 88, 89, 90, 91, 92, 93, 94, 95, 96, 97, 98, 99, 100, 101, 102, 103, 104, 105, 106, 107, 108, 109, 110, 111, 112, 113, 114, 115, 116, 117, 118, 119, 120, 121, 122, 123, 124, 125, 126, 127, 128, 129, 130, 131, 132, 133, 134, 135, 136, 137, 138, 139, 246, 247, 248, 249, 250, 251, 252, 253, 254, 255, 256, 257, 258, 259, 260, 261, 262, 263, 264, 265, 266, 267, 268, 269, 270, 271, 272, 273, 274, 275, 276, 277, 278, 279, 280, 281, 282, 283, 284, 285, 286, 287, 288, 289, 290, 291] (by decide +kernel) (by decide +kernel)
set_option maxRecDepth 20000 in
theorem gX8_gold_X8_aimToWin : GoodIn wsX8_gold (wsV RX8 238 RX8 yX8_aimToWin wsX8_aimToWin) := goodIn_app (goodIn_of _ (by decide +kernel)) ggX8_gold_X8_aimToWin
set_option maxRecDepth 20000 in
theorem ggX8_gold_X8_byChoice : GoodIn wsX8_gold wsX8_byChoice := goodIn_r _ [143, 20, 6, 144, 145, 146, 147, 4, 148, 149, 150, 151, 152, 16, 18, 19, 153, 154, 155, 156, 157, 158, 159, 160, 161, 162, 163, 164, 165, 166, 167, 168, 169, 170, 171, 24, 25, 26, 27, 28, 29, 30, 31, 32, 33, 34, 35, 172, 173, 174, 175, 176, 177, 178, 179, 180, 181, 182, 112, 113, 114, 115, 116, 117, 85, 86, 87, 183, 46, 47, 48, 49, 50, 51, 52, 53, 54, 55, 56, 57, 58, 59, 60, 61, 62, 63, 64, 65, 66, 67, 68, 69, 70, 71, 72, 73, 74, 75, 76, 77, 78, 79, 80, 81, 82, 83, 84, 184, 185, 186, 187, 188, 189, 190, 191, 192, 193, 194, 195, 196, 197, 198, 199, 200, 201, 202, 203, 204, 205, 206, 207, 208, 209, 210, 211, 212, 213, 214, 215, 216, 217, 218, 219, 220, 221, 222, 118, 119, 223, 224, 225, 226, 227, 228, 229, 230, 231, 232, 233, 234, 235, 236, 237, 238, 239, 17, 36, 37, 38, 39, 40, 41, 42, 43, 44, 45, 88, 89, 90, 91, 92, 93, 94, 95, 96, 97, 98, 99, 100, 101, 102, 103, 104, 105, 106, 107, 108, 109, 110, 111, 240, 241, 242, 243, 244, 245, 246, 247, 248, 249, 250, 251, 252, 253, 254, 255, 256, 257, 292, 293, 294, 295, 296, 297, 298, 299, 300, 301, 302, 303, 258, 259, 260, 261, 262, 263, 264, 265, 266, 267, 268, 269, 270, 271, 272, 273, 282, 283, 288, 289, 290, 291, 274, 275, 276, 277, 278, 279, 280, 281, 284, 285, 286, 287] (by decide +kernel) (by decide +kernel)
set_option maxRecDepth 20000 in
theorem gX8_gold_X8_byChoice : GoodIn wsX8_gold (wsV RX8 218 RX8 yX8_byChoice wsX8_byChoice) := goodIn_app (goodIn_of _ (by decide +kernel)) ggX8_gold_X8_byChoice
theorem dX8_gold_0 : decode cX8_gold 0 = .ok (.aload_n 0, 1) := by decide +kernel
theorem dX8_gold_1 : decode cX8_gold 1 = .ok (.iload_n 1, 1) := by decide +kernel
theorem dX8_gold_2 : decode cX8_gold 2 = .ok (.invokevirtual 97, 3) := by decide +kernel
theorem dX8_gold_5 : decode cX8_gold 5 = .ok (.ifCond .ne 5, 3) := by decide +kernel
theorem dX8_gold_8 : decode cX8_gold 8 = .ok (.iconst (-1), 1) := by decide +kernel
theorem dX8_gold_9 : decode cX8_gold 9 = .ok (.ireturn, 1) := by decide +kernel
theorem dX8_gold_10 : decode cX8_gold 10 = .ok (.aload_n 0, 1) := by decide +kernel
theorem dX8_gold_11 : decode cX8_gold 11 = .ok (.iload_n 1, 1) := by decide +kernel
theorem dX8_gold_12 : decode cX8_gold 12 = .ok (.invokevirtual 238, 3) := by decide +kernel
theorem dX8_gold_15 : decode cX8_gold 15 = .ok (.aload_n 0, 1) := by decide +kernel
theorem dX8_gold_16 : decode cX8_gold 16 = .ok (.iload_n 1, 1) := by decide +kernel
theorem dX8_gold_17 : decode cX8_gold 17 = .ok (.invokevirtual 218, 3) := by decide +kernel
theorem dX8_gold_20 : decode cX8_gold 20 = .ok (.ireturn, 1) := by decide +kernel
set_option maxRecDepth 20000 in
theorem ggX8_line_X8_isLifter : GoodIn wsX8_line wsX8_isLifter := goodIn_r _ [11, 3, 12, 242, 243, 244, 245, 246, 247, 248, 249, 250, 251, 252, 253, 266, 267, 268, 269, 270, 271, 272, 273, 274, 275, 276, 277, 278, 279, 280, 281] (by decide +kernel) (by decide +kernel)
set_option maxRecDepth 20000 in
theorem gX8_line_X8_isLifter : GoodIn wsX8_line (wsV RX8 97 RX8 yX8_isLifter wsX8_isLifter) := goodIn_app (goodIn_of _ (by decide +kernel)) ggX8_line_X8_isLifter
set_option maxRecDepth 20000 in
theorem ggX8_line_X0_beMass : GoodIn wsX8_line wsX0_beMass := goodIn_r _ [17, 18, 19, 282, 283] (by decide +kernel) (by decide +kernel)
set_option maxRecDepth 20000 in
theorem gX8_line_X0_beMass : GoodIn wsX8_line (wsV RX8 191 RX0 yX0_beMass wsX0_beMass) := goodIn_app (goodIn_of _ (by decide +kernel)) ggX8_line_X0_beMass
set_option maxRecDepth 20000 in
theorem ggX8_line_X8_aimToWin : GoodIn wsX8_line wsX8_aimToWin := goodIn_r _ [23, 3, 12, 24, 25, 26, 10, 27, 1, 28, 29, 30, 2, 31, 32, 33, 34, 35, 36, 16, 37, 38, 39, 40, 41, 18, 42, 19, 43, 44, 45, 46, 47, 48, 49, 50, 51, 52, 53, 54, 55, 56, 57, 58, 59, 60, 61, 62, 63, 64, 65, 66, 67, 68, 69, 70, 71, 72, 73, 74, 75, 76, 77, 78, 79, 80, 81, 82, 83, 84, 85, 86, 87, 88, 89, 90, 91, 92, 93, 94, 95, 96, 97, 98, 99, 100, 101, 102, 103, 104, 105, 106, 107, 108, 109, 110, 111, 112, 113, 114, 115, 116, 117, 118, 119, 120, 121, 122, 123, 124, 125, 126, 127, 128, 129, 130, 131, 132, 133, 134, 135, 136, 137, 138, 139, 140, 141, 142, 143, 144, 145, 146, 242, 243, 244, 245, 246, 247, 248, 249, 250, 251, 252, 253, 266, 267, 268, 269, 270, 271, 272, 273, 274, 275, 276, 277, 278, 279, 280, 281, 284, 285, 286, 287, 288, 289, 290, 291, 282, 283, 292, 293, 294, 295, 296, 297, 298, 299] (by decide +kernel) (by decide +kernel)
set_option maxRecDepth 20000 in
theorem gX8_line_X8_aimToWin : GoodIn wsX8_line (wsV RX8 238 RX8 yX8_aimToWin wsX8_aimToWin) := goodIn_app (goodIn_of _ (by decide +kernel)) ggX8_line_X8_aimToWin
set_option maxRecDepth 20000 in
theorem ggX8_line_X8_thinkFreely : GoodIn wsX8_line wsX8_thinkFreely := goodIn_r _ [150, 151, 152, 153, 154, 1, 29, 3, 30, 155, 156, 157, 158, 159, 160, 161, 162, 163, 164, 165, 166, 167, 168, 169, 170, 171, 172, 173, 34, 35, 36, 16, 37, 38, 39, 40, 41, 18, 42, 19, 174, 175, 176, 177, 178, 179, 180, 181, 182, 183, 184, 119, 120, 121, 122, 123, 124, 92, 93, 94, 185, 53, 54, 55, 242, 243, 244, 245, 246, 247, 248, 249, 250, 251, 252, 253, 254, 255, 256, 257, 258, 259, 260, 261, 262, 263, 264, 265, 266, 267, 268, 269, 270, 271, 272, 273, 274, 275, 276, 277, 278, 279, 280, 281, 282, 283, 296, 297, 298, 299] (by decide +kernel) (by decide +kernel)
set_option maxRecDepth 20000 in
theorem gX8_line_X8_thinkFreely : GoodIn wsX8_line (wsV RX8 221 RX8 yX8_thinkFreely wsX8_thinkFreely) := goodIn_app (goodIn_of _ (by decide +kernel)) ggX8_line_X8_thinkFreely
set_option maxRecDepth 20000 in
theorem ggX8_line_X5_look : GoodIn wsX8_line wsX5_look := goodIn_r _ [60, 61, 62, 63, 64, 65, 66, 67, 68, 69, 70, 71, 72, 73, 74, 75, 76, 77, 78, 79, 80, 81, 82, 83, 84, 85, 86, 87, 88, 89, 90, 91, 92, 93, 94, 266, 267, 268, 269, 270, 271, 272, 273, 274, 275, 276, 277, 278, 279, 280, 281, 284, 285, 286, 287, 288, 289, 290, 291] (by decide +kernel) (by decide +kernel)
