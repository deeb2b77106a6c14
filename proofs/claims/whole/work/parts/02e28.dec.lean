set_option maxRecDepth 20000 in
theorem gX9_heavy_X9_aimsMass : GoodIn wsX9_heavy (wsV RX9 301 RX9 yX9_aimsMass wsX9_aimsMass) := goodIn_app (goodIn_of _ (by decide +kernel)) ggX9_heavy_X9_aimsMass
set_option maxRecDepth 20000 in
theorem ggX9_heavy_X9_tellsFree : GoodIn wsX9_heavy wsX9_tellsFree := goodIn_r _ [19, 20, 21, 22, 23, 24, 5, 25, 15, 26, 27, 28, 29, 30, 31, 32, 33, 34, 35, 36, 37, 38, 39, 40, 41, 42, 43, 44, 45, 46, 47, 48, 49, 50, 51, 52, 53, 54, 55, 56, 57, 58, 59, 60, 61, 62, 63, 64, 65, 66, 67, 68, 69, 70, 71, 72, 73, 74, 75, 76, 77, 78, 79, 80, 81, 82, 83, 84, 85, 86, 87, 88, 89, 90, 91, 92, 93, 94, 95, 96, 97, 98, 99, 100, 101, 102, 103, 104, 105, 106, 107, 108, 109, 110, 111, 112, 113, 114, 115, 116, 117, 118, 119, 120, 121, 122, 123, 124, 125, 126, 127, 128, 129, 130, 131, 132, 133, 134, 135, 136, 137, 138, 139, 140, 141, 142, 143, 144, 145, 146, 147, 148, 149, 150, 151, 152, 153, 154, 155, 156, 157, 158, 159, 160, 161, 162, 163, 164, 165, 166, 167, 168, 169, 170, 171, 172] (by decide +kernel) (by decide +kernel)
set_option maxRecDepth 20000 in
theorem gX9_heavy_X9_tellsFree : GoodIn wsX9_heavy (wsV RX9 358 RX9 yX9_tellsFree wsX9_tellsFree) := goodIn_app (goodIn_of _ (by decide +kernel)) ggX9_heavy_X9_tellsFree
theorem dX9_heavy_0 : decode cX9_heavy 0 = .ok (.aload_n 0, 1) := by decide +kernel
theorem dX9_heavy_1 : decode cX9_heavy 1 = .ok (.iconst 0, 1) := by decide +kernel
theorem dX9_heavy_2 : decode cX9_heavy 2 = .ok (.putfield 77, 3) := by decide +kernel
theorem dX9_heavy_5 : decode cX9_heavy 5 = .ok (.aload_n 0, 1) := by decide +kernel
theorem dX9_heavy_6 : decode cX9_heavy 6 = .ok (.iload_n 1, 1) := by decide +kernel
theorem dX9_heavy_7 : decode cX9_heavy 7 = .ok (.invokevirtual 233, 3) := by decide +kernel
theorem dX9_heavy_10 : decode cX9_heavy 10 = .ok (.ifCond .ne 5, 3) := by decide +kernel
theorem dX9_heavy_13 : decode cX9_heavy 13 = .ok (.iconst (-1), 1) := by decide +kernel
theorem dX9_heavy_14 : decode cX9_heavy 14 = .ok (.ireturn, 1) := by decide +kernel
theorem dX9_heavy_15 : decode cX9_heavy 15 = .ok (.aload_n 0, 1) := by decide +kernel
theorem dX9_heavy_16 : decode cX9_heavy 16 = .ok (.invokevirtual 301, 3) := by decide +kernel
theorem dX9_heavy_19 : decode cX9_heavy 19 = .ok (.aload_n 0, 1) := by decide +kernel
theorem dX9_heavy_20 : decode cX9_heavy 20 = .ok (.iload_n 1, 1) := by decide +kernel
theorem dX9_heavy_21 : decode cX9_heavy 21 = .ok (.invokevirtual 358, 3) := by decide +kernel
theorem dX9_heavy_24 : decode cX9_heavy 24 = .ok (.ireturn, 1) := by decide +kernel
set_option maxRecDepth 20000 in
theorem ggX9_reach_X9_isLifter : GoodIn wsX9_reach wsX9_isLifter := goodIn_r _ [6, 7, 8, 9, 5, 10, 138, 139, 140, 141, 142, 143, 144, 145, 146, 147, 148, 149, 150, 151, 152, 153, 154, 155, 156, 157, 158, 159, 160, 161, 162, 163, 164, 165, 166, 167, 168, 169, 170, 171, 172, 173, 174, 175, 176, 177] (by decide +kernel) (by decide +kernel)
set_option maxRecDepth 20000 in
theorem gX9_reach_X9_isLifter : GoodIn wsX9_reach (wsV RX9 233 RX9 yX9_isLifter wsX9_isLifter) := goodIn_app (goodIn_of _ (by decide +kernel)) ggX9_reach_X9_isLifter
set_option maxRecDepth 20000 in
theorem ggX9_reach_X9_isTotal : GoodIn wsX9_reach wsX9_isTotal := goodIn_r _ [13, 14, 8, 9, 5, 10] (by decide +kernel) (by decide +kernel)
set_option maxRecDepth 20000 in
theorem gX9_reach_X9_isTotal : GoodIn wsX9_reach (va_wsS RX9 306 yX9_isTotal wsX9_isTotal) := goodIn_app (goodIn_of _ (by decide +kernel)) ggX9_reach_X9_isTotal
set_option maxRecDepth 20000 in
theorem ggX9_reach_X9_aimsReach : GoodIn wsX9_reach wsX9_aimsReach := goodIn_r _ [18, 19, 20, 138, 139, 140, 141, 142, 143, 144, 145, 146, 147, 148, 149, 150, 151, 152, 153, 154, 155, 156, 157, 158, 159, 160, 161, 162, 163, 164, 165, 166, 167, 168, 169, 170, 171, 172, 173, 174, 175, 176, 177] (by decide +kernel) (by decide +kernel)
set_option maxRecDepth 20000 in
theorem gX9_reach_X9_aimsReach : GoodIn wsX9_reach (wsV RX9 283 RX9 yX9_aimsReach wsX9_aimsReach) := goodIn_app (goodIn_of _ (by decide +kernel)) ggX9_reach_X9_aimsReach
set_option maxRecDepth 20000 in
theorem ggX9_reach_X9_tellsFree : GoodIn wsX9_reach wsX9_tellsFree := goodIn_r _ [24, 25, 26, 27, 28, 29, 5, 30, 19, 31, 32, 33, 34, 35, 36, 37, 38, 39, 40, 41, 42, 43, 44, 45, 46, 47, 48, 49, 50, 51, 52, 53, 54, 55, 56, 57, 58, 59, 60, 61, 62, 63, 64, 65, 66, 67, 68, 69, 70, 71, 72, 73, 74, 75, 76, 77, 78, 79, 80, 81, 82, 83, 84, 85, 86, 87, 88, 89, 90, 91, 92, 93, 94, 95, 96, 97, 98, 99, 100, 101, 102, 103, 104, 105, 106, 107, 108, 109, 110, 111, 112, 113, 114, 115, 116, 117, 118, 119, 120, 121, 122, 123, 124, 125, 126, 127, 128, 129, 130, 131, 132, 133, 134, 135, 136, 137, 138, 139, 140, 141, 142, 143, 144, 145, 146, 147, 148, 149, 150, 151, 152, 153, 154, 155, 156, 157, 158, 159, 160, 161, 162, 163, 164, 165, 166, 167, 168, 169, 170, 171, 172, 173, 174, 175, 176, 177] (by decide +kernel) (by decide +kernel)
set_option maxRecDepth 20000 in
theorem gX9_reach_X9_tellsFree : GoodIn wsX9_reach (wsV RX9 358 RX9 yX9_tellsFree wsX9_tellsFree) := goodIn_app (goodIn_of _ (by decide +kernel)) ggX9_reach_X9_tellsFree
theorem dX9_reach_0 : decode cX9_reach 0 = .ok (.aload_n 0, 1) := by decide +kernel
theorem dX9_reach_1 : decode cX9_reach 1 = .ok (.iconst 0, 1) := by decide +kernel
theorem dX9_reach_2 : decode cX9_reach 2 = .ok (.putfield 77, 3) := by decide +kernel
theorem dX9_reach_5 : decode cX9_reach 5 = .ok (.aload_n 0, 1) := by decide +kernel
theorem dX9_reach_6 : decode cX9_reach 6 = .ok (.iload_n 1, 1) := by decide +kernel
theorem dX9_reach_7 : decode cX9_reach 7 = .ok (.invokevirtual 233, 3) := by decide +kernel
theorem dX9_reach_10 : decode cX9_reach 10 = .ok (.ifCond .eq 10, 3) := by decide +kernel
theorem dX9_reach_13 : decode cX9_reach 13 = .ok (.iload_n 2, 1) := by decide +kernel
theorem dX9_reach_14 : decode cX9_reach 14 = .ok (.invokestatic 306, 3) := by decide +kernel
theorem dX9_reach_17 : decode cX9_reach 17 = .ok (.ifCond .ne 5, 3) := by decide +kernel
theorem dX9_reach_20 : decode cX9_reach 20 = .ok (.iconst (-1), 1) := by decide +kernel
theorem dX9_reach_21 : decode cX9_reach 21 = .ok (.ireturn, 1) := by decide +kernel
theorem dX9_reach_22 : decode cX9_reach 22 = .ok (.aload_n 0, 1) := by decide +kernel
theorem dX9_reach_23 : decode cX9_reach 23 = .ok (.iload_n 2, 1) := by decide +kernel
theorem dX9_reach_24 : decode cX9_reach 24 = .ok (.invokevirtual 283, 3) := by decide +kernel
theorem dX9_reach_27 : decode cX9_reach 27 = .ok (.aload_n 0, 1) := by decide +kernel
theorem dX9_reach_28 : decode cX9_reach 28 = .ok (.iload_n 1, 1) := by decide +kernel
theorem dX9_reach_29 : decode cX9_reach 29 = .ok (.invokevirtual 358, 3) := by decide +kernel
theorem dX9_reach_32 : decode cX9_reach 32 = .ok (.ireturn, 1) := by decide +kernel
set_option maxRecDepth 20000 in
theorem ggX9_aim_X9_isLifter : GoodIn wsX9_aim wsX9_isLifter := goodIn_r _ [8, 9, 10, 11, 7, 12, 110, 111, 112, 113, 114, 115, 116, 117, 118, 119, 120, 121, 122, 123, 124, 125, 126, 127, 128, 129, 130, 131, 132, 133, 134, 135, 136, 137, 138, 139, 140, 141, 142, 143, 144, 145, 146, 147, 148, 149] (by decide +kernel) (by decide +kernel)
set_option maxRecDepth 20000 in
theorem gX9_aim_X9_isLifter : GoodIn wsX9_aim (wsV RX9 233 RX9 yX9_isLifter wsX9_isLifter) := goodIn_app (goodIn_of _ (by decide +kernel)) ggX9_aim_X9_isLifter
set_option maxRecDepth 20000 in
theorem ggX9_aim_X9_in : GoodIn wsX9_aim wsX9_in := goodIn_r _ [12] (by decide +kernel) (by decide +kernel)
set_option maxRecDepth 20000 in
theorem gX9_aim_X9_in : GoodIn wsX9_aim (va_wsS RX9 87 yX9_in wsX9_in) := goodIn_app (goodIn_of _ (by decide +kernel)) ggX9_aim_X9_in
set_option maxRecDepth 20000 in
theorem ggX9_aim_X9_aimsReach : GoodIn wsX9_aim wsX9_aimsReach := goodIn_r _ [16, 17, 18, 110, 111, 112, 113, 114, 115, 116, 117, 118, 119, 120, 121, 122, 123, 124, 125, 126, 127, 128, 129, 130, 131, 132, 133, 134, 135, 136, 137, 138, 139, 140, 141, 142, 143, 144, 145, 146, 147, 148, 149] (by decide +kernel) (by decide +kernel)
set_option maxRecDepth 20000 in
theorem gX9_aim_X9_aimsReach : GoodIn wsX9_aim (wsV RX9 283 RX9 yX9_aimsReach wsX9_aimsReach) := goodIn_app (goodIn_of _ (by decide +kernel)) ggX9_aim_X9_aimsReach
set_option maxRecDepth 20000 in
theorem ggX9_aim_X9_freeNow : GoodIn wsX9_aim wsX9_freeNow := goodIn_r _ [22, 23, 17, 24, 25, 26, 27, 28, 7, 29, 30, 31, 32, 33, 34, 35, 36, 37, 38, 39, 40, 41, 42, 43, 44, 45, 46, 47, 48, 49, 50, 51, 52, 53, 54, 55, 56, 57, 58, 59, 60, 61, 62, 63, 64, 65, 66, 67, 68, 69, 70, 71, 72, 73, 74, 75, 76, 77, 78, 79, 80, 81, 82, 83, 84, 85, 86, 87, 88, 89, 90, 91, 92, 93, 94, 95, 96, 97, 98, 99, 100, 101, 102, 103, 104, 110, 111, 112, 113, 114, 115, 116, 117, 118, 119, 120, 121, 122, 123, 124, 125, 126, 127, 128, 129, 130, 131, 132, 133, 134, 135, 136, 137, 138, 139, 140, 141, 142, 143, 144, 145, 146, 147, 148, 149] (by decide +kernel) (by decide +kernel)
set_option maxRecDepth 20000 in
theorem gX9_aim_X9_freeNow : GoodIn wsX9_aim (wsV RX9 355 RX9 yX9_freeNow wsX9_freeNow) := goodIn_app (goodIn_of _ (by decide +kernel)) ggX9_aim_X9_freeNow
set_option maxRecDepth 20000 in
theorem ggX9_aim_X9_notes : GoodIn wsX9_aim wsX9_notes := goodIn_r _ [108, 109, 3, 110, 111, 112, 113, 114, 115, 116, 117, 118, 119, 120, 121, 122, 123, 124, 125, 126, 127, 128, 129, 130, 131, 132, 133, 134, 135, 136, 137, 138, 139, 140, 141, 142, 143, 144, 145, 146, 147, 148, 149] (by decide +kernel) (by decide +kernel)
set_option maxRecDepth 20000 in
theorem gX9_aim_X9_notes : GoodIn wsX9_aim (wsV RX9 180 RX9 yX9_notes wsX9_notes) := goodIn_app (goodIn_of _ (by decide +kernel)) ggX9_aim_X9_notes
theorem dX9_aim_0 : decode cX9_aim 0 = .ok (.aload_n 0, 1) := by decide +kernel
theorem dX9_aim_1 : decode cX9_aim 1 = .ok (.iconst 0, 1) := by decide +kernel
theorem dX9_aim_2 : decode cX9_aim 2 = .ok (.putfield 77, 3) := by decide +kernel
theorem dX9_aim_5 : decode cX9_aim 5 = .ok (.aload_n 0, 1) := by decide +kernel
theorem dX9_aim_6 : decode cX9_aim 6 = .ok (.iload_n 1, 1) := by decide +kernel
theorem dX9_aim_7 : decode cX9_aim 7 = .ok (.invokevirtual 233, 3) := by decide +kernel
theorem dX9_aim_10 : decode cX9_aim 10 = .ok (.ifCond .eq 15, 3) := by decide +kernel
theorem dX9_aim_13 : decode cX9_aim 13 = .ok (.iload_n 2, 1) := by decide +kernel
theorem dX9_aim_14 : decode cX9_aim 14 = .ok (.i2l, 1) := by decide +kernel
theorem dX9_aim_15 : decode cX9_aim 15 = .ok (.lconst 1, 1) := by decide +kernel
theorem dX9_aim_16 : decode cX9_aim 16 = .ok (.ldc2_w 299, 3) := by decide +kernel
theorem dX9_aim_19 : decode cX9_aim 19 = .ok (.invokestatic 87, 3) := by decide +kernel
theorem dX9_aim_22 : decode cX9_aim 22 = .ok (.ifCond .ne 5, 3) := by decide +kernel
theorem dX9_aim_25 : decode cX9_aim 25 = .ok (.iconst (-1), 1) := by decide +kernel
theorem dX9_aim_26 : decode cX9_aim 26 = .ok (.ireturn, 1) := by decide +kernel
theorem dX9_aim_27 : decode cX9_aim 27 = .ok (.iconst 0, 1) := by decide +kernel
theorem dX9_aim_28 : decode cX9_aim 28 = .ok (.istore_n 3, 1) := by decide +kernel
theorem dX9_aim_29 : decode cX9_aim 29 = .ok (.bipush 121, 2) := by decide +kernel
theorem dX9_aim_31 : decode cX9_aim 31 = .ok (.istore 4, 2) := by decide +kernel
theorem dX9_aim_33 : decode cX9_aim 33 = .ok (.iload 4, 2) := by decide +kernel
theorem dX9_aim_35 : decode cX9_aim 35 = .ok (.iload_n 3, 1) := by decide +kernel
theorem dX9_aim_36 : decode cX9_aim 36 = .ok (.iconst 1, 1) := by decide +kernel
theorem dX9_aim_37 : decode cX9_aim 37 = .ok (.iadd, 1) := by decide +kernel
theorem dX9_aim_38 : decode cX9_aim 38 = .ok (.if_icmp .le 39, 3) := by decide +kernel
theorem dX9_aim_41 : decode cX9_aim 41 = .ok (.iload_n 3, 1) := by decide +kernel
theorem dX9_aim_42 : decode cX9_aim 42 = .ok (.iload 4, 2) := by decide +kernel
theorem dX9_aim_44 : decode cX9_aim 44 = .ok (.iadd, 1) := by decide +kernel
theorem dX9_aim_45 : decode cX9_aim 45 = .ok (.iconst 2, 1) := by decide +kernel
theorem dX9_aim_46 : decode cX9_aim 46 = .ok (.idiv, 1) := by decide +kernel
theorem dX9_aim_47 : decode cX9_aim 47 = .ok (.istore 5, 2) := by decide +kernel
theorem dX9_aim_49 : decode cX9_aim 49 = .ok (.aload_n 0, 1) := by decide +kernel
theorem dX9_aim_50 : decode cX9_aim 50 = .ok (.iload 5, 2) := by decide +kernel
theorem dX9_aim_52 : decode cX9_aim 52 = .ok (.invokevirtual 283, 3) := by decide +kernel
theorem dX9_aim_55 : decode cX9_aim 55 = .ok (.aload_n 0, 1) := by decide +kernel
theorem dX9_aim_56 : decode cX9_aim 56 = .ok (.iload_n 1, 1) := by decide +kernel
theorem dX9_aim_57 : decode cX9_aim 57 = .ok (.invokevirtual 355, 3) := by decide +kernel
theorem dX9_aim_60 : decode cX9_aim 60 = .ok (.iload_n 2, 1) := by decide +kernel
theorem dX9_aim_61 : decode cX9_aim 61 = .ok (.if_icmp .lt 9, 3) := by decide +kernel
theorem dX9_aim_64 : decode cX9_aim 64 = .ok (.iload 5, 2) := by decide +kernel
theorem dX9_aim_66 : decode cX9_aim 66 = .ok (.istore_n 3, 1) := by decide +kernel
theorem dX9_aim_67 : decode cX9_aim 67 = .ok (.goto 7, 3) := by decide +kernel
theorem dX9_aim_70 : decode cX9_aim 70 = .ok (.iload 5, 2) := by decide +kernel
theorem dX9_aim_72 : decode cX9_aim 72 = .ok (.istore 4, 2) := by decide +kernel
theorem dX9_aim_74 : decode cX9_aim 74 = .ok (.goto (-41), 3) := by decide +kernel
theorem dX9_aim_77 : decode cX9_aim 77 = .ok (.aload_n 0, 1) := by decide +kernel
theorem dX9_aim_78 : decode cX9_aim 78 = .ok (.iload_n 3, 1) := by decide +kernel
theorem dX9_aim_79 : decode cX9_aim 79 = .ok (.invokevirtual 283, 3) := by decide +kernel
theorem dX9_aim_82 : decode cX9_aim 82 = .ok (.aload_n 0, 1) := by decide +kernel
theorem dX9_aim_83 : decode cX9_aim 83 = .ok (.iload_n 1, 1) := by decide +kernel
theorem dX9_aim_84 : decode cX9_aim 84 = .ok (.invokevirtual 355, 3) := by decide +kernel
theorem dX9_aim_87 : decode cX9_aim 87 = .ok (.i2l, 1) := by decide +kernel
theorem dX9_aim_88 : decode cX9_aim 88 = .ok (.lstore 5, 2) := by decide +kernel
theorem dX9_aim_90 : decode cX9_aim 90 = .ok (.aload_n 0, 1) := by decide +kernel
theorem dX9_aim_91 : decode cX9_aim 91 = .ok (.iconst 0, 1) := by decide +kernel
theorem dX9_aim_92 : decode cX9_aim 92 = .ok (.putfield 81, 3) := by decide +kernel
theorem dX9_aim_95 : decode cX9_aim 95 = .ok (.aload_n 0, 1) := by decide +kernel
theorem dX9_aim_96 : decode cX9_aim 96 = .ok (.lload 5, 2) := by decide +kernel
theorem dX9_aim_98 : decode cX9_aim 98 = .ok (.invokevirtual 180, 3) := by decide +kernel
theorem dX9_aim_101 : decode cX9_aim 101 = .ok (.iload_n 3, 1) := by decide +kernel
theorem dX9_aim_102 : decode cX9_aim 102 = .ok (.ireturn, 1) := by decide +kernel
set_option maxRecDepth 20000 in
theorem ggX9_against_X9_isLifter : GoodIn wsX9_against wsX9_isLifter := goodIn_r _ [6, 7, 8, 9, 5, 10, 160, 161, 162, 163, 164, 165, 166, 167, 168, 169, 170, 171, 172, 173, 174, 175, 176, 177, 178, 179, 180, 181, 182, 183, 184, 185, 186, 187, 188, 189, 190, 191, 192, 193, 194, 195, 196, 197, 198, 199] (by decide +kernel) (by decide +kernel)
set_option maxRecDepth 20000 in
theorem gX9_against_X9_isLifter : GoodIn wsX9_against (wsV RX9 233 RX9 yX9_isLifter wsX9_isLifter) := goodIn_app (goodIn_of _ (by decide +kernel)) ggX9_against_X9_isLifter
set_option maxRecDepth 20000 in
theorem ggX9_against_X9_aimsBeat : GoodIn wsX9_against wsX9_aimsBeat := goodIn_r _ [14, 15, 16, 17, 18, 5, 19, 20, 21, 22, 23, 24, 25, 26, 27, 28, 29, 30, 31, 32, 33, 34, 35, 36, 37, 38, 39, 40, 41, 42, 43, 44, 45, 46, 47, 48, 49, 50, 51, 52, 53, 54, 55, 56, 57, 58, 59, 60, 61, 62, 63, 64, 65, 66, 67, 68, 69, 70, 71, 72, 73, 74, 75, 76, 77, 78, 79, 80, 81, 82, 83, 84, 85, 86, 87, 88, 89, 90, 91, 92, 93, 94, 95, 96, 97, 98, 99, 100, 101, 102, 103, 104, 105, 106, 107, 108, 160, 161, 162, 163, 164, 165, 166, 167, 168, 169, 170, 171, 172, 173, 174, 175, 176, 177, 178, 179, 180, 181, 182, 183, 184, 185, 186, 187, 188, 189, 190, 191, 192, 193, 194, 195, 196, 197, 198, 199] (by decide +kernel) (by decide +kernel)
set_option maxRecDepth 20000 in
theorem gX9_against_X9_aimsBeat : GoodIn wsX9_against (wsV RX9 309 RX9 yX9_aimsBeat wsX9_aimsBeat) := goodIn_app (goodIn_of _ (by decide +kernel)) ggX9_against_X9_aimsBeat
set_option maxRecDepth 20000 in
theorem ggX9_against_X9_tellsFree : GoodIn wsX9_against wsX9_tellsFree := goodIn_r _ [112, 113, 114, 115, 116, 117, 5, 118, 15, 34, 119, 35, 36, 37, 38, 39, 40, 41, 42, 43, 44, 45, 46, 47, 48, 49, 50, 55, 56, 57, 58, 120, 121, 122, 123, 124, 125, 126, 127, 128, 129, 130, 131, 132, 133, 134, 135, 136, 137, 138, 139, 140, 141, 142, 65, 143, 144, 145, 146, 79, 80, 81, 82, 83, 63, 64, 66, 84, 85, 86, 87, 88, 89, 90, 91, 92, 93, 94, 147, 148, 149, 150, 151, 152, 153, 154, 51, 52, 53, 54, 155, 156, 157, 158, 159, 30, 31, 32, 33, 59, 60, 61, 62, 67, 68, 69, 70, 71, 72, 73, 74, 75, 76, 77, 78, 95, 160, 161, 162, 163, 164, 165, 166, 167, 168, 169, 170, 171, 172, 173, 174, 175, 176, 177, 178, 179, 180, 181, 182, 183, 184, 185, 186, 187, 188, 189, 190, 191, 192, 193, 194, 195, 196, 197, 198, 199] (by decide +kernel) (by decide +kernel)
set_option maxRecDepth 20000 in
theorem gX9_against_X9_tellsFree : GoodIn wsX9_against (wsV RX9 358 RX9 yX9_tellsFree wsX9_tellsFree) := goodIn_app (goodIn_of _ (by decide +kernel)) ggX9_against_X9_tellsFree
theorem dX9_against_0 : decode cX9_against 0 = .ok (.aload_n 0, 1) := by decide +kernel
theorem dX9_against_1 : decode cX9_against 1 = .ok (.iconst 0, 1) := by decide +kernel
theorem dX9_against_2 : decode cX9_against 2 = .ok (.putfield 77, 3) := by decide +kernel
theorem dX9_against_5 : decode cX9_against 5 = .ok (.aload_n 0, 1) := by decide +kernel
theorem dX9_against_6 : decode cX9_against 6 = .ok (.iload_n 1, 1) := by decide +kernel
theorem dX9_against_7 : decode cX9_against 7 = .ok (.invokevirtual 233, 3) := by decide +kernel
theorem dX9_against_10 : decode cX9_against 10 = .ok (.ifCond .eq 16, 3) := by decide +kernel
theorem dX9_against_13 : decode cX9_against 13 = .ok (.aload_n 0, 1) := by decide +kernel
theorem dX9_against_14 : decode cX9_against 14 = .ok (.iload_n 2, 1) := by decide +kernel
theorem dX9_against_15 : decode cX9_against 15 = .ok (.invokevirtual 233, 3) := by decide +kernel
theorem dX9_against_18 : decode cX9_against 18 = .ok (.ifCond .eq 8, 3) := by decide +kernel
theorem dX9_against_21 : decode cX9_against 21 = .ok (.iload_n 1, 1) := by decide +kernel
theorem dX9_against_22 : decode cX9_against 22 = .ok (.iload_n 2, 1) := by decide +kernel
theorem dX9_against_23 : decode cX9_against 23 = .ok (.if_icmp .ne 5, 3) := by decide +kernel
theorem dX9_against_26 : decode cX9_against 26 = .ok (.iconst (-1), 1) := by decide +kernel
theorem dX9_against_27 : decode cX9_against 27 = .ok (.ireturn, 1) := by decide +kernel
theorem dX9_against_28 : decode cX9_against 28 = .ok (.aload_n 0, 1) := by decide +kernel
theorem dX9_against_29 : decode cX9_against 29 = .ok (.iload_n 1, 1) := by decide +kernel
theorem dX9_against_30 : decode cX9_against 30 = .ok (.iload_n 2, 1) := by decide +kernel
theorem dX9_against_31 : decode cX9_against 31 = .ok (.invokevirtual 309, 3) := by decide +kernel
theorem dX9_against_34 : decode cX9_against 34 = .ok (.aload_n 0, 1) := by decide +kernel
theorem dX9_against_35 : decode cX9_against 35 = .ok (.iload_n 1, 1) := by decide +kernel
theorem dX9_against_36 : decode cX9_against 36 = .ok (.invokevirtual 358, 3) := by decide +kernel
theorem dX9_against_39 : decode cX9_against 39 = .ok (.ireturn, 1) := by decide +kernel
set_option maxRecDepth 20000 in
theorem ggX9_gold_X9_isLifter : GoodIn wsX9_gold wsX9_isLifter := goodIn_r _ [6, 7, 8, 9, 5, 10, 162, 163, 164, 165, 166, 167, 168, 169, 170, 171, 172, 173, 174, 175, 176, 177, 178, 179, 180, 181, 182, 183, 184, 185, 186, 187, 188, 189, 190, 191, 192, 193, 194, 195, 196, 197, 198, 199, 200, 201] (by decide +kernel) (by decide +kernel)
set_option maxRecDepth 20000 in
theorem gX9_gold_X9_isLifter : GoodIn wsX9_gold (wsV RX9 233 RX9 yX9_isLifter wsX9_isLifter) := goodIn_app (goodIn_of _ (by decide +kernel)) ggX9_gold_X9_isLifter
set_option maxRecDepth 20000 in
theorem ggX9_gold_X9_aimsWin : GoodIn wsX9_gold wsX9_aimsWin := goodIn_r _ [14, 15, 16, 7, 17, 18, 19, 20, 21, 5, 22, 23, 24, 25, 26, 27, 28, 29, 30, 31, 32, 33, 34, 35, 36, 37, 38, 39, 40, 41, 42, 43, 44, 45, 46, 47, 48, 49, 50, 51, 52, 53, 54, 55, 56, 57, 58, 59, 60, 61, 62, 63, 64, 65, 66, 67, 68, 69, 70, 71, 72, 73, 74, 75, 76, 77, 78, 79, 80, 81, 82, 83, 84, 85, 86, 87, 88, 89, 90, 91, 92, 93, 94, 95, 96, 97, 98, 99, 100, 101, 102, 103, 104, 105, 106, 107, 108, 109, 110, 162, 163, 164, 165, 166, 167, 168, 169, 170, 171, 172, 173, 174, 175, 176, 177, 178, 179, 180, 181, 182, 183, 184, 185, 186, 187, 188, 189, 190, 191, 192, 193, 194, 195, 196, 197, 198, 199, 200, 201] (by decide +kernel) (by decide +kernel)
set_option maxRecDepth 20000 in
theorem gX9_gold_X9_aimsWin : GoodIn wsX9_gold (wsV RX9 313 RX9 yX9_aimsWin wsX9_aimsWin) := goodIn_app (goodIn_of _ (by decide +kernel)) ggX9_gold_X9_aimsWin
