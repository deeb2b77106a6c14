set_option maxRecDepth 20000 in
theorem ggX9_reach_X9_isTotal : GoodIn wsX9_reach wsX9_isTotal := goodIn_r _ [13, 14, 8, 9, 5, 10] (by decide +kernel) (by decide +kernel)
set_option maxRecDepth 20000 in
theorem gX9_reach_X9_isTotal : GoodIn wsX9_reach (va_wsS RX9 306 yX9_isTotal wsX9_isTotal) := goodIn_app (goodIn_of _ (by decide +kernel)) ggX9_reach_X9_isTotal
set_option maxRecDepth 20000 in
theorem ggX9_reach_X9_aimsReach : GoodIn wsX9_reach wsX9_aimsReach := goodIn_r _ [18, 19, 20, 138, 139, 140, 141, 142, 143, 144, 145, 146, 147, 148, 149, 150, 151, 152, 153, 154, 155, 156, 157, 158, 159, 160, 161, 162, 163, 164, 165, 166, 167, 168, 169, 170, 171, 172, 173, 174, 175, 176, 177] (by decide +kernel) (by decide +kernel)
set_option maxRecDepth 20000 in
theorem gX9_reach_X9_aimsReach : GoodIn wsX9_reach (wsV RX9 283 RX9 yX9_aimsReach wsX9_aimsReach) := goodIn_app (goodIn_of _ (by decide +kernel)) ggX9_reach_X9_aimsReach
set_option maxRecDepth 20000 in
theorem ggX9_reach_X9_tellsFree : GoodIn wsX9_reach wsX9_tellsFree := goodIn_r _ [24, 25, 26, 27, 28, 29, 5, 30, 19, 31, 32, 33, 34, 35, 36, 37, 38, 39, 40, 41, 42, 43, 44, 45, 46, 47, 48, 49, 50, 51, 52, 53, 54, 55, 56, 57, 58, 59, 60, 61, 62, 63, 64, 65, 66, 67, 68, 69, 70, 71, 72, 73, 74, 75, 76, 77, 78, 79, 80, 81, 82, 83, 84, 85, 86, 87, 88, 89, 90, 91, 92, 93, 94, 95, 96, 97, 98, 99, 100, 101, 102, 103, 104, 105, 106, 107, 108, 109, 110, 111, 112, 113, 114, 115, 116, 117, 118, 119, 120, 121, 122, 123, 124, 125, 126, 127, 128, 129, 130, 131, 132, 133, 134, 135, 136, 137, 138, 139, 140, 141, 142, 143, 144, 145, 146, 147, 148, 149, 150, 151, 152, 153, 154, 155, 156, 157, 158, 159, 160, 161, 162, 163, 164, 165, 166, 167, 168, 169, 170, 171, 172, 173, 174, 175, 176, 177] (by decide +kernel) (by decide +kernel)
set_option maxRecDepth 20000 in
theorem gX9_reach_X9_tellsFree : GoodIn wsX9_reach (wsV RX9 358 RX9 yX9_tellsFree wsX9_tellsFree) := goodIn_app (goodIn_of _ (by decide +kernel)) ggX9_reach_X9_tellsFree
theorem dX9_reach_0 : decode cX9_reach 0 = .ok (.aload_n 0, 1) := by decide +kernel
theorem dX9_reach_1 : decode cX9_reach 1 = .ok (.iconst 0, 1) := by decide +kernel
theorem dX9_reach_2 : decode cX9_reach 2 = .ok (.putfield 77, 3) := by decide +kernel
theorem dX9_reach_5 : decode cX9_reach 5 = .ok (.aload_n 0, 1) := by decide +kernel
theorem dX9_reach_6 : decode cX9_reach 6 = .ok (.iload_n 1, 1) := by decide +kernel
theorem dX9_reach_7 : decode cX9_reach 7 = .ok (.invokevirtual 233, 3) := by decide +kernel
theorem dX9_reach_10 : decode cX9_reach 10 = .ok (.ifCond .eq 10, 3) := by decide +kernel
theorem dX9_reach_13 : decode cX9_reach 13 = .ok (.iload_n 2, 1) := by decide +kernel
theorem dX9_reach_14 : decode cX9_reach 14 = .ok (.invokestatic 306, 3) := by decide +kernel
theorem dX9_reach_17 : decode cX9_reach 17 = .ok (.ifCond .ne 5, 3) := by decide +kernel
theorem dX9_reach_20 : decode cX9_reach 20 = .ok (.iconst (-1), 1) := by decide +kernel
theorem dX9_reach_21 : decode cX9_reach 21 = .ok (.ireturn, 1) := by decide +kernel
theorem dX9_reach_22 : decode cX9_reach 22 = .ok (.aload_n 0, 1) := by decide +kernel
theorem dX9_reach_23 : decode cX9_reach 23 = .ok (.iload_n 2, 1) := by decide +kernel
theorem dX9_reach_24 : decode cX9_reach 24 = .ok (.invokevirtual 283, 3) := by decide +kernel
theorem dX9_reach_27 : decode cX9_reach 27 = .ok (.aload_n 0, 1) := by decide +kernel
theorem dX9_reach_28 : decode cX9_reach 28 = .ok (.iload_n 1, 1) := by decide +kernel
theorem dX9_reach_29 : decode cX9_reach 29 = .ok (.invokevirtual 358, 3) := by decide +kernel
theorem dX9_reach_32 : decode cX9_reach 32 = .ok (.ireturn, 1) := by decide +kernel
set_option maxRecDepth 20000 in
theorem ggX9_aim_X9_isLifter : GoodIn wsX9_aim wsX9_isLifter := goodIn_r _ [8, 9, 10, 11, 7, 12, 110, 111, 112, 113, 114, 115, 116, 117, 118, 119, 120, 121, 122, 123, 124, 125, 126, 127, 128, 129, 130, 131, 132, 133, 134, 135, 136, 137, 138, 139, 140, 141, 142, 143, 144, 145, 146, 147, 148, 149] (by decide +kernel) (by decide +kernel)
set_option maxRecDepth 20000 in
theorem gX9_aim_X9_isLifter : GoodIn wsX9_aim (wsV RX9 233 RX9 yX9_isLifter wsX9_isLifter) := goodIn_app (goodIn_of _ (by decide +kernel)) ggX9_aim_X9_isLifter
set_option maxRecDepth 20000 in
theorem ggX9_aim_X9_in : GoodIn wsX9_aim wsX9_in := goodIn_r _ [12] (by decide +kernel) (by decide +kernel)
set_option maxRecDepth 20000 in
theorem gX9_aim_X9_in : GoodIn wsX9_aim (va_wsS RX9 87 yX9_in wsX9_in) := goodIn_app (goodIn_of _ (by decide +kernel)) ggX9_aim_X9_in
set_option maxRecDepth 20000 in
theorem ggX9_aim_X9_aimsReach : GoodIn wsX9_aim wsX9_aimsReach := goodIn_r _ [16, 17, 18, 110, 111, 112, 113, 114, 115, 116, 117, 118, 119, 120, 121, 122, 123, 124, 125, 126, 127, 128, 129, 130, 131, 132, 133, 134, 135, 136, 137, 138, 139, 140, 141, 142, 143, 144, 145, 146, 147, 148, 149] (by decide +kernel) (by decide +kernel)
set_option maxRecDepth 20000 in
theorem gX9_aim_X9_aimsReach : GoodIn wsX9_aim (wsV RX9 283 RX9 yX9_aimsReach wsX9_aimsReach) := goodIn_app (goodIn_of _ (by decide +kernel)) ggX9_aim_X9_aimsReach
set_option maxRecDepth 20000 in
theorem ggX9_aim_X9_freeNow : GoodIn wsX9_aim wsX9_freeNow := goodIn_r _ [22, 23, 17, 24, 25, 26, 27, 28, 7, 29, 30, 31, 32, 33, 34, 35, 36, 37, 38, 39, 40, 41, 42, 43, 44, 45, 46, 47, 48, 49, 50, 51, 52, 53, 54, 55, 56, 57, 58, 59, 60, 61, 62, 63, 64, 65, 66, 67, 68, 69, 70, 71, 72, 73, 74, 75, 76, 77, 78, 79, 80, 81, 82, 83, 84, 85, 86, 87, 88, 89, 90, 91, 92, 93, 94, 95, 96, 97, 98, 99, 100, 101, 102, 103, 104, 110, 111, 112, 113, 114, 115, 116, 117, 118, 119, 120, 121, 122, 123, 124, 125, 126, 127, 128, 129, 130, 131, 132, 133, 134, 135, 136, 137, 138, 139, 140, 141, 142, 143, 144, 145, 146, 147, 148, 149] (by decide +kernel) (by decide +kernel)
set_option maxRecDepth 20000 in
theorem gX9_aim_X9_freeNow : GoodIn wsX9_aim (wsV RX9 355 RX9 yX9_freeNow wsX9_freeNow) := goodIn_app (goodIn_of _ (by decide +kernel)) ggX9_aim_X9_freeNow
set_option maxRecDepth 20000 in
theorem ggX9_aim_X9_notes : GoodIn wsX9_aim wsX9_notes := goodIn_r _ [108, 109, 3, 110, 111, 112, 113, 114, 115, 116, 117, 118, 119, 120, 121, 122, 123, 124, 125, 126, 127, 128, 129, 130, 131, 132, 133, 134, 135, 136, 137, 138, 139, 140, 141, 142, 143, 144, 145, 146, 147, 148, 149] (by decide +kernel) (by decide +kernel)
set_option maxRecDepth 20000 in
theorem gX9_aim_X9_notes : GoodIn wsX9_aim (wsV RX9 180 RX9 yX9_notes wsX9_notes) := goodIn_app (goodIn_of _ (by decide +kernel)) ggX9_aim_X9_notes
theorem dX9_aim_0 : decode cX9_aim 0 = .ok (.aload_n 0, 1) := by decide +kernel
theorem dX9_aim_1 : decode cX9_aim 1 = .ok (.iconst 0, 1) := by decide +kernel
theorem dX9_aim_2 : decode cX9_aim 2 = .ok (.putfield 77, 3) := by decide +kernel
theorem dX9_aim_5 : decode cX9_aim 5 = .ok (.aload_n 0, 1) := by decide +kernel
theorem dX9_aim_6 : decode cX9_aim 6 = .ok (.iload_n 1, 1) := by decide +kernel
theorem dX9_aim_7 : decode cX9_aim 7 = .ok (.invokevirtual 233, 3) := by decide +kernel
theorem dX9_aim_10 : decode cX9_aim 10 = .ok (.ifCond .eq 15, 3) := by decide +kernel
theorem dX9_aim_13 : decode cX9_aim 13 = .ok (.iload_n 2, 1) := by decide +kernel
theorem dX9_aim_14 : decode cX9_aim 14 = .ok (.i2l, 1) := by decide +kernel
theorem dX9_aim_15 : decode cX9_aim 15 = .ok (.lconst 1, 1) := by decide +kernel
theorem dX9_aim_16 : decode cX9_aim 16 = .ok (.ldc2_w 299, 3) := by decide +kernel
theorem dX9_aim_19 : decode cX9_aim 19 = .ok (.invokestatic 87, 3) := by decide +kernel
theorem dX9_aim_22 : decode cX9_aim 22 = .ok (.ifCond .ne 5, 3) := by decide +kernel
theorem dX9_aim_25 : decode cX9_aim 25 = .ok (.iconst (-1), 1) := by decide +kernel
theorem dX9_aim_26 : decode cX9_aim 26 = .ok (.ireturn, 1) := by decide +kernel
theorem dX9_aim_27 : decode cX9_aim 27 = .ok (.iconst 0, 1) := by decide +kernel
theorem dX9_aim_28 : decode cX9_aim 28 = .ok (.istore_n 3, 1) := by decide +kernel
theorem dX9_aim_29 : decode cX9_aim 29 = .ok (.bipush 121, 2) := by decide +kernel
theorem dX9_aim_31 : decode cX9_aim 31 = .ok (.istore 4, 2) := by decide +kernel
theorem dX9_aim_33 : decode cX9_aim 33 = .ok (.iload 4, 2) := by decide +kernel
theorem dX9_aim_35 : decode cX9_aim 35 = .ok (.iload_n 3, 1) := by decide +kernel
theorem dX9_aim_36 : decode cX9_aim 36 = .ok (.iconst 1, 1) := by decide +kernel
theorem dX9_aim_37 : decode cX9_aim 37 = .ok (.iadd, 1) := by decide +kernel
theorem dX9_aim_38 : decode cX9_aim 38 = .ok (.if_icmp .le 39, 3) := by decide +kernel
theorem dX9_aim_41 : decode cX9_aim 41 = .ok (.iload_n 3, 1) := by decide +kernel
theorem dX9_aim_42 : decode cX9_aim 42 = .ok (.iload 4, 2) := by decide +kernel
theorem dX9_aim_44 : decode cX9_aim 44 = .ok (.iadd, 1) := by decide +kernel
theorem dX9_aim_45 : decode cX9_aim 45 = .ok (.iconst 2, 1) := by decide +kernel
theorem dX9_aim_46 : decode cX9_aim 46 = .ok (.idiv, 1) := by decide +kernel
theorem dX9_aim_47 : decode cX9_aim 47 = .ok (.istore 5, 2) := by decide +kernel
theorem dX9_aim_49 : decode cX9_aim 49 = .ok (.aload_n 0, 1) := by decide +kernel
theorem dX9_aim_50 : decode cX9_aim 50 = .ok (.iload 5, 2) := by decide +kernel
theorem dX9_aim_52 : decode cX9_aim 52 = .ok (.invokevirtual 283, 3) := by decide +kernel
theorem dX9_aim_55 : decode cX9_aim 55 = .ok (.aload_n 0, 1) := by decide +kernel
theorem dX9_aim_56 : decode cX9_aim 56 = .ok (.iload_n 1, 1) := by decide +kernel
theorem dX9_aim_57 : decode cX9_aim 57 = .ok (.invokevirtual 355, 3) := by decide +kernel
theorem dX9_aim_60 : decode cX9_aim 60 = .ok (.iload_n 2, 1) := by decide +kernel
theorem dX9_aim_61 : decode cX9_aim 61 = .ok (.if_icmp .lt 9, 3) := by decide +kernel
theorem dX9_aim_64 : decode cX9_aim 64 = .ok (.iload 5, 2) := by decide +kernel
theorem dX9_aim_66 : decode cX9_aim 66 = .ok (.istore_n 3, 1) := by decide +kernel
theorem dX9_aim_67 : decode cX9_aim 67 = .ok (.goto 7, 3) := by decide +kernel
theorem dX9_aim_70 : decode cX9_aim 70 = .ok (.iload 5, 2) := by decide +kernel
theorem dX9_aim_72 : decode cX9_aim 72 = .ok (.istore 4, 2) := by decide +kernel
theorem dX9_aim_74 : decode cX9_aim 74 = .ok (.goto (-41), 3) := by decide +kernel
theorem dX9_aim_77 : decode cX9_aim 77 = .ok (.aload_n 0, 1) := by decide +kernel
theorem dX9_aim_78 : decode cX9_aim 78 = .ok (.iload_n 3, 1) := by decide +kernel
theorem dX9_aim_79 : decode cX9_aim 79 = .ok (.invokevirtual 283, 3) := by decide +kernel
theorem dX9_aim_82 : decode cX9_aim 82 = .ok (.aload_n 0, 1) := by decide +kernel
theorem dX9_aim_83 : decode cX9_aim 83 = .ok (.iload_n 1, 1) := by decide +kernel
theorem dX9_aim_84 : decode cX9_aim 84 = .ok (.invokevirtual 355, 3) := by decide +kernel
theorem dX9_aim_87 : decode cX9_aim 87 = .ok (.i2l, 1) := by decide +kernel
theorem dX9_aim_88 : decode cX9_aim 88 = .ok (.lstore 5, 2) := by decide +kernel
theorem dX9_aim_90 : decode cX9_aim 90 = .ok (.aload_n 0, 1) := by decide +kernel
theorem dX9_aim_91 : decode cX9_aim 91 = .ok (.iconst 0, 1) := by decide +kernel
theorem dX9_aim_92 : decode cX9_aim 92 = .ok (.putfield 81, 3) := by decide +kernel
theorem dX9_aim_95 : decode cX9_aim 95 = .ok (.aload_n 0, 1) := by decide +kernel
theorem dX9_aim_96 : decode cX9_aim 96 = .ok (.lload 5, 2) := by decide +kernel
theorem dX9_aim_98 : decode cX9_aim 98 = .ok (.invokevirtual 180, 3) := by decide +kernel
theorem dX9_aim_101 : decode cX9_aim 101 = .ok (.iload_n 3, 1) := by decide +kernel
theorem dX9_aim_102 : decode cX9_aim 102 = .ok (.ireturn, 1) := by decide +kernel
set_option maxRecDepth 20000 in
theorem ggX9_against_X9_isLifter : GoodIn wsX9_against wsX9_isLifter := goodIn_r _ [6, 7, 8, 9, 5, 10, 160, 161, 162, 163, 164, 165, 166, 167, 168, 169, 170, 171, 172, 173, 174, 175, 176, 177, 178, 179, 180, 181, 182, 183, 184, 185, 186, 187, 188, 189, 190, 191, 192, 193, 194, 195, 196, 197, 198, 199] (by decide +kernel) (by decide +kernel)
set_option maxRecDepth 20000 in
theorem gX9_against_X9_isLifter : GoodIn wsX9_against (wsV RX9 233 RX9 yX9_isLifter wsX9_isLifter) := goodIn_app (goodIn_of _ (by decide +kernel)) ggX9_against_X9_isLifter
set_option maxRecDepth 20000 in
theorem ggX9_against_X9_aimsBeat : GoodIn wsX9_against wsX9_aimsBeat := goodIn_r _ [14, 15, 16, 17, 18, 5, 19, 20, 21, 22, 23, 24, 25, 26, 27, 28, 29, 30, 31, 32, 33, 34, 35, 36, 37, 38, 39, 40, 41, 42, 43, 44, 45, 46, 47, 48, 49, 50, 51, 52, 53, 54, 55, 56, 57, 58, 59, 60, 61, 62, 63, 64, 65, 66, 67, 68, 69, 70, 71, 72, 73, 74, 75, 76, 77, 78, 79, 80, 81, 82, 83, 84, 85, 86, 87, 88, 89, 90, 91, 92, 93, 94, 95, 96, 97, 98, 99, 100, 101, 102, 103, 104, 105, 106, 107, 108, 160, 161, 162, 163, 164, 165, 166, 167, 168, 169, 170, 171, 172, 173, 174, 175, 176, 177, 178, 179, 180, 181, 182, 183, 184, 185, 186, 187, 188, 189, 190, 191, 192, 193, 194, 195, 196, 197, 198, 199] (by decide +kernel) (by decide +kernel)
set_option maxRecDepth 20000 in
theorem gX9_against_X9_aimsBeat : GoodIn wsX9_against (wsV RX9 309 RX9 yX9_aimsBeat wsX9_aimsBeat) := goodIn_app (goodIn_of _ (by decide +kernel)) ggX9_against_X9_aimsBeat
set_option maxRecDepth 20000 in
theorem ggX9_against_X9_tellsFree : GoodIn wsX9_against wsX9_tellsFree := goodIn_r _ [112, 113, 114, 115, 116, 117, 5, 118, 15, 34, 119, 35, 36, 37, 38, 39, 40, 41, 42, 43, 44, 45, 46, 47, 48, 49, 50, 55, 56, 57, 58, 120, 121, 122, 123, 124, 125, 126, 127, 128, 129, 130, 131, 132, 133, 134, 135, 136, 137, 138, 139, 140, 141, 142, 65, 143, 144, 145, 146, 79, 80, 81, 82, 83, 63, 64, 66, 84, 85, 86, 87, 88, 89, 90, 91, 92, 93, 94, 147, 148, 149, 150, 151, 152, 153, 154, 51, 52, 53, 54, 155, 156, 157, 158, 159, 30, 31, 32, 33, 59, 60, 61, 62, 67, 68, 69, 70, 71, 72, 73, 74, 75, 76, 77, 78, 95, 160, 161, 162, 163, 164, 165, 166, 167, 168, 169, 170, 171, 172, 173, 174, 175, 176, 177, 178, 179, 180, 181, 182, 183, 184, 185, 186, 187, 188, 189, 190, 191, 192, 193, 194, 195, 196, 197, 198, 199] (by decide +kernel) (by decide +kernel)
set_option maxRecDepth 20000 in
theorem gX9_against_X9_tellsFree : GoodIn wsX9_against (wsV RX9 358 RX9 yX9_tellsFree wsX9_tellsFree) := goodIn_app (goodIn_of _ (by decide +kernel)) ggX9_against_X9_tellsFree
theorem dX9_against_0 : decode cX9_against 0 = .ok (.aload_n 0, 1) := by decide +kernel
theorem dX9_against_1 : decode cX9_against 1 = .ok (.iconst 0, 1) := by decide +kernel
theorem dX9_against_2 : decode cX9_against 2 = .ok (.putfield 77, 3) := by decide +kernel
theorem dX9_against_5 : decode cX9_against 5 = .ok (.aload_n 0, 1) := by decide +kernel
theorem dX9_against_6 : decode cX9_against 6 = .ok (.iload_n 1, 1) := by decide +kernel
theorem dX9_against_7 : decode cX9_against 7 = .ok (.invokevirtual 233, 3) := by decide +kernel
theorem dX9_against_10 : decode cX9_against 10 = .ok (.ifCond .eq 16, 3) := by decide +kernel
theorem dX9_against_13 : decode cX9_against 13 = .ok (.aload_n 0, 1) := by decide +kernel
theorem dX9_against_14 : decode cX9_against 14 = .ok (.iload_n 2, 1) := by decide +kernel
theorem dX9_against_15 : decode cX9_against 15 = .ok (.invokevirtual 233, 3) := by decide +kernel
theorem dX9_against_18 : decode cX9_against 18 = .ok (.ifCond .eq 8, 3) := by decide +kernel
theorem dX9_against_21 : decode cX9_against 21 = .ok (.iload_n 1, 1) := by decide +kernel
theorem dX9_against_22 : decode cX9_against 22 = .ok (.iload_n 2, 1) := by decide +kernel
theorem dX9_against_23 : decode cX9_against 23 = .ok (.if_icmp .ne 5, 3) := by decide +kernel
theorem dX9_against_26 : decode cX9_against 26 = .ok (.iconst (-1), 1) := by decide +kernel
theorem dX9_against_27 : decode cX9_against 27 = .ok (.ireturn, 1) := by decide +kernel
theorem dX9_against_28 : decode cX9_against 28 = .ok (.aload_n 0, 1) := by decide +kernel
theorem dX9_against_29 : decode cX9_against 29 = .ok (.iload_n 1, 1) := by decide +kernel
theorem dX9_against_30 : decode cX9_against 30 = .ok (.iload_n 2, 1) := by decide +kernel
theorem dX9_against_31 : decode cX9_against 31 = .ok (.invokevirtual 309, 3) := by decide +kernel
theorem dX9_against_34 : decode cX9_against 34 = .ok (.aload_n 0, 1) := by decide +kernel
theorem dX9_against_35 : decode cX9_against 35 = .ok (.iload_n 1, 1) := by decide +kernel
theorem dX9_against_36 : decode cX9_against 36 = .ok (.invokevirtual 358, 3) := by decide +kernel
theorem dX9_against_39 : decode cX9_against 39 = .ok (.ireturn, 1) := by decide +kernel
set_option maxRecDepth 20000 in
theorem ggX9_gold_X9_isLifter : GoodIn wsX9_gold wsX9_isLifter := goodIn_r _ [6, 7, 8, 9, 5, 10, 162, 163, 164, 165, 166, 167, 168, 169, 170, 171, 172, 173, 174, 175, 176, 177, 178, 179, 180, 181, 182, 183, 184, 185, 186, 187, 188, 189, 190, 191, 192, 193, 194, 195, 196, 197, 198, 199, 200, 201] (by decide +kernel) (by decide +kernel)
set_option maxRecDepth 20000 in
theorem gX9_gold_X9_isLifter : GoodIn wsX9_gold (wsV RX9 233 RX9 yX9_isLifter wsX9_isLifter) := goodIn_app (goodIn_of _ (by decide +kernel)) ggX9_gold_X9_isLifter
set_option maxRecDepth 20000 in
theorem ggX9_gold_X9_aimsWin : GoodIn wsX9_gold wsX9_aimsWin := goodIn_r _ [14, 15, 16, 7, 17, 18, 19, 20, 21, 5, 22, 23, 24, 25, 26, 27, 28, 29, 30, 31, 32, 33, 34, 35, 36, 37, 38, 39, 40, 41, 42, 43, 44, 45, 46, 47, 48, 49, 50, 51, 52, 53, 54, 55, 56, 57, 58, 59, 60, 61, 62, 63, 64, 65, 66, 67, 68, 69, 70, 71, 72, 73, 74, 75, 76, 77, 78, 79, 80, 81, 82, 83, 84, 85, 86, 87, 88, 89, 90, 91, 92, 93, 94, 95, 96, 97, 98, 99, 100, 101, 102, 103, 104, 105, 106, 107, 108, 109, 110, 162, 163, 164, 165, 166, 167, 168, 169, 170, 171, 172, 173, 174, 175, 176, 177, 178, 179, 180, 181, 182, 183, 184, 185, 186, 187, 188, 189, 190, 191, 192, 193, 194, 195, 196, 197, 198, 199, 200, 201] (by decide +kernel) (by decide +kernel)
set_option maxRecDepth 20000 in
theorem gX9_gold_X9_aimsWin : GoodIn wsX9_gold (wsV RX9 313 RX9 yX9_aimsWin wsX9_aimsWin) := goodIn_app (goodIn_of _ (by decide +kernel)) ggX9_gold_X9_aimsWin
set_option maxRecDepth 20000 in
theorem ggX9_gold_X9_tellsFree : GoodIn wsX9_gold wsX9_tellsFree := goodIn_r _ [114, 115, 116, 117, 118, 119, 5, 120, 18, 36, 121, 37, 38, 39, 40, 41, 42, 43, 44, 45, 46, 47, 48, 49, 50, 51, 52, 57, 58, 59, 60, 122, 123, 124, 125, 126, 127, 128, 129, 130, 131, 132, 133, 134, 135, 136, 137, 138, 139, 140, 141, 142, 143, 144, 67, 145, 146, 147, 148, 81, 82, 83, 84, 85, 65, 66, 68, 86, 87, 88, 89, 90, 91, 92, 93, 94, 95, 96, 149, 150, 151, 152, 153, 154, 155, 156, 53, 54, 55, 56, 157, 158, 159, 160, 161, 32, 33, 34, 35, 61, 62, 63, 64, 69, 70, 71, 72, 73, 74, 75, 76, 77, 78, 79, 80, 97, 162, 163, 164, 165, 166, 167, 168, 169, 170, 171, 172, 173, 174, 175, 176, 177, 178, 179, 180, 181, 182, 183, 184, 185, 186, 187, 188, 189, 190, 191, 192, 193, 194, 195, 196, 197, 198, 199, 200, 201] (by decide +kernel) (by decide +kernel)
set_option maxRecDepth 20000 in
theorem gX9_gold_X9_tellsFree : GoodIn wsX9_gold (wsV RX9 358 RX9 yX9_tellsFree wsX9_tellsFree) := goodIn_app (goodIn_of _ (by decide +kernel)) ggX9_gold_X9_tellsFree
theorem dX9_gold_0 : decode cX9_gold 0 = .ok (.aload_n 0, 1) := by decide +kernel
theorem dX9_gold_1 : decode cX9_gold 1 = .ok (.iconst 0, 1) := by decide +kernel
theorem dX9_gold_2 : decode cX9_gold 2 = .ok (.putfield 77, 3) := by decide +kernel
theorem dX9_gold_5 : decode cX9_gold 5 = .ok (.aload_n 0, 1) := by decide +kernel
theorem dX9_gold_6 : decode cX9_gold 6 = .ok (.iload_n 1, 1) := by decide +kernel
theorem dX9_gold_7 : decode cX9_gold 7 = .ok (.invokevirtual 233, 3) := by decide +kernel
theorem dX9_gold_10 : decode cX9_gold 10 = .ok (.ifCond .ne 5, 3) := by decide +kernel
theorem dX9_gold_13 : decode cX9_gold 13 = .ok (.iconst (-1), 1) := by decide +kernel
theorem dX9_gold_14 : decode cX9_gold 14 = .ok (.ireturn, 1) := by decide +kernel
theorem dX9_gold_15 : decode cX9_gold 15 = .ok (.aload_n 0, 1) := by decide +kernel
theorem dX9_gold_16 : decode cX9_gold 16 = .ok (.iload_n 1, 1) := by decide +kernel
theorem dX9_gold_17 : decode cX9_gold 17 = .ok (.invokevirtual 313, 3) := by decide +kernel
theorem dX9_gold_20 : decode cX9_gold 20 = .ok (.aload_n 0, 1) := by decide +kernel
theorem dX9_gold_21 : decode cX9_gold 21 = .ok (.iload_n 1, 1) := by decide +kernel
theorem dX9_gold_22 : decode cX9_gold 22 = .ok (.invokevirtual 358, 3) := by decide +kernel
theorem dX9_gold_25 : decode cX9_gold 25 = .ok (.ireturn, 1) := by decide +kernel
set_option maxRecDepth 20000 in
theorem ggX9_follows_X9_in : GoodIn wsX9_follows wsX9_in := goodIn_r _ [6] (by decide +kernel) (by decide +kernel)
set_option maxRecDepth 20000 in
theorem gX9_follows_X9_in : GoodIn wsX9_follows (va_wsS RX9 87 yX9_in wsX9_in) := goodIn_app (goodIn_of _ (by decide +kernel)) ggX9_follows_X9_in
set_option maxRecDepth 20000 in
theorem ggX9_follows_X9_laysRounds : GoodIn wsX9_follows wsX9_laysRounds := goodIn_r _ [10, 11, 12, 13, 5, 14, 15, 16, 17, 18, 19, 20, 21, 22, 23, 24, 2, 25, 26, 27, 28, 29, 30, 31, 32, 33, 34, 35, 36, 37, 38, 39, 40, 41, 42, 43, 44, 45, 46, 47, 48, 49, 50, 60, 61, 62, 63, 64, 65, 66, 67, 68, 69, 70, 71, 72, 73, 74, 75, 76, 77, 78, 79, 80, 81, 82, 83, 84, 85, 86, 87, 88, 89, 90, 91, 92, 93, 94, 95, 96, 97, 98, 99] (by decide +kernel) (by decide +kernel)
set_option maxRecDepth 20000 in
theorem gX9_follows_X9_laysRounds : GoodIn wsX9_follows (wsV RX9 342 RX9 yX9_laysRounds wsX9_laysRounds) := goodIn_app (goodIn_of _ (by decide +kernel)) ggX9_follows_X9_laysRounds
set_option maxRecDepth 20000 in
theorem ggX9_follows_X9_triesBest : GoodIn wsX9_follows wsX9_triesBest := goodIn_r _ [24, 2, 11, 25, 26, 27, 28, 29, 30, 5, 31, 32, 33, 34, 35, 36, 37, 38, 39, 40, 41, 42, 43, 44, 45, 46, 47, 48, 49, 50, 60, 61, 62, 63, 64, 65, 66, 67, 68, 69, 70, 71, 72, 73, 74, 75, 76, 77, 78, 79, 80, 81, 82, 83, 84, 85, 86, 87, 88, 89, 90, 91, 92, 93, 94, 95, 96, 97, 98, 99] (by decide +kernel) (by decide +kernel)
set_option maxRecDepth 20000 in
theorem gX9_follows_X9_triesBest : GoodIn wsX9_follows (wsV RX9 338 RX9 yX9_triesBest wsX9_triesBest) := goodIn_app (goodIn_of _ (by decide +kernel)) ggX9_follows_X9_triesBest
set_option maxRecDepth 20000 in
theorem ggX9_follows_X9_notes : GoodIn wsX9_follows wsX9_notes := goodIn_r _ [54, 55, 56, 60, 61, 62, 63, 64, 65, 66, 67, 68, 69, 70, 71, 72, 73, 74, 75, 76, 77, 78, 79, 80, 81, 82, 83, 84, 85, 86, 87, 88, 89, 90, 91, 92, 93, 94, 95, 96, 97, 98, 99] (by decide +kernel) (by decide +kernel)
set_option maxRecDepth 20000 in
theorem gX9_follows_X9_notes : GoodIn wsX9_follows (wsV RX9 180 RX9 yX9_notes wsX9_notes) := goodIn_app (goodIn_of _ (by decide +kernel)) ggX9_follows_X9_notes
set_option maxRecDepth 20000 in
theorem ggX9_follows_X9_flag : GoodIn wsX9_follows wsX9_flag := goodIn_r _ [59] (by decide +kernel) (by decide +kernel)
set_option maxRecDepth 20000 in
theorem gX9_follows_X9_flag : GoodIn wsX9_follows (va_wsS RX9 160 yX9_flag wsX9_flag) := goodIn_app (goodIn_of _ (by decide +kernel)) ggX9_follows_X9_flag
theorem dX9_follows_0 : decode cX9_follows 0 = .ok (.iload 4, 2) := by decide +kernel
theorem dX9_follows_2 : decode cX9_follows 2 = .ok (.istore 9, 2) := by decide +kernel
theorem dX9_follows_4 : decode cX9_follows 4 = .ok (.iload 5, 2) := by decide +kernel
theorem dX9_follows_6 : decode cX9_follows 6 = .ok (.istore 10, 2) := by decide +kernel
theorem dX9_follows_8 : decode cX9_follows 8 = .ok (.iload 6, 2) := by decide +kernel
theorem dX9_follows_10 : decode cX9_follows 10 = .ok (.istore 11, 2) := by decide +kernel
theorem dX9_follows_12 : decode cX9_follows 12 = .ok (.iload_n 3, 1) := by decide +kernel
theorem dX9_follows_13 : decode cX9_follows 13 = .ok (.istore 12, 2) := by decide +kernel
theorem dX9_follows_15 : decode cX9_follows 15 = .ok (.iload 12, 2) := by decide +kernel
theorem dX9_follows_17 : decode cX9_follows 17 = .ok (.iconst 3, 1) := by decide +kernel
theorem dX9_follows_18 : decode cX9_follows 18 = .ok (.if_icmp .ge 102, 3) := by decide +kernel
theorem dX9_follows_21 : decode cX9_follows 21 = .ok (.iload 9, 2) := by decide +kernel
theorem dX9_follows_23 : decode cX9_follows 23 = .ok (.i2l, 1) := by decide +kernel
theorem dX9_follows_24 : decode cX9_follows 24 = .ok (.lconst 1, 1) := by decide +kernel
theorem dX9_follows_25 : decode cX9_follows 25 = .ok (.ldc2_w 239, 3) := by decide +kernel
theorem dX9_follows_28 : decode cX9_follows 28 = .ok (.invokestatic 87, 3) := by decide +kernel
theorem dX9_follows_31 : decode cX9_follows 31 = .ok (.ifCond .eq 89, 3) := by decide +kernel
theorem dX9_follows_34 : decode cX9_follows 34 = .ok (.aload_n 0, 1) := by decide +kernel
theorem dX9_follows_35 : decode cX9_follows 35 = .ok (.iload_n 1, 1) := by decide +kernel
theorem dX9_follows_36 : decode cX9_follows 36 = .ok (.iload_n 2, 1) := by decide +kernel
theorem dX9_follows_37 : decode cX9_follows 37 = .ok (.iload 12, 2) := by decide +kernel
theorem dX9_follows_39 : decode cX9_follows 39 = .ok (.iload 7, 2) := by decide +kernel
theorem dX9_follows_41 : decode cX9_follows 41 = .ok (.invokevirtual 342, 3) := by decide +kernel
theorem dX9_follows_44 : decode cX9_follows 44 = .ok (.aload_n 0, 1) := by decide +kernel
theorem dX9_follows_45 : decode cX9_follows 45 = .ok (.iload_n 1, 1) := by decide +kernel
theorem dX9_follows_46 : decode cX9_follows 46 = .ok (.iload_n 2, 1) := by decide +kernel
theorem dX9_follows_47 : decode cX9_follows 47 = .ok (.iload 12, 2) := by decide +kernel
theorem dX9_follows_49 : decode cX9_follows 49 = .ok (.iload 10, 2) := by decide +kernel
theorem dX9_follows_51 : decode cX9_follows 51 = .ok (.iload 9, 2) := by decide +kernel
theorem dX9_follows_53 : decode cX9_follows 53 = .ok (.iload 11, 2) := by decide +kernel
theorem dX9_follows_55 : decode cX9_follows 55 = .ok (.invokevirtual 338, 3) := by decide +kernel
theorem dX9_follows_58 : decode cX9_follows 58 = .ok (.pop, 1) := by decide +kernel
theorem dX9_follows_59 : decode cX9_follows 59 = .ok (.aload_n 0, 1) := by decide +kernel
theorem dX9_follows_60 : decode cX9_follows 60 = .ok (.aload_n 0, 1) := by decide +kernel
theorem dX9_follows_61 : decode cX9_follows 61 = .ok (.getfield 322, 3) := by decide +kernel
theorem dX9_follows_64 : decode cX9_follows 64 = .ok (.i2l, 1) := by decide +kernel
theorem dX9_follows_65 : decode cX9_follows 65 = .ok (.invokevirtual 180, 3) := by decide +kernel
theorem dX9_follows_68 : decode cX9_follows 68 = .ok (.aload_n 0, 1) := by decide +kernel
theorem dX9_follows_69 : decode cX9_follows 69 = .ok (.getfield 322, 3) := by decide +kernel
theorem dX9_follows_72 : decode cX9_follows 72 = .ok (.iload 8, 2) := by decide +kernel
theorem dX9_follows_74 : decode cX9_follows 74 = .ok (.invokestatic 160, 3) := by decide +kernel
theorem dX9_follows_77 : decode cX9_follows 77 = .ok (.iadd, 1) := by decide +kernel
theorem dX9_follows_78 : decode cX9_follows 78 = .ok (.istore 9, 2) := by decide +kernel
theorem dX9_follows_80 : decode cX9_follows 80 = .ok (.iload 8, 2) := by decide +kernel
theorem dX9_follows_82 : decode cX9_follows 82 = .ok (.ifCond .eq 10, 3) := by decide +kernel
theorem dX9_follows_85 : decode cX9_follows 85 = .ok (.aload_n 0, 1) := by decide +kernel
theorem dX9_follows_86 : decode cX9_follows 86 = .ok (.getfield 322, 3) := by decide +kernel
theorem dX9_follows_89 : decode cX9_follows 89 = .ok (.goto 5, 3) := by decide +kernel
theorem dX9_follows_92 : decode cX9_follows 92 = .ok (.iload 11, 2) := by decide +kernel
theorem dX9_follows_94 : decode cX9_follows 94 = .ok (.istore 11, 2) := by decide +kernel
theorem dX9_follows_96 : decode cX9_follows 96 = .ok (.iload 10, 2) := by decide +kernel
theorem dX9_follows_98 : decode cX9_follows 98 = .ok (.iload 8, 2) := by decide +kernel
theorem dX9_follows_100 : decode cX9_follows 100 = .ok (.ifCond .ne 7, 3) := by decide +kernel
theorem dX9_follows_103 : decode cX9_follows 103 = .ok (.iconst 1, 1) := by decide +kernel
theorem dX9_follows_104 : decode cX9_follows 104 = .ok (.goto 4, 3) := by decide +kernel
theorem dX9_follows_107 : decode cX9_follows 107 = .ok (.iconst 0, 1) := by decide +kernel
theorem dX9_follows_108 : decode cX9_follows 108 = .ok (.invokestatic 160, 3) := by decide +kernel
theorem dX9_follows_111 : decode cX9_follows 111 = .ok (.iadd, 1) := by decide +kernel
theorem dX9_follows_112 : decode cX9_follows 112 = .ok (.istore 10, 2) := by decide +kernel
theorem dX9_follows_114 : decode cX9_follows 114 = .ok (.iinc 12 1, 3) := by decide +kernel
theorem dX9_follows_117 : decode cX9_follows 117 = .ok (.goto (-102), 3) := by decide +kernel
theorem dX9_follows_120 : decode cX9_follows 120 = .ok (.iload 11, 2) := by decide +kernel
theorem dX9_follows_122 : decode cX9_follows 122 = .ok (.ireturn, 1) := by decide +kernel
set_option maxRecDepth 20000 in
theorem ggX9_line_X9_isLifter : GoodIn wsX9_line wsX9_isLifter := goodIn_r _ [8, 9, 10, 11, 7, 12, 158, 159, 160, 161, 162, 163, 164, 165, 166, 167, 168, 169, 170, 171, 172, 173, 174, 175, 176, 177, 178, 179, 180, 181, 182, 183, 184, 185, 186, 187, 188, 189, 190, 191, 192, 193, 194, 195, 196, 197] (by decide +kernel) (by decide +kernel)
set_option maxRecDepth 20000 in
theorem gX9_line_X9_isLifter : GoodIn wsX9_line (wsV RX9 233 RX9 yX9_isLifter wsX9_isLifter) := goodIn_app (goodIn_of _ (by decide +kernel)) ggX9_line_X9_isLifter
set_option maxRecDepth 20000 in
theorem ggX9_line_X9_in : GoodIn wsX9_line wsX9_in := goodIn_r _ [12] (by decide +kernel) (by decide +kernel)
set_option maxRecDepth 20000 in
theorem gX9_line_X9_in : GoodIn wsX9_line (va_wsS RX9 87 yX9_in wsX9_in) := goodIn_app (goodIn_of _ (by decide +kernel)) ggX9_line_X9_in
set_option maxRecDepth 20000 in
theorem ggX9_line_X9_aimsMass : GoodIn wsX9_line wsX9_aimsMass := goodIn_r _ [16, 17, 158, 159, 160, 161, 162, 163, 164, 165, 166, 167, 168, 169, 170, 171, 172, 173, 174, 175, 176, 177, 178, 179, 180, 181, 182, 183, 184, 185, 186, 187, 188, 189, 190, 191, 192, 193, 194, 195, 196, 197] (by decide +kernel) (by decide +kernel)
set_option maxRecDepth 20000 in
theorem gX9_line_X9_aimsMass : GoodIn wsX9_line (wsV RX9 301 RX9 yX9_aimsMass wsX9_aimsMass) := goodIn_app (goodIn_of _ (by decide +kernel)) ggX9_line_X9_aimsMass
set_option maxRecDepth 20000 in
theorem ggX9_line_X9_aimsWin : GoodIn wsX9_line wsX9_aimsWin := goodIn_r _ [21, 22, 23, 9, 24, 17, 25, 26, 27, 7, 28, 29, 30, 31, 32, 33, 34, 35, 36, 37, 38, 39, 40, 41, 3, 42, 43, 44, 45, 46, 47, 48, 49, 50, 51, 52, 53, 54, 55, 56, 57, 58, 59, 60, 61, 62, 63, 64, 65, 66, 67, 68, 69, 70, 71, 72, 73, 74, 75, 76, 77, 78, 79, 80, 81, 82, 83, 84, 85, 86, 87, 88, 89, 90, 91, 92, 93, 94, 95, 96, 97, 98, 99, 100, 101, 102, 103, 104, 105, 106, 107, 108, 109, 110, 111, 112, 113, 114, 115, 158, 159, 160, 161, 162, 163, 164, 165, 166, 167, 168, 169, 170, 171, 172, 173, 174, 175, 176, 177, 178, 179, 180, 181, 182, 183, 184, 185, 186, 187, 188, 189, 190, 191, 192, 193, 194, 195, 196, 197] (by decide +kernel) (by decide +kernel)
set_option maxRecDepth 20000 in
theorem gX9_line_X9_aimsWin : GoodIn wsX9_line (wsV RX9 313 RX9 yX9_aimsWin wsX9_aimsWin) := goodIn_app (goodIn_of _ (by decide +kernel)) ggX9_line_X9_aimsWin
set_option maxRecDepth 20000 in
theorem ggX9_line_X9_isOut : GoodIn wsX9_line wsX9_isOut := goodIn_r _ [45, 46, 47, 48, 7, 49, 3, 158, 159, 160, 161, 162, 163, 164, 165, 166, 167, 168, 169, 170, 171, 172, 173, 174, 175, 176, 177, 178, 179, 180, 181, 182, 183, 184, 185, 186, 187, 188, 189, 190, 191, 192, 193, 194, 195, 196, 197] (by decide +kernel) (by decide +kernel)
set_option maxRecDepth 20000 in
theorem gX9_line_X9_isOut : GoodIn wsX9_line (wsV RX9 121 RX9 yX9_isOut wsX9_isOut) := goodIn_app (goodIn_of _ (by decide +kernel)) ggX9_line_X9_isOut
set_option maxRecDepth 20000 in
theorem ggX9_line_X9_isOver : GoodIn wsX9_line wsX9_isOver := goodIn_r _ [53, 3, 158, 159, 160, 161, 162, 163, 164, 165, 166, 167, 168, 169, 170, 171, 172, 173, 174, 175, 176, 177, 178, 179, 180, 181, 182, 183, 184, 185, 186, 187, 188, 189, 190, 191, 192, 193, 194, 195, 196, 197] (by decide +kernel) (by decide +kernel)
set_option maxRecDepth 20000 in
theorem gX9_line_X9_isOver : GoodIn wsX9_line (wsV RX9 113 RX9 yX9_isOver wsX9_isOver) := goodIn_app (goodIn_of _ (by decide +kernel)) ggX9_line_X9_isOver
set_option maxRecDepth 20000 in
theorem ggX9_line_X9_sumAhead : GoodIn wsX9_line wsX9_sumAhead := goodIn_r _ [65, 3, 46, 47, 48, 7, 49, 158, 159, 160, 161, 162, 163, 164, 165, 166, 167, 168, 169, 170, 171, 172, 173, 174, 175, 176, 177, 178, 179, 180, 181, 182, 183, 184, 185, 186, 187, 188, 189, 190, 191, 192, 193, 194, 195, 196, 197] (by decide +kernel) (by decide +kernel)
set_option maxRecDepth 20000 in
theorem gX9_line_X9_sumAhead : GoodIn wsX9_line (wsV RX9 280 RX9 yX9_sumAhead wsX9_sumAhead) := goodIn_app (goodIn_of _ (by decide +kernel)) ggX9_line_X9_sumAhead
set_option maxRecDepth 20000 in
theorem ggX9_line_X9_laysBehind : GoodIn wsX9_line wsX9_laysBehind := goodIn_r _ [119, 120, 17, 121, 122, 123, 7, 124, 125, 126, 127, 128, 129, 130, 131, 132, 133, 134, 135, 136, 137, 138, 139, 72, 140, 141, 142, 143, 86, 87, 88, 89, 90, 70, 71, 73, 91, 92, 93, 94, 95, 96, 97, 98, 99, 100, 101, 158, 159, 160, 161, 162, 163, 164, 165, 166, 167, 168, 169, 170, 171, 172, 173, 174, 175, 176, 177, 178, 179, 180, 181, 182, 183, 184, 185, 186, 187, 188, 189, 190, 191, 192, 193, 194, 195, 196, 197] (by decide +kernel) (by decide +kernel)
set_option maxRecDepth 20000 in
theorem gX9_line_X9_laysBehind : GoodIn wsX9_line (wsV RX9 349 RX9 yX9_laysBehind wsX9_laysBehind) := goodIn_app (goodIn_of _ (by decide +kernel)) ggX9_line_X9_laysBehind
set_option maxRecDepth 20000 in
theorem ggX9_line_X9_roundOf : GoodIn wsX9_line wsX9_roundOf := goodIn_r _ [61, 3, 46, 47, 48, 7, 49, 158, 159, 160, 161, 162, 163, 164, 165, 166, 167, 168, 169, 170, 171, 172, 173, 174, 175, 176, 177, 178, 179, 180, 181, 182, 183, 184, 185, 186, 187, 188, 189, 190, 191, 192, 193, 194, 195, 196, 197] (by decide +kernel) (by decide +kernel)
set_option maxRecDepth 20000 in
theorem gX9_line_X9_roundOf : GoodIn wsX9_line (wsV RX9 277 RX9 yX9_roundOf wsX9_roundOf) := goodIn_app (goodIn_of _ (by decide +kernel)) ggX9_line_X9_roundOf
set_option maxRecDepth 20000 in
theorem ggX9_line_X9_leastOf : GoodIn wsX9_line wsX9_leastOf := goodIn_r _ [147, 3, 70, 71, 72, 73, 46, 47, 48, 7, 49, 42, 43, 44, 45, 50, 51, 52, 53, 158, 159, 160, 161, 162, 163, 164, 165, 166, 167, 168, 169, 170, 171, 172, 173, 174, 175, 176, 177, 178, 179, 180, 181, 182, 183, 184, 185, 186, 187, 188, 189, 190, 191, 192, 193, 194, 195, 196, 197] (by decide +kernel) (by decide +kernel)
set_option maxRecDepth 20000 in
theorem gX9_line_X9_leastOf : GoodIn wsX9_line (wsV RX9 249 RX9 yX9_leastOf wsX9_leastOf) := goodIn_app (goodIn_of _ (by decide +kernel)) ggX9_line_X9_leastOf
set_option maxRecDepth 20000 in
theorem ggX9_line_X9_of : GoodIn wsX9_line wsX9_of := goodIn_r _ [49, 3, 158, 159, 160, 161, 162, 163, 164, 165, 166, 167, 168, 169, 170, 171, 172, 173, 174, 175, 176, 177, 178, 179, 180, 181, 182, 183, 184, 185, 186, 187, 188, 189, 190, 191, 192, 193, 194, 195, 196, 197] (by decide +kernel) (by decide +kernel)
set_option maxRecDepth 20000 in
theorem gX9_line_X9_of : GoodIn wsX9_line (wsV RX9 106 RX9 yX9_of wsX9_of) := goodIn_app (goodIn_of _ (by decide +kernel)) ggX9_line_X9_of
set_option maxRecDepth 20000 in
theorem ggX9_line_X9_follows : GoodIn wsX9_line wsX9_follows := goodIn_r _ [151, 152, 137, 10, 11, 7, 12, 121, 122, 123, 124, 125, 126, 127, 128, 129, 130, 131, 132, 17, 120, 133, 134, 135, 136, 138, 139, 72, 140, 141, 142, 143, 86, 87, 88, 89, 90, 70, 71, 73, 91, 92, 93, 94, 95, 96, 97, 98, 99, 100, 101, 153, 154, 155, 156, 157, 2, 113, 114, 115, 158, 159, 160, 161, 162, 163, 164, 165, 166, 167, 168, 169, 170, 171, 172, 173, 174, 175, 176, 177, 178, 179, 180, 181, 182, 183, 184, 185, 186, 187, 188, 189, 190, 191, 192, 193, 194, 195, 196, 197] (by decide +kernel) (by decide +kernel)
set_option maxRecDepth 20000 in
theorem gX9_line_X9_follows : GoodIn wsX9_line (wsV RX9 361 RX9 yX9_follows wsX9_follows) := goodIn_app (goodIn_of _ (by decide +kernel)) ggX9_line_X9_follows
theorem dX9_line_0 : decode cX9_line 0 = .ok (.aload_n 0, 1) := by decide +kernel
theorem dX9_line_1 : decode cX9_line 1 = .ok (.iconst 0, 1) := by decide +kernel
theorem dX9_line_2 : decode cX9_line 2 = .ok (.putfield 77, 3) := by decide +kernel
theorem dX9_line_5 : decode cX9_line 5 = .ok (.aload_n 0, 1) := by decide +kernel
theorem dX9_line_6 : decode cX9_line 6 = .ok (.iload_n 1, 1) := by decide +kernel
theorem dX9_line_7 : decode cX9_line 7 = .ok (.invokevirtual 233, 3) := by decide +kernel
theorem dX9_line_10 : decode cX9_line 10 = .ok (.ifCond .eq 13, 3) := by decide +kernel
theorem dX9_line_13 : decode cX9_line 13 = .ok (.iload_n 2, 1) := by decide +kernel
theorem dX9_line_14 : decode cX9_line 14 = .ok (.i2l, 1) := by decide +kernel
theorem dX9_line_15 : decode cX9_line 15 = .ok (.lconst 0, 1) := by decide +kernel
theorem dX9_line_16 : decode cX9_line 16 = .ok (.lconst 1, 1) := by decide +kernel
theorem dX9_line_17 : decode cX9_line 17 = .ok (.invokestatic 87, 3) := by decide +kernel
theorem dX9_line_20 : decode cX9_line 20 = .ok (.ifCond .ne 5, 3) := by decide +kernel
theorem dX9_line_23 : decode cX9_line 23 = .ok (.iconst (-1), 1) := by decide +kernel
theorem dX9_line_24 : decode cX9_line 24 = .ok (.ireturn, 1) := by decide +kernel
theorem dX9_line_25 : decode cX9_line 25 = .ok (.iload_n 2, 1) := by decide +kernel
theorem dX9_line_26 : decode cX9_line 26 = .ok (.ifCond .ne 10, 3) := by decide +kernel
theorem dX9_line_29 : decode cX9_line 29 = .ok (.aload_n 0, 1) := by decide +kernel
theorem dX9_line_30 : decode cX9_line 30 = .ok (.invokevirtual 301, 3) := by decide +kernel
theorem dX9_line_33 : decode cX9_line 33 = .ok (.goto 8, 3) := by decide +kernel
theorem dX9_line_36 : decode cX9_line 36 = .ok (.aload_n 0, 1) := by decide +kernel
theorem dX9_line_37 : decode cX9_line 37 = .ok (.iload_n 1, 1) := by decide +kernel
theorem dX9_line_38 : decode cX9_line 38 = .ok (.invokevirtual 313, 3) := by decide +kernel
theorem dX9_line_41 : decode cX9_line 41 = .ok (.aload_n 0, 1) := by decide +kernel
theorem dX9_line_42 : decode cX9_line 42 = .ok (.iconst 0, 1) := by decide +kernel
theorem dX9_line_43 : decode cX9_line 43 = .ok (.putfield 81, 3) := by decide +kernel
theorem dX9_line_46 : decode cX9_line 46 = .ok (.aload_n 0, 1) := by decide +kernel
theorem dX9_line_47 : decode cX9_line 47 = .ok (.iload_n 1, 1) := by decide +kernel
theorem dX9_line_48 : decode cX9_line 48 = .ok (.invokevirtual 121, 3) := by decide +kernel
theorem dX9_line_51 : decode cX9_line 51 = .ok (.ifCond .ne 10, 3) := by decide +kernel
theorem dX9_line_54 : decode cX9_line 54 = .ok (.aload_n 0, 1) := by decide +kernel
theorem dX9_line_55 : decode cX9_line 55 = .ok (.invokevirtual 113, 3) := by decide +kernel
theorem dX9_line_58 : decode cX9_line 58 = .ok (.ifCond .eq 5, 3) := by decide +kernel
theorem dX9_line_61 : decode cX9_line 61 = .ok (.iconst 0, 1) := by decide +kernel
theorem dX9_line_62 : decode cX9_line 62 = .ok (.ireturn, 1) := by decide +kernel
theorem dX9_line_63 : decode cX9_line 63 = .ok (.aload_n 0, 1) := by decide +kernel
theorem dX9_line_64 : decode cX9_line 64 = .ok (.getfield 32, 3) := by decide +kernel
theorem dX9_line_67 : decode cX9_line 67 = .ok (.iconst 0, 1) := by decide +kernel
theorem dX9_line_68 : decode cX9_line 68 = .ok (.iaload, 1) := by decide +kernel
theorem dX9_line_69 : decode cX9_line 69 = .ok (.istore 4, 2) := by decide +kernel
theorem dX9_line_71 : decode cX9_line 71 = .ok (.aload_n 0, 1) := by decide +kernel
theorem dX9_line_72 : decode cX9_line 72 = .ok (.iload_n 1, 1) := by decide +kernel
theorem dX9_line_73 : decode cX9_line 73 = .ok (.invokevirtual 280, 3) := by decide +kernel
theorem dX9_line_76 : decode cX9_line 76 = .ok (.istore 5, 2) := by decide +kernel
theorem dX9_line_78 : decode cX9_line 78 = .ok (.iload 4, 2) := by decide +kernel
theorem dX9_line_80 : decode cX9_line 80 = .ok (.istore 6, 2) := by decide +kernel
theorem dX9_line_82 : decode cX9_line 82 = .ok (.iload 6, 2) := by decide +kernel
theorem dX9_line_84 : decode cX9_line 84 = .ok (.iconst 3, 1) := by decide +kernel
theorem dX9_line_85 : decode cX9_line 85 = .ok (.if_icmp .ge 121, 3) := by decide +kernel
theorem dX9_line_88 : decode cX9_line 88 = .ok (.aload_n 0, 1) := by decide +kernel
theorem dX9_line_89 : decode cX9_line 89 = .ok (.iload_n 1, 1) := by decide +kernel
theorem dX9_line_90 : decode cX9_line 90 = .ok (.iload 6, 2) := by decide +kernel
theorem dX9_line_92 : decode cX9_line 92 = .ok (.invokevirtual 349, 3) := by decide +kernel
theorem dX9_line_95 : decode cX9_line 95 = .ok (.iload 6, 2) := by decide +kernel
theorem dX9_line_97 : decode cX9_line 97 = .ok (.iload 4, 2) := by decide +kernel
theorem dX9_line_99 : decode cX9_line 99 = .ok (.if_icmp .ne 7, 3) := by decide +kernel
theorem dX9_line_102 : decode cX9_line 102 = .ok (.iconst 1, 1) := by decide +kernel
theorem dX9_line_103 : decode cX9_line 103 = .ok (.goto 4, 3) := by decide +kernel
theorem dX9_line_106 : decode cX9_line 106 = .ok (.iconst 0, 1) := by decide +kernel
theorem dX9_line_107 : decode cX9_line 107 = .ok (.istore 7, 2) := by decide +kernel
theorem dX9_line_109 : decode cX9_line 109 = .ok (.aload_n 0, 1) := by decide +kernel
theorem dX9_line_110 : decode cX9_line 110 = .ok (.iload_n 1, 1) := by decide +kernel
theorem dX9_line_111 : decode cX9_line 111 = .ok (.iload 6, 2) := by decide +kernel
theorem dX9_line_113 : decode cX9_line 113 = .ok (.iload 7, 2) := by decide +kernel
theorem dX9_line_115 : decode cX9_line 115 = .ok (.ifCond .eq 11, 3) := by decide +kernel
theorem dX9_line_118 : decode cX9_line 118 = .ok (.aload_n 0, 1) := by decide +kernel
theorem dX9_line_119 : decode cX9_line 119 = .ok (.iload_n 1, 1) := by decide +kernel
theorem dX9_line_120 : decode cX9_line 120 = .ok (.invokevirtual 277, 3) := by decide +kernel
theorem dX9_line_123 : decode cX9_line 123 = .ok (.goto 4, 3) := by decide +kernel
theorem dX9_line_126 : decode cX9_line 126 = .ok (.iconst 0, 1) := by decide +kernel
theorem dX9_line_127 : decode cX9_line 127 = .ok (.iload 7, 2) := by decide +kernel
theorem dX9_line_129 : decode cX9_line 129 = .ok (.ifCond .eq 11, 3) := by decide +kernel
theorem dX9_line_132 : decode cX9_line 132 = .ok (.aload_n 0, 1) := by decide +kernel
theorem dX9_line_133 : decode cX9_line 133 = .ok (.iload_n 1, 1) := by decide +kernel
theorem dX9_line_134 : decode cX9_line 134 = .ok (.invokevirtual 249, 3) := by decide +kernel
theorem dX9_line_137 : decode cX9_line 137 = .ok (.goto 4, 3) := by decide +kernel
theorem dX9_line_140 : decode cX9_line 140 = .ok (.iconst 1, 1) := by decide +kernel
theorem dX9_line_141 : decode cX9_line 141 = .ok (.iload 7, 2) := by decide +kernel
theorem dX9_line_143 : decode cX9_line 143 = .ok (.ifCond .eq 12, 3) := by decide +kernel
theorem dX9_line_146 : decode cX9_line 146 = .ok (.aload_n 0, 1) := by decide +kernel
theorem dX9_line_147 : decode cX9_line 147 = .ok (.iload_n 1, 1) := by decide +kernel
theorem dX9_line_148 : decode cX9_line 148 = .ok (.iconst 4, 1) := by decide +kernel
theorem dX9_line_149 : decode cX9_line 149 = .ok (.invokevirtual 106, 3) := by decide +kernel
theorem dX9_line_152 : decode cX9_line 152 = .ok (.goto 4, 3) := by decide +kernel
theorem dX9_line_155 : decode cX9_line 155 = .ok (.iconst 0, 1) := by decide +kernel
theorem dX9_line_156 : decode cX9_line 156 = .ok (.iload 7, 2) := by decide +kernel
theorem dX9_line_158 : decode cX9_line 158 = .ok (.ifCond .eq 16, 3) := by decide +kernel
theorem dX9_line_161 : decode cX9_line 161 = .ok (.aload_n 0, 1) := by decide +kernel
theorem dX9_line_162 : decode cX9_line 162 = .ok (.iload_n 1, 1) := by decide +kernel
theorem dX9_line_163 : decode cX9_line 163 = .ok (.bipush 7, 2) := by decide +kernel
theorem dX9_line_165 : decode cX9_line 165 = .ok (.iload 6, 2) := by decide +kernel
theorem dX9_line_167 : decode cX9_line 167 = .ok (.iadd, 1) := by decide +kernel
theorem dX9_line_168 : decode cX9_line 168 = .ok (.invokevirtual 106, 3) := by decide +kernel
theorem dX9_line_171 : decode cX9_line 171 = .ok (.goto 4, 3) := by decide +kernel
theorem dX9_line_174 : decode cX9_line 174 = .ok (.iconst 0, 1) := by decide +kernel
theorem dX9_line_175 : decode cX9_line 175 = .ok (.iload 5, 2) := by decide +kernel
theorem dX9_line_177 : decode cX9_line 177 = .ok (.iload_n 3, 1) := by decide +kernel
theorem dX9_line_178 : decode cX9_line 178 = .ok (.invokevirtual 361, 3) := by decide +kernel
theorem dX9_line_181 : decode cX9_line 181 = .ok (.istore 8, 2) := by decide +kernel
theorem dX9_line_183 : decode cX9_line 183 = .ok (.iload 8, 2) := by decide +kernel
theorem dX9_line_185 : decode cX9_line 185 = .ok (.ifCond .ne 8, 3) := by decide +kernel
theorem dX9_line_188 : decode cX9_line 188 = .ok (.aload_n 0, 1) := by decide +kernel
theorem dX9_line_189 : decode cX9_line 189 = .ok (.getfield 81, 3) := by decide +kernel
theorem dX9_line_192 : decode cX9_line 192 = .ok (.ireturn, 1) := by decide +kernel
theorem dX9_line_193 : decode cX9_line 193 = .ok (.iload 5, 2) := by decide +kernel
theorem dX9_line_195 : decode cX9_line 195 = .ok (.iload 8, 2) := by decide +kernel
theorem dX9_line_197 : decode cX9_line 197 = .ok (.iadd, 1) := by decide +kernel
theorem dX9_line_198 : decode cX9_line 198 = .ok (.istore 5, 2) := by decide +kernel
theorem dX9_line_200 : decode cX9_line 200 = .ok (.iinc 6 1, 3) := by decide +kernel
theorem dX9_line_203 : decode cX9_line 203 = .ok (.goto (-121), 3) := by decide +kernel
theorem dX9_line_206 : decode cX9_line 206 = .ok (.aload_n 0, 1) := by decide +kernel
theorem dX9_line_207 : decode cX9_line 207 = .ok (.getfield 81, 3) := by decide +kernel
theorem dX9_line_210 : decode cX9_line 210 = .ok (.ireturn, 1) := by decide +kernel
set_option maxRecDepth 20000 in
theorem ggX9_duelEnds_X9_sumAhead : GoodIn wsX9_duelEnds wsX9_sumAhead := goodIn_r _ [8, 9, 10, 11, 12, 7, 13, 20, 21, 22, 23, 24, 25, 26, 27, 28, 29, 30, 31, 32, 33, 34, 35, 36, 37, 38, 39, 40, 41, 42, 43, 44, 45, 46, 47, 48, 49, 50, 51, 52, 53, 54, 55, 56, 57, 58, 59] (by decide +kernel) (by decide +kernel)
set_option maxRecDepth 20000 in
theorem gX9_duelEnds_X9_sumAhead : GoodIn wsX9_duelEnds (wsV RX9 280 RX9 yX9_sumAhead wsX9_sumAhead) := goodIn_app (goodIn_of _ (by decide +kernel)) ggX9_duelEnds_X9_sumAhead
set_option maxRecDepth 20000 in
theorem ggX9_duelEnds_X9_isLighter : GoodIn wsX9_duelEnds wsX9_isLighter := goodIn_r _ [17, 18, 19, 20, 21, 22, 23, 24, 25, 26, 27, 28, 29, 30, 31, 32, 33, 34, 35, 36, 37, 38, 39, 40, 41, 42, 43, 44, 45, 46, 47, 48, 49, 50, 51, 52, 53, 54, 55, 56, 57, 58, 59] (by decide +kernel) (by decide +kernel)
set_option maxRecDepth 20000 in
theorem gX9_duelEnds_X9_isLighter : GoodIn wsX9_duelEnds (wsV RX9 171 RX9 yX9_isLighter wsX9_isLighter) := goodIn_app (goodIn_of _ (by decide +kernel)) ggX9_duelEnds_X9_isLighter
theorem dX9_duelEnds_0 : decode cX9_duelEnds 0 = .ok (.iload_n 1, 1) := by decide +kernel
theorem dX9_duelEnds_1 : decode cX9_duelEnds 1 = .ok (.ifCond .eq 7, 3) := by decide +kernel
theorem dX9_duelEnds_4 : decode cX9_duelEnds 4 = .ok (.iload_n 2, 1) := by decide +kernel
theorem dX9_duelEnds_5 : decode cX9_duelEnds 5 = .ok (.ifCond .ne 15, 3) := by decide +kernel
theorem dX9_duelEnds_8 : decode cX9_duelEnds 8 = .ok (.iload_n 1, 1) := by decide +kernel
theorem dX9_duelEnds_9 : decode cX9_duelEnds 9 = .ok (.ifCond .le 9, 3) := by decide +kernel
theorem dX9_duelEnds_12 : decode cX9_duelEnds 12 = .ok (.ldc_w 264, 3) := by decide +kernel
theorem dX9_duelEnds_15 : decode cX9_duelEnds 15 = .ok (.goto 4, 3) := by decide +kernel
theorem dX9_duelEnds_18 : decode cX9_duelEnds 18 = .ok (.iconst 0, 1) := by decide +kernel
theorem dX9_duelEnds_19 : decode cX9_duelEnds 19 = .ok (.ireturn, 1) := by decide +kernel
theorem dX9_duelEnds_20 : decode cX9_duelEnds 20 = .ok (.aload_n 0, 1) := by decide +kernel
theorem dX9_duelEnds_21 : decode cX9_duelEnds 21 = .ok (.aload_n 0, 1) := by decide +kernel
theorem dX9_duelEnds_22 : decode cX9_duelEnds 22 = .ok (.getfield 365, 3) := by decide +kernel
theorem dX9_duelEnds_25 : decode cX9_duelEnds 25 = .ok (.invokevirtual 280, 3) := by decide +kernel
theorem dX9_duelEnds_28 : decode cX9_duelEnds 28 = .ok (.iload_n 1, 1) := by decide +kernel
theorem dX9_duelEnds_29 : decode cX9_duelEnds 29 = .ok (.iadd, 1) := by decide +kernel
theorem dX9_duelEnds_30 : decode cX9_duelEnds 30 = .ok (.istore_n 3, 1) := by decide +kernel
theorem dX9_duelEnds_31 : decode cX9_duelEnds 31 = .ok (.aload_n 0, 1) := by decide +kernel
theorem dX9_duelEnds_32 : decode cX9_duelEnds 32 = .ok (.aload_n 0, 1) := by decide +kernel
theorem dX9_duelEnds_33 : decode cX9_duelEnds 33 = .ok (.getfield 368, 3) := by decide +kernel
theorem dX9_duelEnds_36 : decode cX9_duelEnds 36 = .ok (.invokevirtual 280, 3) := by decide +kernel
theorem dX9_duelEnds_39 : decode cX9_duelEnds 39 = .ok (.iload_n 2, 1) := by decide +kernel
theorem dX9_duelEnds_40 : decode cX9_duelEnds 40 = .ok (.iadd, 1) := by decide +kernel
theorem dX9_duelEnds_41 : decode cX9_duelEnds 41 = .ok (.istore 4, 2) := by decide +kernel
theorem dX9_duelEnds_43 : decode cX9_duelEnds 43 = .ok (.iload_n 3, 1) := by decide +kernel
theorem dX9_duelEnds_44 : decode cX9_duelEnds 44 = .ok (.iload 4, 2) := by decide +kernel
theorem dX9_duelEnds_46 : decode cX9_duelEnds 46 = .ok (.if_icmp .gt 24, 3) := by decide +kernel
theorem dX9_duelEnds_49 : decode cX9_duelEnds 49 = .ok (.iload_n 3, 1) := by decide +kernel
theorem dX9_duelEnds_50 : decode cX9_duelEnds 50 = .ok (.iload 4, 2) := by decide +kernel
theorem dX9_duelEnds_52 : decode cX9_duelEnds 52 = .ok (.if_icmp .ne 24, 3) := by decide +kernel
theorem dX9_duelEnds_55 : decode cX9_duelEnds 55 = .ok (.aload_n 0, 1) := by decide +kernel
theorem dX9_duelEnds_56 : decode cX9_duelEnds 56 = .ok (.aload_n 0, 1) := by decide +kernel
theorem dX9_duelEnds_57 : decode cX9_duelEnds 57 = .ok (.getfield 365, 3) := by decide +kernel
theorem dX9_duelEnds_60 : decode cX9_duelEnds 60 = .ok (.aload_n 0, 1) := by decide +kernel
theorem dX9_duelEnds_61 : decode cX9_duelEnds 61 = .ok (.getfield 368, 3) := by decide +kernel
theorem dX9_duelEnds_64 : decode cX9_duelEnds 64 = .ok (.invokevirtual 171, 3) := by decide +kernel
theorem dX9_duelEnds_67 : decode cX9_duelEnds 67 = .ok (.ifCond .eq 9, 3) := by decide +kernel
theorem dX9_duelEnds_70 : decode cX9_duelEnds 70 = .ok (.ldc_w 264, 3) := by decide +kernel
theorem dX9_duelEnds_73 : decode cX9_duelEnds 73 = .ok (.goto 4, 3) := by decide +kernel
theorem dX9_duelEnds_76 : decode cX9_duelEnds 76 = .ok (.iconst 0, 1) := by decide +kernel
theorem dX9_duelEnds_77 : decode cX9_duelEnds 77 = .ok (.ireturn, 1) := by decide +kernel
set_option maxRecDepth 20000 in
theorem ggX9_duelBest_X9_of : GoodIn wsX9_duelBest wsX9_of := goodIn_r _ [9, 10, 11, 12, 13, 14, 15, 16, 17, 18, 19, 20, 21, 22, 23, 24, 25, 26, 27, 28, 29, 30, 31, 32, 33, 34, 35, 36, 37, 38, 39, 40, 41, 42, 43, 44, 45, 46, 47, 48, 49, 50] (by decide +kernel) (by decide +kernel)
set_option maxRecDepth 20000 in
theorem gX9_duelBest_X9_of : GoodIn wsX9_duelBest (wsV RX9 106 RX9 yX9_of wsX9_of) := goodIn_app (goodIn_of _ (by decide +kernel)) ggX9_duelBest_X9_of
theorem dX9_duelBest_0 : decode cX9_duelBest 0 = .ok (.aload_n 0, 1) := by decide +kernel
theorem dX9_duelBest_1 : decode cX9_duelBest 1 = .ok (.iload_n 1, 1) := by decide +kernel
theorem dX9_duelBest_2 : decode cX9_duelBest 2 = .ok (.bipush 9, 2) := by decide +kernel
theorem dX9_duelBest_4 : decode cX9_duelBest 4 = .ok (.invokevirtual 106, 3) := by decide +kernel
theorem dX9_duelBest_7 : decode cX9_duelBest 7 = .ok (.istore 4, 2) := by decide +kernel
theorem dX9_duelBest_9 : decode cX9_duelBest 9 = .ok (.iload_n 3, 1) := by decide +kernel
theorem dX9_duelBest_10 : decode cX9_duelBest 10 = .ok (.ifCond .eq 12, 3) := by decide +kernel
theorem dX9_duelBest_13 : decode cX9_duelBest 13 = .ok (.iload 4, 2) := by decide +kernel
theorem dX9_duelBest_15 : decode cX9_duelBest 15 = .ok (.iload_n 2, 1) := by decide +kernel
theorem dX9_duelBest_16 : decode cX9_duelBest 16 = .ok (.invokestatic 100, 3) := by decide +kernel
theorem dX9_duelBest_19 : decode cX9_duelBest 19 = .ok (.goto 5, 3) := by decide +kernel
theorem dX9_duelBest_22 : decode cX9_duelBest 22 = .ok (.iload 4, 2) := by decide +kernel
theorem dX9_duelBest_24 : decode cX9_duelBest 24 = .ok (.ireturn, 1) := by decide +kernel
set_option maxRecDepth 20000 in
theorem ggX9_duelTry_X9_of : GoodIn wsX9_duelTry wsX9_of := goodIn_r _ [5, 6, 27, 28, 29, 30, 31, 32, 33, 34, 35, 36, 37, 38, 39, 40, 41, 42, 43, 44, 45, 46, 47, 48, 49, 50, 51, 52, 53, 54, 55, 56, 57, 58, 59, 60, 61, 62, 63, 64, 65, 66] (by decide +kernel) (by decide +kernel)
set_option maxRecDepth 20000 in
theorem gX9_duelTry_X9_of : GoodIn wsX9_duelTry (wsV RX9 106 RX9 yX9_of wsX9_of) := goodIn_app (goodIn_of _ (by decide +kernel)) ggX9_duelTry_X9_of
set_option maxRecDepth 20000 in
theorem ggX9_duelTry_X9_oddsOf : GoodIn wsX9_duelTry wsX9_oddsOf := goodIn_r _ [10, 11, 12, 13, 14, 15, 16, 17, 18, 4, 19, 20, 21, 22, 27, 28, 29, 30, 31, 32, 33, 34, 35, 36, 37, 38, 39, 40, 41, 42, 43, 44, 45, 46, 47, 48, 49, 50, 51, 52, 53, 54, 55, 56, 57, 58, 59, 60, 61, 62, 63, 64, 65, 66] (by decide +kernel) (by decide +kernel)
set_option maxRecDepth 20000 in
theorem gX9_duelTry_X9_oddsOf : GoodIn wsX9_duelTry (wsV RX9 245 RX9 yX9_oddsOf wsX9_oddsOf) := goodIn_app (goodIn_of _ (by decide +kernel)) ggX9_duelTry_X9_oddsOf
set_option maxRecDepth 20000 in
theorem ggX9_duelTry_X9_expected : GoodIn wsX9_duelTry wsX9_expected := goodIn_r _ [25, 26] (by decide +kernel) (by decide +kernel)
set_option maxRecDepth 20000 in
theorem gX9_duelTry_X9_expected : GoodIn wsX9_duelTry (va_wsS RX9 274 yX9_expected wsX9_expected) := goodIn_app (goodIn_of _ (by decide +kernel)) ggX9_duelTry_X9_expected
theorem dX9_duelTry_0 : decode cX9_duelTry 0 = .ok (.aload_n 0, 1) := by decide +kernel
theorem dX9_duelTry_1 : decode cX9_duelTry 1 = .ok (.iload_n 1, 1) := by decide +kernel
theorem dX9_duelTry_2 : decode cX9_duelTry 2 = .ok (.iconst 2, 1) := by decide +kernel
theorem dX9_duelTry_3 : decode cX9_duelTry 3 = .ok (.iload_n 2, 1) := by decide +kernel
theorem dX9_duelTry_4 : decode cX9_duelTry 4 = .ok (.aload_n 0, 1) := by decide +kernel
theorem dX9_duelTry_5 : decode cX9_duelTry 5 = .ok (.iload_n 1, 1) := by decide +kernel
theorem dX9_duelTry_6 : decode cX9_duelTry 6 = .ok (.iconst 4, 1) := by decide +kernel
theorem dX9_duelTry_7 : decode cX9_duelTry 7 = .ok (.invokevirtual 106, 3) := by decide +kernel
theorem dX9_duelTry_10 : decode cX9_duelTry 10 = .ok (.invokevirtual 245, 3) := by decide +kernel
theorem dX9_duelTry_13 : decode cX9_duelTry 13 = .ok (.iload_n 3, 1) := by decide +kernel
theorem dX9_duelTry_14 : decode cX9_duelTry 14 = .ok (.iload 4, 2) := by decide +kernel
theorem dX9_duelTry_16 : decode cX9_duelTry 16 = .ok (.invokestatic 274, 3) := by decide +kernel
theorem dX9_duelTry_19 : decode cX9_duelTry 19 = .ok (.ireturn, 1) := by decide +kernel
set_option maxRecDepth 20000 in
theorem ggX9_duelLast_X9_duelBest : GoodIn wsX9_duelLast wsX9_duelBest := goodIn_r _ [6, 7, 8, 9, 10, 11, 12, 13, 5, 14, 15, 52, 53, 54, 55, 56, 57, 58, 59, 60, 61, 62, 63, 64, 65, 66, 67, 68, 69, 70, 71, 72, 73, 74, 75, 76, 77, 78, 79, 80, 81, 82, 83, 84, 85, 86, 87, 88, 89, 90, 91] (by decide +kernel) (by decide +kernel)
set_option maxRecDepth 20000 in
theorem gX9_duelLast_X9_duelBest : GoodIn wsX9_duelLast (wsV RX9 371 RX9 yX9_duelBest wsX9_duelBest) := goodIn_app (goodIn_of _ (by decide +kernel)) ggX9_duelLast_X9_duelBest
set_option maxRecDepth 20000 in
theorem ggX9_duelLast_X9_duelEnds : GoodIn wsX9_duelLast wsX9_duelEnds := goodIn_r _ [19, 20, 1, 21, 22, 23, 24, 5, 25, 15, 11, 12, 13, 14, 26, 27, 28, 29, 30, 31, 52, 53, 54, 55, 56, 57, 58, 59, 60, 61, 62, 63, 64, 65, 66, 67, 68, 69, 70, 71, 72, 73, 74, 75, 76, 77, 78, 79, 80, 81, 82, 83, 84, 85, 86, 87, 88, 89, 90, 91] (by decide +kernel) (by decide +kernel)
set_option maxRecDepth 20000 in
theorem gX9_duelLast_X9_duelEnds : GoodIn wsX9_duelLast (wsV RX9 375 RX9 yX9_duelEnds wsX9_duelEnds) := goodIn_app (goodIn_of _ (by decide +kernel)) ggX9_duelLast_X9_duelEnds
set_option maxRecDepth 20000 in
theorem ggX9_duelLast_X9_duelTry : GoodIn wsX9_duelLast wsX9_duelTry := goodIn_r _ [35, 11, 12, 13, 5, 14, 15, 36, 37, 38, 39, 40, 7, 8, 9, 10, 41, 42, 43, 44, 45, 46, 47, 48, 49, 50, 51, 52, 53, 54, 55, 56, 57, 58, 59, 60, 61, 62, 63, 64, 65, 66, 67, 68, 69, 70, 71, 72, 73, 74, 75, 76, 77, 78, 79, 80, 81, 82, 83, 84, 85, 86, 87, 88, 89, 90, 91] (by decide +kernel) (by decide +kernel)
set_option maxRecDepth 20000 in
theorem gX9_duelLast_X9_duelTry : GoodIn wsX9_duelLast (wsV RX9 378 RX9 yX9_duelTry wsX9_duelTry) := goodIn_app (goodIn_of _ (by decide +kernel)) ggX9_duelLast_X9_duelTry
theorem dX9_duelLast_0 : decode cX9_duelLast 0 = .ok (.aload_n 0, 1) := by decide +kernel
theorem dX9_duelLast_1 : decode cX9_duelLast 1 = .ok (.iload_n 1, 1) := by decide +kernel
theorem dX9_duelLast_2 : decode cX9_duelLast 2 = .ok (.iload_n 2, 1) := by decide +kernel
theorem dX9_duelLast_3 : decode cX9_duelLast 3 = .ok (.iconst 1, 1) := by decide +kernel
theorem dX9_duelLast_4 : decode cX9_duelLast 4 = .ok (.invokevirtual 371, 3) := by decide +kernel
theorem dX9_duelLast_7 : decode cX9_duelLast 7 = .ok (.istore 4, 2) := by decide +kernel
theorem dX9_duelLast_9 : decode cX9_duelLast 9 = .ok (.aload_n 0, 1) := by decide +kernel
theorem dX9_duelLast_10 : decode cX9_duelLast 10 = .ok (.iload_n 1, 1) := by decide +kernel
theorem dX9_duelLast_11 : decode cX9_duelLast 11 = .ok (.iload_n 2, 1) := by decide +kernel
theorem dX9_duelLast_12 : decode cX9_duelLast 12 = .ok (.iconst 0, 1) := by decide +kernel
theorem dX9_duelLast_13 : decode cX9_duelLast 13 = .ok (.invokevirtual 371, 3) := by decide +kernel
theorem dX9_duelLast_16 : decode cX9_duelLast 16 = .ok (.istore 5, 2) := by decide +kernel
theorem dX9_duelLast_18 : decode cX9_duelLast 18 = .ok (.iload_n 1, 1) := by decide +kernel
theorem dX9_duelLast_19 : decode cX9_duelLast 19 = .ok (.aload_n 0, 1) := by decide +kernel
theorem dX9_duelLast_20 : decode cX9_duelLast 20 = .ok (.getfield 365, 3) := by decide +kernel
theorem dX9_duelLast_23 : decode cX9_duelLast 23 = .ok (.if_icmp .ne 26, 3) := by decide +kernel
theorem dX9_duelLast_26 : decode cX9_duelLast 26 = .ok (.aload_n 0, 1) := by decide +kernel
theorem dX9_duelLast_27 : decode cX9_duelLast 27 = .ok (.iload_n 1, 1) := by decide +kernel
theorem dX9_duelLast_28 : decode cX9_duelLast 28 = .ok (.iload_n 2, 1) := by decide +kernel
theorem dX9_duelLast_29 : decode cX9_duelLast 29 = .ok (.aload_n 0, 1) := by decide +kernel
theorem dX9_duelLast_30 : decode cX9_duelLast 30 = .ok (.iload 4, 2) := by decide +kernel
theorem dX9_duelLast_32 : decode cX9_duelLast 32 = .ok (.iload_n 3, 1) := by decide +kernel
theorem dX9_duelLast_33 : decode cX9_duelLast 33 = .ok (.invokevirtual 375, 3) := by decide +kernel
theorem dX9_duelLast_36 : decode cX9_duelLast 36 = .ok (.aload_n 0, 1) := by decide +kernel
theorem dX9_duelLast_37 : decode cX9_duelLast 37 = .ok (.iload 5, 2) := by decide +kernel
theorem dX9_duelLast_39 : decode cX9_duelLast 39 = .ok (.iload_n 3, 1) := by decide +kernel
theorem dX9_duelLast_40 : decode cX9_duelLast 40 = .ok (.invokevirtual 375, 3) := by decide +kernel
theorem dX9_duelLast_43 : decode cX9_duelLast 43 = .ok (.invokevirtual 378, 3) := by decide +kernel
theorem dX9_duelLast_46 : decode cX9_duelLast 46 = .ok (.goto 23, 3) := by decide +kernel
theorem dX9_duelLast_49 : decode cX9_duelLast 49 = .ok (.aload_n 0, 1) := by decide +kernel
theorem dX9_duelLast_50 : decode cX9_duelLast 50 = .ok (.iload_n 1, 1) := by decide +kernel
theorem dX9_duelLast_51 : decode cX9_duelLast 51 = .ok (.iload_n 2, 1) := by decide +kernel
theorem dX9_duelLast_52 : decode cX9_duelLast 52 = .ok (.aload_n 0, 1) := by decide +kernel
theorem dX9_duelLast_53 : decode cX9_duelLast 53 = .ok (.iload_n 3, 1) := by decide +kernel
theorem dX9_duelLast_54 : decode cX9_duelLast 54 = .ok (.iload 4, 2) := by decide +kernel
theorem dX9_duelLast_56 : decode cX9_duelLast 56 = .ok (.invokevirtual 375, 3) := by decide +kernel
theorem dX9_duelLast_59 : decode cX9_duelLast 59 = .ok (.aload_n 0, 1) := by decide +kernel
theorem dX9_duelLast_60 : decode cX9_duelLast 60 = .ok (.iload_n 3, 1) := by decide +kernel
theorem dX9_duelLast_61 : decode cX9_duelLast 61 = .ok (.iload 5, 2) := by decide +kernel
theorem dX9_duelLast_63 : decode cX9_duelLast 63 = .ok (.invokevirtual 375, 3) := by decide +kernel
theorem dX9_duelLast_66 : decode cX9_duelLast 66 = .ok (.invokevirtual 378, 3) := by decide +kernel
theorem dX9_duelLast_69 : decode cX9_duelLast 69 = .ok (.ireturn, 1) := by decide +kernel
theorem dX9_isBetter_0 : decode cX9_isBetter 0 = .ok (.iload_n 0, 1) := by decide +kernel
theorem dX9_isBetter_1 : decode cX9_isBetter 1 = .ok (.ifCond .eq 16, 3) := by decide +kernel
theorem dX9_isBetter_4 : decode cX9_isBetter 4 = .ok (.iload_n 1, 1) := by decide +kernel
theorem dX9_isBetter_5 : decode cX9_isBetter 5 = .ok (.iload_n 2, 1) := by decide +kernel
theorem dX9_isBetter_6 : decode cX9_isBetter 6 = .ok (.if_icmp .le 7, 3) := by decide +kernel
theorem dX9_isBetter_9 : decode cX9_isBetter 9 = .ok (.iconst 1, 1) := by decide +kernel
theorem dX9_isBetter_10 : decode cX9_isBetter 10 = .ok (.goto 17, 3) := by decide +kernel
theorem dX9_isBetter_13 : decode cX9_isBetter 13 = .ok (.iconst 0, 1) := by decide +kernel
theorem dX9_isBetter_14 : decode cX9_isBetter 14 = .ok (.goto 13, 3) := by decide +kernel
theorem dX9_isBetter_17 : decode cX9_isBetter 17 = .ok (.iload_n 1, 1) := by decide +kernel
theorem dX9_isBetter_18 : decode cX9_isBetter 18 = .ok (.iload_n 2, 1) := by decide +kernel
theorem dX9_isBetter_19 : decode cX9_isBetter 19 = .ok (.if_icmp .ge 7, 3) := by decide +kernel
theorem dX9_isBetter_22 : decode cX9_isBetter 22 = .ok (.iconst 1, 1) := by decide +kernel
theorem dX9_isBetter_23 : decode cX9_isBetter 23 = .ok (.goto 4, 3) := by decide +kernel
theorem dX9_isBetter_26 : decode cX9_isBetter 26 = .ok (.iconst 0, 1) := by decide +kernel
theorem dX9_isBetter_27 : decode cX9_isBetter 27 = .ok (.ireturn, 1) := by decide +kernel
set_option maxRecDepth 20000 in
theorem ggX9_duelChoosesLast_X9_duelLast : GoodIn wsX9_duelChoosesLast wsX9_duelLast := goodIn_r _ [6, 1, 7, 8, 9, 5, 10, 11, 12, 13, 14, 15, 16, 17, 18, 19, 20, 21, 22, 23, 24, 25, 26, 27, 28, 29, 30, 31, 32, 33, 34, 35, 36, 37, 38, 39, 40, 41, 42, 43, 44, 45, 46, 47, 48, 49, 50, 51, 52, 53, 54, 55, 59, 60, 61, 62, 63, 64, 65, 66, 67, 68, 69, 70, 71, 72, 73, 74, 75, 76, 77, 78, 79, 80, 81, 82, 83, 84, 85, 86, 87, 88, 89, 90, 91, 92, 93, 94, 95, 96, 97, 98] (by decide +kernel) (by decide +kernel)
set_option maxRecDepth 20000 in
theorem gX9_duelChoosesLast_X9_duelLast : GoodIn wsX9_duelChoosesLast (wsV RX9 381 RX9 yX9_duelLast wsX9_duelLast) := goodIn_app (goodIn_of _ (by decide +kernel)) ggX9_duelChoosesLast_X9_duelLast
set_option maxRecDepth 20000 in
theorem ggX9_duelChoosesLast_X9_isBetter : GoodIn wsX9_duelChoosesLast wsX9_isBetter := goodIn_r _ [58] (by decide +kernel) (by decide +kernel)
set_option maxRecDepth 20000 in
theorem gX9_duelChoosesLast_X9_isBetter : GoodIn wsX9_duelChoosesLast (va_wsS RX9 384 yX9_isBetter wsX9_isBetter) := goodIn_app (goodIn_of _ (by decide +kernel)) ggX9_duelChoosesLast_X9_isBetter
theorem dX9_duelChoosesLast_0 : decode cX9_duelChoosesLast 0 = .ok (.aload_n 0, 1) := by decide +kernel
theorem dX9_duelChoosesLast_1 : decode cX9_duelChoosesLast 1 = .ok (.iload_n 1, 1) := by decide +kernel
theorem dX9_duelChoosesLast_2 : decode cX9_duelChoosesLast 2 = .ok (.iload_n 2, 1) := by decide +kernel
theorem dX9_duelChoosesLast_3 : decode cX9_duelChoosesLast 3 = .ok (.iload 4, 2) := by decide +kernel
theorem dX9_duelChoosesLast_5 : decode cX9_duelChoosesLast 5 = .ok (.invokevirtual 381, 3) := by decide +kernel
theorem dX9_duelChoosesLast_8 : decode cX9_duelChoosesLast 8 = .ok (.istore 5, 2) := by decide +kernel
theorem dX9_duelChoosesLast_10 : decode cX9_duelChoosesLast 10 = .ok (.iload_n 2, 1) := by decide +kernel
theorem dX9_duelChoosesLast_11 : decode cX9_duelChoosesLast 11 = .ok (.iconst 1, 1) := by decide +kernel
theorem dX9_duelChoosesLast_12 : decode cX9_duelChoosesLast 12 = .ok (.iadd, 1) := by decide +kernel
theorem dX9_duelChoosesLast_13 : decode cX9_duelChoosesLast 13 = .ok (.istore 6, 2) := by decide +kernel
theorem dX9_duelChoosesLast_15 : decode cX9_duelChoosesLast 15 = .ok (.iload 6, 2) := by decide +kernel
theorem dX9_duelChoosesLast_17 : decode cX9_duelChoosesLast 17 = .ok (.bipush 40, 2) := by decide +kernel
theorem dX9_duelChoosesLast_19 : decode cX9_duelChoosesLast 19 = .ok (.if_icmp .gt 56, 3) := by decide +kernel
theorem dX9_duelChoosesLast_22 : decode cX9_duelChoosesLast 22 = .ok (.iload_n 3, 1) := by decide +kernel
theorem dX9_duelChoosesLast_23 : decode cX9_duelChoosesLast 23 = .ok (.ifCond .le 52, 3) := by decide +kernel
theorem dX9_duelChoosesLast_26 : decode cX9_duelChoosesLast 26 = .ok (.aload_n 0, 1) := by decide +kernel
theorem dX9_duelChoosesLast_27 : decode cX9_duelChoosesLast 27 = .ok (.iload_n 1, 1) := by decide +kernel
theorem dX9_duelChoosesLast_28 : decode cX9_duelChoosesLast 28 = .ok (.iload 6, 2) := by decide +kernel
theorem dX9_duelChoosesLast_30 : decode cX9_duelChoosesLast 30 = .ok (.iload 4, 2) := by decide +kernel
theorem dX9_duelChoosesLast_32 : decode cX9_duelChoosesLast 32 = .ok (.invokevirtual 381, 3) := by decide +kernel
theorem dX9_duelChoosesLast_35 : decode cX9_duelChoosesLast 35 = .ok (.istore 7, 2) := by decide +kernel
theorem dX9_duelChoosesLast_37 : decode cX9_duelChoosesLast 37 = .ok (.iload_n 1, 1) := by decide +kernel
theorem dX9_duelChoosesLast_38 : decode cX9_duelChoosesLast 38 = .ok (.aload_n 0, 1) := by decide +kernel
theorem dX9_duelChoosesLast_39 : decode cX9_duelChoosesLast 39 = .ok (.getfield 365, 3) := by decide +kernel
theorem dX9_duelChoosesLast_42 : decode cX9_duelChoosesLast 42 = .ok (.if_icmp .ne 7, 3) := by decide +kernel
theorem dX9_duelChoosesLast_45 : decode cX9_duelChoosesLast 45 = .ok (.iconst 1, 1) := by decide +kernel
theorem dX9_duelChoosesLast_46 : decode cX9_duelChoosesLast 46 = .ok (.goto 4, 3) := by decide +kernel
theorem dX9_duelChoosesLast_49 : decode cX9_duelChoosesLast 49 = .ok (.iconst 0, 1) := by decide +kernel
theorem dX9_duelChoosesLast_50 : decode cX9_duelChoosesLast 50 = .ok (.iload 7, 2) := by decide +kernel
theorem dX9_duelChoosesLast_52 : decode cX9_duelChoosesLast 52 = .ok (.iload 5, 2) := by decide +kernel
theorem dX9_duelChoosesLast_54 : decode cX9_duelChoosesLast 54 = .ok (.invokestatic 384, 3) := by decide +kernel
theorem dX9_duelChoosesLast_57 : decode cX9_duelChoosesLast 57 = .ok (.ifCond .eq 8, 3) := by decide +kernel
theorem dX9_duelChoosesLast_60 : decode cX9_duelChoosesLast 60 = .ok (.iload 7, 2) := by decide +kernel
theorem dX9_duelChoosesLast_62 : decode cX9_duelChoosesLast 62 = .ok (.goto 5, 3) := by decide +kernel
theorem dX9_duelChoosesLast_65 : decode cX9_duelChoosesLast 65 = .ok (.iload 5, 2) := by decide +kernel
theorem dX9_duelChoosesLast_67 : decode cX9_duelChoosesLast 67 = .ok (.istore 5, 2) := by decide +kernel
theorem dX9_duelChoosesLast_69 : decode cX9_duelChoosesLast 69 = .ok (.iinc 6 1, 3) := by decide +kernel
theorem dX9_duelChoosesLast_72 : decode cX9_duelChoosesLast 72 = .ok (.goto (-57), 3) := by decide +kernel
theorem dX9_duelChoosesLast_75 : decode cX9_duelChoosesLast 75 = .ok (.iload 5, 2) := by decide +kernel
theorem dX9_duelChoosesLast_77 : decode cX9_duelChoosesLast 77 = .ok (.ireturn, 1) := by decide +kernel
theorem dX9_duelCell_0 : decode cX9_duelCell 0 = .ok (.bipush 41, 2) := by decide +kernel
theorem dX9_duelCell_2 : decode cX9_duelCell 2 = .ok (.bipush 41, 2) := by decide +kernel
theorem dX9_duelCell_4 : decode cX9_duelCell 4 = .ok (.iconst 3, 1) := by decide +kernel
theorem dX9_duelCell_5 : decode cX9_duelCell 5 = .ok (.iload_n 2, 1) := by decide +kernel
theorem dX9_duelCell_6 : decode cX9_duelCell 6 = .ok (.imul, 1) := by decide +kernel
theorem dX9_duelCell_7 : decode cX9_duelCell 7 = .ok (.iload_n 3, 1) := by decide +kernel
theorem dX9_duelCell_8 : decode cX9_duelCell 8 = .ok (.iadd, 1) := by decide +kernel
theorem dX9_duelCell_9 : decode cX9_duelCell 9 = .ok (.imul, 1) := by decide +kernel
theorem dX9_duelCell_10 : decode cX9_duelCell 10 = .ok (.iload_n 0, 1) := by decide +kernel
theorem dX9_duelCell_11 : decode cX9_duelCell 11 = .ok (.iadd, 1) := by decide +kernel
theorem dX9_duelCell_12 : decode cX9_duelCell 12 = .ok (.imul, 1) := by decide +kernel
theorem dX9_duelCell_13 : decode cX9_duelCell 13 = .ok (.iload_n 1, 1) := by decide +kernel
theorem dX9_duelCell_14 : decode cX9_duelCell 14 = .ok (.iadd, 1) := by decide +kernel
theorem dX9_duelCell_15 : decode cX9_duelCell 15 = .ok (.ireturn, 1) := by decide +kernel
theorem dX9_isOneCalled_0 : decode cX9_isOneCalled 0 = .ok (.iload_n 1, 1) := by decide +kernel
theorem dX9_isOneCalled_1 : decode cX9_isOneCalled 1 = .ok (.iload_n 2, 1) := by decide +kernel
theorem dX9_isOneCalled_2 : decode cX9_isOneCalled 2 = .ok (.if_icmp .lt 29, 3) := by decide +kernel
theorem dX9_isOneCalled_5 : decode cX9_isOneCalled 5 = .ok (.iload_n 1, 1) := by decide +kernel
theorem dX9_isOneCalled_6 : decode cX9_isOneCalled 6 = .ok (.iload_n 2, 1) := by decide +kernel
theorem dX9_isOneCalled_7 : decode cX9_isOneCalled 7 = .ok (.if_icmp .ne 28, 3) := by decide +kernel
theorem dX9_isOneCalled_10 : decode cX9_isOneCalled 10 = .ok (.aload_n 0, 1) := by decide +kernel
theorem dX9_isOneCalled_11 : decode cX9_isOneCalled 11 = .ok (.getfield 17, 3) := by decide +kernel
theorem dX9_isOneCalled_14 : decode cX9_isOneCalled 14 = .ok (.aload_n 0, 1) := by decide +kernel
theorem dX9_isOneCalled_15 : decode cX9_isOneCalled 15 = .ok (.getfield 365, 3) := by decide +kernel
theorem dX9_isOneCalled_18 : decode cX9_isOneCalled 18 = .ok (.iaload, 1) := by decide +kernel
theorem dX9_isOneCalled_19 : decode cX9_isOneCalled 19 = .ok (.aload_n 0, 1) := by decide +kernel
theorem dX9_isOneCalled_20 : decode cX9_isOneCalled 20 = .ok (.getfield 17, 3) := by decide +kernel
theorem dX9_isOneCalled_23 : decode cX9_isOneCalled 23 = .ok (.aload_n 0, 1) := by decide +kernel
theorem dX9_isOneCalled_24 : decode cX9_isOneCalled 24 = .ok (.getfield 368, 3) := by decide +kernel
theorem dX9_isOneCalled_27 : decode cX9_isOneCalled 27 = .ok (.iaload, 1) := by decide +kernel
theorem dX9_isOneCalled_28 : decode cX9_isOneCalled 28 = .ok (.if_icmp .ge 7, 3) := by decide +kernel
theorem dX9_isOneCalled_31 : decode cX9_isOneCalled 31 = .ok (.iconst 1, 1) := by decide +kernel
theorem dX9_isOneCalled_32 : decode cX9_isOneCalled 32 = .ok (.goto 4, 3) := by decide +kernel
theorem dX9_isOneCalled_35 : decode cX9_isOneCalled 35 = .ok (.iconst 0, 1) := by decide +kernel
theorem dX9_isOneCalled_36 : decode cX9_isOneCalled 36 = .ok (.ireturn, 1) := by decide +kernel
set_option maxRecDepth 20000 in
theorem ggX9_duelLays_X9_isOneCalled : GoodIn wsX9_duelLays wsX9_isOneCalled := goodIn_r _ [9, 10, 1, 2, 72, 73, 74, 75, 76, 77, 78, 79, 80, 81, 82, 83, 84, 85, 86, 87, 88, 89, 90, 91, 92, 93, 94, 95, 96, 97, 98, 99, 100, 101, 102, 103, 104, 105, 106, 107, 108, 109, 110, 111] (by decide +kernel) (by decide +kernel)
set_option maxRecDepth 20000 in
theorem gX9_duelLays_X9_isOneCalled : GoodIn wsX9_duelLays (wsV RX9 388 RX9 yX9_isOneCalled wsX9_isOneCalled) := goodIn_app (goodIn_of _ (by decide +kernel)) ggX9_duelLays_X9_isOneCalled
set_option maxRecDepth 20000 in
theorem ggX9_duelLays_X9_duelBest : GoodIn wsX9_duelLays wsX9_duelBest := goodIn_r _ [14, 15, 16, 17, 18, 19, 20, 21, 8, 22, 23, 72, 73, 74, 75, 76, 77, 78, 79, 80, 81, 82, 83, 84, 85, 86, 87, 88, 89, 90, 91, 92, 93, 94, 95, 96, 97, 98, 99, 100, 101, 102, 103, 104, 105, 106, 107, 108, 109, 110, 111] (by decide +kernel) (by decide +kernel)
set_option maxRecDepth 20000 in
theorem gX9_duelLays_X9_duelBest : GoodIn wsX9_duelLays (wsV RX9 371 RX9 yX9_duelBest wsX9_duelBest) := goodIn_app (goodIn_of _ (by decide +kernel)) ggX9_duelLays_X9_duelBest
set_option maxRecDepth 20000 in
theorem ggX9_duelLays_X9_duelChoosesLast : GoodIn wsX9_duelLays wsX9_duelChoosesLast := goodIn_r _ [27, 1, 28, 29, 30, 8, 31, 11, 12, 13, 14, 15, 16, 17, 18, 19, 20, 21, 22, 23, 32, 33, 34, 35, 36, 2, 37, 38, 39, 40, 41, 42, 43, 44, 45, 10, 46, 47, 48, 49, 50, 51, 52, 53, 54, 55, 56, 57, 58, 59, 60, 61, 62, 63, 64, 65, 66, 67, 68, 72, 73, 74, 75, 76, 77, 78, 79, 80, 81, 82, 83, 84, 85, 86, 87, 88, 89, 90, 91, 92, 93, 94, 95, 96, 97, 98, 99, 100, 101, 102, 103, 104, 105, 106, 107, 108, 109, 110, 111] (by decide +kernel) (by decide +kernel)
set_option maxRecDepth 20000 in
theorem gX9_duelLays_X9_duelChoosesLast : GoodIn wsX9_duelLays (wsV RX9 391 RX9 yX9_duelChoosesLast wsX9_duelChoosesLast) := goodIn_app (goodIn_of _ (by decide +kernel)) ggX9_duelLays_X9_duelChoosesLast
set_option maxRecDepth 20000 in
theorem ggX9_duelLays_X9_duelTry : GoodIn wsX9_duelLays wsX9_duelTry := goodIn_r _ [49, 19, 20, 21, 8, 22, 23, 50, 51, 52, 53, 54, 15, 16, 17, 18, 55, 56, 57, 58, 59, 60, 61, 62, 63, 64, 65, 72, 73, 74, 75, 76, 77, 78, 79, 80, 81, 82, 83, 84, 85, 86, 87, 88, 89, 90, 91, 92, 93, 94, 95, 96, 97, 98, 99, 100, 101, 102, 103, 104, 105, 106, 107, 108, 109, 110, 111] (by decide +kernel) (by decide +kernel)
set_option maxRecDepth 20000 in
theorem gX9_duelLays_X9_duelTry : GoodIn wsX9_duelLays (wsV RX9 378 RX9 yX9_duelTry wsX9_duelTry) := goodIn_app (goodIn_of _ (by decide +kernel)) ggX9_duelLays_X9_duelTry
set_option maxRecDepth 20000 in
theorem ggX9_duelLays_X9_duelCell : GoodIn wsX9_duelLays wsX9_duelCell := goodIn_r _ [71] (by decide +kernel) (by decide +kernel)
set_option maxRecDepth 20000 in
theorem gX9_duelLays_X9_duelCell : GoodIn wsX9_duelLays (va_wsS RX9 394 yX9_duelCell wsX9_duelCell) := goodIn_app (goodIn_of _ (by decide +kernel)) ggX9_duelLays_X9_duelCell
set_option maxRecDepth 20000 in
theorem ggX9_duelLays_X9_isBetter : GoodIn wsX9_duelLays wsX9_isBetter := goodIn_r _ [68] (by decide +kernel) (by decide +kernel)
set_option maxRecDepth 20000 in
theorem gX9_duelLays_X9_isBetter : GoodIn wsX9_duelLays (va_wsS RX9 384 yX9_isBetter wsX9_isBetter) := goodIn_app (goodIn_of _ (by decide +kernel)) ggX9_duelLays_X9_isBetter
theorem dX9_duelLays_0 : decode cX9_duelLays 0 = .ok (.aload_n 0, 1) := by decide +kernel
theorem dX9_duelLays_1 : decode cX9_duelLays 1 = .ok (.iload_n 1, 1) := by decide +kernel
theorem dX9_duelLays_2 : decode cX9_duelLays 2 = .ok (.iload_n 2, 1) := by decide +kernel
theorem dX9_duelLays_3 : decode cX9_duelLays 3 = .ok (.invokevirtual 388, 3) := by decide +kernel
theorem dX9_duelLays_6 : decode cX9_duelLays 6 = .ok (.istore 5, 2) := by decide +kernel
theorem dX9_duelLays_8 : decode cX9_duelLays 8 = .ok (.iload 5, 2) := by decide +kernel
theorem dX9_duelLays_10 : decode cX9_duelLays 10 = .ok (.ifCond .eq 10, 3) := by decide +kernel
theorem dX9_duelLays_13 : decode cX9_duelLays 13 = .ok (.aload_n 0, 1) := by decide +kernel
theorem dX9_duelLays_14 : decode cX9_duelLays 14 = .ok (.getfield 365, 3) := by decide +kernel
theorem dX9_duelLays_17 : decode cX9_duelLays 17 = .ok (.goto 7, 3) := by decide +kernel
theorem dX9_duelLays_20 : decode cX9_duelLays 20 = .ok (.aload_n 0, 1) := by decide +kernel
theorem dX9_duelLays_21 : decode cX9_duelLays 21 = .ok (.getfield 368, 3) := by decide +kernel
theorem dX9_duelLays_24 : decode cX9_duelLays 24 = .ok (.istore 6, 2) := by decide +kernel
theorem dX9_duelLays_26 : decode cX9_duelLays 26 = .ok (.iload 5, 2) := by decide +kernel
theorem dX9_duelLays_28 : decode cX9_duelLays 28 = .ok (.ifCond .eq 7, 3) := by decide +kernel
theorem dX9_duelLays_31 : decode cX9_duelLays 31 = .ok (.iload_n 1, 1) := by decide +kernel
theorem dX9_duelLays_32 : decode cX9_duelLays 32 = .ok (.goto 4, 3) := by decide +kernel
theorem dX9_duelLays_35 : decode cX9_duelLays 35 = .ok (.iload_n 2, 1) := by decide +kernel
theorem dX9_duelLays_36 : decode cX9_duelLays 36 = .ok (.istore 7, 2) := by decide +kernel
theorem dX9_duelLays_38 : decode cX9_duelLays 38 = .ok (.iload 5, 2) := by decide +kernel
theorem dX9_duelLays_40 : decode cX9_duelLays 40 = .ok (.ifCond .eq 8, 3) := by decide +kernel
theorem dX9_duelLays_43 : decode cX9_duelLays 43 = .ok (.iload 4, 2) := by decide +kernel
theorem dX9_duelLays_45 : decode cX9_duelLays 45 = .ok (.goto 4, 3) := by decide +kernel
theorem dX9_duelLays_48 : decode cX9_duelLays 48 = .ok (.iload_n 3, 1) := by decide +kernel
theorem dX9_duelLays_49 : decode cX9_duelLays 49 = .ok (.istore 8, 2) := by decide +kernel
theorem dX9_duelLays_51 : decode cX9_duelLays 51 = .ok (.iload 5, 2) := by decide +kernel
theorem dX9_duelLays_53 : decode cX9_duelLays 53 = .ok (.ifCond .eq 7, 3) := by decide +kernel
theorem dX9_duelLays_56 : decode cX9_duelLays 56 = .ok (.iload_n 2, 1) := by decide +kernel
theorem dX9_duelLays_57 : decode cX9_duelLays 57 = .ok (.goto 4, 3) := by decide +kernel
theorem dX9_duelLays_60 : decode cX9_duelLays 60 = .ok (.iload_n 1, 1) := by decide +kernel
theorem dX9_duelLays_61 : decode cX9_duelLays 61 = .ok (.istore 9, 2) := by decide +kernel
theorem dX9_duelLays_63 : decode cX9_duelLays 63 = .ok (.aload_n 0, 1) := by decide +kernel
theorem dX9_duelLays_64 : decode cX9_duelLays 64 = .ok (.iload 5, 2) := by decide +kernel
theorem dX9_duelLays_66 : decode cX9_duelLays 66 = .ok (.ifCond .eq 10, 3) := by decide +kernel
theorem dX9_duelLays_69 : decode cX9_duelLays 69 = .ok (.aload_n 0, 1) := by decide +kernel
theorem dX9_duelLays_70 : decode cX9_duelLays 70 = .ok (.getfield 368, 3) := by decide +kernel
theorem dX9_duelLays_73 : decode cX9_duelLays 73 = .ok (.goto 7, 3) := by decide +kernel
theorem dX9_duelLays_76 : decode cX9_duelLays 76 = .ok (.aload_n 0, 1) := by decide +kernel
theorem dX9_duelLays_77 : decode cX9_duelLays 77 = .ok (.getfield 365, 3) := by decide +kernel
theorem dX9_duelLays_80 : decode cX9_duelLays 80 = .ok (.iload 9, 2) := by decide +kernel
theorem dX9_duelLays_82 : decode cX9_duelLays 82 = .ok (.iload 8, 2) := by decide +kernel
theorem dX9_duelLays_84 : decode cX9_duelLays 84 = .ok (.aload_n 0, 1) := by decide +kernel
theorem dX9_duelLays_85 : decode cX9_duelLays 85 = .ok (.iload 6, 2) := by decide +kernel
theorem dX9_duelLays_87 : decode cX9_duelLays 87 = .ok (.iload 7, 2) := by decide +kernel
theorem dX9_duelLays_89 : decode cX9_duelLays 89 = .ok (.iconst 1, 1) := by decide +kernel
theorem dX9_duelLays_90 : decode cX9_duelLays 90 = .ok (.invokevirtual 371, 3) := by decide +kernel
theorem dX9_duelLays_93 : decode cX9_duelLays 93 = .ok (.invokevirtual 391, 3) := by decide +kernel
theorem dX9_duelLays_96 : decode cX9_duelLays 96 = .ok (.istore 10, 2) := by decide +kernel
theorem dX9_duelLays_98 : decode cX9_duelLays 98 = .ok (.aload_n 0, 1) := by decide +kernel
theorem dX9_duelLays_99 : decode cX9_duelLays 99 = .ok (.iload 5, 2) := by decide +kernel
theorem dX9_duelLays_101 : decode cX9_duelLays 101 = .ok (.ifCond .eq 10, 3) := by decide +kernel
theorem dX9_duelLays_104 : decode cX9_duelLays 104 = .ok (.aload_n 0, 1) := by decide +kernel
theorem dX9_duelLays_105 : decode cX9_duelLays 105 = .ok (.getfield 368, 3) := by decide +kernel
theorem dX9_duelLays_108 : decode cX9_duelLays 108 = .ok (.goto 7, 3) := by decide +kernel
theorem dX9_duelLays_111 : decode cX9_duelLays 111 = .ok (.aload_n 0, 1) := by decide +kernel
theorem dX9_duelLays_112 : decode cX9_duelLays 112 = .ok (.getfield 365, 3) := by decide +kernel
theorem dX9_duelLays_115 : decode cX9_duelLays 115 = .ok (.iload 9, 2) := by decide +kernel
theorem dX9_duelLays_117 : decode cX9_duelLays 117 = .ok (.iload 8, 2) := by decide +kernel
theorem dX9_duelLays_119 : decode cX9_duelLays 119 = .ok (.aload_n 0, 1) := by decide +kernel
theorem dX9_duelLays_120 : decode cX9_duelLays 120 = .ok (.iload 6, 2) := by decide +kernel
theorem dX9_duelLays_122 : decode cX9_duelLays 122 = .ok (.iload 7, 2) := by decide +kernel
theorem dX9_duelLays_124 : decode cX9_duelLays 124 = .ok (.iconst 0, 1) := by decide +kernel
theorem dX9_duelLays_125 : decode cX9_duelLays 125 = .ok (.invokevirtual 371, 3) := by decide +kernel
theorem dX9_duelLays_128 : decode cX9_duelLays 128 = .ok (.invokevirtual 391, 3) := by decide +kernel
theorem dX9_duelLays_131 : decode cX9_duelLays 131 = .ok (.istore 11, 2) := by decide +kernel
theorem dX9_duelLays_133 : decode cX9_duelLays 133 = .ok (.aload_n 0, 1) := by decide +kernel
theorem dX9_duelLays_134 : decode cX9_duelLays 134 = .ok (.iload 6, 2) := by decide +kernel
theorem dX9_duelLays_136 : decode cX9_duelLays 136 = .ok (.iload 7, 2) := by decide +kernel
theorem dX9_duelLays_138 : decode cX9_duelLays 138 = .ok (.iload 10, 2) := by decide +kernel
theorem dX9_duelLays_140 : decode cX9_duelLays 140 = .ok (.iload 11, 2) := by decide +kernel
theorem dX9_duelLays_142 : decode cX9_duelLays 142 = .ok (.invokevirtual 378, 3) := by decide +kernel
theorem dX9_duelLays_145 : decode cX9_duelLays 145 = .ok (.istore 12, 2) := by decide +kernel
theorem dX9_duelLays_147 : decode cX9_duelLays 147 = .ok (.iconst 0, 1) := by decide +kernel
theorem dX9_duelLays_148 : decode cX9_duelLays 148 = .ok (.istore 13, 2) := by decide +kernel
theorem dX9_duelLays_150 : decode cX9_duelLays 150 = .ok (.iload 7, 2) := by decide +kernel
theorem dX9_duelLays_152 : decode cX9_duelLays 152 = .ok (.iconst 1, 1) := by decide +kernel
theorem dX9_duelLays_153 : decode cX9_duelLays 153 = .ok (.iadd, 1) := by decide +kernel
theorem dX9_duelLays_154 : decode cX9_duelLays 154 = .ok (.istore 14, 2) := by decide +kernel
theorem dX9_duelLays_156 : decode cX9_duelLays 156 = .ok (.iload 14, 2) := by decide +kernel
theorem dX9_duelLays_158 : decode cX9_duelLays 158 = .ok (.bipush 40, 2) := by decide +kernel
theorem dX9_duelLays_160 : decode cX9_duelLays 160 = .ok (.if_icmp .gt 88, 3) := by decide +kernel
theorem dX9_duelLays_163 : decode cX9_duelLays 163 = .ok (.iload 5, 2) := by decide +kernel
theorem dX9_duelLays_165 : decode cX9_duelLays 165 = .ok (.ifCond .eq 7, 3) := by decide +kernel
theorem dX9_duelLays_168 : decode cX9_duelLays 168 = .ok (.iload_n 3, 1) := by decide +kernel
theorem dX9_duelLays_169 : decode cX9_duelLays 169 = .ok (.goto 5, 3) := by decide +kernel
theorem dX9_duelLays_172 : decode cX9_duelLays 172 = .ok (.iload 4, 2) := by decide +kernel
theorem dX9_duelLays_174 : decode cX9_duelLays 174 = .ok (.ifCond .le 74, 3) := by decide +kernel
theorem dX9_duelLays_177 : decode cX9_duelLays 177 = .ok (.iload 5, 2) := by decide +kernel
theorem dX9_duelLays_179 : decode cX9_duelLays 179 = .ok (.ifCond .eq 22, 3) := by decide +kernel
theorem dX9_duelLays_182 : decode cX9_duelLays 182 = .ok (.aload_n 0, 1) := by decide +kernel
theorem dX9_duelLays_183 : decode cX9_duelLays 183 = .ok (.getfield 71, 3) := by decide +kernel
theorem dX9_duelLays_186 : decode cX9_duelLays 186 = .ok (.iload 14, 2) := by decide +kernel
theorem dX9_duelLays_188 : decode cX9_duelLays 188 = .ok (.iload_n 2, 1) := by decide +kernel
theorem dX9_duelLays_189 : decode cX9_duelLays 189 = .ok (.iload_n 3, 1) := by decide +kernel
theorem dX9_duelLays_190 : decode cX9_duelLays 190 = .ok (.iconst 1, 1) := by decide +kernel
theorem dX9_duelLays_191 : decode cX9_duelLays 191 = .ok (.isub, 1) := by decide +kernel
theorem dX9_duelLays_192 : decode cX9_duelLays 192 = .ok (.iload 4, 2) := by decide +kernel
theorem dX9_duelLays_194 : decode cX9_duelLays 194 = .ok (.invokestatic 394, 3) := by decide +kernel
theorem dX9_duelLays_197 : decode cX9_duelLays 197 = .ok (.iaload, 1) := by decide +kernel
theorem dX9_duelLays_198 : decode cX9_duelLays 198 = .ok (.goto 19, 3) := by decide +kernel
theorem dX9_duelLays_201 : decode cX9_duelLays 201 = .ok (.aload_n 0, 1) := by decide +kernel
theorem dX9_duelLays_202 : decode cX9_duelLays 202 = .ok (.getfield 71, 3) := by decide +kernel
theorem dX9_duelLays_205 : decode cX9_duelLays 205 = .ok (.iload_n 1, 1) := by decide +kernel
theorem dX9_duelLays_206 : decode cX9_duelLays 206 = .ok (.iload 14, 2) := by decide +kernel
theorem dX9_duelLays_208 : decode cX9_duelLays 208 = .ok (.iload_n 3, 1) := by decide +kernel
theorem dX9_duelLays_209 : decode cX9_duelLays 209 = .ok (.iload 4, 2) := by decide +kernel
theorem dX9_duelLays_211 : decode cX9_duelLays 211 = .ok (.iconst 1, 1) := by decide +kernel
theorem dX9_duelLays_212 : decode cX9_duelLays 212 = .ok (.isub, 1) := by decide +kernel
theorem dX9_duelLays_213 : decode cX9_duelLays 213 = .ok (.invokestatic 394, 3) := by decide +kernel
theorem dX9_duelLays_216 : decode cX9_duelLays 216 = .ok (.iaload, 1) := by decide +kernel
theorem dX9_duelLays_217 : decode cX9_duelLays 217 = .ok (.istore 15, 2) := by decide +kernel
theorem dX9_duelLays_219 : decode cX9_duelLays 219 = .ok (.iload 5, 2) := by decide +kernel
theorem dX9_duelLays_221 : decode cX9_duelLays 221 = .ok (.iload 15, 2) := by decide +kernel
theorem dX9_duelLays_223 : decode cX9_duelLays 223 = .ok (.iload 12, 2) := by decide +kernel
theorem dX9_duelLays_225 : decode cX9_duelLays 225 = .ok (.invokestatic 384, 3) := by decide +kernel
theorem dX9_duelLays_228 : decode cX9_duelLays 228 = .ok (.ifCond .ne 6, 3) := by decide +kernel
theorem dX9_duelLays_231 : decode cX9_duelLays 231 = .ok (.goto 11, 3) := by decide +kernel
theorem dX9_duelLays_234 : decode cX9_duelLays 234 = .ok (.iload 15, 2) := by decide +kernel
theorem dX9_duelLays_236 : decode cX9_duelLays 236 = .ok (.istore 12, 2) := by decide +kernel
theorem dX9_duelLays_238 : decode cX9_duelLays 238 = .ok (.iload 14, 2) := by decide +kernel
theorem dX9_duelLays_240 : decode cX9_duelLays 240 = .ok (.istore 13, 2) := by decide +kernel
theorem dX9_duelLays_242 : decode cX9_duelLays 242 = .ok (.iinc 14 1, 3) := by decide +kernel
theorem dX9_duelLays_245 : decode cX9_duelLays 245 = .ok (.goto (-89), 3) := by decide +kernel
theorem dX9_duelLays_248 : decode cX9_duelLays 248 = .ok (.aload_n 0, 1) := by decide +kernel
theorem dX9_duelLays_249 : decode cX9_duelLays 249 = .ok (.getfield 71, 3) := by decide +kernel
theorem dX9_duelLays_252 : decode cX9_duelLays 252 = .ok (.iload_n 1, 1) := by decide +kernel
theorem dX9_duelLays_253 : decode cX9_duelLays 253 = .ok (.iload_n 2, 1) := by decide +kernel
theorem dX9_duelLays_254 : decode cX9_duelLays 254 = .ok (.iload_n 3, 1) := by decide +kernel
theorem dX9_duelLays_255 : decode cX9_duelLays 255 = .ok (.iload 4, 2) := by decide +kernel
theorem dX9_duelLays_257 : decode cX9_duelLays 257 = .ok (.invokestatic 394, 3) := by decide +kernel
theorem dX9_duelLays_260 : decode cX9_duelLays 260 = .ok (.iload 12, 2) := by decide +kernel
theorem dX9_duelLays_262 : decode cX9_duelLays 262 = .ok (.iastore, 1) := by decide +kernel
theorem dX9_duelLays_263 : decode cX9_duelLays 263 = .ok (.aload_n 0, 1) := by decide +kernel
theorem dX9_duelLays_264 : decode cX9_duelLays 264 = .ok (.getfield 74, 3) := by decide +kernel
theorem dX9_duelLays_267 : decode cX9_duelLays 267 = .ok (.iload_n 1, 1) := by decide +kernel
theorem dX9_duelLays_268 : decode cX9_duelLays 268 = .ok (.iload_n 2, 1) := by decide +kernel
theorem dX9_duelLays_269 : decode cX9_duelLays 269 = .ok (.iload_n 3, 1) := by decide +kernel
theorem dX9_duelLays_270 : decode cX9_duelLays 270 = .ok (.iload 4, 2) := by decide +kernel
theorem dX9_duelLays_272 : decode cX9_duelLays 272 = .ok (.invokestatic 394, 3) := by decide +kernel
theorem dX9_duelLays_275 : decode cX9_duelLays 275 = .ok (.iload 13, 2) := by decide +kernel
theorem dX9_duelLays_277 : decode cX9_duelLays 277 = .ok (.iastore, 1) := by decide +kernel
theorem dX9_duelLays_278 : decode cX9_duelLays 278 = .ok (.return_, 1) := by decide +kernel
set_option maxRecDepth 20000 in
theorem ggX9_duelAt_X9_of : GoodIn wsX9_duelAt wsX9_of := goodIn_r _ [8, 9, 79, 80, 81, 82, 83, 84, 85, 86, 87, 88, 89, 90, 91, 92, 93, 94, 95, 96, 97, 98, 99, 100, 101, 102, 103, 104, 105, 106, 107, 108, 109, 110, 111, 112, 113, 114, 115, 116, 117, 118] (by decide +kernel) (by decide +kernel)
set_option maxRecDepth 20000 in
theorem gX9_duelAt_X9_of : GoodIn wsX9_duelAt (wsV RX9 106 RX9 yX9_of wsX9_of) := goodIn_app (goodIn_of _ (by decide +kernel)) ggX9_duelAt_X9_of
set_option maxRecDepth 20000 in
theorem ggX9_duelAt_X9_in : GoodIn wsX9_duelAt wsX9_in := goodIn_r _ [12] (by decide +kernel) (by decide +kernel)
set_option maxRecDepth 20000 in
theorem gX9_duelAt_X9_in : GoodIn wsX9_duelAt (va_wsS RX9 87 yX9_in wsX9_in) := goodIn_app (goodIn_of _ (by decide +kernel)) ggX9_duelAt_X9_in
set_option maxRecDepth 20000 in
theorem ggX9_duelAt_X9_duelLays : GoodIn wsX9_duelAt wsX9_duelLays := goodIn_r _ [16, 1, 2, 3, 17, 18, 19, 20, 7, 21, 22, 23, 24, 25, 26, 27, 28, 29, 30, 4, 5, 6, 8, 9, 31, 32, 33, 34, 35, 36, 37, 38, 39, 40, 41, 42, 43, 44, 45, 46, 47, 48, 49, 50, 51, 52, 53, 54, 55, 56, 57, 58, 59, 60, 61, 62, 63, 64, 65, 66, 67, 68, 69, 70, 71, 72, 73, 74, 75, 76, 77, 78, 79, 80, 81, 82, 83, 84, 85, 86, 87, 88, 89, 90, 91, 92, 93, 94, 95, 96, 97, 98, 99, 100, 101, 102, 103, 104, 105, 106, 107, 108, 109, 110, 111, 112, 113, 114, 115, 116, 117, 118] (by decide +kernel) (by decide +kernel)
set_option maxRecDepth 20000 in
theorem gX9_duelAt_X9_duelLays : GoodIn wsX9_duelAt (wsV RX9 397 RX9 yX9_duelLays wsX9_duelLays) := goodIn_app (goodIn_of _ (by decide +kernel)) ggX9_duelAt_X9_duelLays
set_option maxRecDepth 20000 in
theorem ggX9_duelAt_X9_duelCell : GoodIn wsX9_duelAt wsX9_duelCell := goodIn_r _ [78] (by decide +kernel) (by decide +kernel)
set_option maxRecDepth 20000 in
theorem gX9_duelAt_X9_duelCell : GoodIn wsX9_duelAt (va_wsS RX9 394 yX9_duelCell wsX9_duelCell) := goodIn_app (goodIn_of _ (by decide +kernel)) ggX9_duelAt_X9_duelCell
theorem dX9_duelAt_0 : decode cX9_duelAt 0 = .ok (.aload_n 0, 1) := by decide +kernel
theorem dX9_duelAt_1 : decode cX9_duelAt 1 = .ok (.aload_n 0, 1) := by decide +kernel
theorem dX9_duelAt_2 : decode cX9_duelAt 2 = .ok (.getfield 365, 3) := by decide +kernel
theorem dX9_duelAt_5 : decode cX9_duelAt 5 = .ok (.iconst 0, 1) := by decide +kernel
theorem dX9_duelAt_6 : decode cX9_duelAt 6 = .ok (.invokevirtual 106, 3) := by decide +kernel
theorem dX9_duelAt_9 : decode cX9_duelAt 9 = .ok (.istore_n 3, 1) := by decide +kernel
theorem dX9_duelAt_10 : decode cX9_duelAt 10 = .ok (.aload_n 0, 1) := by decide +kernel
theorem dX9_duelAt_11 : decode cX9_duelAt 11 = .ok (.aload_n 0, 1) := by decide +kernel
theorem dX9_duelAt_12 : decode cX9_duelAt 12 = .ok (.getfield 368, 3) := by decide +kernel
theorem dX9_duelAt_15 : decode cX9_duelAt 15 = .ok (.iconst 0, 1) := by decide +kernel
theorem dX9_duelAt_16 : decode cX9_duelAt 16 = .ok (.invokevirtual 106, 3) := by decide +kernel
theorem dX9_duelAt_19 : decode cX9_duelAt 19 = .ok (.istore 4, 2) := by decide +kernel
theorem dX9_duelAt_21 : decode cX9_duelAt 21 = .ok (.iconst 0, 1) := by decide +kernel
theorem dX9_duelAt_22 : decode cX9_duelAt 22 = .ok (.istore 5, 2) := by decide +kernel
theorem dX9_duelAt_24 : decode cX9_duelAt 24 = .ok (.iload 5, 2) := by decide +kernel
theorem dX9_duelAt_26 : decode cX9_duelAt 26 = .ok (.iload_n 1, 1) := by decide +kernel
theorem dX9_duelAt_27 : decode cX9_duelAt 27 = .ok (.iload_n 2, 1) := by decide +kernel
theorem dX9_duelAt_28 : decode cX9_duelAt 28 = .ok (.iadd, 1) := by decide +kernel
theorem dX9_duelAt_29 : decode cX9_duelAt 29 = .ok (.if_icmp .gt 91, 3) := by decide +kernel
theorem dX9_duelAt_32 : decode cX9_duelAt 32 = .ok (.iconst 0, 1) := by decide +kernel
theorem dX9_duelAt_33 : decode cX9_duelAt 33 = .ok (.istore 6, 2) := by decide +kernel
theorem dX9_duelAt_35 : decode cX9_duelAt 35 = .ok (.iload 6, 2) := by decide +kernel
theorem dX9_duelAt_37 : decode cX9_duelAt 37 = .ok (.iload_n 1, 1) := by decide +kernel
theorem dX9_duelAt_38 : decode cX9_duelAt 38 = .ok (.if_icmp .gt 76, 3) := by decide +kernel
theorem dX9_duelAt_41 : decode cX9_duelAt 41 = .ok (.iload 5, 2) := by decide +kernel
theorem dX9_duelAt_43 : decode cX9_duelAt 43 = .ok (.iload 6, 2) := by decide +kernel
theorem dX9_duelAt_45 : decode cX9_duelAt 45 = .ok (.isub, 1) := by decide +kernel
theorem dX9_duelAt_46 : decode cX9_duelAt 46 = .ok (.istore 7, 2) := by decide +kernel
theorem dX9_duelAt_48 : decode cX9_duelAt 48 = .ok (.iload 7, 2) := by decide +kernel
theorem dX9_duelAt_50 : decode cX9_duelAt 50 = .ok (.i2l, 1) := by decide +kernel
theorem dX9_duelAt_51 : decode cX9_duelAt 51 = .ok (.lconst 0, 1) := by decide +kernel
theorem dX9_duelAt_52 : decode cX9_duelAt 52 = .ok (.iload_n 2, 1) := by decide +kernel
theorem dX9_duelAt_53 : decode cX9_duelAt 53 = .ok (.i2l, 1) := by decide +kernel
theorem dX9_duelAt_54 : decode cX9_duelAt 54 = .ok (.invokestatic 87, 3) := by decide +kernel
theorem dX9_duelAt_57 : decode cX9_duelAt 57 = .ok (.ifCond .ne 6, 3) := by decide +kernel
theorem dX9_duelAt_60 : decode cX9_duelAt 60 = .ok (.goto 48, 3) := by decide +kernel
theorem dX9_duelAt_63 : decode cX9_duelAt 63 = .ok (.iload_n 3, 1) := by decide +kernel
theorem dX9_duelAt_64 : decode cX9_duelAt 64 = .ok (.istore 8, 2) := by decide +kernel
theorem dX9_duelAt_66 : decode cX9_duelAt 66 = .ok (.iload 8, 2) := by decide +kernel
theorem dX9_duelAt_68 : decode cX9_duelAt 68 = .ok (.bipush 40, 2) := by decide +kernel
theorem dX9_duelAt_70 : decode cX9_duelAt 70 = .ok (.if_icmp .gt 38, 3) := by decide +kernel
theorem dX9_duelAt_73 : decode cX9_duelAt 73 = .ok (.iload 4, 2) := by decide +kernel
theorem dX9_duelAt_75 : decode cX9_duelAt 75 = .ok (.istore 9, 2) := by decide +kernel
theorem dX9_duelAt_77 : decode cX9_duelAt 77 = .ok (.iload 9, 2) := by decide +kernel
theorem dX9_duelAt_79 : decode cX9_duelAt 79 = .ok (.bipush 40, 2) := by decide +kernel
theorem dX9_duelAt_81 : decode cX9_duelAt 81 = .ok (.if_icmp .gt 21, 3) := by decide +kernel
theorem dX9_duelAt_84 : decode cX9_duelAt 84 = .ok (.aload_n 0, 1) := by decide +kernel
theorem dX9_duelAt_85 : decode cX9_duelAt 85 = .ok (.iload 8, 2) := by decide +kernel
theorem dX9_duelAt_87 : decode cX9_duelAt 87 = .ok (.iload 9, 2) := by decide +kernel
theorem dX9_duelAt_89 : decode cX9_duelAt 89 = .ok (.iload 6, 2) := by decide +kernel
theorem dX9_duelAt_91 : decode cX9_duelAt 91 = .ok (.iload 7, 2) := by decide +kernel
theorem dX9_duelAt_93 : decode cX9_duelAt 93 = .ok (.invokevirtual 397, 3) := by decide +kernel
theorem dX9_duelAt_96 : decode cX9_duelAt 96 = .ok (.iinc 9 1, 3) := by decide +kernel
theorem dX9_duelAt_99 : decode cX9_duelAt 99 = .ok (.goto (-22), 3) := by decide +kernel
theorem dX9_duelAt_102 : decode cX9_duelAt 102 = .ok (.iinc 8 1, 3) := by decide +kernel
