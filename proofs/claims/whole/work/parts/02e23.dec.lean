set_option maxRecDepth 20000 in
theorem gX9_chanceOf_X9_planNow : GoodIn wsX9_chanceOf (wsV RX9 287 RX9 yX9_planNow wsX9_planNow) := goodIn_app (goodIn_of _ (by decide +kernel)) ggX9_chanceOf_X9_planNow
theorem dX9_chanceOf_0 : decode cX9_chanceOf 0 = .ok (.aload_n 0, 1) := by decide +kernel
theorem dX9_chanceOf_1 : decode cX9_chanceOf 1 = .ok (.iload_n 2, 1) := by decide +kernel
theorem dX9_chanceOf_2 : decode cX9_chanceOf 2 = .ok (.invokevirtual 283, 3) := by decide +kernel
theorem dX9_chanceOf_5 : decode cX9_chanceOf 5 = .ok (.aload_n 0, 1) := by decide +kernel
theorem dX9_chanceOf_6 : decode cX9_chanceOf 6 = .ok (.iload_n 1, 1) := by decide +kernel
theorem dX9_chanceOf_7 : decode cX9_chanceOf 7 = .ok (.invokevirtual 287, 3) := by decide +kernel
theorem dX9_chanceOf_10 : decode cX9_chanceOf 10 = .ok (.ireturn, 1) := by decide +kernel
set_option maxRecDepth 20000 in
theorem ggX9_beatBy_X9_isLighter : GoodIn wsX9_beatBy wsX9_isLighter := goodIn_r _ [7, 8, 9, 13, 14, 15, 16, 17, 18, 19, 20, 21, 22, 23, 24, 25, 26, 27, 28, 29, 30, 31, 32, 33, 34, 35, 36, 37, 38, 39, 40, 41, 42, 43, 44, 45, 46, 47, 48, 49, 50, 51, 52] (by decide +kernel) (by decide +kernel)
set_option maxRecDepth 20000 in
theorem gX9_beatBy_X9_isLighter : GoodIn wsX9_beatBy (wsV RX9 171 RX9 yX9_isLighter wsX9_isLighter) := goodIn_app (goodIn_of _ (by decide +kernel)) ggX9_beatBy_X9_isLighter
set_option maxRecDepth 20000 in
theorem ggX9_beatBy_X9_flag : GoodIn wsX9_beatBy wsX9_flag := goodIn_r _ [12] (by decide +kernel) (by decide +kernel)
set_option maxRecDepth 20000 in
theorem gX9_beatBy_X9_flag : GoodIn wsX9_beatBy (va_wsS RX9 160 yX9_flag wsX9_flag) := goodIn_app (goodIn_of _ (by decide +kernel)) ggX9_beatBy_X9_flag
theorem dX9_beatBy_0 : decode cX9_beatBy 0 = .ok (.iload_n 3, 1) := by decide +kernel
theorem dX9_beatBy_1 : decode cX9_beatBy 1 = .ok (.ifCond .ne 7, 3) := by decide +kernel
theorem dX9_beatBy_4 : decode cX9_beatBy 4 = .ok (.iconst 0, 1) := by decide +kernel
theorem dX9_beatBy_5 : decode cX9_beatBy 5 = .ok (.goto 23, 3) := by decide +kernel
theorem dX9_beatBy_8 : decode cX9_beatBy 8 = .ok (.ldc_w 264, 3) := by decide +kernel
theorem dX9_beatBy_11 : decode cX9_beatBy 11 = .ok (.aload_n 0, 1) := by decide +kernel
theorem dX9_beatBy_12 : decode cX9_beatBy 12 = .ok (.getfield 59, 3) := by decide +kernel
theorem dX9_beatBy_15 : decode cX9_beatBy 15 = .ok (.iload_n 3, 1) := by decide +kernel
theorem dX9_beatBy_16 : decode cX9_beatBy 16 = .ok (.aload_n 0, 1) := by decide +kernel
theorem dX9_beatBy_17 : decode cX9_beatBy 17 = .ok (.iload_n 1, 1) := by decide +kernel
theorem dX9_beatBy_18 : decode cX9_beatBy 18 = .ok (.iload_n 2, 1) := by decide +kernel
theorem dX9_beatBy_19 : decode cX9_beatBy 19 = .ok (.invokevirtual 171, 3) := by decide +kernel
theorem dX9_beatBy_22 : decode cX9_beatBy 22 = .ok (.invokestatic 160, 3) := by decide +kernel
theorem dX9_beatBy_25 : decode cX9_beatBy 25 = .ok (.iadd, 1) := by decide +kernel
theorem dX9_beatBy_26 : decode cX9_beatBy 26 = .ok (.iaload, 1) := by decide +kernel
theorem dX9_beatBy_27 : decode cX9_beatBy 27 = .ok (.isub, 1) := by decide +kernel
theorem dX9_beatBy_28 : decode cX9_beatBy 28 = .ok (.ireturn, 1) := by decide +kernel
set_option maxRecDepth 20000 in
theorem ggX9_laysChances_X9_chanceOf : GoodIn wsX9_laysChances wsX9_chanceOf := goodIn_r _ [6, 7, 8, 9, 5, 10, 11, 12, 13, 14, 15, 16, 17, 18, 19, 20, 21, 22, 23, 24, 25, 26, 27, 28, 29, 30, 31, 32, 33, 34, 35, 36, 37, 38, 39, 40, 41, 42, 43, 44, 45, 46, 47, 48, 49, 50, 51, 52, 53, 54, 55, 56, 57, 58, 59, 60, 61, 62, 63, 64, 65, 66, 67, 68, 69, 70, 71, 72, 73, 74, 75, 76, 77, 78, 79, 80, 81, 82, 83, 84, 85, 86, 87, 88, 89, 90, 91, 92, 93, 94, 95, 96, 97, 98, 99, 100, 101, 102, 103, 104, 105, 106, 107, 108, 109, 110, 111, 112, 113, 114, 115, 116, 117, 118] (by decide +kernel) (by decide +kernel)
set_option maxRecDepth 20000 in
theorem gX9_laysChances_X9_chanceOf : GoodIn wsX9_laysChances (wsV RX9 290 RX9 yX9_chanceOf wsX9_chanceOf) := goodIn_app (goodIn_of _ (by decide +kernel)) ggX9_laysChances_X9_chanceOf
theorem dX9_laysChances_0 : decode cX9_laysChances 0 = .ok (.iconst 0, 1) := by decide +kernel
theorem dX9_laysChances_1 : decode cX9_laysChances 1 = .ok (.istore_n 2, 1) := by decide +kernel
theorem dX9_laysChances_2 : decode cX9_laysChances 2 = .ok (.iload_n 2, 1) := by decide +kernel
theorem dX9_laysChances_3 : decode cX9_laysChances 3 = .ok (.bipush 121, 2) := by decide +kernel
theorem dX9_laysChances_5 : decode cX9_laysChances 5 = .ok (.if_icmp .gt 31, 3) := by decide +kernel
theorem dX9_laysChances_8 : decode cX9_laysChances 8 = .ok (.aload_n 0, 1) := by decide +kernel
theorem dX9_laysChances_9 : decode cX9_laysChances 9 = .ok (.getfield 59, 3) := by decide +kernel
theorem dX9_laysChances_12 : decode cX9_laysChances 12 = .ok (.iload_n 2, 1) := by decide +kernel
theorem dX9_laysChances_13 : decode cX9_laysChances 13 = .ok (.iload_n 2, 1) := by decide +kernel
theorem dX9_laysChances_14 : decode cX9_laysChances 14 = .ok (.bipush 121, 2) := by decide +kernel
theorem dX9_laysChances_16 : decode cX9_laysChances 16 = .ok (.if_icmp .ne 7, 3) := by decide +kernel
theorem dX9_laysChances_19 : decode cX9_laysChances 19 = .ok (.iconst 0, 1) := by decide +kernel
theorem dX9_laysChances_20 : decode cX9_laysChances 20 = .ok (.goto 9, 3) := by decide +kernel
theorem dX9_laysChances_23 : decode cX9_laysChances 23 = .ok (.aload_n 0, 1) := by decide +kernel
theorem dX9_laysChances_24 : decode cX9_laysChances 24 = .ok (.iload_n 1, 1) := by decide +kernel
theorem dX9_laysChances_25 : decode cX9_laysChances 25 = .ok (.iload_n 2, 1) := by decide +kernel
theorem dX9_laysChances_26 : decode cX9_laysChances 26 = .ok (.invokevirtual 290, 3) := by decide +kernel
theorem dX9_laysChances_29 : decode cX9_laysChances 29 = .ok (.iastore, 1) := by decide +kernel
theorem dX9_laysChances_30 : decode cX9_laysChances 30 = .ok (.iinc 2 1, 3) := by decide +kernel
theorem dX9_laysChances_33 : decode cX9_laysChances 33 = .ok (.goto (-31), 3) := by decide +kernel
theorem dX9_laysChances_36 : decode cX9_laysChances 36 = .ok (.return_, 1) := by decide +kernel
set_option maxRecDepth 20000 in
theorem ggX9_aimsBeat_X9_laysChances : GoodIn wsX9_aimsBeat wsX9_laysChances := goodIn_r _ [6, 7, 8, 9, 10, 5, 11, 12, 13, 14, 15, 1, 16, 17, 18, 19, 20, 21, 22, 23, 24, 25, 26, 27, 28, 29, 30, 31, 32, 33, 34, 35, 36, 37, 38, 39, 40, 41, 42, 43, 44, 45, 46, 47, 48, 49, 50, 51, 52, 53, 54, 55, 56, 57, 58, 59, 60, 61, 62, 63, 64, 65, 66, 67, 68, 69, 70, 71, 72, 73, 74, 75, 76, 77, 78, 79, 80, 81, 82, 96, 97, 98, 99, 100, 101, 102, 103, 104, 105, 106, 107, 108, 109, 110, 111, 112, 113, 114, 115, 116, 117, 118, 119, 120, 121, 122, 123, 124, 125, 126, 127, 128, 129, 130, 131, 132, 133, 134, 135] (by decide +kernel) (by decide +kernel)
set_option maxRecDepth 20000 in
theorem gX9_aimsBeat_X9_laysChances : GoodIn wsX9_aimsBeat (wsV RX9 293 RX9 yX9_laysChances wsX9_laysChances) := goodIn_app (goodIn_of _ (by decide +kernel)) ggX9_aimsBeat_X9_laysChances
set_option maxRecDepth 20000 in
theorem ggX9_aimsBeat_X9_beatBy : GoodIn wsX9_aimsBeat wsX9_beatBy := goodIn_r _ [86, 16, 7, 87, 88, 89, 5, 90, 91, 92, 93, 94, 95, 96, 97, 98, 99, 100, 101, 102, 103, 104, 105, 106, 107, 108, 109, 110, 111, 112, 113, 114, 115, 116, 117, 118, 119, 120, 121, 122, 123, 124, 125, 126, 127, 128, 129, 130, 131, 132, 133, 134, 135] (by decide +kernel) (by decide +kernel)
set_option maxRecDepth 20000 in
theorem gX9_aimsBeat_X9_beatBy : GoodIn wsX9_aimsBeat (wsV RX9 296 RX9 yX9_beatBy wsX9_beatBy) := goodIn_app (goodIn_of _ (by decide +kernel)) ggX9_aimsBeat_X9_beatBy
theorem dX9_aimsBeat_0 : decode cX9_aimsBeat 0 = .ok (.aload_n 0, 1) := by decide +kernel
theorem dX9_aimsBeat_1 : decode cX9_aimsBeat 1 = .ok (.iload_n 2, 1) := by decide +kernel
theorem dX9_aimsBeat_2 : decode cX9_aimsBeat 2 = .ok (.invokevirtual 293, 3) := by decide +kernel
theorem dX9_aimsBeat_5 : decode cX9_aimsBeat 5 = .ok (.iconst 0, 1) := by decide +kernel
theorem dX9_aimsBeat_6 : decode cX9_aimsBeat 6 = .ok (.istore_n 3, 1) := by decide +kernel
theorem dX9_aimsBeat_7 : decode cX9_aimsBeat 7 = .ok (.iload_n 3, 1) := by decide +kernel
theorem dX9_aimsBeat_8 : decode cX9_aimsBeat 8 = .ok (.bipush 121, 2) := by decide +kernel
theorem dX9_aimsBeat_10 : decode cX9_aimsBeat 10 = .ok (.if_icmp .ge 22, 3) := by decide +kernel
theorem dX9_aimsBeat_13 : decode cX9_aimsBeat 13 = .ok (.aload_n 0, 1) := by decide +kernel
theorem dX9_aimsBeat_14 : decode cX9_aimsBeat 14 = .ok (.getfield 56, 3) := by decide +kernel
theorem dX9_aimsBeat_17 : decode cX9_aimsBeat 17 = .ok (.iload_n 3, 1) := by decide +kernel
theorem dX9_aimsBeat_18 : decode cX9_aimsBeat 18 = .ok (.aload_n 0, 1) := by decide +kernel
theorem dX9_aimsBeat_19 : decode cX9_aimsBeat 19 = .ok (.iload_n 1, 1) := by decide +kernel
theorem dX9_aimsBeat_20 : decode cX9_aimsBeat 20 = .ok (.iload_n 2, 1) := by decide +kernel
theorem dX9_aimsBeat_21 : decode cX9_aimsBeat 21 = .ok (.iload_n 3, 1) := by decide +kernel
theorem dX9_aimsBeat_22 : decode cX9_aimsBeat 22 = .ok (.invokevirtual 296, 3) := by decide +kernel
theorem dX9_aimsBeat_25 : decode cX9_aimsBeat 25 = .ok (.iastore, 1) := by decide +kernel
theorem dX9_aimsBeat_26 : decode cX9_aimsBeat 26 = .ok (.iinc 3 1, 3) := by decide +kernel
theorem dX9_aimsBeat_29 : decode cX9_aimsBeat 29 = .ok (.goto (-22), 3) := by decide +kernel
theorem dX9_aimsBeat_32 : decode cX9_aimsBeat 32 = .ok (.return_, 1) := by decide +kernel
set_option maxRecDepth 20000 in
theorem ggX9_aimsWin_X9_laysChances : GoodIn wsX9_aimsWin wsX9_laysChances := goodIn_r _ [10, 11, 12, 13, 14, 9, 15, 16, 17, 18, 19, 5, 2, 20, 21, 22, 23, 24, 25, 26, 27, 28, 29, 30, 31, 32, 33, 34, 35, 36, 37, 38, 39, 40, 41, 42, 43, 44, 45, 46, 47, 48, 49, 50, 51, 52, 53, 54, 55, 56, 57, 58, 59, 60, 61, 62, 63, 64, 65, 66, 67, 68, 69, 70, 71, 72, 73, 74, 75, 76, 77, 78, 79, 80, 81, 82, 83, 84, 85, 99, 100, 101, 102, 103, 104, 105, 106, 107, 108, 109, 110, 111, 112, 113, 114, 115, 116, 117, 118, 119, 120, 121, 122, 123, 124, 125, 126, 127, 128, 129, 130, 131, 132, 133, 134, 135, 136, 137, 138] (by decide +kernel) (by decide +kernel)
set_option maxRecDepth 20000 in
theorem gX9_aimsWin_X9_laysChances : GoodIn wsX9_aimsWin (wsV RX9 293 RX9 yX9_laysChances wsX9_laysChances) := goodIn_app (goodIn_of _ (by decide +kernel)) ggX9_aimsWin_X9_laysChances
set_option maxRecDepth 20000 in
theorem ggX9_aimsWin_X9_beatBy : GoodIn wsX9_aimsWin wsX9_beatBy := goodIn_r _ [89, 2, 11, 90, 91, 92, 9, 93, 94, 95, 96, 97, 98, 99, 100, 101, 102, 103, 104, 105, 106, 107, 108, 109, 110, 111, 112, 113, 114, 115, 116, 117, 118, 119, 120, 121, 122, 123, 124, 125, 126, 127, 128, 129, 130, 131, 132, 133, 134, 135, 136, 137, 138] (by decide +kernel) (by decide +kernel)
set_option maxRecDepth 20000 in
theorem gX9_aimsWin_X9_beatBy : GoodIn wsX9_aimsWin (wsV RX9 296 RX9 yX9_beatBy wsX9_beatBy) := goodIn_app (goodIn_of _ (by decide +kernel)) ggX9_aimsWin_X9_beatBy
theorem dX9_aimsWin_0 : decode cX9_aimsWin 0 = .ok (.iconst 0, 1) := by decide +kernel
theorem dX9_aimsWin_1 : decode cX9_aimsWin 1 = .ok (.istore_n 2, 1) := by decide +kernel
theorem dX9_aimsWin_2 : decode cX9_aimsWin 2 = .ok (.iload_n 2, 1) := by decide +kernel
theorem dX9_aimsWin_3 : decode cX9_aimsWin 3 = .ok (.bipush 121, 2) := by decide +kernel
theorem dX9_aimsWin_5 : decode cX9_aimsWin 5 = .ok (.if_icmp .ge 26, 3) := by decide +kernel
theorem dX9_aimsWin_8 : decode cX9_aimsWin 8 = .ok (.aload_n 0, 1) := by decide +kernel
theorem dX9_aimsWin_9 : decode cX9_aimsWin 9 = .ok (.getfield 62, 3) := by decide +kernel
theorem dX9_aimsWin_12 : decode cX9_aimsWin 12 = .ok (.iload_n 2, 1) := by decide +kernel
theorem dX9_aimsWin_13 : decode cX9_aimsWin 13 = .ok (.iload_n 2, 1) := by decide +kernel
theorem dX9_aimsWin_14 : decode cX9_aimsWin 14 = .ok (.ifCond .ne 7, 3) := by decide +kernel
theorem dX9_aimsWin_17 : decode cX9_aimsWin 17 = .ok (.iconst 0, 1) := by decide +kernel
theorem dX9_aimsWin_18 : decode cX9_aimsWin 18 = .ok (.goto 6, 3) := by decide +kernel
theorem dX9_aimsWin_21 : decode cX9_aimsWin 21 = .ok (.ldc_w 264, 3) := by decide +kernel
theorem dX9_aimsWin_24 : decode cX9_aimsWin 24 = .ok (.iastore, 1) := by decide +kernel
theorem dX9_aimsWin_25 : decode cX9_aimsWin 25 = .ok (.iinc 2 1, 3) := by decide +kernel
theorem dX9_aimsWin_28 : decode cX9_aimsWin 28 = .ok (.goto (-26), 3) := by decide +kernel
theorem dX9_aimsWin_31 : decode cX9_aimsWin 31 = .ok (.iconst 0, 1) := by decide +kernel
theorem dX9_aimsWin_32 : decode cX9_aimsWin 32 = .ok (.istore_n 2, 1) := by decide +kernel
theorem dX9_aimsWin_33 : decode cX9_aimsWin 33 = .ok (.iload_n 2, 1) := by decide +kernel
theorem dX9_aimsWin_34 : decode cX9_aimsWin 34 = .ok (.aload_n 0, 1) := by decide +kernel
theorem dX9_aimsWin_35 : decode cX9_aimsWin 35 = .ok (.getfield 84, 3) := by decide +kernel
theorem dX9_aimsWin_38 : decode cX9_aimsWin 38 = .ok (.if_icmp .ge 63, 3) := by decide +kernel
theorem dX9_aimsWin_41 : decode cX9_aimsWin 41 = .ok (.iload_n 2, 1) := by decide +kernel
theorem dX9_aimsWin_42 : decode cX9_aimsWin 42 = .ok (.iload_n 1, 1) := by decide +kernel
theorem dX9_aimsWin_43 : decode cX9_aimsWin 43 = .ok (.if_icmp .ne 6, 3) := by decide +kernel
theorem dX9_aimsWin_46 : decode cX9_aimsWin 46 = .ok (.goto 49, 3) := by decide +kernel
theorem dX9_aimsWin_49 : decode cX9_aimsWin 49 = .ok (.aload_n 0, 1) := by decide +kernel
theorem dX9_aimsWin_50 : decode cX9_aimsWin 50 = .ok (.iload_n 2, 1) := by decide +kernel
theorem dX9_aimsWin_51 : decode cX9_aimsWin 51 = .ok (.invokevirtual 293, 3) := by decide +kernel
theorem dX9_aimsWin_54 : decode cX9_aimsWin 54 = .ok (.iconst 0, 1) := by decide +kernel
theorem dX9_aimsWin_55 : decode cX9_aimsWin 55 = .ok (.istore_n 3, 1) := by decide +kernel
theorem dX9_aimsWin_56 : decode cX9_aimsWin 56 = .ok (.iload_n 3, 1) := by decide +kernel
theorem dX9_aimsWin_57 : decode cX9_aimsWin 57 = .ok (.bipush 121, 2) := by decide +kernel
theorem dX9_aimsWin_59 : decode cX9_aimsWin 59 = .ok (.if_icmp .ge 36, 3) := by decide +kernel
theorem dX9_aimsWin_62 : decode cX9_aimsWin 62 = .ok (.aload_n 0, 1) := by decide +kernel
theorem dX9_aimsWin_63 : decode cX9_aimsWin 63 = .ok (.getfield 62, 3) := by decide +kernel
theorem dX9_aimsWin_66 : decode cX9_aimsWin 66 = .ok (.iload_n 3, 1) := by decide +kernel
theorem dX9_aimsWin_67 : decode cX9_aimsWin 67 = .ok (.aload_n 0, 1) := by decide +kernel
theorem dX9_aimsWin_68 : decode cX9_aimsWin 68 = .ok (.getfield 62, 3) := by decide +kernel
theorem dX9_aimsWin_71 : decode cX9_aimsWin 71 = .ok (.iload_n 3, 1) := by decide +kernel
theorem dX9_aimsWin_72 : decode cX9_aimsWin 72 = .ok (.iaload, 1) := by decide +kernel
theorem dX9_aimsWin_73 : decode cX9_aimsWin 73 = .ok (.i2l, 1) := by decide +kernel
theorem dX9_aimsWin_74 : decode cX9_aimsWin 74 = .ok (.aload_n 0, 1) := by decide +kernel
theorem dX9_aimsWin_75 : decode cX9_aimsWin 75 = .ok (.iload_n 1, 1) := by decide +kernel
theorem dX9_aimsWin_76 : decode cX9_aimsWin 76 = .ok (.iload_n 2, 1) := by decide +kernel
theorem dX9_aimsWin_77 : decode cX9_aimsWin 77 = .ok (.iload_n 3, 1) := by decide +kernel
theorem dX9_aimsWin_78 : decode cX9_aimsWin 78 = .ok (.invokevirtual 296, 3) := by decide +kernel
theorem dX9_aimsWin_81 : decode cX9_aimsWin 81 = .ok (.i2l, 1) := by decide +kernel
theorem dX9_aimsWin_82 : decode cX9_aimsWin 82 = .ok (.lmul, 1) := by decide +kernel
theorem dX9_aimsWin_83 : decode cX9_aimsWin 83 = .ok (.ldc2_w 299, 3) := by decide +kernel
theorem dX9_aimsWin_86 : decode cX9_aimsWin 86 = .ok (.ldiv, 1) := by decide +kernel
theorem dX9_aimsWin_87 : decode cX9_aimsWin 87 = .ok (.l2i, 1) := by decide +kernel
theorem dX9_aimsWin_88 : decode cX9_aimsWin 88 = .ok (.iastore, 1) := by decide +kernel
theorem dX9_aimsWin_89 : decode cX9_aimsWin 89 = .ok (.iinc 3 1, 3) := by decide +kernel
theorem dX9_aimsWin_92 : decode cX9_aimsWin 92 = .ok (.goto (-36), 3) := by decide +kernel
theorem dX9_aimsWin_95 : decode cX9_aimsWin 95 = .ok (.iinc 2 1, 3) := by decide +kernel
theorem dX9_aimsWin_98 : decode cX9_aimsWin 98 = .ok (.goto (-65), 3) := by decide +kernel
theorem dX9_aimsWin_101 : decode cX9_aimsWin 101 = .ok (.iconst 0, 1) := by decide +kernel
theorem dX9_aimsWin_102 : decode cX9_aimsWin 102 = .ok (.istore_n 2, 1) := by decide +kernel
theorem dX9_aimsWin_103 : decode cX9_aimsWin 103 = .ok (.iload_n 2, 1) := by decide +kernel
theorem dX9_aimsWin_104 : decode cX9_aimsWin 104 = .ok (.bipush 121, 2) := by decide +kernel
theorem dX9_aimsWin_106 : decode cX9_aimsWin 106 = .ok (.if_icmp .ge 21, 3) := by decide +kernel
theorem dX9_aimsWin_109 : decode cX9_aimsWin 109 = .ok (.aload_n 0, 1) := by decide +kernel
theorem dX9_aimsWin_110 : decode cX9_aimsWin 110 = .ok (.getfield 56, 3) := by decide +kernel
theorem dX9_aimsWin_113 : decode cX9_aimsWin 113 = .ok (.iload_n 2, 1) := by decide +kernel
theorem dX9_aimsWin_114 : decode cX9_aimsWin 114 = .ok (.aload_n 0, 1) := by decide +kernel
theorem dX9_aimsWin_115 : decode cX9_aimsWin 115 = .ok (.getfield 62, 3) := by decide +kernel
theorem dX9_aimsWin_118 : decode cX9_aimsWin 118 = .ok (.iload_n 2, 1) := by decide +kernel
theorem dX9_aimsWin_119 : decode cX9_aimsWin 119 = .ok (.iaload, 1) := by decide +kernel
theorem dX9_aimsWin_120 : decode cX9_aimsWin 120 = .ok (.iastore, 1) := by decide +kernel
theorem dX9_aimsWin_121 : decode cX9_aimsWin 121 = .ok (.iinc 2 1, 3) := by decide +kernel
theorem dX9_aimsWin_124 : decode cX9_aimsWin 124 = .ok (.goto (-21), 3) := by decide +kernel
theorem dX9_aimsWin_127 : decode cX9_aimsWin 127 = .ok (.return_, 1) := by decide +kernel
set_option maxRecDepth 20000 in
theorem ggX9_mass_X9_isLifter : GoodIn wsX9_mass wsX9_isLifter := goodIn_r _ [6, 7, 8, 9, 5, 10, 82, 83, 84, 85, 86, 87, 88, 89, 90, 91, 92, 93, 94, 95, 96, 97, 98, 99, 100, 101, 102, 103, 104, 105, 106, 107, 108, 109, 110, 111, 112, 113, 114, 115, 116, 117, 118, 119, 120, 121] (by decide +kernel) (by decide +kernel)
set_option maxRecDepth 20000 in
theorem gX9_mass_X9_isLifter : GoodIn wsX9_mass (wsV RX9 233 RX9 yX9_isLifter wsX9_isLifter) := goodIn_app (goodIn_of _ (by decide +kernel)) ggX9_mass_X9_isLifter
set_option maxRecDepth 20000 in
theorem ggX9_mass_X9_aimsMass : GoodIn wsX9_mass wsX9_aimsMass := goodIn_r _ [14, 15, 82, 83, 84, 85, 86, 87, 88, 89, 90, 91, 92, 93, 94, 95, 96, 97, 98, 99, 100, 101, 102, 103, 104, 105, 106, 107, 108, 109, 110, 111, 112, 113, 114, 115, 116, 117, 118, 119, 120, 121] (by decide +kernel) (by decide +kernel)
set_option maxRecDepth 20000 in
theorem gX9_mass_X9_aimsMass : GoodIn wsX9_mass (wsV RX9 301 RX9 yX9_aimsMass wsX9_aimsMass) := goodIn_app (goodIn_of _ (by decide +kernel)) ggX9_mass_X9_aimsMass
set_option maxRecDepth 20000 in
theorem ggX9_mass_X9_planNow : GoodIn wsX9_mass wsX9_planNow := goodIn_r _ [19, 15, 20, 21, 22, 23, 5, 24, 25, 26, 27, 28, 29, 30, 31, 32, 33, 34, 35, 36, 37, 38, 39, 40, 41, 42, 43, 44, 45, 46, 47, 48, 49, 50, 51, 52, 53, 54, 55, 56, 57, 58, 59, 60, 61, 62, 63, 64, 65, 66, 67, 68, 69, 70, 71, 72, 73, 74, 75, 76, 77, 78, 79, 80, 81, 82, 83, 84, 85, 86, 87, 88, 89, 90, 91, 92, 93, 94, 95, 96, 97, 98, 99, 100, 101, 102, 103, 104, 105, 106, 107, 108, 109, 110, 111, 112, 113, 114, 115, 116, 117, 118, 119, 120, 121] (by decide +kernel) (by decide +kernel)
set_option maxRecDepth 20000 in
theorem gX9_mass_X9_planNow : GoodIn wsX9_mass (wsV RX9 287 RX9 yX9_planNow wsX9_planNow) := goodIn_app (goodIn_of _ (by decide +kernel)) ggX9_mass_X9_planNow
theorem dX9_mass_0 : decode cX9_mass 0 = .ok (.aload_n 0, 1) := by decide +kernel
theorem dX9_mass_1 : decode cX9_mass 1 = .ok (.iconst 0, 1) := by decide +kernel
theorem dX9_mass_2 : decode cX9_mass 2 = .ok (.putfield 77, 3) := by decide +kernel
theorem dX9_mass_5 : decode cX9_mass 5 = .ok (.aload_n 0, 1) := by decide +kernel
theorem dX9_mass_6 : decode cX9_mass 6 = .ok (.iload_n 1, 1) := by decide +kernel
theorem dX9_mass_7 : decode cX9_mass 7 = .ok (.invokevirtual 233, 3) := by decide +kernel
theorem dX9_mass_10 : decode cX9_mass 10 = .ok (.ifCond .ne 5, 3) := by decide +kernel
theorem dX9_mass_13 : decode cX9_mass 13 = .ok (.iconst (-1), 1) := by decide +kernel
theorem dX9_mass_14 : decode cX9_mass 14 = .ok (.ireturn, 1) := by decide +kernel
theorem dX9_mass_15 : decode cX9_mass 15 = .ok (.aload_n 0, 1) := by decide +kernel
theorem dX9_mass_16 : decode cX9_mass 16 = .ok (.invokevirtual 301, 3) := by decide +kernel
theorem dX9_mass_19 : decode cX9_mass 19 = .ok (.aload_n 0, 1) := by decide +kernel
theorem dX9_mass_20 : decode cX9_mass 20 = .ok (.iload_n 1, 1) := by decide +kernel
theorem dX9_mass_21 : decode cX9_mass 21 = .ok (.invokevirtual 287, 3) := by decide +kernel
theorem dX9_mass_24 : decode cX9_mass 24 = .ok (.ireturn, 1) := by decide +kernel
set_option maxRecDepth 20000 in
theorem ggX9_isTotal_X9_in : GoodIn wsX9_isTotal wsX9_in := goodIn_r _ [5] (by decide +kernel) (by decide +kernel)
set_option maxRecDepth 20000 in
theorem gX9_isTotal_X9_in : GoodIn wsX9_isTotal (va_wsS RX9 87 yX9_in wsX9_in) := goodIn_app (goodIn_of _ (by decide +kernel)) ggX9_isTotal_X9_in
theorem dX9_isTotal_0 : decode cX9_isTotal 0 = .ok (.iload_n 0, 1) := by decide +kernel
theorem dX9_isTotal_1 : decode cX9_isTotal 1 = .ok (.i2l, 1) := by decide +kernel
theorem dX9_isTotal_2 : decode cX9_isTotal 2 = .ok (.lconst 0, 1) := by decide +kernel
theorem dX9_isTotal_3 : decode cX9_isTotal 3 = .ok (.ldc2_w 304, 3) := by decide +kernel
theorem dX9_isTotal_6 : decode cX9_isTotal 6 = .ok (.invokestatic 87, 3) := by decide +kernel
theorem dX9_isTotal_9 : decode cX9_isTotal 9 = .ok (.ireturn, 1) := by decide +kernel
set_option maxRecDepth 20000 in
theorem ggX9_chance_X9_isLifter : GoodIn wsX9_chance wsX9_isLifter := goodIn_r _ [6, 7, 8, 9, 5, 10, 91, 92, 93, 94, 95, 96, 97, 98, 99, 100, 101, 102, 103, 104, 105, 106, 107, 108, 109, 110, 111, 112, 113, 114, 115, 116, 117, 118, 119, 120, 121, 122, 123, 124, 125, 126, 127, 128, 129, 130] (by decide +kernel) (by decide +kernel)
set_option maxRecDepth 20000 in
theorem gX9_chance_X9_isLifter : GoodIn wsX9_chance (wsV RX9 233 RX9 yX9_isLifter wsX9_isLifter) := goodIn_app (goodIn_of _ (by decide +kernel)) ggX9_chance_X9_isLifter
set_option maxRecDepth 20000 in
theorem ggX9_chance_X9_isTotal : GoodIn wsX9_chance wsX9_isTotal := goodIn_r _ [13, 14, 8, 9, 5, 10] (by decide +kernel) (by decide +kernel)
set_option maxRecDepth 20000 in
theorem gX9_chance_X9_isTotal : GoodIn wsX9_chance (va_wsS RX9 306 yX9_isTotal wsX9_isTotal) := goodIn_app (goodIn_of _ (by decide +kernel)) ggX9_chance_X9_isTotal
