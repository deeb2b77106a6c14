theorem dX9_isTotal_0 : decode cX9_isTotal 0 = .ok (.iload_n 0, 1) := by decide +kernel
theorem dX9_isTotal_1 : decode cX9_isTotal 1 = .ok (.i2l, 1) := by decide +kernel
theorem dX9_isTotal_2 : decode cX9_isTotal 2 = .ok (.lconst 0, 1) := by decide +kernel
theorem dX9_isTotal_3 : decode cX9_isTotal 3 = .ok (.ldc2_w 304, 3) := by decide +kernel
theorem dX9_isTotal_6 : decode cX9_isTotal 6 = .ok (.invokestatic 87, 3) := by decide +kernel
theorem dX9_isTotal_9 : decode cX9_isTotal 9 = .ok (.ireturn, 1) := by decide +kernel
set_option maxRecDepth 20000 in
theorem ggX9_chance_X9_isLifter : GoodIn wsX9_chance wsX9_isLifter := goodIn_r _ [6, 7, 8, 9, 5, 10, 91, 92, 93, 94, 95, 96, 97, 98, 99, 100, 101, 102, 103, 104, 105, 106, 107, 108, 109, 110, 111, 112, 113, 114, 115, 116, 117, 118, 119, 120, 121, 122, 123, 124, 125, 126, 127, 128, 129, 130] (by decide +kernel) (by decide +kernel)
set_option maxRecDepth 20000 in
theorem gX9_chance_X9_isLifter : GoodIn wsX9_chance (wsV RX9 233 RX9 yX9_isLifter wsX9_isLifter) := goodIn_app (goodIn_of _ (by decide +kernel)) ggX9_chance_X9_isLifter
set_option maxRecDepth 20000 in
theorem ggX9_chance_X9_isTotal : GoodIn wsX9_chance wsX9_isTotal := goodIn_r _ [13, 14, 8, 9, 5, 10] (by decide +kernel) (by decide +kernel)
set_option maxRecDepth 20000 in
theorem gX9_chance_X9_isTotal : GoodIn wsX9_chance (va_wsS RX9 306 yX9_isTotal wsX9_isTotal) := goodIn_app (goodIn_of _ (by decide +kernel)) ggX9_chance_X9_isTotal
set_option maxRecDepth 20000 in
theorem ggX9_chance_X9_chanceOf : GoodIn wsX9_chance wsX9_chanceOf := goodIn_r _ [18, 19, 20, 21, 5, 22, 23, 24, 25, 26, 27, 28, 29, 30, 31, 32, 33, 34, 35, 36, 37, 38, 39, 40, 41, 42, 43, 44, 45, 46, 47, 48, 49, 50, 51, 52, 53, 54, 55, 56, 57, 58, 59, 60, 61, 62, 63, 64, 65, 66, 67, 68, 69, 70, 71, 72, 73, 74, 75, 76, 77, 78, 79, 80, 81, 82, 83, 84, 85, 86, 87, 88, 89, 90, 91, 92, 93, 94, 95, 96, 97, 98, 99, 100, 101, 102, 103, 104, 105, 106, 107, 108, 109, 110, 111, 112, 113, 114, 115, 116, 117, 118, 119, 120, 121, 122, 123, 124, 125, 126, 127, 128, 129, 130] (by decide +kernel) (by decide +kernel)
set_option maxRecDepth 20000 in
theorem gX9_chance_X9_chanceOf : GoodIn wsX9_chance (wsV RX9 290 RX9 yX9_chanceOf wsX9_chanceOf) := goodIn_app (goodIn_of _ (by decide +kernel)) ggX9_chance_X9_chanceOf
theorem dX9_chance_0 : decode cX9_chance 0 = .ok (.aload_n 0, 1) := by decide +kernel
theorem dX9_chance_1 : decode cX9_chance 1 = .ok (.iconst 0, 1) := by decide +kernel
theorem dX9_chance_2 : decode cX9_chance 2 = .ok (.putfield 77, 3) := by decide +kernel
theorem dX9_chance_5 : decode cX9_chance 5 = .ok (.aload_n 0, 1) := by decide +kernel
theorem dX9_chance_6 : decode cX9_chance 6 = .ok (.iload_n 1, 1) := by decide +kernel
theorem dX9_chance_7 : decode cX9_chance 7 = .ok (.invokevirtual 233, 3) := by decide +kernel
theorem dX9_chance_10 : decode cX9_chance 10 = .ok (.ifCond .eq 19, 3) := by decide +kernel
theorem dX9_chance_13 : decode cX9_chance 13 = .ok (.iload_n 2, 1) := by decide +kernel
theorem dX9_chance_14 : decode cX9_chance 14 = .ok (.invokestatic 306, 3) := by decide +kernel
theorem dX9_chance_17 : decode cX9_chance 17 = .ok (.ifCond .eq 12, 3) := by decide +kernel
theorem dX9_chance_20 : decode cX9_chance 20 = .ok (.aload_n 0, 1) := by decide +kernel
theorem dX9_chance_21 : decode cX9_chance 21 = .ok (.iload_n 1, 1) := by decide +kernel
theorem dX9_chance_22 : decode cX9_chance 22 = .ok (.iload_n 2, 1) := by decide +kernel
theorem dX9_chance_23 : decode cX9_chance 23 = .ok (.invokevirtual 290, 3) := by decide +kernel
theorem dX9_chance_26 : decode cX9_chance 26 = .ok (.goto 4, 3) := by decide +kernel
theorem dX9_chance_29 : decode cX9_chance 29 = .ok (.iconst (-1), 1) := by decide +kernel
theorem dX9_chance_30 : decode cX9_chance 30 = .ok (.ireturn, 1) := by decide +kernel
set_option maxRecDepth 20000 in
theorem ggX9_likeliest_X9_isLifter : GoodIn wsX9_likeliest wsX9_isLifter := goodIn_r _ [8, 9, 10, 11, 7, 12, 98, 99, 100, 101, 102, 103, 104, 105, 106, 107, 108, 109, 110, 111, 112, 113, 114, 115, 116, 117, 118, 119, 120, 121, 122, 123, 124, 125, 126, 127, 128, 129, 130, 131, 132, 133, 134, 135, 136, 137] (by decide +kernel) (by decide +kernel)
set_option maxRecDepth 20000 in
theorem gX9_likeliest_X9_isLifter : GoodIn wsX9_likeliest (wsV RX9 233 RX9 yX9_isLifter wsX9_isLifter) := goodIn_app (goodIn_of _ (by decide +kernel)) ggX9_likeliest_X9_isLifter
set_option maxRecDepth 20000 in
theorem ggX9_likeliest_X9_laysChances : GoodIn wsX9_likeliest wsX9_laysChances := goodIn_r _ [16, 2, 17, 18, 19, 7, 20, 21, 22, 23, 24, 25, 26, 27, 28, 29, 30, 31, 32, 33, 34, 35, 36, 37, 38, 39, 40, 41, 42, 43, 44, 45, 46, 47, 48, 49, 50, 51, 52, 53, 54, 55, 56, 57, 58, 59, 60, 61, 62, 63, 64, 65, 66, 67, 68, 69, 70, 71, 72, 73, 74, 75, 76, 77, 78, 79, 80, 81, 82, 83, 84, 85, 86, 87, 88, 89, 90, 91, 92, 98, 99, 100, 101, 102, 103, 104, 105, 106, 107, 108, 109, 110, 111, 112, 113, 114, 115, 116, 117, 118, 119, 120, 121, 122, 123, 124, 125, 126, 127, 128, 129, 130, 131, 132, 133, 134, 135, 136, 137] (by decide +kernel) (by decide +kernel)
set_option maxRecDepth 20000 in
theorem gX9_likeliest_X9_laysChances : GoodIn wsX9_likeliest (wsV RX9 293 RX9 yX9_laysChances wsX9_laysChances) := goodIn_app (goodIn_of _ (by decide +kernel)) ggX9_likeliest_X9_laysChances
set_option maxRecDepth 20000 in
theorem ggX9_likeliest_X9_notes : GoodIn wsX9_likeliest wsX9_notes := goodIn_r _ [96, 97, 3, 98, 99, 100, 101, 102, 103, 104, 105, 106, 107, 108, 109, 110, 111, 112, 113, 114, 115, 116, 117, 118, 119, 120, 121, 122, 123, 124, 125, 126, 127, 128, 129, 130, 131, 132, 133, 134, 135, 136, 137] (by decide +kernel) (by decide +kernel)
set_option maxRecDepth 20000 in
theorem gX9_likeliest_X9_notes : GoodIn wsX9_likeliest (wsV RX9 180 RX9 yX9_notes wsX9_notes) := goodIn_app (goodIn_of _ (by decide +kernel)) ggX9_likeliest_X9_notes
theorem dX9_likeliest_0 : decode cX9_likeliest 0 = .ok (.aload_n 0, 1) := by decide +kernel
theorem dX9_likeliest_1 : decode cX9_likeliest 1 = .ok (.iconst 0, 1) := by decide +kernel
theorem dX9_likeliest_2 : decode cX9_likeliest 2 = .ok (.putfield 77, 3) := by decide +kernel
theorem dX9_likeliest_5 : decode cX9_likeliest 5 = .ok (.aload_n 0, 1) := by decide +kernel
theorem dX9_likeliest_6 : decode cX9_likeliest 6 = .ok (.iload_n 1, 1) := by decide +kernel
theorem dX9_likeliest_7 : decode cX9_likeliest 7 = .ok (.invokevirtual 233, 3) := by decide +kernel
theorem dX9_likeliest_10 : decode cX9_likeliest 10 = .ok (.ifCond .ne 5, 3) := by decide +kernel
theorem dX9_likeliest_13 : decode cX9_likeliest 13 = .ok (.iconst (-1), 1) := by decide +kernel
theorem dX9_likeliest_14 : decode cX9_likeliest 14 = .ok (.ireturn, 1) := by decide +kernel
theorem dX9_likeliest_15 : decode cX9_likeliest 15 = .ok (.aload_n 0, 1) := by decide +kernel
theorem dX9_likeliest_16 : decode cX9_likeliest 16 = .ok (.iload_n 1, 1) := by decide +kernel
theorem dX9_likeliest_17 : decode cX9_likeliest 17 = .ok (.invokevirtual 293, 3) := by decide +kernel
theorem dX9_likeliest_20 : decode cX9_likeliest 20 = .ok (.iconst 0, 1) := by decide +kernel
theorem dX9_likeliest_21 : decode cX9_likeliest 21 = .ok (.istore_n 2, 1) := by decide +kernel
theorem dX9_likeliest_22 : decode cX9_likeliest 22 = .ok (.iconst 1, 1) := by decide +kernel
theorem dX9_likeliest_23 : decode cX9_likeliest 23 = .ok (.istore_n 3, 1) := by decide +kernel
theorem dX9_likeliest_24 : decode cX9_likeliest 24 = .ok (.iload_n 3, 1) := by decide +kernel
theorem dX9_likeliest_25 : decode cX9_likeliest 25 = .ok (.bipush 121, 2) := by decide +kernel
theorem dX9_likeliest_27 : decode cX9_likeliest 27 = .ok (.if_icmp .ge 48, 3) := by decide +kernel
theorem dX9_likeliest_30 : decode cX9_likeliest 30 = .ok (.aload_n 0, 1) := by decide +kernel
theorem dX9_likeliest_31 : decode cX9_likeliest 31 = .ok (.getfield 59, 3) := by decide +kernel
theorem dX9_likeliest_34 : decode cX9_likeliest 34 = .ok (.iload_n 3, 1) := by decide +kernel
theorem dX9_likeliest_35 : decode cX9_likeliest 35 = .ok (.iaload, 1) := by decide +kernel
theorem dX9_likeliest_36 : decode cX9_likeliest 36 = .ok (.aload_n 0, 1) := by decide +kernel
theorem dX9_likeliest_37 : decode cX9_likeliest 37 = .ok (.getfield 59, 3) := by decide +kernel
theorem dX9_likeliest_40 : decode cX9_likeliest 40 = .ok (.iload_n 3, 1) := by decide +kernel
theorem dX9_likeliest_41 : decode cX9_likeliest 41 = .ok (.iconst 1, 1) := by decide +kernel
theorem dX9_likeliest_42 : decode cX9_likeliest 42 = .ok (.iadd, 1) := by decide +kernel
theorem dX9_likeliest_43 : decode cX9_likeliest 43 = .ok (.iaload, 1) := by decide +kernel
theorem dX9_likeliest_44 : decode cX9_likeliest 44 = .ok (.isub, 1) := by decide +kernel
theorem dX9_likeliest_45 : decode cX9_likeliest 45 = .ok (.aload_n 0, 1) := by decide +kernel
theorem dX9_likeliest_46 : decode cX9_likeliest 46 = .ok (.getfield 59, 3) := by decide +kernel
theorem dX9_likeliest_49 : decode cX9_likeliest 49 = .ok (.iload_n 2, 1) := by decide +kernel
theorem dX9_likeliest_50 : decode cX9_likeliest 50 = .ok (.iaload, 1) := by decide +kernel
theorem dX9_likeliest_51 : decode cX9_likeliest 51 = .ok (.aload_n 0, 1) := by decide +kernel
theorem dX9_likeliest_52 : decode cX9_likeliest 52 = .ok (.getfield 59, 3) := by decide +kernel
theorem dX9_likeliest_55 : decode cX9_likeliest 55 = .ok (.iload_n 2, 1) := by decide +kernel
theorem dX9_likeliest_56 : decode cX9_likeliest 56 = .ok (.iconst 1, 1) := by decide +kernel
theorem dX9_likeliest_57 : decode cX9_likeliest 57 = .ok (.iadd, 1) := by decide +kernel
theorem dX9_likeliest_58 : decode cX9_likeliest 58 = .ok (.iaload, 1) := by decide +kernel
theorem dX9_likeliest_59 : decode cX9_likeliest 59 = .ok (.isub, 1) := by decide +kernel
theorem dX9_likeliest_60 : decode cX9_likeliest 60 = .ok (.if_icmp .le 7, 3) := by decide +kernel
theorem dX9_likeliest_63 : decode cX9_likeliest 63 = .ok (.iload_n 3, 1) := by decide +kernel
theorem dX9_likeliest_64 : decode cX9_likeliest 64 = .ok (.goto 4, 3) := by decide +kernel
theorem dX9_likeliest_67 : decode cX9_likeliest 67 = .ok (.iload_n 2, 1) := by decide +kernel
theorem dX9_likeliest_68 : decode cX9_likeliest 68 = .ok (.istore_n 2, 1) := by decide +kernel
theorem dX9_likeliest_69 : decode cX9_likeliest 69 = .ok (.iinc 3 1, 3) := by decide +kernel
theorem dX9_likeliest_72 : decode cX9_likeliest 72 = .ok (.goto (-48), 3) := by decide +kernel
theorem dX9_likeliest_75 : decode cX9_likeliest 75 = .ok (.aload_n 0, 1) := by decide +kernel
theorem dX9_likeliest_76 : decode cX9_likeliest 76 = .ok (.iconst 0, 1) := by decide +kernel
theorem dX9_likeliest_77 : decode cX9_likeliest 77 = .ok (.putfield 81, 3) := by decide +kernel
theorem dX9_likeliest_80 : decode cX9_likeliest 80 = .ok (.aload_n 0, 1) := by decide +kernel
theorem dX9_likeliest_81 : decode cX9_likeliest 81 = .ok (.aload_n 0, 1) := by decide +kernel
theorem dX9_likeliest_82 : decode cX9_likeliest 82 = .ok (.getfield 59, 3) := by decide +kernel
theorem dX9_likeliest_85 : decode cX9_likeliest 85 = .ok (.iload_n 2, 1) := by decide +kernel
theorem dX9_likeliest_86 : decode cX9_likeliest 86 = .ok (.iaload, 1) := by decide +kernel
theorem dX9_likeliest_87 : decode cX9_likeliest 87 = .ok (.aload_n 0, 1) := by decide +kernel
theorem dX9_likeliest_88 : decode cX9_likeliest 88 = .ok (.getfield 59, 3) := by decide +kernel
theorem dX9_likeliest_91 : decode cX9_likeliest 91 = .ok (.iload_n 2, 1) := by decide +kernel
theorem dX9_likeliest_92 : decode cX9_likeliest 92 = .ok (.iconst 1, 1) := by decide +kernel
theorem dX9_likeliest_93 : decode cX9_likeliest 93 = .ok (.iadd, 1) := by decide +kernel
theorem dX9_likeliest_94 : decode cX9_likeliest 94 = .ok (.iaload, 1) := by decide +kernel
theorem dX9_likeliest_95 : decode cX9_likeliest 95 = .ok (.isub, 1) := by decide +kernel
theorem dX9_likeliest_96 : decode cX9_likeliest 96 = .ok (.i2l, 1) := by decide +kernel
theorem dX9_likeliest_97 : decode cX9_likeliest 97 = .ok (.invokevirtual 180, 3) := by decide +kernel
theorem dX9_likeliest_100 : decode cX9_likeliest 100 = .ok (.aload_n 0, 1) := by decide +kernel
theorem dX9_likeliest_101 : decode cX9_likeliest 101 = .ok (.aload_n 0, 1) := by decide +kernel
theorem dX9_likeliest_102 : decode cX9_likeliest 102 = .ok (.getfield 59, 3) := by decide +kernel
theorem dX9_likeliest_105 : decode cX9_likeliest 105 = .ok (.iconst 1, 1) := by decide +kernel
theorem dX9_likeliest_106 : decode cX9_likeliest 106 = .ok (.iaload, 1) := by decide +kernel
theorem dX9_likeliest_107 : decode cX9_likeliest 107 = .ok (.i2l, 1) := by decide +kernel
theorem dX9_likeliest_108 : decode cX9_likeliest 108 = .ok (.invokevirtual 180, 3) := by decide +kernel
theorem dX9_likeliest_111 : decode cX9_likeliest 111 = .ok (.iload_n 2, 1) := by decide +kernel
theorem dX9_likeliest_112 : decode cX9_likeliest 112 = .ok (.ireturn, 1) := by decide +kernel
set_option maxRecDepth 20000 in
theorem ggX9_beats_X9_isLifter : GoodIn wsX9_beats wsX9_isLifter := goodIn_r _ [6, 7, 8, 9, 5, 10, 109, 110, 111, 112, 113, 114, 115, 116, 117, 118, 119, 120, 121, 122, 123, 124, 125, 126, 127, 128, 129, 130, 131, 132, 133, 134, 135, 136, 137, 138, 139, 140, 141, 142, 143, 144, 145, 146, 147, 148] (by decide +kernel) (by decide +kernel)
set_option maxRecDepth 20000 in
theorem gX9_beats_X9_isLifter : GoodIn wsX9_beats (wsV RX9 233 RX9 yX9_isLifter wsX9_isLifter) := goodIn_app (goodIn_of _ (by decide +kernel)) ggX9_beats_X9_isLifter
set_option maxRecDepth 20000 in
theorem ggX9_beats_X9_aimsBeat : GoodIn wsX9_beats wsX9_aimsBeat := goodIn_r _ [14, 15, 16, 17, 18, 5, 19, 20, 21, 22, 23, 24, 25, 26, 27, 28, 29, 30, 31, 32, 33, 34, 35, 36, 37, 38, 39, 40, 41, 42, 43, 44, 45, 46, 47, 48, 49, 50, 51, 52, 53, 54, 55, 56, 57, 58, 59, 60, 61, 62, 63, 64, 65, 66, 67, 68, 69, 70, 71, 72, 73, 74, 75, 76, 77, 78, 79, 80, 81, 82, 83, 84, 85, 86, 87, 88, 89, 90, 91, 92, 93, 94, 95, 96, 97, 98, 99, 100, 101, 102, 103, 104, 105, 106, 107, 108, 109, 110, 111, 112, 113, 114, 115, 116, 117, 118, 119, 120, 121, 122, 123, 124, 125, 126, 127, 128, 129, 130, 131, 132, 133, 134, 135, 136, 137, 138, 139, 140, 141, 142, 143, 144, 145, 146, 147, 148] (by decide +kernel) (by decide +kernel)
set_option maxRecDepth 20000 in
theorem gX9_beats_X9_aimsBeat : GoodIn wsX9_beats (wsV RX9 309 RX9 yX9_aimsBeat wsX9_aimsBeat) := goodIn_app (goodIn_of _ (by decide +kernel)) ggX9_beats_X9_aimsBeat
set_option maxRecDepth 20000 in
theorem ggX9_beats_X9_planNow : GoodIn wsX9_beats wsX9_planNow := goodIn_r _ [33, 15, 34, 35, 36, 37, 5, 38, 39, 40, 41, 42, 43, 44, 45, 46, 47, 48, 49, 50, 51, 52, 53, 54, 55, 56, 57, 58, 59, 60, 61, 62, 63, 64, 65, 66, 67, 68, 69, 70, 71, 72, 73, 74, 75, 76, 77, 78, 79, 80, 81, 82, 83, 84, 85, 86, 87, 88, 89, 90, 91, 92, 93, 94, 95, 109, 110, 111, 112, 113, 114, 115, 116, 117, 118, 119, 120, 121, 122, 123, 124, 125, 126, 127, 128, 129, 130, 131, 132, 133, 134, 135, 136, 137, 138, 139, 140, 141, 142, 143, 144, 145, 146, 147, 148] (by decide +kernel) (by decide +kernel)
set_option maxRecDepth 20000 in
theorem gX9_beats_X9_planNow : GoodIn wsX9_beats (wsV RX9 287 RX9 yX9_planNow wsX9_planNow) := goodIn_app (goodIn_of _ (by decide +kernel)) ggX9_beats_X9_planNow
theorem dX9_beats_0 : decode cX9_beats 0 = .ok (.aload_n 0, 1) := by decide +kernel
theorem dX9_beats_1 : decode cX9_beats 1 = .ok (.iconst 0, 1) := by decide +kernel
theorem dX9_beats_2 : decode cX9_beats 2 = .ok (.putfield 77, 3) := by decide +kernel
theorem dX9_beats_5 : decode cX9_beats 5 = .ok (.aload_n 0, 1) := by decide +kernel
theorem dX9_beats_6 : decode cX9_beats 6 = .ok (.iload_n 1, 1) := by decide +kernel
theorem dX9_beats_7 : decode cX9_beats 7 = .ok (.invokevirtual 233, 3) := by decide +kernel
theorem dX9_beats_10 : decode cX9_beats 10 = .ok (.ifCond .eq 16, 3) := by decide +kernel
theorem dX9_beats_13 : decode cX9_beats 13 = .ok (.aload_n 0, 1) := by decide +kernel
theorem dX9_beats_14 : decode cX9_beats 14 = .ok (.iload_n 2, 1) := by decide +kernel
theorem dX9_beats_15 : decode cX9_beats 15 = .ok (.invokevirtual 233, 3) := by decide +kernel
theorem dX9_beats_18 : decode cX9_beats 18 = .ok (.ifCond .eq 8, 3) := by decide +kernel
theorem dX9_beats_21 : decode cX9_beats 21 = .ok (.iload_n 1, 1) := by decide +kernel
theorem dX9_beats_22 : decode cX9_beats 22 = .ok (.iload_n 2, 1) := by decide +kernel
theorem dX9_beats_23 : decode cX9_beats 23 = .ok (.if_icmp .ne 5, 3) := by decide +kernel
theorem dX9_beats_26 : decode cX9_beats 26 = .ok (.iconst (-1), 1) := by decide +kernel
theorem dX9_beats_27 : decode cX9_beats 27 = .ok (.ireturn, 1) := by decide +kernel
theorem dX9_beats_28 : decode cX9_beats 28 = .ok (.aload_n 0, 1) := by decide +kernel
theorem dX9_beats_29 : decode cX9_beats 29 = .ok (.iload_n 1, 1) := by decide +kernel
theorem dX9_beats_30 : decode cX9_beats 30 = .ok (.iload_n 2, 1) := by decide +kernel
theorem dX9_beats_31 : decode cX9_beats 31 = .ok (.invokevirtual 309, 3) := by decide +kernel
theorem dX9_beats_34 : decode cX9_beats 34 = .ok (.aload_n 0, 1) := by decide +kernel
theorem dX9_beats_35 : decode cX9_beats 35 = .ok (.iload_n 1, 1) := by decide +kernel
theorem dX9_beats_36 : decode cX9_beats 36 = .ok (.invokevirtual 287, 3) := by decide +kernel
theorem dX9_beats_39 : decode cX9_beats 39 = .ok (.ireturn, 1) := by decide +kernel
set_option maxRecDepth 20000 in
theorem ggX9_winOf_X9_aimsWin : GoodIn wsX9_winOf wsX9_aimsWin := goodIn_r _ [5, 6, 7, 8, 9, 10, 11, 12, 13, 4, 14, 15, 16, 17, 18, 19, 20, 21, 22, 23, 24, 25, 26, 27, 28, 29, 30, 31, 32, 33, 34, 35, 36, 37, 38, 39, 40, 41, 42, 43, 44, 45, 46, 47, 48, 49, 50, 51, 52, 53, 54, 55, 56, 57, 58, 59, 60, 61, 62, 63, 64, 65, 66, 67, 68, 69, 70, 71, 72, 73, 74, 75, 76, 77, 78, 79, 80, 81, 82, 83, 84, 85, 86, 87, 88, 89, 90, 91, 92, 93, 94, 95, 96, 97, 98, 99, 100, 101, 102, 103, 104, 105, 106, 107, 108, 109, 110, 111, 112, 113, 114, 115, 116, 117, 118, 119, 120, 121, 122, 123, 124, 125, 126, 127, 128, 129, 130, 131, 132, 133, 134, 135, 136, 137, 138, 139, 140, 141, 142] (by decide +kernel) (by decide +kernel)
set_option maxRecDepth 20000 in
theorem gX9_winOf_X9_aimsWin : GoodIn wsX9_winOf (wsV RX9 313 RX9 yX9_aimsWin wsX9_aimsWin) := goodIn_app (goodIn_of _ (by decide +kernel)) ggX9_winOf_X9_aimsWin
set_option maxRecDepth 20000 in
theorem ggX9_winOf_X9_planNow : GoodIn wsX9_winOf wsX9_planNow := goodIn_r _ [27, 10, 28, 29, 30, 31, 4, 32, 33, 34, 35, 36, 37, 38, 39, 40, 41, 42, 43, 44, 45, 46, 47, 48, 49, 50, 51, 52, 53, 54, 55, 56, 57, 58, 59, 60, 61, 62, 63, 64, 65, 66, 67, 68, 69, 70, 71, 72, 73, 74, 75, 76, 77, 78, 79, 80, 81, 82, 83, 84, 85, 86, 87, 88, 89, 103, 104, 105, 106, 107, 108, 109, 110, 111, 112, 113, 114, 115, 116, 117, 118, 119, 120, 121, 122, 123, 124, 125, 126, 127, 128, 129, 130, 131, 132, 133, 134, 135, 136, 137, 138, 139, 140, 141, 142] (by decide +kernel) (by decide +kernel)
set_option maxRecDepth 20000 in
theorem gX9_winOf_X9_planNow : GoodIn wsX9_winOf (wsV RX9 287 RX9 yX9_planNow wsX9_planNow) := goodIn_app (goodIn_of _ (by decide +kernel)) ggX9_winOf_X9_planNow
theorem dX9_winOf_0 : decode cX9_winOf 0 = .ok (.aload_n 0, 1) := by decide +kernel
theorem dX9_winOf_1 : decode cX9_winOf 1 = .ok (.iload_n 1, 1) := by decide +kernel
theorem dX9_winOf_2 : decode cX9_winOf 2 = .ok (.invokevirtual 313, 3) := by decide +kernel
theorem dX9_winOf_5 : decode cX9_winOf 5 = .ok (.aload_n 0, 1) := by decide +kernel
theorem dX9_winOf_6 : decode cX9_winOf 6 = .ok (.iload_n 1, 1) := by decide +kernel
theorem dX9_winOf_7 : decode cX9_winOf 7 = .ok (.invokevirtual 287, 3) := by decide +kernel
theorem dX9_winOf_10 : decode cX9_winOf 10 = .ok (.ireturn, 1) := by decide +kernel
set_option maxRecDepth 20000 in
theorem ggX9_wins_X9_isLifter : GoodIn wsX9_wins wsX9_isLifter := goodIn_r _ [9, 3, 10, 11, 8, 12, 121, 122, 123, 124, 125, 126, 127, 128, 129, 130, 131, 132, 133, 134, 135, 136, 137, 138, 139, 140, 141, 142, 143, 144, 145, 146, 147, 148, 149, 150, 151, 152, 153, 154, 155, 156, 157, 158, 159, 160] (by decide +kernel) (by decide +kernel)
set_option maxRecDepth 20000 in
theorem gX9_wins_X9_isLifter : GoodIn wsX9_wins (wsV RX9 233 RX9 yX9_isLifter wsX9_isLifter) := goodIn_app (goodIn_of _ (by decide +kernel)) ggX9_wins_X9_isLifter
set_option maxRecDepth 20000 in
theorem ggX9_wins_X9_winOf : GoodIn wsX9_wins wsX9_winOf := goodIn_r _ [16, 17, 18, 19, 8, 20, 21, 22, 3, 23, 24, 25, 26, 27, 28, 29, 30, 31, 32, 33, 34, 35, 36, 37, 38, 39, 40, 41, 42, 43, 44, 45, 46, 47, 48, 49, 50, 51, 52, 53, 54, 55, 56, 57, 58, 59, 60, 61, 62, 63, 64, 65, 66, 67, 68, 69, 70, 71, 72, 73, 74, 75, 76, 77, 78, 79, 80, 81, 82, 83, 84, 85, 86, 87, 88, 89, 90, 91, 92, 93, 94, 95, 96, 97, 98, 99, 100, 101, 102, 103, 104, 105, 106, 107, 108, 109, 110, 111, 112, 113, 114, 115, 116, 121, 122, 123, 124, 125, 126, 127, 128, 129, 130, 131, 132, 133, 134, 135, 136, 137, 138, 139, 140, 141, 142, 143, 144, 145, 146, 147, 148, 149, 150, 151, 152, 153, 154, 155, 156, 157, 158, 159, 160] (by decide +kernel) (by decide +kernel)
set_option maxRecDepth 20000 in
theorem gX9_wins_X9_winOf : GoodIn wsX9_wins (wsV RX9 316 RX9 yX9_winOf wsX9_winOf) := goodIn_app (goodIn_of _ (by decide +kernel)) ggX9_wins_X9_winOf
set_option maxRecDepth 20000 in
theorem ggX9_wins_X9_notes : GoodIn wsX9_wins wsX9_notes := goodIn_r _ [120, 4, 2, 121, 122, 123, 124, 125, 126, 127, 128, 129, 130, 131, 132, 133, 134, 135, 136, 137, 138, 139, 140, 141, 142, 143, 144, 145, 146, 147, 148, 149, 150, 151, 152, 153, 154, 155, 156, 157, 158, 159, 160] (by decide +kernel) (by decide +kernel)
set_option maxRecDepth 20000 in
theorem gX9_wins_X9_notes : GoodIn wsX9_wins (wsV RX9 180 RX9 yX9_notes wsX9_notes) := goodIn_app (goodIn_of _ (by decide +kernel)) ggX9_wins_X9_notes
theorem dX9_wins_0 : decode cX9_wins 0 = .ok (.aload_n 0, 1) := by decide +kernel
theorem dX9_wins_1 : decode cX9_wins 1 = .ok (.iconst 0, 1) := by decide +kernel
theorem dX9_wins_2 : decode cX9_wins 2 = .ok (.putfield 77, 3) := by decide +kernel
theorem dX9_wins_5 : decode cX9_wins 5 = .ok (.aload_n 0, 1) := by decide +kernel
theorem dX9_wins_6 : decode cX9_wins 6 = .ok (.iload_n 1, 1) := by decide +kernel
theorem dX9_wins_7 : decode cX9_wins 7 = .ok (.invokevirtual 233, 3) := by decide +kernel
theorem dX9_wins_10 : decode cX9_wins 10 = .ok (.ifCond .ne 5, 3) := by decide +kernel
theorem dX9_wins_13 : decode cX9_wins 13 = .ok (.iconst (-1), 1) := by decide +kernel
theorem dX9_wins_14 : decode cX9_wins 14 = .ok (.ireturn, 1) := by decide +kernel
theorem dX9_wins_15 : decode cX9_wins 15 = .ok (.aload_n 0, 1) := by decide +kernel
theorem dX9_wins_16 : decode cX9_wins 16 = .ok (.iconst 0, 1) := by decide +kernel
theorem dX9_wins_17 : decode cX9_wins 17 = .ok (.putfield 81, 3) := by decide +kernel
theorem dX9_wins_20 : decode cX9_wins 20 = .ok (.iconst 0, 1) := by decide +kernel
theorem dX9_wins_21 : decode cX9_wins 21 = .ok (.istore_n 2, 1) := by decide +kernel
theorem dX9_wins_22 : decode cX9_wins 22 = .ok (.iload_n 2, 1) := by decide +kernel
theorem dX9_wins_23 : decode cX9_wins 23 = .ok (.aload_n 0, 1) := by decide +kernel
theorem dX9_wins_24 : decode cX9_wins 24 = .ok (.getfield 84, 3) := by decide +kernel
theorem dX9_wins_27 : decode cX9_wins 27 = .ok (.if_icmp .ge 19, 3) := by decide +kernel
theorem dX9_wins_30 : decode cX9_wins 30 = .ok (.aload_n 0, 1) := by decide +kernel
theorem dX9_wins_31 : decode cX9_wins 31 = .ok (.aload_n 0, 1) := by decide +kernel
theorem dX9_wins_32 : decode cX9_wins 32 = .ok (.iload_n 2, 1) := by decide +kernel
theorem dX9_wins_33 : decode cX9_wins 33 = .ok (.invokevirtual 316, 3) := by decide +kernel
theorem dX9_wins_36 : decode cX9_wins 36 = .ok (.i2l, 1) := by decide +kernel
theorem dX9_wins_37 : decode cX9_wins 37 = .ok (.invokevirtual 180, 3) := by decide +kernel
theorem dX9_wins_40 : decode cX9_wins 40 = .ok (.iinc 2 1, 3) := by decide +kernel
theorem dX9_wins_43 : decode cX9_wins 43 = .ok (.goto (-21), 3) := by decide +kernel
theorem dX9_wins_46 : decode cX9_wins 46 = .ok (.aload_n 0, 1) := by decide +kernel
theorem dX9_wins_47 : decode cX9_wins 47 = .ok (.getfield 7, 3) := by decide +kernel
theorem dX9_wins_50 : decode cX9_wins 50 = .ok (.iload_n 1, 1) := by decide +kernel
theorem dX9_wins_51 : decode cX9_wins 51 = .ok (.laload, 1) := by decide +kernel
theorem dX9_wins_52 : decode cX9_wins 52 = .ok (.l2i, 1) := by decide +kernel
theorem dX9_wins_53 : decode cX9_wins 53 = .ok (.ireturn, 1) := by decide +kernel
theorem dX9_failsToo_0 : decode cX9_failsToo 0 = .ok (.iload_n 0, 1) := by decide +kernel
theorem dX9_failsToo_1 : decode cX9_failsToo 1 = .ok (.i2l, 1) := by decide +kernel
theorem dX9_failsToo_2 : decode cX9_failsToo 2 = .ok (.sipush 1000, 3) := by decide +kernel
theorem dX9_failsToo_5 : decode cX9_failsToo 5 = .ok (.iload_n 1, 1) := by decide +kernel
theorem dX9_failsToo_6 : decode cX9_failsToo 6 = .ok (.isub, 1) := by decide +kernel
theorem dX9_failsToo_7 : decode cX9_failsToo 7 = .ok (.i2l, 1) := by decide +kernel
theorem dX9_failsToo_8 : decode cX9_failsToo 8 = .ok (.lmul, 1) := by decide +kernel
theorem dX9_failsToo_9 : decode cX9_failsToo 9 = .ok (.ldc2_w 265, 3) := by decide +kernel
theorem dX9_failsToo_12 : decode cX9_failsToo 12 = .ok (.ldiv, 1) := by decide +kernel
theorem dX9_failsToo_13 : decode cX9_failsToo 13 = .ok (.l2i, 1) := by decide +kernel
theorem dX9_failsToo_14 : decode cX9_failsToo 14 = .ok (.ireturn, 1) := by decide +kernel
set_option maxRecDepth 20000 in
theorem ggX9_bombs_X9_isLifter : GoodIn wsX9_bombs wsX9_isLifter := goodIn_r _ [8, 9, 10, 11, 7, 12, 96, 97, 98, 99, 100, 101, 102, 103, 104, 105, 106, 107, 108, 109, 110, 111, 112, 113, 114, 115, 116, 117, 118, 119, 120, 121, 122, 123, 124, 125, 126, 127, 128, 129, 130, 131, 132, 133, 134, 135] (by decide +kernel) (by decide +kernel)
set_option maxRecDepth 20000 in
theorem gX9_bombs_X9_isLifter : GoodIn wsX9_bombs (wsV RX9 233 RX9 yX9_isLifter wsX9_isLifter) := goodIn_app (goodIn_of _ (by decide +kernel)) ggX9_bombs_X9_isLifter
set_option maxRecDepth 20000 in
theorem ggX9_bombs_X9_planOf : GoodIn wsX9_bombs wsX9_planOf := goodIn_r _ [16, 17, 96, 97, 98, 99, 100, 101, 102, 103, 104, 105, 106, 107, 108, 109, 110, 111, 112, 113, 114, 115, 116, 117, 118, 119, 120, 121, 122, 123, 124, 125, 126, 127, 128, 129, 130, 131, 132, 133, 134, 135] (by decide +kernel) (by decide +kernel)
set_option maxRecDepth 20000 in
theorem gX9_bombs_X9_planOf : GoodIn wsX9_bombs (wsV RX9 125 RX9 yX9_planOf wsX9_planOf) := goodIn_app (goodIn_of _ (by decide +kernel)) ggX9_bombs_X9_planOf
set_option maxRecDepth 20000 in
theorem ggX9_bombs_X9_oddsOf : GoodIn wsX9_bombs wsX9_oddsOf := goodIn_r _ [21, 22, 23, 24, 25, 26, 27, 28, 29, 7, 30, 31, 32, 33, 96, 97, 98, 99, 100, 101, 102, 103, 104, 105, 106, 107, 108, 109, 110, 111, 112, 113, 114, 115, 116, 117, 118, 119, 120, 121, 122, 123, 124, 125, 126, 127, 128, 129, 130, 131, 132, 133, 134, 135] (by decide +kernel) (by decide +kernel)
set_option maxRecDepth 20000 in
theorem gX9_bombs_X9_oddsOf : GoodIn wsX9_bombs (wsV RX9 245 RX9 yX9_oddsOf wsX9_oddsOf) := goodIn_app (goodIn_of _ (by decide +kernel)) ggX9_bombs_X9_oddsOf
set_option maxRecDepth 20000 in
theorem ggX9_bombs_X9_failsToo : GoodIn wsX9_bombs wsX9_failsToo := goodIn_r _ [36, 37] (by decide +kernel) (by decide +kernel)
set_option maxRecDepth 20000 in
theorem gX9_bombs_X9_failsToo : GoodIn wsX9_bombs (va_wsS RX9 319 yX9_failsToo wsX9_failsToo) := goodIn_app (goodIn_of _ (by decide +kernel)) ggX9_bombs_X9_failsToo
set_option maxRecDepth 20000 in
theorem ggX9_bombs_X9_asksThen : GoodIn wsX9_bombs wsX9_asksThen := goodIn_r _ [41, 13, 14, 15, 7, 16, 17, 96, 97, 98, 99, 100, 101, 102, 103, 104, 105, 106, 107, 108, 109, 110, 111, 112, 113, 114, 115, 116, 117, 118, 119, 120, 121, 122, 123, 124, 125, 126, 127, 128, 129, 130, 131, 132, 133, 134, 135] (by decide +kernel) (by decide +kernel)
set_option maxRecDepth 20000 in
theorem gX9_bombs_X9_asksThen : GoodIn wsX9_bombs (wsV RX9 153 RX9 yX9_asksThen wsX9_asksThen) := goodIn_app (goodIn_of _ (by decide +kernel)) ggX9_bombs_X9_asksThen
set_option maxRecDepth 20000 in
theorem ggX9_bombs_X9_notes : GoodIn wsX9_bombs wsX9_notes := goodIn_r _ [45, 46, 2, 96, 97, 98, 99, 100, 101, 102, 103, 104, 105, 106, 107, 108, 109, 110, 111, 112, 113, 114, 115, 116, 117, 118, 119, 120, 121, 122, 123, 124, 125, 126, 127, 128, 129, 130, 131, 132, 133, 134, 135] (by decide +kernel) (by decide +kernel)
set_option maxRecDepth 20000 in
theorem gX9_bombs_X9_notes : GoodIn wsX9_bombs (wsV RX9 180 RX9 yX9_notes wsX9_notes) := goodIn_app (goodIn_of _ (by decide +kernel)) ggX9_bombs_X9_notes
set_option maxRecDepth 20000 in
theorem ggX9_bombs_X9_chanceOf : GoodIn wsX9_bombs wsX9_chanceOf := goodIn_r _ [50, 51, 52, 53, 7, 54, 55, 3, 56, 57, 58, 59, 60, 61, 62, 63, 64, 65, 66, 67, 68, 69, 70, 71, 72, 73, 74, 75, 76, 77, 78, 79, 80, 81, 82, 83, 84, 85, 86, 87, 88, 23, 24, 25, 26, 89, 90, 91, 38, 39, 40, 41, 13, 14, 15, 16, 17, 18, 19, 20, 21, 22, 27, 28, 29, 30, 31, 32, 33, 92, 93, 94, 37, 95, 96, 97, 98, 99, 100, 101, 102, 103, 104, 105, 106, 107, 108, 109, 110, 111, 112, 113, 114, 115, 116, 117, 118, 119, 120, 121, 122, 123, 124, 125, 126, 127, 128, 129, 130, 131, 132, 133, 134, 135] (by decide +kernel) (by decide +kernel)
set_option maxRecDepth 20000 in
theorem gX9_bombs_X9_chanceOf : GoodIn wsX9_bombs (wsV RX9 290 RX9 yX9_chanceOf wsX9_chanceOf) := goodIn_app (goodIn_of _ (by decide +kernel)) ggX9_bombs_X9_chanceOf
theorem dX9_bombs_0 : decode cX9_bombs 0 = .ok (.aload_n 0, 1) := by decide +kernel
theorem dX9_bombs_1 : decode cX9_bombs 1 = .ok (.iconst 0, 1) := by decide +kernel
theorem dX9_bombs_2 : decode cX9_bombs 2 = .ok (.putfield 77, 3) := by decide +kernel
theorem dX9_bombs_5 : decode cX9_bombs 5 = .ok (.aload_n 0, 1) := by decide +kernel
theorem dX9_bombs_6 : decode cX9_bombs 6 = .ok (.iload_n 1, 1) := by decide +kernel
theorem dX9_bombs_7 : decode cX9_bombs 7 = .ok (.invokevirtual 233, 3) := by decide +kernel
theorem dX9_bombs_10 : decode cX9_bombs 10 = .ok (.ifCond .ne 5, 3) := by decide +kernel
theorem dX9_bombs_13 : decode cX9_bombs 13 = .ok (.iconst (-1), 1) := by decide +kernel
theorem dX9_bombs_14 : decode cX9_bombs 14 = .ok (.ireturn, 1) := by decide +kernel
theorem dX9_bombs_15 : decode cX9_bombs 15 = .ok (.aload_n 0, 1) := by decide +kernel
theorem dX9_bombs_16 : decode cX9_bombs 16 = .ok (.iconst 0, 1) := by decide +kernel
theorem dX9_bombs_17 : decode cX9_bombs 17 = .ok (.putfield 81, 3) := by decide +kernel
theorem dX9_bombs_20 : decode cX9_bombs 20 = .ok (.iconst 0, 1) := by decide +kernel
theorem dX9_bombs_21 : decode cX9_bombs 21 = .ok (.istore_n 2, 1) := by decide +kernel
theorem dX9_bombs_22 : decode cX9_bombs 22 = .ok (.iload_n 2, 1) := by decide +kernel
theorem dX9_bombs_23 : decode cX9_bombs 23 = .ok (.iconst 3, 1) := by decide +kernel
theorem dX9_bombs_24 : decode cX9_bombs 24 = .ok (.if_icmp .ge 76, 3) := by decide +kernel
theorem dX9_bombs_27 : decode cX9_bombs 27 = .ok (.ldc_w 264, 3) := by decide +kernel
theorem dX9_bombs_30 : decode cX9_bombs 30 = .ok (.istore_n 3, 1) := by decide +kernel
theorem dX9_bombs_31 : decode cX9_bombs 31 = .ok (.aload_n 0, 1) := by decide +kernel
theorem dX9_bombs_32 : decode cX9_bombs 32 = .ok (.iload_n 1, 1) := by decide +kernel
theorem dX9_bombs_33 : decode cX9_bombs 33 = .ok (.iload_n 2, 1) := by decide +kernel
theorem dX9_bombs_34 : decode cX9_bombs 34 = .ok (.iconst 0, 1) := by decide +kernel
theorem dX9_bombs_35 : decode cX9_bombs 35 = .ok (.invokevirtual 125, 3) := by decide +kernel
theorem dX9_bombs_38 : decode cX9_bombs 38 = .ok (.istore 4, 2) := by decide +kernel
theorem dX9_bombs_40 : decode cX9_bombs 40 = .ok (.iconst 0, 1) := by decide +kernel
theorem dX9_bombs_41 : decode cX9_bombs 41 = .ok (.istore 5, 2) := by decide +kernel
theorem dX9_bombs_43 : decode cX9_bombs 43 = .ok (.iload 5, 2) := by decide +kernel
theorem dX9_bombs_45 : decode cX9_bombs 45 = .ok (.iconst 3, 1) := by decide +kernel
theorem dX9_bombs_46 : decode cX9_bombs 46 = .ok (.if_icmp .ge 42, 3) := by decide +kernel
theorem dX9_bombs_49 : decode cX9_bombs 49 = .ok (.iload 4, 2) := by decide +kernel
theorem dX9_bombs_51 : decode cX9_bombs 51 = .ok (.ifCond .le 37, 3) := by decide +kernel
theorem dX9_bombs_54 : decode cX9_bombs 54 = .ok (.iload_n 3, 1) := by decide +kernel
theorem dX9_bombs_55 : decode cX9_bombs 55 = .ok (.aload_n 0, 1) := by decide +kernel
theorem dX9_bombs_56 : decode cX9_bombs 56 = .ok (.iload_n 1, 1) := by decide +kernel
theorem dX9_bombs_57 : decode cX9_bombs 57 = .ok (.iload_n 2, 1) := by decide +kernel
theorem dX9_bombs_58 : decode cX9_bombs 58 = .ok (.iload 4, 2) := by decide +kernel
theorem dX9_bombs_60 : decode cX9_bombs 60 = .ok (.iload 5, 2) := by decide +kernel
theorem dX9_bombs_62 : decode cX9_bombs 62 = .ok (.invokevirtual 245, 3) := by decide +kernel
theorem dX9_bombs_65 : decode cX9_bombs 65 = .ok (.invokestatic 319, 3) := by decide +kernel
theorem dX9_bombs_68 : decode cX9_bombs 68 = .ok (.istore_n 3, 1) := by decide +kernel
theorem dX9_bombs_69 : decode cX9_bombs 69 = .ok (.aload_n 0, 1) := by decide +kernel
theorem dX9_bombs_70 : decode cX9_bombs 70 = .ok (.iload_n 1, 1) := by decide +kernel
theorem dX9_bombs_71 : decode cX9_bombs 71 = .ok (.iload_n 2, 1) := by decide +kernel
theorem dX9_bombs_72 : decode cX9_bombs 72 = .ok (.iload 5, 2) := by decide +kernel
theorem dX9_bombs_74 : decode cX9_bombs 74 = .ok (.iload 4, 2) := by decide +kernel
theorem dX9_bombs_76 : decode cX9_bombs 76 = .ok (.iconst 0, 1) := by decide +kernel
theorem dX9_bombs_77 : decode cX9_bombs 77 = .ok (.invokevirtual 153, 3) := by decide +kernel
theorem dX9_bombs_80 : decode cX9_bombs 80 = .ok (.istore 4, 2) := by decide +kernel
theorem dX9_bombs_82 : decode cX9_bombs 82 = .ok (.iinc 5 1, 3) := by decide +kernel
theorem dX9_bombs_85 : decode cX9_bombs 85 = .ok (.goto (-42), 3) := by decide +kernel
theorem dX9_bombs_88 : decode cX9_bombs 88 = .ok (.aload_n 0, 1) := by decide +kernel
theorem dX9_bombs_89 : decode cX9_bombs 89 = .ok (.iload_n 3, 1) := by decide +kernel
theorem dX9_bombs_90 : decode cX9_bombs 90 = .ok (.i2l, 1) := by decide +kernel
theorem dX9_bombs_91 : decode cX9_bombs 91 = .ok (.invokevirtual 180, 3) := by decide +kernel
theorem dX9_bombs_94 : decode cX9_bombs 94 = .ok (.iinc 2 1, 3) := by decide +kernel
theorem dX9_bombs_97 : decode cX9_bombs 97 = .ok (.goto (-75), 3) := by decide +kernel
theorem dX9_bombs_100 : decode cX9_bombs 100 = .ok (.ldc_w 264, 3) := by decide +kernel
theorem dX9_bombs_103 : decode cX9_bombs 103 = .ok (.aload_n 0, 1) := by decide +kernel
theorem dX9_bombs_104 : decode cX9_bombs 104 = .ok (.iload_n 1, 1) := by decide +kernel
theorem dX9_bombs_105 : decode cX9_bombs 105 = .ok (.iconst 1, 1) := by decide +kernel
theorem dX9_bombs_106 : decode cX9_bombs 106 = .ok (.invokevirtual 290, 3) := by decide +kernel
theorem dX9_bombs_109 : decode cX9_bombs 109 = .ok (.isub, 1) := by decide +kernel
theorem dX9_bombs_110 : decode cX9_bombs 110 = .ok (.ireturn, 1) := by decide +kernel
set_option maxRecDepth 20000 in
theorem ggX9_opener_X9_isLifter : GoodIn wsX9_opener wsX9_isLifter := goodIn_r _ [8, 9, 10, 11, 7, 12, 37, 38, 39, 40, 41, 42, 43, 44, 45, 46, 47, 48, 49, 50, 51, 52, 53, 54, 55, 56, 57, 58, 59, 60, 61, 62, 63, 64, 65, 66, 67, 68, 69, 70, 71, 72, 73, 74, 75, 76] (by decide +kernel) (by decide +kernel)
set_option maxRecDepth 20000 in
theorem gX9_opener_X9_isLifter : GoodIn wsX9_opener (wsV RX9 233 RX9 yX9_isLifter wsX9_isLifter) := goodIn_app (goodIn_of _ (by decide +kernel)) ggX9_opener_X9_isLifter
set_option maxRecDepth 20000 in
theorem ggX9_opener_X9_isLift : GoodIn wsX9_opener wsX9_isLift := goodIn_r _ [15, 16, 10, 11, 7, 12] (by decide +kernel) (by decide +kernel)
set_option maxRecDepth 20000 in
theorem gX9_opener_X9_isLift : GoodIn wsX9_opener (va_wsS RX9 236 yX9_isLift wsX9_isLift) := goodIn_app (goodIn_of _ (by decide +kernel)) ggX9_opener_X9_isLift
set_option maxRecDepth 20000 in
theorem ggX9_opener_X9_in : GoodIn wsX9_opener wsX9_in := goodIn_r _ [12] (by decide +kernel) (by decide +kernel)
set_option maxRecDepth 20000 in
theorem gX9_opener_X9_in : GoodIn wsX9_opener (va_wsS RX9 87 yX9_in wsX9_in) := goodIn_app (goodIn_of _ (by decide +kernel)) ggX9_opener_X9_in
set_option maxRecDepth 20000 in
theorem ggX9_opener_X9_oddsOf : GoodIn wsX9_opener wsX9_oddsOf := goodIn_r _ [20, 21, 22, 23, 24, 25, 26, 27, 28, 7, 29, 30, 31, 32, 37, 38, 39, 40, 41, 42, 43, 44, 45, 46, 47, 48, 49, 50, 51, 52, 53, 54, 55, 56, 57, 58, 59, 60, 61, 62, 63, 64, 65, 66, 67, 68, 69, 70, 71, 72, 73, 74, 75, 76] (by decide +kernel) (by decide +kernel)
set_option maxRecDepth 20000 in
theorem gX9_opener_X9_oddsOf : GoodIn wsX9_opener (wsV RX9 245 RX9 yX9_oddsOf wsX9_oddsOf) := goodIn_app (goodIn_of _ (by decide +kernel)) ggX9_opener_X9_oddsOf
set_option maxRecDepth 20000 in
theorem ggX9_opener_X9_failsToo : GoodIn wsX9_opener wsX9_failsToo := goodIn_r _ [35, 36] (by decide +kernel) (by decide +kernel)
set_option maxRecDepth 20000 in
theorem gX9_opener_X9_failsToo : GoodIn wsX9_opener (va_wsS RX9 319 yX9_failsToo wsX9_failsToo) := goodIn_app (goodIn_of _ (by decide +kernel)) ggX9_opener_X9_failsToo
theorem dX9_opener_0 : decode cX9_opener 0 = .ok (.aload_n 0, 1) := by decide +kernel
theorem dX9_opener_1 : decode cX9_opener 1 = .ok (.iconst 0, 1) := by decide +kernel
theorem dX9_opener_2 : decode cX9_opener 2 = .ok (.putfield 77, 3) := by decide +kernel
theorem dX9_opener_5 : decode cX9_opener 5 = .ok (.aload_n 0, 1) := by decide +kernel
theorem dX9_opener_6 : decode cX9_opener 6 = .ok (.iload_n 1, 1) := by decide +kernel
theorem dX9_opener_7 : decode cX9_opener 7 = .ok (.invokevirtual 233, 3) := by decide +kernel
theorem dX9_opener_10 : decode cX9_opener 10 = .ok (.ifCond .eq 22, 3) := by decide +kernel
theorem dX9_opener_13 : decode cX9_opener 13 = .ok (.iload_n 2, 1) := by decide +kernel
theorem dX9_opener_14 : decode cX9_opener 14 = .ok (.invokestatic 236, 3) := by decide +kernel
theorem dX9_opener_17 : decode cX9_opener 17 = .ok (.ifCond .eq 15, 3) := by decide +kernel
theorem dX9_opener_20 : decode cX9_opener 20 = .ok (.iload_n 3, 1) := by decide +kernel
theorem dX9_opener_21 : decode cX9_opener 21 = .ok (.i2l, 1) := by decide +kernel
theorem dX9_opener_22 : decode cX9_opener 22 = .ok (.lconst 0, 1) := by decide +kernel
theorem dX9_opener_23 : decode cX9_opener 23 = .ok (.ldc2_w 299, 3) := by decide +kernel
theorem dX9_opener_26 : decode cX9_opener 26 = .ok (.invokestatic 87, 3) := by decide +kernel
theorem dX9_opener_29 : decode cX9_opener 29 = .ok (.ifCond .ne 5, 3) := by decide +kernel
theorem dX9_opener_32 : decode cX9_opener 32 = .ok (.iconst (-1), 1) := by decide +kernel
theorem dX9_opener_33 : decode cX9_opener 33 = .ok (.ireturn, 1) := by decide +kernel
theorem dX9_opener_34 : decode cX9_opener 34 = .ok (.bipush 40, 2) := by decide +kernel
theorem dX9_opener_36 : decode cX9_opener 36 = .ok (.istore 4, 2) := by decide +kernel
theorem dX9_opener_38 : decode cX9_opener 38 = .ok (.iload 4, 2) := by decide +kernel
theorem dX9_opener_40 : decode cX9_opener 40 = .ok (.ifCond .le 55, 3) := by decide +kernel
theorem dX9_opener_43 : decode cX9_opener 43 = .ok (.ldc_w 264, 3) := by decide +kernel
theorem dX9_opener_46 : decode cX9_opener 46 = .ok (.istore 5, 2) := by decide +kernel
theorem dX9_opener_48 : decode cX9_opener 48 = .ok (.iconst 0, 1) := by decide +kernel
theorem dX9_opener_49 : decode cX9_opener 49 = .ok (.istore 6, 2) := by decide +kernel
theorem dX9_opener_51 : decode cX9_opener 51 = .ok (.iload 6, 2) := by decide +kernel
theorem dX9_opener_53 : decode cX9_opener 53 = .ok (.iconst 3, 1) := by decide +kernel
theorem dX9_opener_54 : decode cX9_opener 54 = .ok (.if_icmp .ge 26, 3) := by decide +kernel
theorem dX9_opener_57 : decode cX9_opener 57 = .ok (.iload 5, 2) := by decide +kernel
theorem dX9_opener_59 : decode cX9_opener 59 = .ok (.aload_n 0, 1) := by decide +kernel
theorem dX9_opener_60 : decode cX9_opener 60 = .ok (.iload_n 1, 1) := by decide +kernel
theorem dX9_opener_61 : decode cX9_opener 61 = .ok (.iload_n 2, 1) := by decide +kernel
theorem dX9_opener_62 : decode cX9_opener 62 = .ok (.iload 4, 2) := by decide +kernel
theorem dX9_opener_64 : decode cX9_opener 64 = .ok (.iload 6, 2) := by decide +kernel
theorem dX9_opener_66 : decode cX9_opener 66 = .ok (.invokevirtual 245, 3) := by decide +kernel
theorem dX9_opener_69 : decode cX9_opener 69 = .ok (.invokestatic 319, 3) := by decide +kernel
theorem dX9_opener_72 : decode cX9_opener 72 = .ok (.istore 5, 2) := by decide +kernel
theorem dX9_opener_74 : decode cX9_opener 74 = .ok (.iinc 6 1, 3) := by decide +kernel
theorem dX9_opener_77 : decode cX9_opener 77 = .ok (.goto (-26), 3) := by decide +kernel
theorem dX9_opener_80 : decode cX9_opener 80 = .ok (.iload 5, 2) := by decide +kernel
theorem dX9_opener_82 : decode cX9_opener 82 = .ok (.iload_n 3, 1) := by decide +kernel
theorem dX9_opener_83 : decode cX9_opener 83 = .ok (.if_icmp .gt 6, 3) := by decide +kernel
theorem dX9_opener_86 : decode cX9_opener 86 = .ok (.iload 4, 2) := by decide +kernel
theorem dX9_opener_88 : decode cX9_opener 88 = .ok (.ireturn, 1) := by decide +kernel
theorem dX9_opener_89 : decode cX9_opener 89 = .ok (.iinc 4 (-1), 3) := by decide +kernel
theorem dX9_opener_92 : decode cX9_opener 92 = .ok (.goto (-54), 3) := by decide +kernel
theorem dX9_opener_95 : decode cX9_opener 95 = .ok (.bipush (-2), 2) := by decide +kernel
theorem dX9_opener_97 : decode cX9_opener 97 = .ok (.ireturn, 1) := by decide +kernel
theorem dX9_cell_0 : decode cX9_cell 0 = .ok (.bipush 42, 2) := by decide +kernel
theorem dX9_cell_2 : decode cX9_cell 2 = .ok (.bipush 42, 2) := by decide +kernel
theorem dX9_cell_4 : decode cX9_cell 4 = .ok (.iconst 4, 1) := by decide +kernel
theorem dX9_cell_5 : decode cX9_cell 5 = .ok (.iload_n 0, 1) := by decide +kernel
theorem dX9_cell_6 : decode cX9_cell 6 = .ok (.imul, 1) := by decide +kernel
theorem dX9_cell_7 : decode cX9_cell 7 = .ok (.iload_n 1, 1) := by decide +kernel
theorem dX9_cell_8 : decode cX9_cell 8 = .ok (.iadd, 1) := by decide +kernel
theorem dX9_cell_9 : decode cX9_cell 9 = .ok (.imul, 1) := by decide +kernel
theorem dX9_cell_10 : decode cX9_cell 10 = .ok (.iload_n 2, 1) := by decide +kernel
theorem dX9_cell_11 : decode cX9_cell 11 = .ok (.iadd, 1) := by decide +kernel
theorem dX9_cell_12 : decode cX9_cell 12 = .ok (.imul, 1) := by decide +kernel
theorem dX9_cell_13 : decode cX9_cell 13 = .ok (.iload_n 3, 1) := by decide +kernel
theorem dX9_cell_14 : decode cX9_cell 14 = .ok (.iadd, 1) := by decide +kernel
theorem dX9_cell_15 : decode cX9_cell 15 = .ok (.ireturn, 1) := by decide +kernel
set_option maxRecDepth 20000 in
theorem ggX9_triesBest_X9_cell : GoodIn wsX9_triesBest wsX9_cell := goodIn_r _ [10] (by decide +kernel) (by decide +kernel)
set_option maxRecDepth 20000 in
theorem gX9_triesBest_X9_cell : GoodIn wsX9_triesBest (va_wsS RX9 328 yX9_cell wsX9_cell) := goodIn_app (goodIn_of _ (by decide +kernel)) ggX9_triesBest_X9_cell
set_option maxRecDepth 20000 in
theorem ggX9_triesBest_X9_oddsOf : GoodIn wsX9_triesBest wsX9_oddsOf := goodIn_r _ [14, 15, 16, 17, 5, 18, 19, 20, 21, 9, 22, 23, 24, 25, 30, 31, 32, 33, 34, 35, 36, 37, 38, 39, 40, 41, 42, 43, 44, 45, 46, 47, 48, 49, 50, 51, 52, 53, 54, 55, 56, 57, 58, 59, 60, 61, 62, 63, 64, 65, 66, 67, 68, 69] (by decide +kernel) (by decide +kernel)
set_option maxRecDepth 20000 in
theorem gX9_triesBest_X9_oddsOf : GoodIn wsX9_triesBest (wsV RX9 245 RX9 yX9_oddsOf wsX9_oddsOf) := goodIn_app (goodIn_of _ (by decide +kernel)) ggX9_triesBest_X9_oddsOf
set_option maxRecDepth 20000 in
theorem ggX9_triesBest_X9_expected : GoodIn wsX9_triesBest wsX9_expected := goodIn_r _ [28, 29] (by decide +kernel) (by decide +kernel)
set_option maxRecDepth 20000 in
theorem gX9_triesBest_X9_expected : GoodIn wsX9_triesBest (va_wsS RX9 274 yX9_expected wsX9_expected) := goodIn_app (goodIn_of _ (by decide +kernel)) ggX9_triesBest_X9_expected
theorem dX9_triesBest_0 : decode cX9_triesBest 0 = .ok (.aload_n 0, 1) := by decide +kernel
theorem dX9_triesBest_1 : decode cX9_triesBest 1 = .ok (.iconst 0, 1) := by decide +kernel
theorem dX9_triesBest_2 : decode cX9_triesBest 2 = .ok (.putfield 322, 3) := by decide +kernel
theorem dX9_triesBest_5 : decode cX9_triesBest 5 = .ok (.iconst (-1), 1) := by decide +kernel
theorem dX9_triesBest_6 : decode cX9_triesBest 6 = .ok (.istore 7, 2) := by decide +kernel
theorem dX9_triesBest_8 : decode cX9_triesBest 8 = .ok (.iload 5, 2) := by decide +kernel
theorem dX9_triesBest_10 : decode cX9_triesBest 10 = .ok (.istore 8, 2) := by decide +kernel
theorem dX9_triesBest_12 : decode cX9_triesBest 12 = .ok (.iload 8, 2) := by decide +kernel
theorem dX9_triesBest_14 : decode cX9_triesBest 14 = .ok (.bipush 40, 2) := by decide +kernel
theorem dX9_triesBest_16 : decode cX9_triesBest 16 = .ok (.if_icmp .gt 95, 3) := by decide +kernel
theorem dX9_triesBest_19 : decode cX9_triesBest 19 = .ok (.aload_n 0, 1) := by decide +kernel
theorem dX9_triesBest_20 : decode cX9_triesBest 20 = .ok (.getfield 68, 3) := by decide +kernel
theorem dX9_triesBest_23 : decode cX9_triesBest 23 = .ok (.iload_n 3, 1) := by decide +kernel
theorem dX9_triesBest_24 : decode cX9_triesBest 24 = .ok (.iconst 1, 1) := by decide +kernel
theorem dX9_triesBest_25 : decode cX9_triesBest 25 = .ok (.iadd, 1) := by decide +kernel
theorem dX9_triesBest_26 : decode cX9_triesBest 26 = .ok (.iload 4, 2) := by decide +kernel
theorem dX9_triesBest_28 : decode cX9_triesBest 28 = .ok (.bipush 41, 2) := by decide +kernel
theorem dX9_triesBest_30 : decode cX9_triesBest 30 = .ok (.iload 8, 2) := by decide +kernel
theorem dX9_triesBest_32 : decode cX9_triesBest 32 = .ok (.iconst 1, 1) := by decide +kernel
theorem dX9_triesBest_33 : decode cX9_triesBest 33 = .ok (.iadd, 1) := by decide +kernel
theorem dX9_triesBest_34 : decode cX9_triesBest 34 = .ok (.invokestatic 325, 3) := by decide +kernel
theorem dX9_triesBest_37 : decode cX9_triesBest 37 = .ok (.iload 8, 2) := by decide +kernel
theorem dX9_triesBest_39 : decode cX9_triesBest 39 = .ok (.invokestatic 328, 3) := by decide +kernel
theorem dX9_triesBest_42 : decode cX9_triesBest 42 = .ok (.iaload, 1) := by decide +kernel
theorem dX9_triesBest_43 : decode cX9_triesBest 43 = .ok (.istore 9, 2) := by decide +kernel
theorem dX9_triesBest_45 : decode cX9_triesBest 45 = .ok (.aload_n 0, 1) := by decide +kernel
theorem dX9_triesBest_46 : decode cX9_triesBest 46 = .ok (.getfield 68, 3) := by decide +kernel
theorem dX9_triesBest_49 : decode cX9_triesBest 49 = .ok (.iload_n 3, 1) := by decide +kernel
theorem dX9_triesBest_50 : decode cX9_triesBest 50 = .ok (.iconst 1, 1) := by decide +kernel
theorem dX9_triesBest_51 : decode cX9_triesBest 51 = .ok (.iadd, 1) := by decide +kernel
theorem dX9_triesBest_52 : decode cX9_triesBest 52 = .ok (.iload 4, 2) := by decide +kernel
theorem dX9_triesBest_54 : decode cX9_triesBest 54 = .ok (.iconst 1, 1) := by decide +kernel
theorem dX9_triesBest_55 : decode cX9_triesBest 55 = .ok (.iadd, 1) := by decide +kernel
theorem dX9_triesBest_56 : decode cX9_triesBest 56 = .ok (.iload 8, 2) := by decide +kernel
theorem dX9_triesBest_58 : decode cX9_triesBest 58 = .ok (.iload 6, 2) := by decide +kernel
theorem dX9_triesBest_60 : decode cX9_triesBest 60 = .ok (.invokestatic 328, 3) := by decide +kernel
theorem dX9_triesBest_63 : decode cX9_triesBest 63 = .ok (.iaload, 1) := by decide +kernel
theorem dX9_triesBest_64 : decode cX9_triesBest 64 = .ok (.istore 10, 2) := by decide +kernel
theorem dX9_triesBest_66 : decode cX9_triesBest 66 = .ok (.aload_n 0, 1) := by decide +kernel
theorem dX9_triesBest_67 : decode cX9_triesBest 67 = .ok (.iload_n 1, 1) := by decide +kernel
theorem dX9_triesBest_68 : decode cX9_triesBest 68 = .ok (.iload_n 2, 1) := by decide +kernel
theorem dX9_triesBest_69 : decode cX9_triesBest 69 = .ok (.iload 8, 2) := by decide +kernel
theorem dX9_triesBest_71 : decode cX9_triesBest 71 = .ok (.iload 4, 2) := by decide +kernel
theorem dX9_triesBest_73 : decode cX9_triesBest 73 = .ok (.invokevirtual 245, 3) := by decide +kernel
theorem dX9_triesBest_76 : decode cX9_triesBest 76 = .ok (.iload 9, 2) := by decide +kernel
theorem dX9_triesBest_78 : decode cX9_triesBest 78 = .ok (.iload 10, 2) := by decide +kernel
theorem dX9_triesBest_80 : decode cX9_triesBest 80 = .ok (.invokestatic 274, 3) := by decide +kernel
theorem dX9_triesBest_83 : decode cX9_triesBest 83 = .ok (.istore 11, 2) := by decide +kernel
theorem dX9_triesBest_85 : decode cX9_triesBest 85 = .ok (.iload 11, 2) := by decide +kernel
theorem dX9_triesBest_87 : decode cX9_triesBest 87 = .ok (.iload 7, 2) := by decide +kernel
theorem dX9_triesBest_89 : decode cX9_triesBest 89 = .ok (.if_icmp .gt 6, 3) := by decide +kernel
theorem dX9_triesBest_92 : decode cX9_triesBest 92 = .ok (.goto 13, 3) := by decide +kernel
theorem dX9_triesBest_95 : decode cX9_triesBest 95 = .ok (.iload 11, 2) := by decide +kernel
theorem dX9_triesBest_97 : decode cX9_triesBest 97 = .ok (.istore 7, 2) := by decide +kernel
theorem dX9_triesBest_99 : decode cX9_triesBest 99 = .ok (.aload_n 0, 1) := by decide +kernel
theorem dX9_triesBest_100 : decode cX9_triesBest 100 = .ok (.iload 8, 2) := by decide +kernel
theorem dX9_triesBest_102 : decode cX9_triesBest 102 = .ok (.putfield 322, 3) := by decide +kernel
theorem dX9_triesBest_105 : decode cX9_triesBest 105 = .ok (.iinc 8 1, 3) := by decide +kernel
theorem dX9_triesBest_108 : decode cX9_triesBest 108 = .ok (.goto (-96), 3) := by decide +kernel
theorem dX9_triesBest_111 : decode cX9_triesBest 111 = .ok (.iload 7, 2) := by decide +kernel
theorem dX9_triesBest_113 : decode cX9_triesBest 113 = .ok (.ireturn, 1) := by decide +kernel
theorem dX9_ends_0 : decode cX9_ends 0 = .ok (.iload_n 2, 1) := by decide +kernel
theorem dX9_ends_1 : decode cX9_ends 1 = .ok (.ifCond .ne 12, 3) := by decide +kernel
theorem dX9_ends_4 : decode cX9_ends 4 = .ok (.aload_n 0, 1) := by decide +kernel
theorem dX9_ends_5 : decode cX9_ends 5 = .ok (.getfield 56, 3) := by decide +kernel
theorem dX9_ends_8 : decode cX9_ends 8 = .ok (.iconst 0, 1) := by decide +kernel
theorem dX9_ends_9 : decode cX9_ends 9 = .ok (.iaload, 1) := by decide +kernel
theorem dX9_ends_10 : decode cX9_ends 10 = .ok (.goto 18, 3) := by decide +kernel
theorem dX9_ends_13 : decode cX9_ends 13 = .ok (.aload_n 0, 1) := by decide +kernel
theorem dX9_ends_14 : decode cX9_ends 14 = .ok (.getfield 65, 3) := by decide +kernel
theorem dX9_ends_17 : decode cX9_ends 17 = .ok (.bipush 121, 2) := by decide +kernel
theorem dX9_ends_19 : decode cX9_ends 19 = .ok (.iload_n 1, 1) := by decide +kernel
theorem dX9_ends_20 : decode cX9_ends 20 = .ok (.iconst 1, 1) := by decide +kernel
theorem dX9_ends_21 : decode cX9_ends 21 = .ok (.iadd, 1) := by decide +kernel
theorem dX9_ends_22 : decode cX9_ends 22 = .ok (.imul, 1) := by decide +kernel
theorem dX9_ends_23 : decode cX9_ends 23 = .ok (.iload_n 3, 1) := by decide +kernel
theorem dX9_ends_24 : decode cX9_ends 24 = .ok (.iadd, 1) := by decide +kernel
theorem dX9_ends_25 : decode cX9_ends 25 = .ok (.iload_n 2, 1) := by decide +kernel
theorem dX9_ends_26 : decode cX9_ends 26 = .ok (.iadd, 1) := by decide +kernel
theorem dX9_ends_27 : decode cX9_ends 27 = .ok (.iaload, 1) := by decide +kernel
theorem dX9_ends_28 : decode cX9_ends 28 = .ok (.ireturn, 1) := by decide +kernel
theorem dX9_canBe_0 : decode cX9_canBe 0 = .ok (.iload_n 1, 1) := by decide +kernel
theorem dX9_canBe_1 : decode cX9_canBe 1 = .ok (.ifCond .ne 18, 3) := by decide +kernel
theorem dX9_canBe_4 : decode cX9_canBe 4 = .ok (.iload_n 3, 1) := by decide +kernel
theorem dX9_canBe_5 : decode cX9_canBe 5 = .ok (.iload_n 2, 1) := by decide +kernel
theorem dX9_canBe_6 : decode cX9_canBe 6 = .ok (.iconst 1, 1) := by decide +kernel
theorem dX9_canBe_7 : decode cX9_canBe 7 = .ok (.isub, 1) := by decide +kernel
theorem dX9_canBe_8 : decode cX9_canBe 8 = .ok (.if_icmp .ne 7, 3) := by decide +kernel
theorem dX9_canBe_11 : decode cX9_canBe 11 = .ok (.iconst 1, 1) := by decide +kernel
theorem dX9_canBe_12 : decode cX9_canBe 12 = .ok (.goto 21, 3) := by decide +kernel
theorem dX9_canBe_15 : decode cX9_canBe 15 = .ok (.iconst 0, 1) := by decide +kernel
theorem dX9_canBe_16 : decode cX9_canBe 16 = .ok (.goto 17, 3) := by decide +kernel
theorem dX9_canBe_19 : decode cX9_canBe 19 = .ok (.iload_n 1, 1) := by decide +kernel
theorem dX9_canBe_20 : decode cX9_canBe 20 = .ok (.iload_n 0, 1) := by decide +kernel
theorem dX9_canBe_21 : decode cX9_canBe 21 = .ok (.if_icmp .lt 7, 3) := by decide +kernel
theorem dX9_canBe_24 : decode cX9_canBe 24 = .ok (.iload_n 3, 1) := by decide +kernel
theorem dX9_canBe_25 : decode cX9_canBe 25 = .ok (.ifCond .ne 7, 3) := by decide +kernel
theorem dX9_canBe_28 : decode cX9_canBe 28 = .ok (.iconst 1, 1) := by decide +kernel
theorem dX9_canBe_29 : decode cX9_canBe 29 = .ok (.goto 4, 3) := by decide +kernel
theorem dX9_canBe_32 : decode cX9_canBe 32 = .ok (.iconst 0, 1) := by decide +kernel
theorem dX9_canBe_33 : decode cX9_canBe 33 = .ok (.ireturn, 1) := by decide +kernel
set_option maxRecDepth 20000 in
theorem ggX9_laysRounds_X9_canBe : GoodIn wsX9_laysRounds wsX9_canBe := goodIn_r _ [5] (by decide +kernel) (by decide +kernel)
set_option maxRecDepth 20000 in
theorem gX9_laysRounds_X9_canBe : GoodIn wsX9_laysRounds (va_wsS RX9 331 yX9_canBe wsX9_canBe) := goodIn_app (goodIn_of _ (by decide +kernel)) ggX9_laysRounds_X9_canBe
set_option maxRecDepth 20000 in
theorem ggX9_laysRounds_X9_ends : GoodIn wsX9_laysRounds wsX9_ends := goodIn_r _ [9, 10, 11, 43, 44, 45, 46, 47, 48, 49, 50, 51, 52, 53, 54, 55, 56, 57, 58, 59, 60, 61, 62, 63, 64, 65, 66, 67, 68, 69, 70, 71, 72, 73, 74, 75, 76, 77, 78, 79, 80, 81, 82] (by decide +kernel) (by decide +kernel)
set_option maxRecDepth 20000 in
theorem gX9_laysRounds_X9_ends : GoodIn wsX9_laysRounds (wsV RX9 335 RX9 yX9_ends wsX9_ends) := goodIn_app (goodIn_of _ (by decide +kernel)) ggX9_laysRounds_X9_ends
set_option maxRecDepth 20000 in
theorem ggX9_laysRounds_X9_triesBest : GoodIn wsX9_laysRounds wsX9_triesBest := goodIn_r _ [15, 16, 1, 17, 18, 19, 20, 21, 22, 4, 23, 24, 25, 26, 27, 28, 29, 30, 31, 32, 33, 34, 35, 36, 37, 38, 39, 40, 41, 42, 43, 44, 45, 46, 47, 48, 49, 50, 51, 52, 53, 54, 55, 56, 57, 58, 59, 60, 61, 62, 63, 64, 65, 66, 67, 68, 69, 70, 71, 72, 73, 74, 75, 76, 77, 78, 79, 80, 81, 82] (by decide +kernel) (by decide +kernel)
set_option maxRecDepth 20000 in
theorem gX9_laysRounds_X9_triesBest : GoodIn wsX9_laysRounds (wsV RX9 338 RX9 yX9_triesBest wsX9_triesBest) := goodIn_app (goodIn_of _ (by decide +kernel)) ggX9_laysRounds_X9_triesBest
set_option maxRecDepth 20000 in
theorem ggX9_laysRounds_X9_cell : GoodIn wsX9_laysRounds wsX9_cell := goodIn_r _ [23] (by decide +kernel) (by decide +kernel)
set_option maxRecDepth 20000 in
theorem gX9_laysRounds_X9_cell : GoodIn wsX9_laysRounds (va_wsS RX9 328 yX9_cell wsX9_cell) := goodIn_app (goodIn_of _ (by decide +kernel)) ggX9_laysRounds_X9_cell
theorem dX9_laysRounds_0 : decode cX9_laysRounds 0 = .ok (.iconst 3, 1) := by decide +kernel
theorem dX9_laysRounds_1 : decode cX9_laysRounds 1 = .ok (.istore 5, 2) := by decide +kernel
theorem dX9_laysRounds_3 : decode cX9_laysRounds 3 = .ok (.iload 5, 2) := by decide +kernel
theorem dX9_laysRounds_5 : decode cX9_laysRounds 5 = .ok (.iload_n 3, 1) := by decide +kernel
theorem dX9_laysRounds_6 : decode cX9_laysRounds 6 = .ok (.if_icmp .le 133, 3) := by decide +kernel
theorem dX9_laysRounds_9 : decode cX9_laysRounds 9 = .ok (.iconst 0, 1) := by decide +kernel
theorem dX9_laysRounds_10 : decode cX9_laysRounds 10 = .ok (.istore 6, 2) := by decide +kernel
theorem dX9_laysRounds_12 : decode cX9_laysRounds 12 = .ok (.iload 6, 2) := by decide +kernel
theorem dX9_laysRounds_14 : decode cX9_laysRounds 14 = .ok (.iload 5, 2) := by decide +kernel
theorem dX9_laysRounds_16 : decode cX9_laysRounds 16 = .ok (.if_icmp .gt 117, 3) := by decide +kernel
theorem dX9_laysRounds_19 : decode cX9_laysRounds 19 = .ok (.iconst 1, 1) := by decide +kernel
theorem dX9_laysRounds_20 : decode cX9_laysRounds 20 = .ok (.istore 7, 2) := by decide +kernel
theorem dX9_laysRounds_22 : decode cX9_laysRounds 22 = .ok (.iload 7, 2) := by decide +kernel
theorem dX9_laysRounds_24 : decode cX9_laysRounds 24 = .ok (.bipush 42, 2) := by decide +kernel
theorem dX9_laysRounds_26 : decode cX9_laysRounds 26 = .ok (.if_icmp .ge 101, 3) := by decide +kernel
theorem dX9_laysRounds_29 : decode cX9_laysRounds 29 = .ok (.iconst 0, 1) := by decide +kernel
theorem dX9_laysRounds_30 : decode cX9_laysRounds 30 = .ok (.istore 8, 2) := by decide +kernel
theorem dX9_laysRounds_32 : decode cX9_laysRounds 32 = .ok (.iload 8, 2) := by decide +kernel
theorem dX9_laysRounds_34 : decode cX9_laysRounds 34 = .ok (.iload 7, 2) := by decide +kernel
theorem dX9_laysRounds_36 : decode cX9_laysRounds 36 = .ok (.if_icmp .ge 85, 3) := by decide +kernel
theorem dX9_laysRounds_39 : decode cX9_laysRounds 39 = .ok (.iload 5, 2) := by decide +kernel
theorem dX9_laysRounds_41 : decode cX9_laysRounds 41 = .ok (.iload 6, 2) := by decide +kernel
theorem dX9_laysRounds_43 : decode cX9_laysRounds 43 = .ok (.iload 7, 2) := by decide +kernel
theorem dX9_laysRounds_45 : decode cX9_laysRounds 45 = .ok (.iload 8, 2) := by decide +kernel
theorem dX9_laysRounds_47 : decode cX9_laysRounds 47 = .ok (.invokestatic 331, 3) := by decide +kernel
theorem dX9_laysRounds_50 : decode cX9_laysRounds 50 = .ok (.ifCond .ne 6, 3) := by decide +kernel
theorem dX9_laysRounds_53 : decode cX9_laysRounds 53 = .ok (.goto 62, 3) := by decide +kernel
theorem dX9_laysRounds_56 : decode cX9_laysRounds 56 = .ok (.iload 5, 2) := by decide +kernel
theorem dX9_laysRounds_58 : decode cX9_laysRounds 58 = .ok (.iconst 3, 1) := by decide +kernel
theorem dX9_laysRounds_59 : decode cX9_laysRounds 59 = .ok (.if_icmp .eq 10, 3) := by decide +kernel
theorem dX9_laysRounds_62 : decode cX9_laysRounds 62 = .ok (.iload 7, 2) := by decide +kernel
theorem dX9_laysRounds_64 : decode cX9_laysRounds 64 = .ok (.bipush 40, 2) := by decide +kernel
theorem dX9_laysRounds_66 : decode cX9_laysRounds 66 = .ok (.if_icmp .le 15, 3) := by decide +kernel
theorem dX9_laysRounds_69 : decode cX9_laysRounds 69 = .ok (.aload_n 0, 1) := by decide +kernel
theorem dX9_laysRounds_70 : decode cX9_laysRounds 70 = .ok (.iload_n 2, 1) := by decide +kernel
theorem dX9_laysRounds_71 : decode cX9_laysRounds 71 = .ok (.iload 8, 2) := by decide +kernel
theorem dX9_laysRounds_73 : decode cX9_laysRounds 73 = .ok (.iload 4, 2) := by decide +kernel
theorem dX9_laysRounds_75 : decode cX9_laysRounds 75 = .ok (.invokevirtual 335, 3) := by decide +kernel
theorem dX9_laysRounds_78 : decode cX9_laysRounds 78 = .ok (.goto 17, 3) := by decide +kernel
theorem dX9_laysRounds_81 : decode cX9_laysRounds 81 = .ok (.aload_n 0, 1) := by decide +kernel
theorem dX9_laysRounds_82 : decode cX9_laysRounds 82 = .ok (.iload_n 1, 1) := by decide +kernel
theorem dX9_laysRounds_83 : decode cX9_laysRounds 83 = .ok (.iload_n 2, 1) := by decide +kernel
theorem dX9_laysRounds_84 : decode cX9_laysRounds 84 = .ok (.iload 5, 2) := by decide +kernel
theorem dX9_laysRounds_86 : decode cX9_laysRounds 86 = .ok (.iload 6, 2) := by decide +kernel
theorem dX9_laysRounds_88 : decode cX9_laysRounds 88 = .ok (.iload 7, 2) := by decide +kernel
theorem dX9_laysRounds_90 : decode cX9_laysRounds 90 = .ok (.iload 8, 2) := by decide +kernel
theorem dX9_laysRounds_92 : decode cX9_laysRounds 92 = .ok (.invokevirtual 338, 3) := by decide +kernel
theorem dX9_laysRounds_95 : decode cX9_laysRounds 95 = .ok (.istore 9, 2) := by decide +kernel
theorem dX9_laysRounds_97 : decode cX9_laysRounds 97 = .ok (.aload_n 0, 1) := by decide +kernel
theorem dX9_laysRounds_98 : decode cX9_laysRounds 98 = .ok (.getfield 68, 3) := by decide +kernel
theorem dX9_laysRounds_101 : decode cX9_laysRounds 101 = .ok (.iload 5, 2) := by decide +kernel
theorem dX9_laysRounds_103 : decode cX9_laysRounds 103 = .ok (.iload 6, 2) := by decide +kernel
theorem dX9_laysRounds_105 : decode cX9_laysRounds 105 = .ok (.iload 7, 2) := by decide +kernel
theorem dX9_laysRounds_107 : decode cX9_laysRounds 107 = .ok (.iload 8, 2) := by decide +kernel
theorem dX9_laysRounds_109 : decode cX9_laysRounds 109 = .ok (.invokestatic 328, 3) := by decide +kernel
theorem dX9_laysRounds_112 : decode cX9_laysRounds 112 = .ok (.iload 9, 2) := by decide +kernel
theorem dX9_laysRounds_114 : decode cX9_laysRounds 114 = .ok (.iastore, 1) := by decide +kernel
theorem dX9_laysRounds_115 : decode cX9_laysRounds 115 = .ok (.iinc 8 1, 3) := by decide +kernel
theorem dX9_laysRounds_118 : decode cX9_laysRounds 118 = .ok (.goto (-86), 3) := by decide +kernel
theorem dX9_laysRounds_121 : decode cX9_laysRounds 121 = .ok (.iinc 7 1, 3) := by decide +kernel
theorem dX9_laysRounds_124 : decode cX9_laysRounds 124 = .ok (.goto (-102), 3) := by decide +kernel
theorem dX9_laysRounds_127 : decode cX9_laysRounds 127 = .ok (.iinc 6 1, 3) := by decide +kernel
theorem dX9_laysRounds_130 : decode cX9_laysRounds 130 = .ok (.goto (-118), 3) := by decide +kernel
theorem dX9_laysRounds_133 : decode cX9_laysRounds 133 = .ok (.iinc 5 (-1), 3) := by decide +kernel
theorem dX9_laysRounds_136 : decode cX9_laysRounds 136 = .ok (.goto (-133), 3) := by decide +kernel
theorem dX9_laysRounds_139 : decode cX9_laysRounds 139 = .ok (.return_, 1) := by decide +kernel
set_option maxRecDepth 20000 in
theorem ggX9_laysBehind_X9_laysRounds : GoodIn wsX9_laysBehind wsX9_laysRounds := goodIn_r _ [7, 8, 9, 10, 6, 11, 12, 13, 14, 15, 2, 1, 16, 17, 18, 19, 20, 21, 22, 23, 24, 25, 26, 27, 28, 29, 30, 31, 32, 33, 34, 35, 36, 37, 38, 39, 40, 41, 42, 43, 44, 45, 46, 47, 48, 49, 50, 51, 52, 53, 54, 55, 56, 57, 58, 59, 60, 61, 62, 63, 64, 65, 66, 67, 68, 69, 70, 71, 72, 73, 74, 75, 76, 77, 78, 79, 80, 81, 82, 83, 84, 85, 86] (by decide +kernel) (by decide +kernel)
set_option maxRecDepth 20000 in
theorem gX9_laysBehind_X9_laysRounds : GoodIn wsX9_laysBehind (wsV RX9 342 RX9 yX9_laysRounds wsX9_laysRounds) := goodIn_app (goodIn_of _ (by decide +kernel)) ggX9_laysBehind_X9_laysRounds
set_option maxRecDepth 20000 in
theorem ggX9_laysBehind_X9_triesBest : GoodIn wsX9_laysBehind wsX9_triesBest := goodIn_r _ [19, 20, 8, 21, 22, 23, 24, 25, 26, 6, 27, 28, 29, 30, 31, 32, 33, 34, 35, 36, 37, 38, 39, 40, 41, 42, 43, 44, 45, 46, 47, 48, 49, 50, 51, 52, 53, 54, 55, 56, 57, 58, 59, 60, 61, 62, 63, 64, 65, 66, 67, 68, 69, 70, 71, 72, 73, 74, 75, 76, 77, 78, 79, 80, 81, 82, 83, 84, 85, 86] (by decide +kernel) (by decide +kernel)
set_option maxRecDepth 20000 in
theorem gX9_laysBehind_X9_triesBest : GoodIn wsX9_laysBehind (wsV RX9 338 RX9 yX9_triesBest wsX9_triesBest) := goodIn_app (goodIn_of _ (by decide +kernel)) ggX9_laysBehind_X9_triesBest
theorem dX9_laysBehind_0 : decode cX9_laysBehind 0 = .ok (.iconst 0, 1) := by decide +kernel
theorem dX9_laysBehind_1 : decode cX9_laysBehind 1 = .ok (.istore_n 3, 1) := by decide +kernel
theorem dX9_laysBehind_2 : decode cX9_laysBehind 2 = .ok (.iload_n 3, 1) := by decide +kernel
theorem dX9_laysBehind_3 : decode cX9_laysBehind 3 = .ok (.bipush 121, 2) := by decide +kernel
theorem dX9_laysBehind_5 : decode cX9_laysBehind 5 = .ok (.if_icmp .ge 25, 3) := by decide +kernel
theorem dX9_laysBehind_8 : decode cX9_laysBehind 8 = .ok (.aload_n 0, 1) := by decide +kernel
theorem dX9_laysBehind_9 : decode cX9_laysBehind 9 = .ok (.getfield 65, 3) := by decide +kernel
theorem dX9_laysBehind_12 : decode cX9_laysBehind 12 = .ok (.sipush 363, 3) := by decide +kernel
theorem dX9_laysBehind_15 : decode cX9_laysBehind 15 = .ok (.iload_n 3, 1) := by decide +kernel
theorem dX9_laysBehind_16 : decode cX9_laysBehind 16 = .ok (.iadd, 1) := by decide +kernel
theorem dX9_laysBehind_17 : decode cX9_laysBehind 17 = .ok (.aload_n 0, 1) := by decide +kernel
theorem dX9_laysBehind_18 : decode cX9_laysBehind 18 = .ok (.getfield 56, 3) := by decide +kernel
theorem dX9_laysBehind_21 : decode cX9_laysBehind 21 = .ok (.iload_n 3, 1) := by decide +kernel
theorem dX9_laysBehind_22 : decode cX9_laysBehind 22 = .ok (.iaload, 1) := by decide +kernel
theorem dX9_laysBehind_23 : decode cX9_laysBehind 23 = .ok (.iastore, 1) := by decide +kernel
theorem dX9_laysBehind_24 : decode cX9_laysBehind 24 = .ok (.iinc 3 1, 3) := by decide +kernel
theorem dX9_laysBehind_27 : decode cX9_laysBehind 27 = .ok (.goto (-25), 3) := by decide +kernel
theorem dX9_laysBehind_30 : decode cX9_laysBehind 30 = .ok (.iconst 2, 1) := by decide +kernel
theorem dX9_laysBehind_31 : decode cX9_laysBehind 31 = .ok (.istore_n 3, 1) := by decide +kernel
theorem dX9_laysBehind_32 : decode cX9_laysBehind 32 = .ok (.iload_n 3, 1) := by decide +kernel
theorem dX9_laysBehind_33 : decode cX9_laysBehind 33 = .ok (.iload_n 2, 1) := by decide +kernel
theorem dX9_laysBehind_34 : decode cX9_laysBehind 34 = .ok (.if_icmp .le 58, 3) := by decide +kernel
theorem dX9_laysBehind_37 : decode cX9_laysBehind 37 = .ok (.iconst 0, 1) := by decide +kernel
theorem dX9_laysBehind_38 : decode cX9_laysBehind 38 = .ok (.istore 4, 2) := by decide +kernel
theorem dX9_laysBehind_40 : decode cX9_laysBehind 40 = .ok (.iload 4, 2) := by decide +kernel
theorem dX9_laysBehind_42 : decode cX9_laysBehind 42 = .ok (.bipush 40, 2) := by decide +kernel
theorem dX9_laysBehind_44 : decode cX9_laysBehind 44 = .ok (.iload_n 3, 1) := by decide +kernel
theorem dX9_laysBehind_45 : decode cX9_laysBehind 45 = .ok (.imul, 1) := by decide +kernel
theorem dX9_laysBehind_46 : decode cX9_laysBehind 46 = .ok (.if_icmp .gt 40, 3) := by decide +kernel
theorem dX9_laysBehind_49 : decode cX9_laysBehind 49 = .ok (.aload_n 0, 1) := by decide +kernel
theorem dX9_laysBehind_50 : decode cX9_laysBehind 50 = .ok (.iload_n 1, 1) := by decide +kernel
theorem dX9_laysBehind_51 : decode cX9_laysBehind 51 = .ok (.iload_n 3, 1) := by decide +kernel
theorem dX9_laysBehind_52 : decode cX9_laysBehind 52 = .ok (.iconst 0, 1) := by decide +kernel
theorem dX9_laysBehind_53 : decode cX9_laysBehind 53 = .ok (.iload 4, 2) := by decide +kernel
theorem dX9_laysBehind_55 : decode cX9_laysBehind 55 = .ok (.invokevirtual 342, 3) := by decide +kernel
theorem dX9_laysBehind_58 : decode cX9_laysBehind 58 = .ok (.aload_n 0, 1) := by decide +kernel
theorem dX9_laysBehind_59 : decode cX9_laysBehind 59 = .ok (.getfield 65, 3) := by decide +kernel
theorem dX9_laysBehind_62 : decode cX9_laysBehind 62 = .ok (.bipush 121, 2) := by decide +kernel
theorem dX9_laysBehind_64 : decode cX9_laysBehind 64 = .ok (.iload_n 3, 1) := by decide +kernel
theorem dX9_laysBehind_65 : decode cX9_laysBehind 65 = .ok (.imul, 1) := by decide +kernel
theorem dX9_laysBehind_66 : decode cX9_laysBehind 66 = .ok (.iload 4, 2) := by decide +kernel
theorem dX9_laysBehind_68 : decode cX9_laysBehind 68 = .ok (.iadd, 1) := by decide +kernel
theorem dX9_laysBehind_69 : decode cX9_laysBehind 69 = .ok (.aload_n 0, 1) := by decide +kernel
theorem dX9_laysBehind_70 : decode cX9_laysBehind 70 = .ok (.iload_n 1, 1) := by decide +kernel
theorem dX9_laysBehind_71 : decode cX9_laysBehind 71 = .ok (.iload_n 3, 1) := by decide +kernel
theorem dX9_laysBehind_72 : decode cX9_laysBehind 72 = .ok (.iconst 0, 1) := by decide +kernel
theorem dX9_laysBehind_73 : decode cX9_laysBehind 73 = .ok (.iconst 0, 1) := by decide +kernel
theorem dX9_laysBehind_74 : decode cX9_laysBehind 74 = .ok (.iconst 1, 1) := by decide +kernel
theorem dX9_laysBehind_75 : decode cX9_laysBehind 75 = .ok (.iconst 0, 1) := by decide +kernel
theorem dX9_laysBehind_76 : decode cX9_laysBehind 76 = .ok (.invokevirtual 338, 3) := by decide +kernel
theorem dX9_laysBehind_79 : decode cX9_laysBehind 79 = .ok (.iastore, 1) := by decide +kernel
theorem dX9_laysBehind_80 : decode cX9_laysBehind 80 = .ok (.iinc 4 1, 3) := by decide +kernel
theorem dX9_laysBehind_83 : decode cX9_laysBehind 83 = .ok (.goto (-43), 3) := by decide +kernel
theorem dX9_laysBehind_86 : decode cX9_laysBehind 86 = .ok (.iinc 3 (-1), 3) := by decide +kernel
theorem dX9_laysBehind_89 : decode cX9_laysBehind 89 = .ok (.goto (-57), 3) := by decide +kernel
theorem dX9_laysBehind_92 : decode cX9_laysBehind 92 = .ok (.return_, 1) := by decide +kernel
set_option maxRecDepth 20000 in
theorem ggX9_freeNow_X9_isOut : GoodIn wsX9_freeNow wsX9_isOut := goodIn_r _ [9, 10, 11, 12, 8, 13, 3, 85, 86, 87, 88, 89, 90, 91, 92, 93, 94, 95, 96, 97, 98, 99, 100, 101, 102, 103, 104, 105, 106, 107, 108, 109, 110, 111, 112, 113, 114, 115, 116, 117, 118, 119, 120, 121, 122, 123, 124] (by decide +kernel) (by decide +kernel)
set_option maxRecDepth 20000 in
theorem gX9_freeNow_X9_isOut : GoodIn wsX9_freeNow (wsV RX9 121 RX9 yX9_isOut wsX9_isOut) := goodIn_app (goodIn_of _ (by decide +kernel)) ggX9_freeNow_X9_isOut
set_option maxRecDepth 20000 in
theorem ggX9_freeNow_X9_isOver : GoodIn wsX9_freeNow wsX9_isOver := goodIn_r _ [17, 3, 85, 86, 87, 88, 89, 90, 91, 92, 93, 94, 95, 96, 97, 98, 99, 100, 101, 102, 103, 104, 105, 106, 107, 108, 109, 110, 111, 112, 113, 114, 115, 116, 117, 118, 119, 120, 121, 122, 123, 124] (by decide +kernel) (by decide +kernel)
set_option maxRecDepth 20000 in
theorem gX9_freeNow_X9_isOver : GoodIn wsX9_freeNow (wsV RX9 113 RX9 yX9_isOver wsX9_isOver) := goodIn_app (goodIn_of _ (by decide +kernel)) ggX9_freeNow_X9_isOver
set_option maxRecDepth 20000 in
theorem ggX9_freeNow_X9_sumOf : GoodIn wsX9_freeNow wsX9_sumOf := goodIn_r _ [21, 5, 6, 7, 8, 9, 10, 11, 12, 13, 3, 85, 86, 87, 88, 89, 90, 91, 92, 93, 94, 95, 96, 97, 98, 99, 100, 101, 102, 103, 104, 105, 106, 107, 108, 109, 110, 111, 112, 113, 114, 115, 116, 117, 118, 119, 120, 121, 122, 123, 124] (by decide +kernel) (by decide +kernel)
set_option maxRecDepth 20000 in
theorem gX9_freeNow_X9_sumOf : GoodIn wsX9_freeNow (wsV RX9 167 RX9 yX9_sumOf wsX9_sumOf) := goodIn_app (goodIn_of _ (by decide +kernel)) ggX9_freeNow_X9_sumOf
set_option maxRecDepth 20000 in
theorem ggX9_freeNow_X9_of : GoodIn wsX9_freeNow wsX9_of := goodIn_r _ [13, 3, 85, 86, 87, 88, 89, 90, 91, 92, 93, 94, 95, 96, 97, 98, 99, 100, 101, 102, 103, 104, 105, 106, 107, 108, 109, 110, 111, 112, 113, 114, 115, 116, 117, 118, 119, 120, 121, 122, 123, 124] (by decide +kernel) (by decide +kernel)
set_option maxRecDepth 20000 in
theorem gX9_freeNow_X9_of : GoodIn wsX9_freeNow (wsV RX9 106 RX9 yX9_of wsX9_of) := goodIn_app (goodIn_of _ (by decide +kernel)) ggX9_freeNow_X9_of
set_option maxRecDepth 20000 in
theorem ggX9_freeNow_X9_sumAhead : GoodIn wsX9_freeNow wsX9_sumAhead := goodIn_r _ [25, 3, 10, 11, 12, 8, 13, 85, 86, 87, 88, 89, 90, 91, 92, 93, 94, 95, 96, 97, 98, 99, 100, 101, 102, 103, 104, 105, 106, 107, 108, 109, 110, 111, 112, 113, 114, 115, 116, 117, 118, 119, 120, 121, 122, 123, 124] (by decide +kernel) (by decide +kernel)
set_option maxRecDepth 20000 in
theorem gX9_freeNow_X9_sumAhead : GoodIn wsX9_freeNow (wsV RX9 280 RX9 yX9_sumAhead wsX9_sumAhead) := goodIn_app (goodIn_of _ (by decide +kernel)) ggX9_freeNow_X9_sumAhead
set_option maxRecDepth 20000 in
theorem ggX9_freeNow_X9_laysBehind : GoodIn wsX9_freeNow wsX9_laysBehind := goodIn_r _ [29, 30, 2, 31, 32, 33, 8, 34, 35, 36, 37, 38, 39, 40, 41, 42, 43, 44, 45, 46, 4, 47, 48, 49, 50, 51, 52, 53, 54, 55, 56, 57, 58, 59, 60, 61, 62, 63, 64, 65, 66, 67, 68, 69, 70, 71, 72, 85, 86, 87, 88, 89, 90, 91, 92, 93, 94, 95, 96, 97, 98, 99, 100, 101, 102, 103, 104, 105, 106, 107, 108, 109, 110, 111, 112, 113, 114, 115, 116, 117, 118, 119, 120, 121, 122, 123, 124] (by decide +kernel) (by decide +kernel)
set_option maxRecDepth 20000 in
theorem gX9_freeNow_X9_laysBehind : GoodIn wsX9_freeNow (wsV RX9 349 RX9 yX9_laysBehind wsX9_laysBehind) := goodIn_app (goodIn_of _ (by decide +kernel)) ggX9_freeNow_X9_laysBehind
set_option maxRecDepth 20000 in
theorem ggX9_freeNow_X9_leastOf : GoodIn wsX9_freeNow wsX9_leastOf := goodIn_r _ [76, 3, 59, 60, 49, 61, 10, 11, 12, 8, 13, 5, 6, 7, 9, 14, 15, 16, 17, 85, 86, 87, 88, 89, 90, 91, 92, 93, 94, 95, 96, 97, 98, 99, 100, 101, 102, 103, 104, 105, 106, 107, 108, 109, 110, 111, 112, 113, 114, 115, 116, 117, 118, 119, 120, 121, 122, 123, 124] (by decide +kernel) (by decide +kernel)
set_option maxRecDepth 20000 in
theorem gX9_freeNow_X9_leastOf : GoodIn wsX9_freeNow (wsV RX9 249 RX9 yX9_leastOf wsX9_leastOf) := goodIn_app (goodIn_of _ (by decide +kernel)) ggX9_freeNow_X9_leastOf
set_option maxRecDepth 20000 in
theorem ggX9_freeNow_X9_nextLoadOf : GoodIn wsX9_freeNow wsX9_nextLoadOf := goodIn_r _ [80, 4, 1, 31, 32, 33, 8, 34, 35, 36, 37, 38, 39, 40, 41, 42, 2, 30, 43, 44, 45, 46, 47, 48, 49, 50, 51, 52, 53, 54, 55, 56, 57, 58, 59, 60, 61, 62, 63, 64, 65, 66, 67, 68, 69, 70, 71, 72, 85, 86, 87, 88, 89, 90, 91, 92, 93, 94, 95, 96, 97, 98, 99, 100, 101, 102, 103, 104, 105, 106, 107, 108, 109, 110, 111, 112, 113, 114, 115, 116, 117, 118, 119, 120, 121, 122, 123, 124] (by decide +kernel) (by decide +kernel)
set_option maxRecDepth 20000 in
theorem gX9_freeNow_X9_nextLoadOf : GoodIn wsX9_freeNow (wsV RX9 352 RX9 yX9_nextLoadOf wsX9_nextLoadOf) := goodIn_app (goodIn_of _ (by decide +kernel)) ggX9_freeNow_X9_nextLoadOf
set_option maxRecDepth 20000 in
theorem ggX9_freeNow_X9_ends : GoodIn wsX9_freeNow wsX9_ends := goodIn_r _ [42, 2, 30, 85, 86, 87, 88, 89, 90, 91, 92, 93, 94, 95, 96, 97, 98, 99, 100, 101, 102, 103, 104, 105, 106, 107, 108, 109, 110, 111, 112, 113, 114, 115, 116, 117, 118, 119, 120, 121, 122, 123, 124] (by decide +kernel) (by decide +kernel)
set_option maxRecDepth 20000 in
theorem gX9_freeNow_X9_ends : GoodIn wsX9_freeNow (wsV RX9 335 RX9 yX9_ends wsX9_ends) := goodIn_app (goodIn_of _ (by decide +kernel)) ggX9_freeNow_X9_ends
set_option maxRecDepth 20000 in
theorem ggX9_freeNow_X9_roundOf : GoodIn wsX9_freeNow wsX9_roundOf := goodIn_r _ [84, 3, 10, 11, 12, 8, 13, 85, 86, 87, 88, 89, 90, 91, 92, 93, 94, 95, 96, 97, 98, 99, 100, 101, 102, 103, 104, 105, 106, 107, 108, 109, 110, 111, 112, 113, 114, 115, 116, 117, 118, 119, 120, 121, 122, 123, 124] (by decide +kernel) (by decide +kernel)
set_option maxRecDepth 20000 in
theorem gX9_freeNow_X9_roundOf : GoodIn wsX9_freeNow (wsV RX9 277 RX9 yX9_roundOf wsX9_roundOf) := goodIn_app (goodIn_of _ (by decide +kernel)) ggX9_freeNow_X9_roundOf
set_option maxRecDepth 20000 in
theorem ggX9_freeNow_X9_laysRounds : GoodIn wsX9_freeNow wsX9_laysRounds := goodIn_r _ [34, 35, 36, 37, 8, 38, 39, 40, 41, 42, 2, 30, 43, 44, 45, 46, 4, 47, 48, 49, 50, 51, 52, 53, 54, 55, 56, 57, 58, 59, 60, 61, 62, 63, 64, 65, 66, 67, 68, 69, 70, 71, 72, 85, 86, 87, 88, 89, 90, 91, 92, 93, 94, 95, 96, 97, 98, 99, 100, 101, 102, 103, 104, 105, 106, 107, 108, 109, 110, 111, 112, 113, 114, 115, 116, 117, 118, 119, 120, 121, 122, 123, 124] (by decide +kernel) (by decide +kernel)
set_option maxRecDepth 20000 in
theorem gX9_freeNow_X9_laysRounds : GoodIn wsX9_freeNow (wsV RX9 342 RX9 yX9_laysRounds wsX9_laysRounds) := goodIn_app (goodIn_of _ (by decide +kernel)) ggX9_freeNow_X9_laysRounds
set_option maxRecDepth 20000 in
theorem ggX9_freeNow_X9_triesBest : GoodIn wsX9_freeNow wsX9_triesBest := goodIn_r _ [46, 4, 35, 47, 48, 49, 50, 51, 52, 8, 53, 54, 55, 56, 57, 58, 59, 60, 61, 62, 63, 64, 65, 66, 67, 68, 69, 70, 71, 72, 85, 86, 87, 88, 89, 90, 91, 92, 93, 94, 95, 96, 97, 98, 99, 100, 101, 102, 103, 104, 105, 106, 107, 108, 109, 110, 111, 112, 113, 114, 115, 116, 117, 118, 119, 120, 121, 122, 123, 124] (by decide +kernel) (by decide +kernel)
set_option maxRecDepth 20000 in
theorem gX9_freeNow_X9_triesBest : GoodIn wsX9_freeNow (wsV RX9 338 RX9 yX9_triesBest wsX9_triesBest) := goodIn_app (goodIn_of _ (by decide +kernel)) ggX9_freeNow_X9_triesBest
theorem dX9_freeNow_0 : decode cX9_freeNow 0 = .ok (.aload_n 0, 1) := by decide +kernel
theorem dX9_freeNow_1 : decode cX9_freeNow 1 = .ok (.iconst 0, 1) := by decide +kernel
theorem dX9_freeNow_2 : decode cX9_freeNow 2 = .ok (.putfield 346, 3) := by decide +kernel
theorem dX9_freeNow_5 : decode cX9_freeNow 5 = .ok (.aload_n 0, 1) := by decide +kernel
theorem dX9_freeNow_6 : decode cX9_freeNow 6 = .ok (.iload_n 1, 1) := by decide +kernel
theorem dX9_freeNow_7 : decode cX9_freeNow 7 = .ok (.invokevirtual 121, 3) := by decide +kernel
theorem dX9_freeNow_10 : decode cX9_freeNow 10 = .ok (.ifCond .ne 10, 3) := by decide +kernel
theorem dX9_freeNow_13 : decode cX9_freeNow 13 = .ok (.aload_n 0, 1) := by decide +kernel
theorem dX9_freeNow_14 : decode cX9_freeNow 14 = .ok (.invokevirtual 113, 3) := by decide +kernel
theorem dX9_freeNow_17 : decode cX9_freeNow 17 = .ok (.ifCond .eq 14, 3) := by decide +kernel
theorem dX9_freeNow_20 : decode cX9_freeNow 20 = .ok (.aload_n 0, 1) := by decide +kernel
theorem dX9_freeNow_21 : decode cX9_freeNow 21 = .ok (.getfield 56, 3) := by decide +kernel
theorem dX9_freeNow_24 : decode cX9_freeNow 24 = .ok (.aload_n 0, 1) := by decide +kernel
theorem dX9_freeNow_25 : decode cX9_freeNow 25 = .ok (.iload_n 1, 1) := by decide +kernel
theorem dX9_freeNow_26 : decode cX9_freeNow 26 = .ok (.invokevirtual 167, 3) := by decide +kernel
theorem dX9_freeNow_29 : decode cX9_freeNow 29 = .ok (.iaload, 1) := by decide +kernel
theorem dX9_freeNow_30 : decode cX9_freeNow 30 = .ok (.ireturn, 1) := by decide +kernel
theorem dX9_freeNow_31 : decode cX9_freeNow 31 = .ok (.aload_n 0, 1) := by decide +kernel
theorem dX9_freeNow_32 : decode cX9_freeNow 32 = .ok (.getfield 32, 3) := by decide +kernel
theorem dX9_freeNow_35 : decode cX9_freeNow 35 = .ok (.iconst 0, 1) := by decide +kernel
theorem dX9_freeNow_36 : decode cX9_freeNow 36 = .ok (.iaload, 1) := by decide +kernel
theorem dX9_freeNow_37 : decode cX9_freeNow 37 = .ok (.istore_n 2, 1) := by decide +kernel
theorem dX9_freeNow_38 : decode cX9_freeNow 38 = .ok (.aload_n 0, 1) := by decide +kernel
theorem dX9_freeNow_39 : decode cX9_freeNow 39 = .ok (.iload_n 1, 1) := by decide +kernel
theorem dX9_freeNow_40 : decode cX9_freeNow 40 = .ok (.bipush 7, 2) := by decide +kernel
theorem dX9_freeNow_42 : decode cX9_freeNow 42 = .ok (.iload_n 2, 1) := by decide +kernel
theorem dX9_freeNow_43 : decode cX9_freeNow 43 = .ok (.iadd, 1) := by decide +kernel
theorem dX9_freeNow_44 : decode cX9_freeNow 44 = .ok (.invokevirtual 106, 3) := by decide +kernel
theorem dX9_freeNow_47 : decode cX9_freeNow 47 = .ok (.istore_n 3, 1) := by decide +kernel
theorem dX9_freeNow_48 : decode cX9_freeNow 48 = .ok (.aload_n 0, 1) := by decide +kernel
theorem dX9_freeNow_49 : decode cX9_freeNow 49 = .ok (.iload_n 1, 1) := by decide +kernel
theorem dX9_freeNow_50 : decode cX9_freeNow 50 = .ok (.invokevirtual 280, 3) := by decide +kernel
theorem dX9_freeNow_53 : decode cX9_freeNow 53 = .ok (.istore 4, 2) := by decide +kernel
theorem dX9_freeNow_55 : decode cX9_freeNow 55 = .ok (.aload_n 0, 1) := by decide +kernel
theorem dX9_freeNow_56 : decode cX9_freeNow 56 = .ok (.iload_n 1, 1) := by decide +kernel
theorem dX9_freeNow_57 : decode cX9_freeNow 57 = .ok (.iload_n 2, 1) := by decide +kernel
theorem dX9_freeNow_58 : decode cX9_freeNow 58 = .ok (.invokevirtual 349, 3) := by decide +kernel
theorem dX9_freeNow_61 : decode cX9_freeNow 61 = .ok (.aload_n 0, 1) := by decide +kernel
theorem dX9_freeNow_62 : decode cX9_freeNow 62 = .ok (.iload_n 1, 1) := by decide +kernel
theorem dX9_freeNow_63 : decode cX9_freeNow 63 = .ok (.invokevirtual 249, 3) := by decide +kernel
theorem dX9_freeNow_66 : decode cX9_freeNow 66 = .ok (.ifCond .eq 13, 3) := by decide +kernel
theorem dX9_freeNow_69 : decode cX9_freeNow 69 = .ok (.aload_n 0, 1) := by decide +kernel
theorem dX9_freeNow_70 : decode cX9_freeNow 70 = .ok (.iload_n 1, 1) := by decide +kernel
theorem dX9_freeNow_71 : decode cX9_freeNow 71 = .ok (.invokevirtual 249, 3) := by decide +kernel
theorem dX9_freeNow_74 : decode cX9_freeNow 74 = .ok (.bipush 40, 2) := by decide +kernel
theorem dX9_freeNow_76 : decode cX9_freeNow 76 = .ok (.if_icmp .le 40, 3) := by decide +kernel
theorem dX9_freeNow_79 : decode cX9_freeNow 79 = .ok (.iload_n 3, 1) := by decide +kernel
theorem dX9_freeNow_80 : decode cX9_freeNow 80 = .ok (.ifCond .ne 10, 3) := by decide +kernel
theorem dX9_freeNow_83 : decode cX9_freeNow 83 = .ok (.aload_n 0, 1) := by decide +kernel
theorem dX9_freeNow_84 : decode cX9_freeNow 84 = .ok (.getfield 56, 3) := by decide +kernel
theorem dX9_freeNow_87 : decode cX9_freeNow 87 = .ok (.iconst 0, 1) := by decide +kernel
theorem dX9_freeNow_88 : decode cX9_freeNow 88 = .ok (.iaload, 1) := by decide +kernel
theorem dX9_freeNow_89 : decode cX9_freeNow 89 = .ok (.ireturn, 1) := by decide +kernel
theorem dX9_freeNow_90 : decode cX9_freeNow 90 = .ok (.iload_n 2, 1) := by decide +kernel
theorem dX9_freeNow_91 : decode cX9_freeNow 91 = .ok (.iconst 2, 1) := by decide +kernel
theorem dX9_freeNow_92 : decode cX9_freeNow 92 = .ok (.if_icmp .ge 15, 3) := by decide +kernel
theorem dX9_freeNow_95 : decode cX9_freeNow 95 = .ok (.aload_n 0, 1) := by decide +kernel
theorem dX9_freeNow_96 : decode cX9_freeNow 96 = .ok (.iload_n 1, 1) := by decide +kernel
theorem dX9_freeNow_97 : decode cX9_freeNow 97 = .ok (.iload_n 2, 1) := by decide +kernel
theorem dX9_freeNow_98 : decode cX9_freeNow 98 = .ok (.iconst 1, 1) := by decide +kernel
theorem dX9_freeNow_99 : decode cX9_freeNow 99 = .ok (.iadd, 1) := by decide +kernel
theorem dX9_freeNow_100 : decode cX9_freeNow 100 = .ok (.iload 4, 2) := by decide +kernel
theorem dX9_freeNow_102 : decode cX9_freeNow 102 = .ok (.iload_n 3, 1) := by decide +kernel
theorem dX9_freeNow_103 : decode cX9_freeNow 103 = .ok (.iadd, 1) := by decide +kernel
theorem dX9_freeNow_104 : decode cX9_freeNow 104 = .ok (.invokevirtual 352, 3) := by decide +kernel
theorem dX9_freeNow_107 : decode cX9_freeNow 107 = .ok (.aload_n 0, 1) := by decide +kernel
theorem dX9_freeNow_108 : decode cX9_freeNow 108 = .ok (.iload_n 2, 1) := by decide +kernel
theorem dX9_freeNow_109 : decode cX9_freeNow 109 = .ok (.iload_n 3, 1) := by decide +kernel
theorem dX9_freeNow_110 : decode cX9_freeNow 110 = .ok (.iload 4, 2) := by decide +kernel
theorem dX9_freeNow_112 : decode cX9_freeNow 112 = .ok (.invokevirtual 335, 3) := by decide +kernel
theorem dX9_freeNow_115 : decode cX9_freeNow 115 = .ok (.ireturn, 1) := by decide +kernel
theorem dX9_freeNow_116 : decode cX9_freeNow 116 = .ok (.aload_n 0, 1) := by decide +kernel
theorem dX9_freeNow_117 : decode cX9_freeNow 117 = .ok (.iload_n 1, 1) := by decide +kernel
theorem dX9_freeNow_118 : decode cX9_freeNow 118 = .ok (.iload_n 2, 1) := by decide +kernel
theorem dX9_freeNow_119 : decode cX9_freeNow 119 = .ok (.aload_n 0, 1) := by decide +kernel
theorem dX9_freeNow_120 : decode cX9_freeNow 120 = .ok (.iload_n 1, 1) := by decide +kernel
theorem dX9_freeNow_121 : decode cX9_freeNow 121 = .ok (.invokevirtual 277, 3) := by decide +kernel
theorem dX9_freeNow_124 : decode cX9_freeNow 124 = .ok (.iload 4, 2) := by decide +kernel
theorem dX9_freeNow_126 : decode cX9_freeNow 126 = .ok (.invokevirtual 342, 3) := by decide +kernel
theorem dX9_freeNow_129 : decode cX9_freeNow 129 = .ok (.aload_n 0, 1) := by decide +kernel
theorem dX9_freeNow_130 : decode cX9_freeNow 130 = .ok (.iload_n 1, 1) := by decide +kernel
theorem dX9_freeNow_131 : decode cX9_freeNow 131 = .ok (.iload_n 2, 1) := by decide +kernel
theorem dX9_freeNow_132 : decode cX9_freeNow 132 = .ok (.aload_n 0, 1) := by decide +kernel
theorem dX9_freeNow_133 : decode cX9_freeNow 133 = .ok (.iload_n 1, 1) := by decide +kernel
theorem dX9_freeNow_134 : decode cX9_freeNow 134 = .ok (.invokevirtual 277, 3) := by decide +kernel
theorem dX9_freeNow_137 : decode cX9_freeNow 137 = .ok (.aload_n 0, 1) := by decide +kernel
theorem dX9_freeNow_138 : decode cX9_freeNow 138 = .ok (.iload_n 1, 1) := by decide +kernel
theorem dX9_freeNow_139 : decode cX9_freeNow 139 = .ok (.iconst 4, 1) := by decide +kernel
theorem dX9_freeNow_140 : decode cX9_freeNow 140 = .ok (.invokevirtual 106, 3) := by decide +kernel
theorem dX9_freeNow_143 : decode cX9_freeNow 143 = .ok (.aload_n 0, 1) := by decide +kernel
theorem dX9_freeNow_144 : decode cX9_freeNow 144 = .ok (.iload_n 1, 1) := by decide +kernel
theorem dX9_freeNow_145 : decode cX9_freeNow 145 = .ok (.invokevirtual 249, 3) := by decide +kernel
theorem dX9_freeNow_148 : decode cX9_freeNow 148 = .ok (.iload_n 3, 1) := by decide +kernel
theorem dX9_freeNow_149 : decode cX9_freeNow 149 = .ok (.invokevirtual 338, 3) := by decide +kernel
theorem dX9_freeNow_152 : decode cX9_freeNow 152 = .ok (.istore 5, 2) := by decide +kernel
theorem dX9_freeNow_154 : decode cX9_freeNow 154 = .ok (.aload_n 0, 1) := by decide +kernel
theorem dX9_freeNow_155 : decode cX9_freeNow 155 = .ok (.aload_n 0, 1) := by decide +kernel
theorem dX9_freeNow_156 : decode cX9_freeNow 156 = .ok (.getfield 322, 3) := by decide +kernel
theorem dX9_freeNow_159 : decode cX9_freeNow 159 = .ok (.putfield 346, 3) := by decide +kernel
theorem dX9_freeNow_162 : decode cX9_freeNow 162 = .ok (.iload 5, 2) := by decide +kernel
theorem dX9_freeNow_164 : decode cX9_freeNow 164 = .ok (.ireturn, 1) := by decide +kernel
set_option maxRecDepth 20000 in
theorem ggX9_nextLoadOf_X9_laysRounds : GoodIn wsX9_nextLoadOf wsX9_laysRounds := goodIn_r _ [7, 8, 9, 10, 6, 11, 12, 13, 14, 15, 16, 17, 18, 19, 20, 21, 1, 22, 23, 24, 25, 26, 27, 28, 29, 30, 31, 32, 33, 34, 35, 36, 37, 38, 39, 40, 41, 42, 43, 44, 45, 46, 47, 48, 49, 50, 51, 52, 53, 54, 55, 56, 57, 58, 59, 60, 61, 62, 63, 64, 65, 66, 67, 68, 69, 70, 71, 72, 73, 74, 75, 76, 77, 78, 79, 80, 81, 82, 83, 84, 85, 86, 87] (by decide +kernel) (by decide +kernel)
set_option maxRecDepth 20000 in
theorem gX9_nextLoadOf_X9_laysRounds : GoodIn wsX9_nextLoadOf (wsV RX9 342 RX9 yX9_laysRounds wsX9_laysRounds) := goodIn_app (goodIn_of _ (by decide +kernel)) ggX9_nextLoadOf_X9_laysRounds
set_option maxRecDepth 20000 in
theorem ggX9_nextLoadOf_X9_triesBest : GoodIn wsX9_nextLoadOf wsX9_triesBest := goodIn_r _ [21, 1, 8, 22, 23, 24, 25, 26, 27, 6, 28, 29, 30, 31, 32, 33, 34, 35, 36, 37, 38, 39, 40, 41, 42, 43, 44, 45, 46, 47, 48, 49, 50, 51, 52, 53, 54, 55, 56, 57, 58, 59, 60, 61, 62, 63, 64, 65, 66, 67, 68, 69, 70, 71, 72, 73, 74, 75, 76, 77, 78, 79, 80, 81, 82, 83, 84, 85, 86, 87] (by decide +kernel) (by decide +kernel)
set_option maxRecDepth 20000 in
theorem gX9_nextLoadOf_X9_triesBest : GoodIn wsX9_nextLoadOf (wsV RX9 338 RX9 yX9_triesBest wsX9_triesBest) := goodIn_app (goodIn_of _ (by decide +kernel)) ggX9_nextLoadOf_X9_triesBest
theorem dX9_nextLoadOf_0 : decode cX9_nextLoadOf 0 = .ok (.aload_n 0, 1) := by decide +kernel
theorem dX9_nextLoadOf_1 : decode cX9_nextLoadOf 1 = .ok (.iload_n 1, 1) := by decide +kernel
theorem dX9_nextLoadOf_2 : decode cX9_nextLoadOf 2 = .ok (.iload_n 2, 1) := by decide +kernel
theorem dX9_nextLoadOf_3 : decode cX9_nextLoadOf 3 = .ok (.iconst 0, 1) := by decide +kernel
theorem dX9_nextLoadOf_4 : decode cX9_nextLoadOf 4 = .ok (.iload_n 3, 1) := by decide +kernel
theorem dX9_nextLoadOf_5 : decode cX9_nextLoadOf 5 = .ok (.invokevirtual 342, 3) := by decide +kernel
theorem dX9_nextLoadOf_8 : decode cX9_nextLoadOf 8 = .ok (.aload_n 0, 1) := by decide +kernel
theorem dX9_nextLoadOf_9 : decode cX9_nextLoadOf 9 = .ok (.iload_n 1, 1) := by decide +kernel
theorem dX9_nextLoadOf_10 : decode cX9_nextLoadOf 10 = .ok (.iload_n 2, 1) := by decide +kernel
theorem dX9_nextLoadOf_11 : decode cX9_nextLoadOf 11 = .ok (.iconst 0, 1) := by decide +kernel
theorem dX9_nextLoadOf_12 : decode cX9_nextLoadOf 12 = .ok (.iconst 0, 1) := by decide +kernel
theorem dX9_nextLoadOf_13 : decode cX9_nextLoadOf 13 = .ok (.iconst 1, 1) := by decide +kernel
theorem dX9_nextLoadOf_14 : decode cX9_nextLoadOf 14 = .ok (.iconst 0, 1) := by decide +kernel
theorem dX9_nextLoadOf_15 : decode cX9_nextLoadOf 15 = .ok (.invokevirtual 338, 3) := by decide +kernel
theorem dX9_nextLoadOf_18 : decode cX9_nextLoadOf 18 = .ok (.pop, 1) := by decide +kernel
theorem dX9_nextLoadOf_19 : decode cX9_nextLoadOf 19 = .ok (.aload_n 0, 1) := by decide +kernel
theorem dX9_nextLoadOf_20 : decode cX9_nextLoadOf 20 = .ok (.aload_n 0, 1) := by decide +kernel
theorem dX9_nextLoadOf_21 : decode cX9_nextLoadOf 21 = .ok (.getfield 322, 3) := by decide +kernel
theorem dX9_nextLoadOf_24 : decode cX9_nextLoadOf 24 = .ok (.putfield 346, 3) := by decide +kernel
theorem dX9_nextLoadOf_27 : decode cX9_nextLoadOf 27 = .ok (.return_, 1) := by decide +kernel
set_option maxRecDepth 20000 in
theorem ggX9_tellsFree_X9_freeNow : GoodIn wsX9_tellsFree wsX9_freeNow := goodIn_r _ [7, 2, 8, 9, 10, 11, 12, 13, 6, 14, 15, 16, 17, 18, 19, 20, 21, 22, 23, 24, 25, 26, 27, 28, 29, 30, 31, 32, 33, 34, 35, 36, 37, 38, 39, 40, 41, 42, 43, 44, 45, 46, 47, 48, 49, 50, 51, 52, 53, 54, 55, 56, 57, 58, 59, 60, 61, 62, 63, 64, 65, 66, 67, 68, 69, 70, 71, 72, 73, 74, 75, 76, 77, 78, 79, 80, 81, 82, 83, 84, 85, 86, 87, 88, 89, 116, 117, 118, 119, 120, 121, 122, 123, 124, 125, 126, 127, 128, 129, 130, 131, 132, 133, 134, 135, 136, 137, 138, 139, 140, 141, 142, 143, 144, 145, 146, 147, 148, 149, 150, 151, 152, 153, 154, 155] (by decide +kernel) (by decide +kernel)
set_option maxRecDepth 20000 in
theorem gX9_tellsFree_X9_freeNow : GoodIn wsX9_tellsFree (wsV RX9 355 RX9 yX9_freeNow wsX9_freeNow) := goodIn_app (goodIn_of _ (by decide +kernel)) ggX9_tellsFree_X9_freeNow
set_option maxRecDepth 20000 in
theorem ggX9_tellsFree_X9_notes : GoodIn wsX9_tellsFree wsX9_notes := goodIn_r _ [93, 94, 1, 116, 117, 118, 119, 120, 121, 122, 123, 124, 125, 126, 127, 128, 129, 130, 131, 132, 133, 134, 135, 136, 137, 138, 139, 140, 141, 142, 143, 144, 145, 146, 147, 148, 149, 150, 151, 152, 153, 154, 155] (by decide +kernel) (by decide +kernel)
set_option maxRecDepth 20000 in
theorem gX9_tellsFree_X9_notes : GoodIn wsX9_tellsFree (wsV RX9 180 RX9 yX9_notes wsX9_notes) := goodIn_app (goodIn_of _ (by decide +kernel)) ggX9_tellsFree_X9_notes
set_option maxRecDepth 20000 in
theorem ggX9_tellsFree_X9_planNow : GoodIn wsX9_tellsFree wsX9_planNow := goodIn_r _ [98, 8, 9, 11, 12, 13, 6, 14, 15, 16, 17, 18, 19, 20, 21, 22, 23, 24, 25, 26, 86, 87, 88, 89, 27, 28, 29, 30, 99, 100, 101, 102, 64, 65, 54, 66, 103, 104, 105, 106, 107, 108, 109, 110, 111, 112, 113, 114, 59, 60, 61, 62, 63, 67, 68, 69, 70, 71, 72, 73, 74, 75, 76, 77, 115, 116, 117, 118, 119, 120, 121, 122, 123, 124, 125, 126, 127, 128, 129, 130, 131, 132, 133, 134, 135, 136, 137, 138, 139, 140, 141, 142, 143, 144, 145, 146, 147, 148, 149, 150, 151, 152, 153, 154, 155] (by decide +kernel) (by decide +kernel)
set_option maxRecDepth 20000 in
theorem gX9_tellsFree_X9_planNow : GoodIn wsX9_tellsFree (wsV RX9 287 RX9 yX9_planNow wsX9_planNow) := goodIn_app (goodIn_of _ (by decide +kernel)) ggX9_tellsFree_X9_planNow
theorem dX9_tellsFree_0 : decode cX9_tellsFree 0 = .ok (.aload_n 0, 1) := by decide +kernel
theorem dX9_tellsFree_1 : decode cX9_tellsFree 1 = .ok (.iload_n 1, 1) := by decide +kernel
theorem dX9_tellsFree_2 : decode cX9_tellsFree 2 = .ok (.invokevirtual 355, 3) := by decide +kernel
theorem dX9_tellsFree_5 : decode cX9_tellsFree 5 = .ok (.istore_n 2, 1) := by decide +kernel
theorem dX9_tellsFree_6 : decode cX9_tellsFree 6 = .ok (.aload_n 0, 1) := by decide +kernel
theorem dX9_tellsFree_7 : decode cX9_tellsFree 7 = .ok (.iconst 0, 1) := by decide +kernel
theorem dX9_tellsFree_8 : decode cX9_tellsFree 8 = .ok (.putfield 81, 3) := by decide +kernel
theorem dX9_tellsFree_11 : decode cX9_tellsFree 11 = .ok (.aload_n 0, 1) := by decide +kernel
theorem dX9_tellsFree_12 : decode cX9_tellsFree 12 = .ok (.aload_n 0, 1) := by decide +kernel
theorem dX9_tellsFree_13 : decode cX9_tellsFree 13 = .ok (.getfield 346, 3) := by decide +kernel
theorem dX9_tellsFree_16 : decode cX9_tellsFree 16 = .ok (.i2l, 1) := by decide +kernel
theorem dX9_tellsFree_17 : decode cX9_tellsFree 17 = .ok (.invokevirtual 180, 3) := by decide +kernel
theorem dX9_tellsFree_20 : decode cX9_tellsFree 20 = .ok (.aload_n 0, 1) := by decide +kernel
theorem dX9_tellsFree_21 : decode cX9_tellsFree 21 = .ok (.aload_n 0, 1) := by decide +kernel
theorem dX9_tellsFree_22 : decode cX9_tellsFree 22 = .ok (.iload_n 1, 1) := by decide +kernel
theorem dX9_tellsFree_23 : decode cX9_tellsFree 23 = .ok (.invokevirtual 287, 3) := by decide +kernel
theorem dX9_tellsFree_26 : decode cX9_tellsFree 26 = .ok (.i2l, 1) := by decide +kernel
theorem dX9_tellsFree_27 : decode cX9_tellsFree 27 = .ok (.invokevirtual 180, 3) := by decide +kernel
theorem dX9_tellsFree_30 : decode cX9_tellsFree 30 = .ok (.iload_n 2, 1) := by decide +kernel
theorem dX9_tellsFree_31 : decode cX9_tellsFree 31 = .ok (.ireturn, 1) := by decide +kernel
set_option maxRecDepth 20000 in
theorem ggX9_heavy_X9_isLifter : GoodIn wsX9_heavy wsX9_isLifter := goodIn_r _ [6, 7, 8, 9, 5, 10, 133, 134, 135, 136, 137, 138, 139, 140, 141, 142, 143, 144, 145, 146, 147, 148, 149, 150, 151, 152, 153, 154, 155, 156, 157, 158, 159, 160, 161, 162, 163, 164, 165, 166, 167, 168, 169, 170, 171, 172] (by decide +kernel) (by decide +kernel)
set_option maxRecDepth 20000 in
theorem gX9_heavy_X9_isLifter : GoodIn wsX9_heavy (wsV RX9 233 RX9 yX9_isLifter wsX9_isLifter) := goodIn_app (goodIn_of _ (by decide +kernel)) ggX9_heavy_X9_isLifter
set_option maxRecDepth 20000 in
theorem ggX9_heavy_X9_aimsMass : GoodIn wsX9_heavy wsX9_aimsMass := goodIn_r _ [14, 15, 133, 134, 135, 136, 137, 138, 139, 140, 141, 142, 143, 144, 145, 146, 147, 148, 149, 150, 151, 152, 153, 154, 155, 156, 157, 158, 159, 160, 161, 162, 163, 164, 165, 166, 167, 168, 169, 170, 171, 172] (by decide +kernel) (by decide +kernel)
set_option maxRecDepth 20000 in
theorem gX9_heavy_X9_aimsMass : GoodIn wsX9_heavy (wsV RX9 301 RX9 yX9_aimsMass wsX9_aimsMass) := goodIn_app (goodIn_of _ (by decide +kernel)) ggX9_heavy_X9_aimsMass
set_option maxRecDepth 20000 in
theorem ggX9_heavy_X9_tellsFree : GoodIn wsX9_heavy wsX9_tellsFree := goodIn_r _ [19, 20, 21, 22, 23, 24, 5, 25, 15, 26, 27, 28, 29, 30, 31, 32, 33, 34, 35, 36, 37, 38, 39, 40, 41, 42, 43, 44, 45, 46, 47, 48, 49, 50, 51, 52, 53, 54, 55, 56, 57, 58, 59, 60, 61, 62, 63, 64, 65, 66, 67, 68, 69, 70, 71, 72, 73, 74, 75, 76, 77, 78, 79, 80, 81, 82, 83, 84, 85, 86, 87, 88, 89, 90, 91, 92, 93, 94, 95, 96, 97, 98, 99, 100, 101, 102, 103, 104, 105, 106, 107, 108, 109, 110, 111, 112, 113, 114, 115, 116, 117, 118, 119, 120, 121, 122, 123, 124, 125, 126, 127, 128, 129, 130, 131, 132, 133, 134, 135, 136, 137, 138, 139, 140, 141, 142, 143, 144, 145, 146, 147, 148, 149, 150, 151, 152, 153, 154, 155, 156, 157, 158, 159, 160, 161, 162, 163, 164, 165, 166, 167, 168, 169, 170, 171, 172] (by decide +kernel) (by decide +kernel)
set_option maxRecDepth 20000 in
theorem gX9_heavy_X9_tellsFree : GoodIn wsX9_heavy (wsV RX9 358 RX9 yX9_tellsFree wsX9_tellsFree) := goodIn_app (goodIn_of _ (by decide +kernel)) ggX9_heavy_X9_tellsFree
theorem dX9_heavy_0 : decode cX9_heavy 0 = .ok (.aload_n 0, 1) := by decide +kernel
theorem dX9_heavy_1 : decode cX9_heavy 1 = .ok (.iconst 0, 1) := by decide +kernel
theorem dX9_heavy_2 : decode cX9_heavy 2 = .ok (.putfield 77, 3) := by decide +kernel
theorem dX9_heavy_5 : decode cX9_heavy 5 = .ok (.aload_n 0, 1) := by decide +kernel
theorem dX9_heavy_6 : decode cX9_heavy 6 = .ok (.iload_n 1, 1) := by decide +kernel
theorem dX9_heavy_7 : decode cX9_heavy 7 = .ok (.invokevirtual 233, 3) := by decide +kernel
theorem dX9_heavy_10 : decode cX9_heavy 10 = .ok (.ifCond .ne 5, 3) := by decide +kernel
theorem dX9_heavy_13 : decode cX9_heavy 13 = .ok (.iconst (-1), 1) := by decide +kernel
theorem dX9_heavy_14 : decode cX9_heavy 14 = .ok (.ireturn, 1) := by decide +kernel
theorem dX9_heavy_15 : decode cX9_heavy 15 = .ok (.aload_n 0, 1) := by decide +kernel
theorem dX9_heavy_16 : decode cX9_heavy 16 = .ok (.invokevirtual 301, 3) := by decide +kernel
theorem dX9_heavy_19 : decode cX9_heavy 19 = .ok (.aload_n 0, 1) := by decide +kernel
theorem dX9_heavy_20 : decode cX9_heavy 20 = .ok (.iload_n 1, 1) := by decide +kernel
theorem dX9_heavy_21 : decode cX9_heavy 21 = .ok (.invokevirtual 358, 3) := by decide +kernel
theorem dX9_heavy_24 : decode cX9_heavy 24 = .ok (.ireturn, 1) := by decide +kernel
set_option maxRecDepth 20000 in
theorem ggX9_reach_X9_isLifter : GoodIn wsX9_reach wsX9_isLifter := goodIn_r _ [6, 7, 8, 9, 5, 10, 138, 139, 140, 141, 142, 143, 144, 145, 146, 147, 148, 149, 150, 151, 152, 153, 154, 155, 156, 157, 158, 159, 160, 161, 162, 163, 164, 165, 166, 167, 168, 169, 170, 171, 172, 173, 174, 175, 176, 177] (by decide +kernel) (by decide +kernel)
set_option maxRecDepth 20000 in
theorem gX9_reach_X9_isLifter : GoodIn wsX9_reach (wsV RX9 233 RX9 yX9_isLifter wsX9_isLifter) := goodIn_app (goodIn_of _ (by decide +kernel)) ggX9_reach_X9_isLifter
