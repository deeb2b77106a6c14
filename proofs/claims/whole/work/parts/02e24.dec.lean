set_option maxRecDepth 20000 in
theorem ggX9_chance_X9_chanceOf : GoodIn wsX9_chance wsX9_chanceOf := goodIn_r _ [18, 19, 20, 21, 5, 22, 23, 24, 25, 26, 27, 28, 29, 30, 31, 32, 33, 34, 35, 36, 37, 38, 39, 40, 41, 42, 43, 44, 45, 46, 47, 48, 49, 50, 51, 52, 53, 54, 55, 56, 57, 58, 59, 60, 61, 62, 63, 64, 65, 66, 67, 68, 69, 70, 71, 72, 73, 74, 75, 76, 77, 78, 79, 80, 81, 82, 83, 84, 85, 86, 87, 88, 89, 90, 91, 92, 93, 94, 95, 96, 97, 98, 99, 100, 101, 102, 103, 104, 105, 106, 107, 108, 109, 110, 111, 112, 113, 114, 115, 116, 117, 118, 119, 120, 121, 122, 123, 124, 125, 126, 127, 128, 129, 130] (by decide +kernel) (by decide +kernel)
set_option maxRecDepth 20000 in
theorem gX9_chance_X9_chanceOf : GoodIn wsX9_chance (wsV RX9 290 RX9 yX9_chanceOf wsX9_chanceOf) := goodIn_app (goodIn_of _ (by decide +kernel)) ggX9_chance_X9_chanceOf
theorem dX9_chance_0 : decode cX9_chance 0 = .ok (.aload_n 0, 1) := by decide +kernel
theorem dX9_chance_1 : decode cX9_chance 1 = .ok (.iconst 0, 1) := by decide +kernel
theorem dX9_chance_2 : decode cX9_chance 2 = .ok (.putfield 77, 3) := by decide +kernel
theorem dX9_chance_5 : decode cX9_chance 5 = .ok (.aload_n 0, 1) := by decide +kernel
theorem dX9_chance_6 : decode cX9_chance 6 = .ok (.iload_n 1, 1) := by decide +kernel
theorem dX9_chance_7 : decode cX9_chance 7 = .ok (.invokevirtual 233, 3) := by decide +kernel
theorem dX9_chance_10 : decode cX9_chance 10 = .ok (.ifCond .eq 19, 3) := by decide +kernel
theorem dX9_chance_13 : decode cX9_chance 13 = .ok (.iload_n 2, 1) := by decide +kernel
theorem dX9_chance_14 : decode cX9_chance 14 = .ok (.invokestatic 306, 3) := by decide +kernel
theorem dX9_chance_17 : decode cX9_chance 17 = .ok (.ifCond .eq 12, 3) := by decide +kernel
theorem dX9_chance_20 : decode cX9_chance 20 = .ok (.aload_n 0, 1) := by decide +kernel
theorem dX9_chance_21 : decode cX9_chance 21 = .ok (.iload_n 1, 1) := by decide +kernel
theorem dX9_chance_22 : decode cX9_chance 22 = .ok (.iload_n 2, 1) := by decide +kernel
theorem dX9_chance_23 : decode cX9_chance 23 = .ok (.invokevirtual 290, 3) := by decide +kernel
theorem dX9_chance_26 : decode cX9_chance 26 = .ok (.goto 4, 3) := by decide +kernel
theorem dX9_chance_29 : decode cX9_chance 29 = .ok (.iconst (-1), 1) := by decide +kernel
theorem dX9_chance_30 : decode cX9_chance 30 = .ok (.ireturn, 1) := by decide +kernel
set_option maxRecDepth 20000 in
theorem ggX9_likeliest_X9_isLifter : GoodIn wsX9_likeliest wsX9_isLifter := goodIn_r _ [8, 9, 10, 11, 7, 12, 98, 99, 100, 101, 102, 103, 104, 105, 106, 107, 108, 109, 110, 111, 112, 113, 114, 115, 116, 117, 118, 119, 120, 121, 122, 123, 124, 125, 126, 127, 128, 129, 130, 131, 132, 133, 134, 135, 136, 137] (by decide +kernel) (by decide +kernel)
set_option maxRecDepth 20000 in
theorem gX9_likeliest_X9_isLifter : GoodIn wsX9_likeliest (wsV RX9 233 RX9 yX9_isLifter wsX9_isLifter) := goodIn_app (goodIn_of _ (by decide +kernel)) ggX9_likeliest_X9_isLifter
set_option maxRecDepth 20000 in
theorem ggX9_likeliest_X9_laysChances : GoodIn wsX9_likeliest wsX9_laysChances := goodIn_r _ [16, 2, 17, 18, 19, 7, 20, 21, 22, 23, 24, 25, 26, 27, 28, 29, 30, 31, 32, 33, 34, 35, 36, 37, 38, 39, 40, 41, 42, 43, 44, 45, 46, 47, 48, 49, 50, 51, 52, 53, 54, 55, 56, 57, 58, 59, 60, 61, 62, 63, 64, 65, 66, 67, 68, 69, 70, 71, 72, 73, 74, 75, 76, 77, 78, 79, 80, 81, 82, 83, 84, 85, 86, 87, 88, 89, 90, 91, 92, 98, 99, 100, 101, 102, 103, 104, 105, 106, 107, 108, 109, 110, 111, 112, 113, 114, 115, 116, 117, 118, 119, 120, 121, 122, 123, 124, 125, 126, 127, 128, 129, 130, 131, 132, 133, 134, 135, 136, 137] (by decide +kernel) (by decide +kernel)
set_option maxRecDepth 20000 in
theorem gX9_likeliest_X9_laysChances : GoodIn wsX9_likeliest (wsV RX9 293 RX9 yX9_laysChances wsX9_laysChances) := goodIn_app (goodIn_of _ (by decide +kernel)) ggX9_likeliest_X9_laysChances
set_option maxRecDepth 20000 in
theorem ggX9_likeliest_X9_notes : GoodIn wsX9_likeliest wsX9_notes := goodIn_r _ [96, 97, 3, 98, 99, 100, 101, 102, 103, 104, 105, 106, 107, 108, 109, 110, 111, 112, 113, 114, 115, 116, 117, 118, 119, 120, 121, 122, 123, 124, 125, 126, 127, 128, 129, 130, 131, 132, 133, 134, 135, 136, 137] (by decide +kernel) (by decide +kernel)
set_option maxRecDepth 20000 in
theorem gX9_likeliest_X9_notes : GoodIn wsX9_likeliest (wsV RX9 180 RX9 yX9_notes wsX9_notes) := goodIn_app (goodIn_of _ (by decide +kernel)) ggX9_likeliest_X9_notes
theorem dX9_likeliest_0 : decode cX9_likeliest 0 = .ok (.aload_n 0, 1) := by decide +kernel
theorem dX9_likeliest_1 : decode cX9_likeliest 1 = .ok (.iconst 0, 1) := by decide +kernel
theorem dX9_likeliest_2 : decode cX9_likeliest 2 = .ok (.putfield 77, 3) := by decide +kernel
theorem dX9_likeliest_5 : decode cX9_likeliest 5 = .ok (.aload_n 0, 1) := by decide +kernel
theorem dX9_likeliest_6 : decode cX9_likeliest 6 = .ok (.iload_n 1, 1) := by decide +kernel
theorem dX9_likeliest_7 : decode cX9_likeliest 7 = .ok (.invokevirtual 233, 3) := by decide +kernel
theorem dX9_likeliest_10 : decode cX9_likeliest 10 = .ok (.ifCond .ne 5, 3) := by decide +kernel
theorem dX9_likeliest_13 : decode cX9_likeliest 13 = .ok (.iconst (-1), 1) := by decide +kernel
theorem dX9_likeliest_14 : decode cX9_likeliest 14 = .ok (.ireturn, 1) := by decide +kernel
theorem dX9_likeliest_15 : decode cX9_likeliest 15 = .ok (.aload_n 0, 1) := by decide +kernel
theorem dX9_likeliest_16 : decode cX9_likeliest 16 = .ok (.iload_n 1, 1) := by decide +kernel
theorem dX9_likeliest_17 : decode cX9_likeliest 17 = .ok (.invokevirtual 293, 3) := by decide +kernel
theorem dX9_likeliest_20 : decode cX9_likeliest 20 = .ok (.iconst 0, 1) := by decide +kernel
theorem dX9_likeliest_21 : decode cX9_likeliest 21 = .ok (.istore_n 2, 1) := by decide +kernel
theorem dX9_likeliest_22 : decode cX9_likeliest 22 = .ok (.iconst 1, 1) := by decide +kernel
theorem dX9_likeliest_23 : decode cX9_likeliest 23 = .ok (.istore_n 3, 1) := by decide +kernel
theorem dX9_likeliest_24 : decode cX9_likeliest 24 = .ok (.iload_n 3, 1) := by decide +kernel
theorem dX9_likeliest_25 : decode cX9_likeliest 25 = .ok (.bipush 121, 2) := by decide +kernel
theorem dX9_likeliest_27 : decode cX9_likeliest 27 = .ok (.if_icmp .ge 48, 3) := by decide +kernel
theorem dX9_likeliest_30 : decode cX9_likeliest 30 = .ok (.aload_n 0, 1) := by decide +kernel
theorem dX9_likeliest_31 : decode cX9_likeliest 31 = .ok (.getfield 59, 3) := by decide +kernel
theorem dX9_likeliest_34 : decode cX9_likeliest 34 = .ok (.iload_n 3, 1) := by decide +kernel
theorem dX9_likeliest_35 : decode cX9_likeliest 35 = .ok (.iaload, 1) := by decide +kernel
theorem dX9_likeliest_36 : decode cX9_likeliest 36 = .ok (.aload_n 0, 1) := by decide +kernel
theorem dX9_likeliest_37 : decode cX9_likeliest 37 = .ok (.getfield 59, 3) := by decide +kernel
theorem dX9_likeliest_40 : decode cX9_likeliest 40 = .ok (.iload_n 3, 1) := by decide +kernel
theorem dX9_likeliest_41 : decode cX9_likeliest 41 = .ok (.iconst 1, 1) := by decide +kernel
theorem dX9_likeliest_42 : decode cX9_likeliest 42 = .ok (.iadd, 1) := by decide +kernel
theorem dX9_likeliest_43 : decode cX9_likeliest 43 = .ok (.iaload, 1) := by decide +kernel
theorem dX9_likeliest_44 : decode cX9_likeliest 44 = .ok (.isub, 1) := by decide +kernel
theorem dX9_likeliest_45 : decode cX9_likeliest 45 = .ok (.aload_n 0, 1) := by decide +kernel
theorem dX9_likeliest_46 : decode cX9_likeliest 46 = .ok (.getfield 59, 3) := by decide +kernel
theorem dX9_likeliest_49 : decode cX9_likeliest 49 = .ok (.iload_n 2, 1) := by decide +kernel
theorem dX9_likeliest_50 : decode cX9_likeliest 50 = .ok (.iaload, 1) := by decide +kernel
theorem dX9_likeliest_51 : decode cX9_likeliest 51 = .ok (.aload_n 0, 1) := by decide +kernel
theorem dX9_likeliest_52 : decode cX9_likeliest 52 = .ok (.getfield 59, 3) := by decide +kernel
theorem dX9_likeliest_55 : decode cX9_likeliest 55 = .ok (.iload_n 2, 1) := by decide +kernel
theorem dX9_likeliest_56 : decode cX9_likeliest 56 = .ok (.iconst 1, 1) := by decide +kernel
theorem dX9_likeliest_57 : decode cX9_likeliest 57 = .ok (.iadd, 1) := by decide +kernel
theorem dX9_likeliest_58 : decode cX9_likeliest 58 = .ok (.iaload, 1) := by decide +kernel
theorem dX9_likeliest_59 : decode cX9_likeliest 59 = .ok (.isub, 1) := by decide +kernel
theorem dX9_likeliest_60 : decode cX9_likeliest 60 = .ok (.if_icmp .le 7, 3) := by decide +kernel
theorem dX9_likeliest_63 : decode cX9_likeliest 63 = .ok (.iload_n 3, 1) := by decide +kernel
theorem dX9_likeliest_64 : decode cX9_likeliest 64 = .ok (.goto 4, 3) := by decide +kernel
theorem dX9_likeliest_67 : decode cX9_likeliest 67 = .ok (.iload_n 2, 1) := by decide +kernel
theorem dX9_likeliest_68 : decode cX9_likeliest 68 = .ok (.istore_n 2, 1) := by decide +kernel
theorem dX9_likeliest_69 : decode cX9_likeliest 69 = .ok (.iinc 3 1, 3) := by decide +kernel
theorem dX9_likeliest_72 : decode cX9_likeliest 72 = .ok (.goto (-48), 3) := by decide +kernel
theorem dX9_likeliest_75 : decode cX9_likeliest 75 = .ok (.aload_n 0, 1) := by decide +kernel
theorem dX9_likeliest_76 : decode cX9_likeliest 76 = .ok (.iconst 0, 1) := by decide +kernel
theorem dX9_likeliest_77 : decode cX9_likeliest 77 = .ok (.putfield 81, 3) := by decide +kernel
theorem dX9_likeliest_80 : decode cX9_likeliest 80 = .ok (.aload_n 0, 1) := by decide +kernel
theorem dX9_likeliest_81 : decode cX9_likeliest 81 = .ok (.aload_n 0, 1) := by decide +kernel
theorem dX9_likeliest_82 : decode cX9_likeliest 82 = .ok (.getfield 59, 3) := by decide +kernel
theorem dX9_likeliest_85 : decode cX9_likeliest 85 = .ok (.iload_n 2, 1) := by decide +kernel
theorem dX9_likeliest_86 : decode cX9_likeliest 86 = .ok (.iaload, 1) := by decide +kernel
theorem dX9_likeliest_87 : decode cX9_likeliest 87 = .ok (.aload_n 0, 1) := by decide +kernel
theorem dX9_likeliest_88 : decode cX9_likeliest 88 = .ok (.getfield 59, 3) := by decide +kernel
theorem dX9_likeliest_91 : decode cX9_likeliest 91 = .ok (.iload_n 2, 1) := by decide +kernel
theorem dX9_likeliest_92 : decode cX9_likeliest 92 = .ok (.iconst 1, 1) := by decide +kernel
theorem dX9_likeliest_93 : decode cX9_likeliest 93 = .ok (.iadd, 1) := by decide +kernel
theorem dX9_likeliest_94 : decode cX9_likeliest 94 = .ok (.iaload, 1) := by decide +kernel
theorem dX9_likeliest_95 : decode cX9_likeliest 95 = .ok (.isub, 1) := by decide +kernel
theorem dX9_likeliest_96 : decode cX9_likeliest 96 = .ok (.i2l, 1) := by decide +kernel
theorem dX9_likeliest_97 : decode cX9_likeliest 97 = .ok (.invokevirtual 180, 3) := by decide +kernel
theorem dX9_likeliest_100 : decode cX9_likeliest 100 = .ok (.aload_n 0, 1) := by decide +kernel
theorem dX9_likeliest_101 : decode cX9_likeliest 101 = .ok (.aload_n 0, 1) := by decide +kernel
theorem dX9_likeliest_102 : decode cX9_likeliest 102 = .ok (.getfield 59, 3) := by decide +kernel
theorem dX9_likeliest_105 : decode cX9_likeliest 105 = .ok (.iconst 1, 1) := by decide +kernel
theorem dX9_likeliest_106 : decode cX9_likeliest 106 = .ok (.iaload, 1) := by decide +kernel
theorem dX9_likeliest_107 : decode cX9_likeliest 107 = .ok (.i2l, 1) := by decide +kernel
theorem dX9_likeliest_108 : decode cX9_likeliest 108 = .ok (.invokevirtual 180, 3) := by decide +kernel
theorem dX9_likeliest_111 : decode cX9_likeliest 111 = .ok (.iload_n 2, 1) := by decide +kernel
theorem dX9_likeliest_112 : decode cX9_likeliest 112 = .ok (.ireturn, 1) := by decide +kernel
set_option maxRecDepth 20000 in
theorem ggX9_beats_X9_isLifter : GoodIn wsX9_beats wsX9_isLifter := goodIn_r _ [6, 7, 8, 9, 5, 10, 109, 110, 111, 112, 113, 114, 115, 116, 117, 118, 119, 120, 121, 122, 123, 124, 125, 126, 127, 128, 129, 130, 131, 132, 133, 134, 135, 136, 137, 138, 139, 140, 141, 142, 143, 144, 145, 146, 147, 148] (by decide +kernel) (by decide +kernel)
set_option maxRecDepth 20000 in
theorem gX9_beats_X9_isLifter : GoodIn wsX9_beats (wsV RX9 233 RX9 yX9_isLifter wsX9_isLifter) := goodIn_app (goodIn_of _ (by decide +kernel)) ggX9_beats_X9_isLifter
set_option maxRecDepth 20000 in
theorem ggX9_beats_X9_aimsBeat : GoodIn wsX9_beats wsX9_aimsBeat := goodIn_r _ [14, 15, 16, 17, 18, 5, 19, 20, 21, 22, 23, 24, 25, 26, 27, 28, 29, 30, 31, 32, 33, 34, 35, 36, 37, 38, 39, 40, 41, 42, 43, 44, 45, 46, 47, 48, 49, 50, 51, 52, 53, 54, 55, 56, 57, 58, 59, 60, 61, 62, 63, 64, 65, 66, 67, 68, 69, 70, 71, 72, 73, 74, 75, 76, 77, 78, 79, 80, 81, 82, 83, 84, 85, 86, 87, 88, 89, 90, 91, 92, 93, 94, 95, 96, 97, 98, 99, 100, 101, 102, 103, 104, 105, 106, 107, 108, 109, 110, 111, 112, 113, 114, 115, 116, 117, 118, 119, 120, 121, 122, 123, 124, 125, 126, 127, 128, 129, 130, 131, 132, 133, 134, 135, 136, 137, 138, 139, 140, 141, 142, 143, 144, 145, 146, 147, 148] (by decide +kernel) (by decide +kernel)
set_option maxRecDepth 20000 in
theorem gX9_beats_X9_aimsBeat : GoodIn wsX9_beats (wsV RX9 309 RX9 yX9_aimsBeat wsX9_aimsBeat) := goodIn_app (goodIn_of _ (by decide +kernel)) ggX9_beats_X9_aimsBeat
set_option maxRecDepth 20000 in
theorem ggX9_beats_X9_planNow : GoodIn wsX9_beats wsX9_planNow := goodIn_r _ [33, 15, 34, 35, 36, 37, 5, 38, 39, 40, 41, 42, 43, 44, 45, 46, 47, 48, 49, 50, 51, 52, 53, 54, 55, 56, 57, 58, 59, 60, 61, 62, 63, 64, 65, 66, 67, 68, 69, 70, 71, 72, 73, 74, 75, 76, 77, 78, 79, 80, 81, 82, 83, 84, 85, 86, 87, 88, 89, 90, 91, 92, 93, 94, 95, 109, 110, 111, 112, 113, 114, 115, 116, 117, 118, 119, 120, 121, 122, 123, 124, 125, 126, 127, 128, 129, 130, 131, 132, 133, 134, 135, 136, 137, 138, 139, 140, 141, 142, 143, 144, 145, 146, 147, 148] (by decide +kernel) (by decide +kernel)
set_option maxRecDepth 20000 in
theorem gX9_beats_X9_planNow : GoodIn wsX9_beats (wsV RX9 287 RX9 yX9_planNow wsX9_planNow) := goodIn_app (goodIn_of _ (by decide +kernel)) ggX9_beats_X9_planNow
theorem dX9_beats_0 : decode cX9_beats 0 = .ok (.aload_n 0, 1) := by decide +kernel
theorem dX9_beats_1 : decode cX9_beats 1 = .ok (.iconst 0, 1) := by decide +kernel
theorem dX9_beats_2 : decode cX9_beats 2 = .ok (.putfield 77, 3) := by decide +kernel
theorem dX9_beats_5 : decode cX9_beats 5 = .ok (.aload_n 0, 1) := by decide +kernel
theorem dX9_beats_6 : decode cX9_beats 6 = .ok (.iload_n 1, 1) := by decide +kernel
theorem dX9_beats_7 : decode cX9_beats 7 = .ok (.invokevirtual 233, 3) := by decide +kernel
theorem dX9_beats_10 : decode cX9_beats 10 = .ok (.ifCond .eq 16, 3) := by decide +kernel
theorem dX9_beats_13 : decode cX9_beats 13 = .ok (.aload_n 0, 1) := by decide +kernel
theorem dX9_beats_14 : decode cX9_beats 14 = .ok (.iload_n 2, 1) := by decide +kernel
theorem dX9_beats_15 : decode cX9_beats 15 = .ok (.invokevirtual 233, 3) := by decide +kernel
theorem dX9_beats_18 : decode cX9_beats 18 = .ok (.ifCond .eq 8, 3) := by decide +kernel
theorem dX9_beats_21 : decode cX9_beats 21 = .ok (.iload_n 1, 1) := by decide +kernel
theorem dX9_beats_22 : decode cX9_beats 22 = .ok (.iload_n 2, 1) := by decide +kernel
theorem dX9_beats_23 : decode cX9_beats 23 = .ok (.if_icmp .ne 5, 3) := by decide +kernel
theorem dX9_beats_26 : decode cX9_beats 26 = .ok (.iconst (-1), 1) := by decide +kernel
theorem dX9_beats_27 : decode cX9_beats 27 = .ok (.ireturn, 1) := by decide +kernel
theorem dX9_beats_28 : decode cX9_beats 28 = .ok (.aload_n 0, 1) := by decide +kernel
theorem dX9_beats_29 : decode cX9_beats 29 = .ok (.iload_n 1, 1) := by decide +kernel
theorem dX9_beats_30 : decode cX9_beats 30 = .ok (.iload_n 2, 1) := by decide +kernel
theorem dX9_beats_31 : decode cX9_beats 31 = .ok (.invokevirtual 309, 3) := by decide +kernel
theorem dX9_beats_34 : decode cX9_beats 34 = .ok (.aload_n 0, 1) := by decide +kernel
theorem dX9_beats_35 : decode cX9_beats 35 = .ok (.iload_n 1, 1) := by decide +kernel
theorem dX9_beats_36 : decode cX9_beats 36 = .ok (.invokevirtual 287, 3) := by decide +kernel
theorem dX9_beats_39 : decode cX9_beats 39 = .ok (.ireturn, 1) := by decide +kernel
set_option maxRecDepth 20000 in
theorem ggX9_winOf_X9_aimsWin : GoodIn wsX9_winOf wsX9_aimsWin := goodIn_r _ [5, 6, 7, 8, 9, 10, 11, 12, 13, 4, 14, 15, 16, 17, 18, 19, 20, 21, 22, 23, 24, 25, 26, 27, 28, 29, 30, 31, 32, 33, 34, 35, 36, 37, 38, 39, 40, 41, 42, 43, 44, 45, 46, 47, 48, 49, 50, 51, 52, 53, 54, 55, 56, 57, 58, 59, 60, 61, 62, 63, 64, 65, 66, 67, 68, 69, 70, 71, 72, 73, 74, 75, 76, 77, 78, 79, 80, 81, 82, 83, 84, 85, 86, 87, 88, 89, 90, 91, 92, 93, 94, 95, 96, 97, 98, 99, 100, 101, 102, 103, 104, 105, 106, 107, 108, 109, 110, 111, 112, 113, 114, 115, 116, 117, 118, 119, 120, 121, 122, 123, 124, 125, 126, 127, 128, 129, 130, 131, 132, 133, 134, 135, 136, 137, 138, 139, 140, 141, 142] (by decide +kernel) (by decide +kernel)
set_option maxRecDepth 20000 in
theorem gX9_winOf_X9_aimsWin : GoodIn wsX9_winOf (wsV RX9 313 RX9 yX9_aimsWin wsX9_aimsWin) := goodIn_app (goodIn_of _ (by decide +kernel)) ggX9_winOf_X9_aimsWin
set_option maxRecDepth 20000 in
theorem ggX9_winOf_X9_planNow : GoodIn wsX9_winOf wsX9_planNow := goodIn_r _ [27, 10, 28, 29, 30, 31, 4, 32, 33, 34, 35, 36, 37, 38, 39, 40, 41, 42, 43, 44, 45, 46, 47, 48, 49, 50, 51, 52, 53, 54, 55, 56, 57, 58, 59, 60, 61, 62, 63, 64, 65, 66, 67, 68, 69, 70, 71, 72, 73, 74, 75, 76, 77, 78, 79, 80, 81, 82, 83, 84, 85, 86, 87, 88, 89, 103, 104, 105, 106, 107, 108, 109, 110, 111, 112, 113, 114, 115, 116, 117, 118, 119, 120, 121, 122, 123, 124, 125, 126, 127, 128, 129, 130, 131, 132, 133, 134, 135, 136, 137, 138, 139, 140, 141, 142] (by decide +kernel) (by decide +kernel)
set_option maxRecDepth 20000 in
theorem gX9_winOf_X9_planNow : GoodIn wsX9_winOf (wsV RX9 287 RX9 yX9_planNow wsX9_planNow) := goodIn_app (goodIn_of _ (by decide +kernel)) ggX9_winOf_X9_planNow
theorem dX9_winOf_0 : decode cX9_winOf 0 = .ok (.aload_n 0, 1) := by decide +kernel
theorem dX9_winOf_1 : decode cX9_winOf 1 = .ok (.iload_n 1, 1) := by decide +kernel
theorem dX9_winOf_2 : decode cX9_winOf 2 = .ok (.invokevirtual 313, 3) := by decide +kernel
theorem dX9_winOf_5 : decode cX9_winOf 5 = .ok (.aload_n 0, 1) := by decide +kernel
theorem dX9_winOf_6 : decode cX9_winOf 6 = .ok (.iload_n 1, 1) := by decide +kernel
theorem dX9_winOf_7 : decode cX9_winOf 7 = .ok (.invokevirtual 287, 3) := by decide +kernel
theorem dX9_winOf_10 : decode cX9_winOf 10 = .ok (.ireturn, 1) := by decide +kernel
set_option maxRecDepth 20000 in
theorem ggX9_wins_X9_isLifter : GoodIn wsX9_wins wsX9_isLifter := goodIn_r _ [9, 3, 10, 11, 8, 12, 121, 122, 123, 124, 125, 126, 127, 128, 129, 130, 131, 132, 133, 134, 135, 136, 137, 138, 139, 140, 141, 142, 143, 144, 145, 146, 147, 148, 149, 150, 151, 152, 153, 154, 155, 156, 157, 158, 159, 160] (by decide +kernel) (by decide +kernel)
set_option maxRecDepth 20000 in
theorem gX9_wins_X9_isLifter : GoodIn wsX9_wins (wsV RX9 233 RX9 yX9_isLifter wsX9_isLifter) := goodIn_app (goodIn_of _ (by decide +kernel)) ggX9_wins_X9_isLifter
set_option maxRecDepth 20000 in
theorem ggX9_wins_X9_winOf : GoodIn wsX9_wins wsX9_winOf := goodIn_r _ [16, 17, 18, 19, 8, 20, 21, 22, 3, 23, 24, 25, 26, 27, 28, 29, 30, 31, 32, 33, 34, 35, 36, 37, 38, 39, 40, 41, 42, 43, 44, 45, 46, 47, 48, 49, 50, 51, 52, 53, 54, 55, 56, 57, 58, 59, 60, 61, 62, 63, 64, 65, 66, 67, 68, 69, 70, 71, 72, 73, 74, 75, 76, 77, 78, 79, 80, 81, 82, 83, 84, 85, 86, 87, 88, 89, 90, 91, 92, 93, 94, 95, 96, 97, 98, 99, 100, 101, 102, 103, 104, 105, 106, 107, 108, 109, 110, 111, 112, 113, 114, 115, 116, 121, 122, 123, 124, 125, 126, 127, 128, 129, 130, 131, 132, 133, 134, 135, 136, 137, 138, 139, 140, 141, 142, 143, 144, 145, 146, 147, 148, 149, 150, 151, 152, 153, 154, 155, 156, 157, 158, 159, 160] (by decide +kernel) (by decide +kernel)
set_option maxRecDepth 20000 in
theorem gX9_wins_X9_winOf : GoodIn wsX9_wins (wsV RX9 316 RX9 yX9_winOf wsX9_winOf) := goodIn_app (goodIn_of _ (by decide +kernel)) ggX9_wins_X9_winOf
set_option maxRecDepth 20000 in
theorem ggX9_wins_X9_notes : GoodIn wsX9_wins wsX9_notes := goodIn_r _ [120, 4, 2, 121, 122, 123, 124, 125, 126, 127, 128, 129, 130, 131, 132, 133, 134, 135, 136, 137, 138, 139, 140, 141, 142, 143, 144, 145, 146, 147, 148, 149, 150, 151, 152, 153, 154, 155, 156, 157, 158, 159, 160] (by decide +kernel) (by decide +kernel)
set_option maxRecDepth 20000 in
theorem gX9_wins_X9_notes : GoodIn wsX9_wins (wsV RX9 180 RX9 yX9_notes wsX9_notes) := goodIn_app (goodIn_of _ (by decide +kernel)) ggX9_wins_X9_notes
theorem dX9_wins_0 : decode cX9_wins 0 = .ok (.aload_n 0, 1) := by decide +kernel
theorem dX9_wins_1 : decode cX9_wins 1 = .ok (.iconst 0, 1) := by decide +kernel
theorem dX9_wins_2 : decode cX9_wins 2 = .ok (.putfield 77, 3) := by decide +kernel
theorem dX9_wins_5 : decode cX9_wins 5 = .ok (.aload_n 0, 1) := by decide +kernel
theorem dX9_wins_6 : decode cX9_wins 6 = .ok (.iload_n 1, 1) := by decide +kernel
theorem dX9_wins_7 : decode cX9_wins 7 = .ok (.invokevirtual 233, 3) := by decide +kernel
theorem dX9_wins_10 : decode cX9_wins 10 = .ok (.ifCond .ne 5, 3) := by decide +kernel
theorem dX9_wins_13 : decode cX9_wins 13 = .ok (.iconst (-1), 1) := by decide +kernel
theorem dX9_wins_14 : decode cX9_wins 14 = .ok (.ireturn, 1) := by decide +kernel
theorem dX9_wins_15 : decode cX9_wins 15 = .ok (.aload_n 0, 1) := by decide +kernel
theorem dX9_wins_16 : decode cX9_wins 16 = .ok (.iconst 0, 1) := by decide +kernel
theorem dX9_wins_17 : decode cX9_wins 17 = .ok (.putfield 81, 3) := by decide +kernel
theorem dX9_wins_20 : decode cX9_wins 20 = .ok (.iconst 0, 1) := by decide +kernel
theorem dX9_wins_21 : decode cX9_wins 21 = .ok (.istore_n 2, 1) := by decide +kernel
theorem dX9_wins_22 : decode cX9_wins 22 = .ok (.iload_n 2, 1) := by decide +kernel
theorem dX9_wins_23 : decode cX9_wins 23 = .ok (.aload_n 0, 1) := by decide +kernel
theorem dX9_wins_24 : decode cX9_wins 24 = .ok (.getfield 84, 3) := by decide +kernel
theorem dX9_wins_27 : decode cX9_wins 27 = .ok (.if_icmp .ge 19, 3) := by decide +kernel
theorem dX9_wins_30 : decode cX9_wins 30 = .ok (.aload_n 0, 1) := by decide +kernel
theorem dX9_wins_31 : decode cX9_wins 31 = .ok (.aload_n 0, 1) := by decide +kernel
theorem dX9_wins_32 : decode cX9_wins 32 = .ok (.iload_n 2, 1) := by decide +kernel
theorem dX9_wins_33 : decode cX9_wins 33 = .ok (.invokevirtual 316, 3) := by decide +kernel
theorem dX9_wins_36 : decode cX9_wins 36 = .ok (.i2l, 1) := by decide +kernel
theorem dX9_wins_37 : decode cX9_wins 37 = .ok (.invokevirtual 180, 3) := by decide +kernel
theorem dX9_wins_40 : decode cX9_wins 40 = .ok (.iinc 2 1, 3) := by decide +kernel
theorem dX9_wins_43 : decode cX9_wins 43 = .ok (.goto (-21), 3) := by decide +kernel
theorem dX9_wins_46 : decode cX9_wins 46 = .ok (.aload_n 0, 1) := by decide +kernel
theorem dX9_wins_47 : decode cX9_wins 47 = .ok (.getfield 7, 3) := by decide +kernel
theorem dX9_wins_50 : decode cX9_wins 50 = .ok (.iload_n 1, 1) := by decide +kernel
theorem dX9_wins_51 : decode cX9_wins 51 = .ok (.laload, 1) := by decide +kernel
theorem dX9_wins_52 : decode cX9_wins 52 = .ok (.l2i, 1) := by decide +kernel
theorem dX9_wins_53 : decode cX9_wins 53 = .ok (.ireturn, 1) := by decide +kernel
theorem dX9_failsToo_0 : decode cX9_failsToo 0 = .ok (.iload_n 0, 1) := by decide +kernel
theorem dX9_failsToo_1 : decode cX9_failsToo 1 = .ok (.i2l, 1) := by decide +kernel
theorem dX9_failsToo_2 : decode cX9_failsToo 2 = .ok (.sipush 1000, 3) := by decide +kernel
theorem dX9_failsToo_5 : decode cX9_failsToo 5 = .ok (.iload_n 1, 1) := by decide +kernel
theorem dX9_failsToo_6 : decode cX9_failsToo 6 = .ok (.isub, 1) := by decide +kernel
theorem dX9_failsToo_7 : decode cX9_failsToo 7 = .ok (.i2l, 1) := by decide +kernel
theorem dX9_failsToo_8 : decode cX9_failsToo 8 = .ok (.lmul, 1) := by decide +kernel
theorem dX9_failsToo_9 : decode cX9_failsToo 9 = .ok (.ldc2_w 265, 3) := by decide +kernel
theorem dX9_failsToo_12 : decode cX9_failsToo 12 = .ok (.ldiv, 1) := by decide +kernel
theorem dX9_failsToo_13 : decode cX9_failsToo 13 = .ok (.l2i, 1) := by decide +kernel
theorem dX9_failsToo_14 : decode cX9_failsToo 14 = .ok (.ireturn, 1) := by decide +kernel
set_option maxRecDepth 20000 in
theorem ggX9_bombs_X9_isLifter : GoodIn wsX9_bombs wsX9_isLifter := goodIn_r _ [8, 9, 10, 11, 7, 12, 96, 97, 98, 99, 100, 101, 102, 103, 104, 105, 106, 107, 108, 109, 110, 111, 112, 113, 114, 115, 116, 117, 118, 119, 120, 121, 122, 123, 124, 125, 126, 127, 128, 129, 130, 131, 132, 133, 134, 135] (by decide +kernel) (by decide +kernel)
set_option maxRecDepth 20000 in
theorem gX9_bombs_X9_isLifter : GoodIn wsX9_bombs (wsV RX9 233 RX9 yX9_isLifter wsX9_isLifter) := goodIn_app (goodIn_of _ (by decide +kernel)) ggX9_bombs_X9_isLifter
