theorem dX8_chance_0 : decode cX8_chance 0 = .ok (.aload_n 0, 1) := by decide +kernel
theorem dX8_chance_1 : decode cX8_chance 1 = .ok (.iload_n 1, 1) := by decide +kernel
theorem dX8_chance_2 : decode cX8_chance 2 = .ok (.invokevirtual 97, 3) := by decide +kernel
theorem dX8_chance_5 : decode cX8_chance 5 = .ok (.ifCond .eq 10, 3) := by decide +kernel
theorem dX8_chance_8 : decode cX8_chance 8 = .ok (.iload_n 2, 1) := by decide +kernel
theorem dX8_chance_9 : decode cX8_chance 9 = .ok (.invokestatic 197, 3) := by decide +kernel
theorem dX8_chance_12 : decode cX8_chance 12 = .ok (.ifCond .ne 5, 3) := by decide +kernel
theorem dX8_chance_15 : decode cX8_chance 15 = .ok (.iconst (-1), 1) := by decide +kernel
theorem dX8_chance_16 : decode cX8_chance 16 = .ok (.ireturn, 1) := by decide +kernel
theorem dX8_chance_17 : decode cX8_chance 17 = .ok (.aload_n 0, 1) := by decide +kernel
theorem dX8_chance_18 : decode cX8_chance 18 = .ok (.getfield 45, 3) := by decide +kernel
theorem dX8_chance_21 : decode cX8_chance 21 = .ok (.iload_n 2, 1) := by decide +kernel
theorem dX8_chance_22 : decode cX8_chance 22 = .ok (.invokevirtual 200, 3) := by decide +kernel
theorem dX8_chance_25 : decode cX8_chance 25 = .ok (.aload_n 0, 1) := by decide +kernel
theorem dX8_chance_26 : decode cX8_chance 26 = .ok (.iload_n 1, 1) := by decide +kernel
theorem dX8_chance_27 : decode cX8_chance 27 = .ok (.invokevirtual 194, 3) := by decide +kernel
theorem dX8_chance_30 : decode cX8_chance 30 = .ok (.ireturn, 1) := by decide +kernel
set_option maxRecDepth 20000 in
theorem ggX8_likeliest_X8_isLifter : GoodIn wsX8_likeliest wsX8_isLifter := goodIn_r _ [6, 7, 8, 122, 123, 124, 125, 126, 127, 128, 129, 130, 131, 132, 133, 134, 135, 136, 137, 138, 139, 140, 141, 142, 143, 144, 145, 146, 147, 148, 149] (by decide +kernel) (by decide +kernel)
set_option maxRecDepth 20000 in
theorem gX8_likeliest_X8_isLifter : GoodIn wsX8_likeliest (wsV RX8 97 RX8 yX8_isLifter wsX8_isLifter) := goodIn_app (goodIn_of _ (by decide +kernel)) ggX8_likeliest_X8_isLifter
set_option maxRecDepth 20000 in
theorem ggX8_likeliest_X8_reckonChances : GoodIn wsX8_likeliest wsX8_reckonChances := goodIn_r _ [12, 13, 14, 15, 7, 16, 17, 18, 1, 19, 20, 21, 22, 23, 24, 25, 26, 27, 28, 29, 30, 31, 32, 33, 34, 35, 36, 37, 38, 39, 40, 41, 42, 43, 44, 45, 46, 47, 48, 49, 50, 51, 52, 53, 54, 55, 56, 57, 58, 59, 60, 61, 62, 63, 64, 65, 66, 67, 68, 69, 70, 71, 72, 73, 74, 75, 76, 77, 78, 79, 80, 81, 82, 83, 84, 85, 86, 87, 88, 89, 90, 91, 92, 93, 94, 95, 96, 97, 98, 99, 100, 101, 102, 103, 104, 105, 106, 107, 108, 109, 110, 111, 112, 113, 114, 5, 115, 122, 123, 124, 125, 126, 127, 128, 129, 130, 131, 132, 133, 134, 135, 136, 137, 138, 139, 140, 141, 142, 143, 144, 145, 146, 147, 148, 149, 150, 151, 152, 153, 154, 155, 156, 157, 158, 159, 160, 161, 162, 163, 164, 165, 166, 167] (by decide +kernel) (by decide +kernel)
set_option maxRecDepth 20000 in
theorem gX8_likeliest_X8_reckonChances : GoodIn wsX8_likeliest (wsV RX8 204 RX8 yX8_reckonChances wsX8_reckonChances) := goodIn_app (goodIn_of _ (by decide +kernel)) ggX8_likeliest_X8_reckonChances
set_option maxRecDepth 20000 in
theorem ggX8_likeliest_X8_tellTwo : GoodIn wsX8_likeliest wsX8_tellTwo := goodIn_r _ [119, 120, 121, 122, 123, 124, 125, 126, 127, 128, 129, 130, 131, 132, 133] (by decide +kernel) (by decide +kernel)
set_option maxRecDepth 20000 in
theorem gX8_likeliest_X8_tellTwo : GoodIn wsX8_likeliest (wsV RX8 157 RX8 yX8_tellTwo wsX8_tellTwo) := goodIn_app (goodIn_of _ (by decide +kernel)) ggX8_likeliest_X8_tellTwo
theorem dX8_likeliest_0 : decode cX8_likeliest 0 = .ok (.aload_n 0, 1) := by decide +kernel
theorem dX8_likeliest_1 : decode cX8_likeliest 1 = .ok (.iload_n 1, 1) := by decide +kernel
theorem dX8_likeliest_2 : decode cX8_likeliest 2 = .ok (.invokevirtual 97, 3) := by decide +kernel
theorem dX8_likeliest_5 : decode cX8_likeliest 5 = .ok (.ifCond .ne 5, 3) := by decide +kernel
theorem dX8_likeliest_8 : decode cX8_likeliest 8 = .ok (.iconst (-1), 1) := by decide +kernel
theorem dX8_likeliest_9 : decode cX8_likeliest 9 = .ok (.ireturn, 1) := by decide +kernel
theorem dX8_likeliest_10 : decode cX8_likeliest 10 = .ok (.aload_n 0, 1) := by decide +kernel
theorem dX8_likeliest_11 : decode cX8_likeliest 11 = .ok (.iload_n 1, 1) := by decide +kernel
theorem dX8_likeliest_12 : decode cX8_likeliest 12 = .ok (.invokevirtual 204, 3) := by decide +kernel
theorem dX8_likeliest_15 : decode cX8_likeliest 15 = .ok (.aload_n 0, 1) := by decide +kernel
theorem dX8_likeliest_16 : decode cX8_likeliest 16 = .ok (.getfield 58, 3) := by decide +kernel
theorem dX8_likeliest_19 : decode cX8_likeliest 19 = .ok (.iload_n 1, 1) := by decide +kernel
theorem dX8_likeliest_20 : decode cX8_likeliest 20 = .ok (.aaload, 1) := by decide +kernel
theorem dX8_likeliest_21 : decode cX8_likeliest 21 = .ok (.astore_n 2, 1) := by decide +kernel
theorem dX8_likeliest_22 : decode cX8_likeliest 22 = .ok (.iconst 0, 1) := by decide +kernel
theorem dX8_likeliest_23 : decode cX8_likeliest 23 = .ok (.istore_n 3, 1) := by decide +kernel
theorem dX8_likeliest_24 : decode cX8_likeliest 24 = .ok (.iconst 1, 1) := by decide +kernel
theorem dX8_likeliest_25 : decode cX8_likeliest 25 = .ok (.istore 4, 2) := by decide +kernel
theorem dX8_likeliest_27 : decode cX8_likeliest 27 = .ok (.iload 4, 2) := by decide +kernel
theorem dX8_likeliest_29 : decode cX8_likeliest 29 = .ok (.bipush 120, 2) := by decide +kernel
theorem dX8_likeliest_31 : decode cX8_likeliest 31 = .ok (.if_icmp .gt 35, 3) := by decide +kernel
theorem dX8_likeliest_34 : decode cX8_likeliest 34 = .ok (.aload_n 2, 1) := by decide +kernel
theorem dX8_likeliest_35 : decode cX8_likeliest 35 = .ok (.iload 4, 2) := by decide +kernel
theorem dX8_likeliest_37 : decode cX8_likeliest 37 = .ok (.iaload, 1) := by decide +kernel
theorem dX8_likeliest_38 : decode cX8_likeliest 38 = .ok (.aload_n 2, 1) := by decide +kernel
theorem dX8_likeliest_39 : decode cX8_likeliest 39 = .ok (.iload 4, 2) := by decide +kernel
theorem dX8_likeliest_41 : decode cX8_likeliest 41 = .ok (.iconst 1, 1) := by decide +kernel
theorem dX8_likeliest_42 : decode cX8_likeliest 42 = .ok (.iadd, 1) := by decide +kernel
theorem dX8_likeliest_43 : decode cX8_likeliest 43 = .ok (.iaload, 1) := by decide +kernel
theorem dX8_likeliest_44 : decode cX8_likeliest 44 = .ok (.isub, 1) := by decide +kernel
theorem dX8_likeliest_45 : decode cX8_likeliest 45 = .ok (.aload_n 2, 1) := by decide +kernel
theorem dX8_likeliest_46 : decode cX8_likeliest 46 = .ok (.iload_n 3, 1) := by decide +kernel
theorem dX8_likeliest_47 : decode cX8_likeliest 47 = .ok (.iaload, 1) := by decide +kernel
theorem dX8_likeliest_48 : decode cX8_likeliest 48 = .ok (.aload_n 2, 1) := by decide +kernel
theorem dX8_likeliest_49 : decode cX8_likeliest 49 = .ok (.iload_n 3, 1) := by decide +kernel
theorem dX8_likeliest_50 : decode cX8_likeliest 50 = .ok (.iconst 1, 1) := by decide +kernel
theorem dX8_likeliest_51 : decode cX8_likeliest 51 = .ok (.iadd, 1) := by decide +kernel
theorem dX8_likeliest_52 : decode cX8_likeliest 52 = .ok (.iaload, 1) := by decide +kernel
theorem dX8_likeliest_53 : decode cX8_likeliest 53 = .ok (.isub, 1) := by decide +kernel
theorem dX8_likeliest_54 : decode cX8_likeliest 54 = .ok (.if_icmp .le 6, 3) := by decide +kernel
theorem dX8_likeliest_57 : decode cX8_likeliest 57 = .ok (.iload 4, 2) := by decide +kernel
theorem dX8_likeliest_59 : decode cX8_likeliest 59 = .ok (.istore_n 3, 1) := by decide +kernel
theorem dX8_likeliest_60 : decode cX8_likeliest 60 = .ok (.iinc 4 1, 3) := by decide +kernel
theorem dX8_likeliest_63 : decode cX8_likeliest 63 = .ok (.goto (-36), 3) := by decide +kernel
theorem dX8_likeliest_66 : decode cX8_likeliest 66 = .ok (.aload_n 0, 1) := by decide +kernel
theorem dX8_likeliest_67 : decode cX8_likeliest 67 = .ok (.aload_n 2, 1) := by decide +kernel
theorem dX8_likeliest_68 : decode cX8_likeliest 68 = .ok (.iload_n 3, 1) := by decide +kernel
theorem dX8_likeliest_69 : decode cX8_likeliest 69 = .ok (.iaload, 1) := by decide +kernel
theorem dX8_likeliest_70 : decode cX8_likeliest 70 = .ok (.aload_n 2, 1) := by decide +kernel
theorem dX8_likeliest_71 : decode cX8_likeliest 71 = .ok (.iload_n 3, 1) := by decide +kernel
theorem dX8_likeliest_72 : decode cX8_likeliest 72 = .ok (.iconst 1, 1) := by decide +kernel
theorem dX8_likeliest_73 : decode cX8_likeliest 73 = .ok (.iadd, 1) := by decide +kernel
theorem dX8_likeliest_74 : decode cX8_likeliest 74 = .ok (.iaload, 1) := by decide +kernel
theorem dX8_likeliest_75 : decode cX8_likeliest 75 = .ok (.isub, 1) := by decide +kernel
theorem dX8_likeliest_76 : decode cX8_likeliest 76 = .ok (.aload_n 2, 1) := by decide +kernel
theorem dX8_likeliest_77 : decode cX8_likeliest 77 = .ok (.iconst 1, 1) := by decide +kernel
theorem dX8_likeliest_78 : decode cX8_likeliest 78 = .ok (.iaload, 1) := by decide +kernel
theorem dX8_likeliest_79 : decode cX8_likeliest 79 = .ok (.invokevirtual 157, 3) := by decide +kernel
theorem dX8_likeliest_82 : decode cX8_likeliest 82 = .ok (.iload_n 3, 1) := by decide +kernel
theorem dX8_likeliest_83 : decode cX8_likeliest 83 = .ok (.ireturn, 1) := by decide +kernel
set_option maxRecDepth 20000 in
theorem ggX8_beats_X8_isLifter : GoodIn wsX8_beats wsX8_isLifter := goodIn_r _ [5, 6, 7, 140, 141, 142, 143, 144, 145, 146, 147, 148, 149, 150, 151, 152, 153, 154, 155, 156, 157, 158, 159, 160, 161, 162, 163, 164, 165, 166, 167] (by decide +kernel) (by decide +kernel)
set_option maxRecDepth 20000 in
theorem gX8_beats_X8_isLifter : GoodIn wsX8_beats (wsV RX8 97 RX8 yX8_isLifter wsX8_isLifter) := goodIn_app (goodIn_of _ (by decide +kernel)) ggX8_beats_X8_isLifter
set_option maxRecDepth 20000 in
theorem ggX8_beats_X8_aimToBeat : GoodIn wsX8_beats wsX8_aimToBeat := goodIn_r _ [11, 12, 13, 14, 15, 16, 17, 4, 18, 19, 6, 20, 21, 22, 23, 24, 25, 26, 27, 28, 29, 30, 31, 32, 33, 34, 35, 36, 37, 38, 39, 40, 41, 42, 43, 44, 45, 46, 47, 48, 49, 50, 51, 52, 53, 54, 55, 56, 57, 58, 59, 60, 61, 62, 63, 64, 65, 66, 67, 68, 69, 70, 71, 72, 73, 74, 75, 76, 77, 78, 79, 80, 81, 82, 83, 84, 85, 86, 87, 88, 89, 90, 91, 92, 93, 94, 95, 96, 97, 98, 99, 100, 101, 102, 103, 104, 105, 106, 107, 108, 109, 110, 111, 112, 113, 114, 115, 116, 117, 118, 119, 120, 121, 122, 123, 124, 125, 126, 127, 128, 129, 130, 131, 132, 133, 134, 135, 140, 141, 142, 143, 144, 145, 146, 147, 148, 149, 150, 151, 152, 153, 154, 155, 156, 157, 158, 159, 160, 161, 162, 163, 164, 165, 166, 167, 168, 169, 170, 171, 172, 173, 174, 175, 176, 177, 178, 179, 180, 181, 182, 183, 184, 185] (by decide +kernel) (by decide +kernel)
set_option maxRecDepth 20000 in
theorem gX8_beats_X8_aimToBeat : GoodIn wsX8_beats (wsV RX8 207 RX8 yX8_aimToBeat wsX8_aimToBeat) := goodIn_app (goodIn_of _ (by decide +kernel)) ggX8_beats_X8_aimToBeat
set_option maxRecDepth 20000 in
theorem ggX8_beats_X8_byPlan : GoodIn wsX8_beats wsX8_byPlan := goodIn_r _ [139, 19, 13, 6, 20, 12, 21, 36, 37, 38, 39, 40, 41, 42, 43, 44, 45, 46, 47, 48, 49, 50, 51, 52, 53, 54, 55, 56, 57, 58, 59, 60, 61, 62, 63, 64, 65, 66, 67, 68, 69, 70, 71, 72, 73, 74, 75, 76, 77, 78, 79, 80, 81, 82, 83, 84, 85, 86, 87, 88, 89, 90, 91, 92, 93, 94, 95, 96, 97, 98, 99, 100, 101, 102, 103, 104, 105, 106, 107, 108, 109, 110, 111, 112, 113, 114, 115, 116, 117, 118, 4, 119, 140, 141, 142, 143, 144, 145, 146, 147, 148, 149, 150, 151, 152, 153, 154, 155, 156, 157, 158, 159, 160, 161, 162, 163, 164, 165, 166, 167, 178, 179, 180, 181, 168, 169, 170, 171, 172, 173, 174, 175, 176, 177, 182, 183, 184, 185] (by decide +kernel) (by decide +kernel)
set_option maxRecDepth 20000 in
theorem gX8_beats_X8_byPlan : GoodIn wsX8_beats (wsV RX8 194 RX8 yX8_byPlan wsX8_byPlan) := goodIn_app (goodIn_of _ (by decide +kernel)) ggX8_beats_X8_byPlan
theorem dX8_beats_0 : decode cX8_beats 0 = .ok (.aload_n 0, 1) := by decide +kernel
theorem dX8_beats_1 : decode cX8_beats 1 = .ok (.iload_n 1, 1) := by decide +kernel
theorem dX8_beats_2 : decode cX8_beats 2 = .ok (.invokevirtual 97, 3) := by decide +kernel
theorem dX8_beats_5 : decode cX8_beats 5 = .ok (.ifCond .eq 16, 3) := by decide +kernel
theorem dX8_beats_8 : decode cX8_beats 8 = .ok (.aload_n 0, 1) := by decide +kernel
theorem dX8_beats_9 : decode cX8_beats 9 = .ok (.iload_n 2, 1) := by decide +kernel
theorem dX8_beats_10 : decode cX8_beats 10 = .ok (.invokevirtual 97, 3) := by decide +kernel
theorem dX8_beats_13 : decode cX8_beats 13 = .ok (.ifCond .eq 8, 3) := by decide +kernel
theorem dX8_beats_16 : decode cX8_beats 16 = .ok (.iload_n 1, 1) := by decide +kernel
theorem dX8_beats_17 : decode cX8_beats 17 = .ok (.iload_n 2, 1) := by decide +kernel
theorem dX8_beats_18 : decode cX8_beats 18 = .ok (.if_icmp .ne 5, 3) := by decide +kernel
theorem dX8_beats_21 : decode cX8_beats 21 = .ok (.iconst (-1), 1) := by decide +kernel
theorem dX8_beats_22 : decode cX8_beats 22 = .ok (.ireturn, 1) := by decide +kernel
theorem dX8_beats_23 : decode cX8_beats 23 = .ok (.aload_n 0, 1) := by decide +kernel
theorem dX8_beats_24 : decode cX8_beats 24 = .ok (.iload_n 1, 1) := by decide +kernel
theorem dX8_beats_25 : decode cX8_beats 25 = .ok (.iload_n 2, 1) := by decide +kernel
theorem dX8_beats_26 : decode cX8_beats 26 = .ok (.invokevirtual 207, 3) := by decide +kernel
theorem dX8_beats_29 : decode cX8_beats 29 = .ok (.aload_n 0, 1) := by decide +kernel
theorem dX8_beats_30 : decode cX8_beats 30 = .ok (.iload_n 1, 1) := by decide +kernel
theorem dX8_beats_31 : decode cX8_beats 31 = .ok (.invokevirtual 194, 3) := by decide +kernel
theorem dX8_beats_34 : decode cX8_beats 34 = .ok (.ireturn, 1) := by decide +kernel
set_option maxRecDepth 20000 in
theorem ggX8_wins_X8_isLifter : GoodIn wsX8_wins wsX8_isLifter := goodIn_r _ [9, 1, 2, 142, 143, 144, 145, 146, 147, 148, 149, 150, 151, 152, 153, 154, 155, 156, 157, 158, 159, 160, 161, 162, 163, 164, 165, 166, 167, 168, 169] (by decide +kernel) (by decide +kernel)
set_option maxRecDepth 20000 in
theorem gX8_wins_X8_isLifter : GoodIn wsX8_wins (wsV RX8 97 RX8 yX8_isLifter wsX8_isLifter) := goodIn_app (goodIn_of _ (by decide +kernel)) ggX8_wins_X8_isLifter
set_option maxRecDepth 20000 in
theorem ggX8_wins_X8_reckonChances : GoodIn wsX8_wins wsX8_reckonChances := goodIn_r _ [13, 14, 15, 16, 1, 17, 18, 19, 20, 21, 22, 23, 24, 25, 26, 27, 28, 29, 30, 31, 32, 33, 34, 35, 36, 37, 38, 39, 40, 41, 42, 43, 44, 45, 46, 47, 48, 49, 50, 51, 52, 53, 54, 55, 56, 57, 58, 59, 60, 61, 62, 63, 64, 65, 66, 67, 68, 69, 70, 71, 72, 73, 74, 75, 76, 77, 78, 79, 80, 81, 82, 83, 84, 85, 86, 87, 88, 89, 90, 91, 92, 93, 94, 95, 96, 97, 98, 99, 100, 101, 102, 103, 104, 105, 106, 107, 108, 109, 110, 111, 112, 113, 114, 115, 116, 8, 117, 142, 143, 144, 145, 146, 147, 148, 149, 150, 151, 152, 153, 154, 155, 156, 157, 158, 159, 160, 161, 162, 163, 164, 165, 166, 167, 168, 169, 170, 171, 172, 173, 174, 175, 176, 177, 178, 179, 180, 181, 182, 183, 184, 185, 186, 187] (by decide +kernel) (by decide +kernel)
set_option maxRecDepth 20000 in
theorem gX8_wins_X8_reckonChances : GoodIn wsX8_wins (wsV RX8 204 RX8 yX8_reckonChances wsX8_reckonChances) := goodIn_app (goodIn_of _ (by decide +kernel)) ggX8_wins_X8_reckonChances
set_option maxRecDepth 20000 in
theorem ggX8_wins_X8_aimAheadOfAll : GoodIn wsX8_wins wsX8_aimAheadOfAll := goodIn_r _ [121, 14, 1, 2, 16, 20, 122, 123, 124, 25, 125, 31, 32, 33, 126, 44, 45, 46, 127, 128, 129, 112, 130, 131, 132, 133, 134, 135, 136, 137, 142, 143, 144, 145, 146, 147, 148, 149, 150, 151, 152, 153, 154, 155, 156, 157, 158, 159, 160, 161, 162, 163, 164, 165, 166, 167, 168, 169, 178, 179, 184, 185, 186, 187] (by decide +kernel) (by decide +kernel)
set_option maxRecDepth 20000 in
theorem gX8_wins_X8_aimAheadOfAll : GoodIn wsX8_wins (wsV RX8 210 RX8 yX8_aimAheadOfAll wsX8_aimAheadOfAll) := goodIn_app (goodIn_of _ (by decide +kernel)) ggX8_wins_X8_aimAheadOfAll
set_option maxRecDepth 20000 in
theorem ggX8_wins_X8_byPlan : GoodIn wsX8_wins wsX8_byPlan := goodIn_r _ [141, 15, 16, 1, 17, 14, 18, 34, 35, 36, 37, 38, 39, 40, 41, 42, 43, 44, 45, 46, 47, 48, 49, 50, 51, 52, 53, 54, 55, 56, 57, 58, 59, 60, 61, 62, 63, 64, 65, 66, 67, 68, 69, 70, 71, 72, 73, 74, 75, 76, 77, 78, 79, 80, 81, 82, 83, 84, 85, 86, 87, 88, 89, 90, 91, 92, 93, 94, 95, 96, 97, 98, 99, 100, 101, 102, 103, 104, 105, 106, 107, 108, 109, 110, 111, 112, 113, 114, 115, 116, 8, 117, 142, 143, 144, 145, 146, 147, 148, 149, 150, 151, 152, 153, 154, 155, 156, 157, 158, 159, 160, 161, 162, 163, 164, 165, 166, 167, 168, 169, 180, 181, 182, 183, 170, 171, 172, 173, 174, 175, 176, 177, 178, 179, 184, 185, 186, 187] (by decide +kernel) (by decide +kernel)
set_option maxRecDepth 20000 in
theorem gX8_wins_X8_byPlan : GoodIn wsX8_wins (wsV RX8 194 RX8 yX8_byPlan wsX8_byPlan) := goodIn_app (goodIn_of _ (by decide +kernel)) ggX8_wins_X8_byPlan
theorem dX8_wins_0 : decode cX8_wins 0 = .ok (.aload_n 0, 1) := by decide +kernel
theorem dX8_wins_1 : decode cX8_wins 1 = .ok (.iload_n 1, 1) := by decide +kernel
theorem dX8_wins_2 : decode cX8_wins 2 = .ok (.invokevirtual 97, 3) := by decide +kernel
theorem dX8_wins_5 : decode cX8_wins 5 = .ok (.ifCond .ne 5, 3) := by decide +kernel
theorem dX8_wins_8 : decode cX8_wins 8 = .ok (.iconst (-1), 1) := by decide +kernel
theorem dX8_wins_9 : decode cX8_wins 9 = .ok (.ireturn, 1) := by decide +kernel
theorem dX8_wins_10 : decode cX8_wins 10 = .ok (.iconst 0, 1) := by decide +kernel
theorem dX8_wins_11 : decode cX8_wins 11 = .ok (.istore_n 2, 1) := by decide +kernel
theorem dX8_wins_12 : decode cX8_wins 12 = .ok (.iload_n 2, 1) := by decide +kernel
theorem dX8_wins_13 : decode cX8_wins 13 = .ok (.aload_n 0, 1) := by decide +kernel
theorem dX8_wins_14 : decode cX8_wins 14 = .ok (.getfield 28, 3) := by decide +kernel
theorem dX8_wins_17 : decode cX8_wins 17 = .ok (.getfield 87, 3) := by decide +kernel
theorem dX8_wins_20 : decode cX8_wins 20 = .ok (.if_icmp .ge 14, 3) := by decide +kernel
theorem dX8_wins_23 : decode cX8_wins 23 = .ok (.aload_n 0, 1) := by decide +kernel
theorem dX8_wins_24 : decode cX8_wins 24 = .ok (.iload_n 2, 1) := by decide +kernel
theorem dX8_wins_25 : decode cX8_wins 25 = .ok (.invokevirtual 204, 3) := by decide +kernel
theorem dX8_wins_28 : decode cX8_wins 28 = .ok (.iinc 2 1, 3) := by decide +kernel
theorem dX8_wins_31 : decode cX8_wins 31 = .ok (.goto (-19), 3) := by decide +kernel
theorem dX8_wins_34 : decode cX8_wins 34 = .ok (.iconst 0, 1) := by decide +kernel
theorem dX8_wins_35 : decode cX8_wins 35 = .ok (.istore_n 2, 1) := by decide +kernel
theorem dX8_wins_36 : decode cX8_wins 36 = .ok (.iload_n 2, 1) := by decide +kernel
theorem dX8_wins_37 : decode cX8_wins 37 = .ok (.aload_n 0, 1) := by decide +kernel
theorem dX8_wins_38 : decode cX8_wins 38 = .ok (.getfield 28, 3) := by decide +kernel
theorem dX8_wins_41 : decode cX8_wins 41 = .ok (.getfield 87, 3) := by decide +kernel
theorem dX8_wins_44 : decode cX8_wins 44 = .ok (.if_icmp .ge 26, 3) := by decide +kernel
theorem dX8_wins_47 : decode cX8_wins 47 = .ok (.aload_n 0, 1) := by decide +kernel
theorem dX8_wins_48 : decode cX8_wins 48 = .ok (.iload_n 2, 1) := by decide +kernel
theorem dX8_wins_49 : decode cX8_wins 49 = .ok (.invokevirtual 210, 3) := by decide +kernel
theorem dX8_wins_52 : decode cX8_wins 52 = .ok (.aload_n 0, 1) := by decide +kernel
theorem dX8_wins_53 : decode cX8_wins 53 = .ok (.getfield 61, 3) := by decide +kernel
theorem dX8_wins_56 : decode cX8_wins 56 = .ok (.iload_n 2, 1) := by decide +kernel
theorem dX8_wins_57 : decode cX8_wins 57 = .ok (.aload_n 0, 1) := by decide +kernel
theorem dX8_wins_58 : decode cX8_wins 58 = .ok (.iload_n 2, 1) := by decide +kernel
theorem dX8_wins_59 : decode cX8_wins 59 = .ok (.invokevirtual 194, 3) := by decide +kernel
theorem dX8_wins_62 : decode cX8_wins 62 = .ok (.i2l, 1) := by decide +kernel
theorem dX8_wins_63 : decode cX8_wins 63 = .ok (.lastore, 1) := by decide +kernel
theorem dX8_wins_64 : decode cX8_wins 64 = .ok (.iinc 2 1, 3) := by decide +kernel
theorem dX8_wins_67 : decode cX8_wins 67 = .ok (.goto (-31), 3) := by decide +kernel
theorem dX8_wins_70 : decode cX8_wins 70 = .ok (.aload_n 0, 1) := by decide +kernel
theorem dX8_wins_71 : decode cX8_wins 71 = .ok (.aload_n 0, 1) := by decide +kernel
theorem dX8_wins_72 : decode cX8_wins 72 = .ok (.getfield 28, 3) := by decide +kernel
theorem dX8_wins_75 : decode cX8_wins 75 = .ok (.getfield 87, 3) := by decide +kernel
theorem dX8_wins_78 : decode cX8_wins 78 = .ok (.putfield 65, 3) := by decide +kernel
theorem dX8_wins_81 : decode cX8_wins 81 = .ok (.aload_n 0, 1) := by decide +kernel
theorem dX8_wins_82 : decode cX8_wins 82 = .ok (.getfield 61, 3) := by decide +kernel
theorem dX8_wins_85 : decode cX8_wins 85 = .ok (.iload_n 1, 1) := by decide +kernel
theorem dX8_wins_86 : decode cX8_wins 86 = .ok (.laload, 1) := by decide +kernel
theorem dX8_wins_87 : decode cX8_wins 87 = .ok (.l2i, 1) := by decide +kernel
theorem dX8_wins_88 : decode cX8_wins 88 = .ok (.ireturn, 1) := by decide +kernel
set_option maxRecDepth 20000 in
theorem ggX8_bombs_X8_isLifter : GoodIn wsX8_bombs wsX8_isLifter := goodIn_r _ [11, 12, 13, 118, 119, 120, 121, 122, 123, 124, 125, 126, 127, 128, 129, 134, 135, 136, 137, 138, 139, 140, 141, 142, 143, 144, 145, 146, 147, 148, 149] (by decide +kernel) (by decide +kernel)
set_option maxRecDepth 20000 in
theorem gX8_bombs_X8_isLifter : GoodIn wsX8_bombs (wsV RX8 97 RX8 yX8_isLifter wsX8_isLifter) := goodIn_app (goodIn_of _ (by decide +kernel)) ggX8_bombs_X8_isLifter
set_option maxRecDepth 20000 in
theorem ggX8_bombs_X0_beReach : GoodIn wsX8_bombs wsX0_beReach := goodIn_r _ [18, 19, 20, 21, 150, 151] (by decide +kernel) (by decide +kernel)
set_option maxRecDepth 20000 in
theorem gX8_bombs_X0_beReach : GoodIn wsX8_bombs (wsV RX8 200 RX0 yX0_beReach wsX0_beReach) := goodIn_app (goodIn_of _ (by decide +kernel)) ggX8_bombs_X0_beReach
set_option maxRecDepth 20000 in
theorem ggX8_bombs_X8_byPlan : GoodIn wsX8_bombs wsX8_byPlan := goodIn_r _ [25, 26, 3, 12, 27, 1, 28, 29, 30, 31, 32, 33, 34, 35, 36, 37, 38, 39, 40, 41, 42, 43, 44, 45, 46, 47, 48, 49, 50, 51, 52, 53, 54, 55, 56, 57, 58, 59, 60, 61, 62, 63, 64, 65, 66, 67, 68, 69, 70, 71, 72, 73, 74, 75, 76, 77, 78, 79, 80, 81, 82, 83, 84, 85, 86, 87, 88, 89, 90, 91, 92, 93, 94, 95, 96, 97, 98, 99, 100, 101, 102, 103, 104, 105, 106, 107, 108, 109, 110, 111, 10, 112, 118, 119, 120, 121, 122, 123, 124, 125, 126, 127, 128, 129, 134, 135, 136, 137, 138, 139, 140, 141, 142, 143, 144, 145, 146, 147, 148, 149, 152, 153, 154, 155, 156, 157, 158, 159, 160, 161, 162, 163, 150, 151, 130, 131, 132, 133] (by decide +kernel) (by decide +kernel)
set_option maxRecDepth 20000 in
theorem gX8_bombs_X8_byPlan : GoodIn wsX8_bombs (wsV RX8 194 RX8 yX8_byPlan wsX8_byPlan) := goodIn_app (goodIn_of _ (by decide +kernel)) ggX8_bombs_X8_byPlan
set_option maxRecDepth 20000 in
theorem ggX8_bombs_X8_allFail : GoodIn wsX8_bombs wsX8_allFail := goodIn_r _ [116, 2, 3, 12, 27, 117, 105, 106, 107, 108, 109, 110, 78, 79, 80, 118, 119, 120, 121, 122, 123, 124, 125, 126, 127, 128, 129, 134, 135, 136, 137, 138, 139, 140, 141, 142, 143, 144, 145, 146, 147, 148, 149, 130, 131, 132, 133] (by decide +kernel) (by decide +kernel)
set_option maxRecDepth 20000 in
theorem gX8_bombs_X8_allFail : GoodIn wsX8_bombs (wsV RX8 214 RX8 yX8_allFail wsX8_allFail) := goodIn_app (goodIn_of _ (by decide +kernel)) ggX8_bombs_X8_allFail
theorem dX8_bombs_0 : decode cX8_bombs 0 = .ok (.aload_n 0, 1) := by decide +kernel
theorem dX8_bombs_1 : decode cX8_bombs 1 = .ok (.iload_n 1, 1) := by decide +kernel
theorem dX8_bombs_2 : decode cX8_bombs 2 = .ok (.invokevirtual 97, 3) := by decide +kernel
theorem dX8_bombs_5 : decode cX8_bombs 5 = .ok (.ifCond .ne 5, 3) := by decide +kernel
theorem dX8_bombs_8 : decode cX8_bombs 8 = .ok (.iconst (-1), 1) := by decide +kernel
theorem dX8_bombs_9 : decode cX8_bombs 9 = .ok (.ireturn, 1) := by decide +kernel
theorem dX8_bombs_10 : decode cX8_bombs 10 = .ok (.aload_n 0, 1) := by decide +kernel
theorem dX8_bombs_11 : decode cX8_bombs 11 = .ok (.getfield 45, 3) := by decide +kernel
theorem dX8_bombs_14 : decode cX8_bombs 14 = .ok (.iconst 1, 1) := by decide +kernel
theorem dX8_bombs_15 : decode cX8_bombs 15 = .ok (.invokevirtual 200, 3) := by decide +kernel
theorem dX8_bombs_18 : decode cX8_bombs 18 = .ok (.ldc 213, 2) := by decide +kernel
theorem dX8_bombs_20 : decode cX8_bombs 20 = .ok (.aload_n 0, 1) := by decide +kernel
theorem dX8_bombs_21 : decode cX8_bombs 21 = .ok (.iload_n 1, 1) := by decide +kernel
theorem dX8_bombs_22 : decode cX8_bombs 22 = .ok (.invokevirtual 194, 3) := by decide +kernel
theorem dX8_bombs_25 : decode cX8_bombs 25 = .ok (.isub, 1) := by decide +kernel
theorem dX8_bombs_26 : decode cX8_bombs 26 = .ok (.istore_n 2, 1) := by decide +kernel
theorem dX8_bombs_27 : decode cX8_bombs 27 = .ok (.aload_n 0, 1) := by decide +kernel
theorem dX8_bombs_28 : decode cX8_bombs 28 = .ok (.getfield 18, 3) := by decide +kernel
theorem dX8_bombs_31 : decode cX8_bombs 31 = .ok (.iload_n 1, 1) := by decide +kernel
theorem dX8_bombs_32 : decode cX8_bombs 32 = .ok (.aaload, 1) := by decide +kernel
theorem dX8_bombs_33 : decode cX8_bombs 33 = .ok (.getfield 107, 3) := by decide +kernel
theorem dX8_bombs_36 : decode cX8_bombs 36 = .ok (.astore_n 3, 1) := by decide +kernel
theorem dX8_bombs_37 : decode cX8_bombs 37 = .ok (.iconst 0, 1) := by decide +kernel
theorem dX8_bombs_38 : decode cX8_bombs 38 = .ok (.istore 4, 2) := by decide +kernel
theorem dX8_bombs_40 : decode cX8_bombs 40 = .ok (.iload 4, 2) := by decide +kernel
theorem dX8_bombs_42 : decode cX8_bombs 42 = .ok (.iconst 3, 1) := by decide +kernel
theorem dX8_bombs_43 : decode cX8_bombs 43 = .ok (.if_icmp .ge 38, 3) := by decide +kernel
theorem dX8_bombs_46 : decode cX8_bombs 46 = .ok (.aload_n 0, 1) := by decide +kernel
theorem dX8_bombs_47 : decode cX8_bombs 47 = .ok (.getfield 61, 3) := by decide +kernel
theorem dX8_bombs_50 : decode cX8_bombs 50 = .ok (.iload 4, 2) := by decide +kernel
theorem dX8_bombs_52 : decode cX8_bombs 52 = .ok (.aload_n 0, 1) := by decide +kernel
theorem dX8_bombs_53 : decode cX8_bombs 53 = .ok (.iload_n 1, 1) := by decide +kernel
theorem dX8_bombs_54 : decode cX8_bombs 54 = .ok (.iload 4, 2) := by decide +kernel
theorem dX8_bombs_56 : decode cX8_bombs 56 = .ok (.aload_n 3, 1) := by decide +kernel
theorem dX8_bombs_57 : decode cX8_bombs 57 = .ok (.iload 4, 2) := by decide +kernel
theorem dX8_bombs_59 : decode cX8_bombs 59 = .ok (.iconst 3, 1) := by decide +kernel
theorem dX8_bombs_60 : decode cX8_bombs 60 = .ok (.imul, 1) := by decide +kernel
theorem dX8_bombs_61 : decode cX8_bombs 61 = .ok (.iaload, 1) := by decide +kernel
theorem dX8_bombs_62 : decode cX8_bombs 62 = .ok (.aload_n 3, 1) := by decide +kernel
theorem dX8_bombs_63 : decode cX8_bombs 63 = .ok (.iload 4, 2) := by decide +kernel
theorem dX8_bombs_65 : decode cX8_bombs 65 = .ok (.iconst 3, 1) := by decide +kernel
theorem dX8_bombs_66 : decode cX8_bombs 66 = .ok (.imul, 1) := by decide +kernel
theorem dX8_bombs_67 : decode cX8_bombs 67 = .ok (.iconst 2, 1) := by decide +kernel
theorem dX8_bombs_68 : decode cX8_bombs 68 = .ok (.iadd, 1) := by decide +kernel
theorem dX8_bombs_69 : decode cX8_bombs 69 = .ok (.iaload, 1) := by decide +kernel
theorem dX8_bombs_70 : decode cX8_bombs 70 = .ok (.invokevirtual 214, 3) := by decide +kernel
theorem dX8_bombs_73 : decode cX8_bombs 73 = .ok (.i2l, 1) := by decide +kernel
theorem dX8_bombs_74 : decode cX8_bombs 74 = .ok (.lastore, 1) := by decide +kernel
theorem dX8_bombs_75 : decode cX8_bombs 75 = .ok (.iinc 4 1, 3) := by decide +kernel
theorem dX8_bombs_78 : decode cX8_bombs 78 = .ok (.goto (-38), 3) := by decide +kernel
theorem dX8_bombs_81 : decode cX8_bombs 81 = .ok (.aload_n 0, 1) := by decide +kernel
theorem dX8_bombs_82 : decode cX8_bombs 82 = .ok (.iconst 3, 1) := by decide +kernel
theorem dX8_bombs_83 : decode cX8_bombs 83 = .ok (.putfield 65, 3) := by decide +kernel
theorem dX8_bombs_86 : decode cX8_bombs 86 = .ok (.iload_n 2, 1) := by decide +kernel
theorem dX8_bombs_87 : decode cX8_bombs 87 = .ok (.ireturn, 1) := by decide +kernel
set_option maxRecDepth 20000 in
theorem ggX8_opener_X8_isLifter : GoodIn wsX8_opener wsX8_isLifter := goodIn_r _ [6, 7, 8, 28, 29, 30, 31, 32, 33, 34, 35, 36, 37, 38, 39, 40, 41, 42, 43, 44, 45, 46, 47, 48, 49, 50, 51, 52, 53, 54, 55] (by decide +kernel) (by decide +kernel)
set_option maxRecDepth 20000 in
theorem gX8_opener_X8_isLifter : GoodIn wsX8_opener (wsV RX8 97 RX8 yX8_isLifter wsX8_isLifter) := goodIn_app (goodIn_of _ (by decide +kernel)) ggX8_opener_X8_isLifter
set_option maxRecDepth 20000 in
theorem ggX8_opener_X8_isLift : GoodIn wsX8_opener wsX8_isLift := goodIn_r _ [11] (by decide +kernel) (by decide +kernel)
set_option maxRecDepth 20000 in
theorem gX8_opener_X8_isLift : GoodIn wsX8_opener (va_wsS RX8 100 yX8_isLift wsX8_isLift) := goodIn_app (goodIn_of _ (by decide +kernel)) ggX8_opener_X8_isLift
set_option maxRecDepth 20000 in
theorem ggX8_opener_X8_allFail : GoodIn wsX8_opener wsX8_allFail := goodIn_r _ [15, 1, 16, 7, 17, 18, 19, 20, 21, 22, 23, 24, 25, 26, 27, 28, 29, 30, 31, 32, 33, 34, 35, 36, 37, 38, 39, 40, 41, 42, 43, 44, 45, 46, 47, 48, 49, 50, 51, 52, 53, 54, 55, 56, 57, 58, 59] (by decide +kernel) (by decide +kernel)
set_option maxRecDepth 20000 in
theorem gX8_opener_X8_allFail : GoodIn wsX8_opener (wsV RX8 214 RX8 yX8_allFail wsX8_allFail) := goodIn_app (goodIn_of _ (by decide +kernel)) ggX8_opener_X8_allFail
theorem dX8_opener_0 : decode cX8_opener 0 = .ok (.aload_n 0, 1) := by decide +kernel
theorem dX8_opener_1 : decode cX8_opener 1 = .ok (.iload_n 1, 1) := by decide +kernel
theorem dX8_opener_2 : decode cX8_opener 2 = .ok (.invokevirtual 97, 3) := by decide +kernel
theorem dX8_opener_5 : decode cX8_opener 5 = .ok (.ifCond .eq 20, 3) := by decide +kernel
theorem dX8_opener_8 : decode cX8_opener 8 = .ok (.iload_n 2, 1) := by decide +kernel
theorem dX8_opener_9 : decode cX8_opener 9 = .ok (.invokestatic 100, 3) := by decide +kernel
theorem dX8_opener_12 : decode cX8_opener 12 = .ok (.ifCond .eq 13, 3) := by decide +kernel
theorem dX8_opener_15 : decode cX8_opener 15 = .ok (.iload_n 3, 1) := by decide +kernel
theorem dX8_opener_16 : decode cX8_opener 16 = .ok (.ifCond .lt 9, 3) := by decide +kernel
theorem dX8_opener_19 : decode cX8_opener 19 = .ok (.iload_n 3, 1) := by decide +kernel
theorem dX8_opener_20 : decode cX8_opener 20 = .ok (.ldc 213, 2) := by decide +kernel
theorem dX8_opener_22 : decode cX8_opener 22 = .ok (.if_icmp .le 5, 3) := by decide +kernel
theorem dX8_opener_25 : decode cX8_opener 25 = .ok (.iconst (-1), 1) := by decide +kernel
theorem dX8_opener_26 : decode cX8_opener 26 = .ok (.ireturn, 1) := by decide +kernel
theorem dX8_opener_27 : decode cX8_opener 27 = .ok (.bipush 40, 2) := by decide +kernel
theorem dX8_opener_29 : decode cX8_opener 29 = .ok (.istore 4, 2) := by decide +kernel
theorem dX8_opener_31 : decode cX8_opener 31 = .ok (.iload 4, 2) := by decide +kernel
theorem dX8_opener_33 : decode cX8_opener 33 = .ok (.iconst 1, 1) := by decide +kernel
theorem dX8_opener_34 : decode cX8_opener 34 = .ok (.if_icmp .lt 25, 3) := by decide +kernel
theorem dX8_opener_37 : decode cX8_opener 37 = .ok (.aload_n 0, 1) := by decide +kernel
theorem dX8_opener_38 : decode cX8_opener 38 = .ok (.iload_n 1, 1) := by decide +kernel
theorem dX8_opener_39 : decode cX8_opener 39 = .ok (.iload_n 2, 1) := by decide +kernel
theorem dX8_opener_40 : decode cX8_opener 40 = .ok (.iload 4, 2) := by decide +kernel
theorem dX8_opener_42 : decode cX8_opener 42 = .ok (.iconst 0, 1) := by decide +kernel
theorem dX8_opener_43 : decode cX8_opener 43 = .ok (.invokevirtual 214, 3) := by decide +kernel
theorem dX8_opener_46 : decode cX8_opener 46 = .ok (.iload_n 3, 1) := by decide +kernel
theorem dX8_opener_47 : decode cX8_opener 47 = .ok (.if_icmp .gt 6, 3) := by decide +kernel
theorem dX8_opener_50 : decode cX8_opener 50 = .ok (.iload 4, 2) := by decide +kernel
theorem dX8_opener_52 : decode cX8_opener 52 = .ok (.ireturn, 1) := by decide +kernel
theorem dX8_opener_53 : decode cX8_opener 53 = .ok (.iinc 4 (-1), 3) := by decide +kernel
theorem dX8_opener_56 : decode cX8_opener 56 = .ok (.goto (-25), 3) := by decide +kernel
theorem dX8_opener_59 : decode cX8_opener 59 = .ok (.bipush (-2), 2) := by decide +kernel
theorem dX8_opener_61 : decode cX8_opener 61 = .ok (.ireturn, 1) := by decide +kernel
set_option maxRecDepth 20000 in
theorem ggX8_heavy_X8_isLifter : GoodIn wsX8_heavy wsX8_isLifter := goodIn_r _ [6, 7, 8, 219, 220, 221, 222, 223, 224, 225, 226, 227, 228, 229, 230, 231, 232, 233, 234, 235, 236, 237, 238, 239, 240, 241, 242, 243, 244, 245, 246] (by decide +kernel) (by decide +kernel)
set_option maxRecDepth 20000 in
theorem gX8_heavy_X8_isLifter : GoodIn wsX8_heavy (wsV RX8 97 RX8 yX8_isLifter wsX8_isLifter) := goodIn_app (goodIn_of _ (by decide +kernel)) ggX8_heavy_X8_isLifter
set_option maxRecDepth 20000 in
theorem ggX8_heavy_X0_beMass : GoodIn wsX8_heavy wsX0_beMass := goodIn_r _ [13, 14, 15, 247, 248] (by decide +kernel) (by decide +kernel)
set_option maxRecDepth 20000 in
theorem gX8_heavy_X0_beMass : GoodIn wsX8_heavy (wsV RX8 191 RX0 yX0_beMass wsX0_beMass) := goodIn_app (goodIn_of _ (by decide +kernel)) ggX8_heavy_X0_beMass
set_option maxRecDepth 20000 in
theorem ggX8_heavy_X8_byChoice : GoodIn wsX8_heavy wsX8_byChoice := goodIn_r _ [19, 20, 7, 21, 22, 23, 24, 5, 25, 26, 27, 28, 29, 1, 30, 31, 32, 33, 34, 35, 36, 37, 38, 39, 40, 41, 42, 43, 44, 45, 46, 47, 48, 49, 50, 51, 52, 53, 12, 54, 55, 56, 57, 58, 14, 59, 15, 60, 61, 62, 63, 64, 65, 66, 67, 68, 69, 70, 71, 72, 73, 74, 75, 76, 77, 78, 79, 80, 81, 82, 83, 84, 85, 86, 87, 88, 89, 90, 91, 92, 93, 94, 95, 96, 97, 98, 99, 100, 101, 102, 103, 104, 105, 106, 107, 108, 109, 110, 111, 112, 113, 114, 115, 116, 117, 118, 119, 120, 121, 122, 123, 124, 125, 126, 127, 128, 129, 130, 131, 132, 133, 134, 135, 136, 137, 138, 139, 140, 141, 142, 143, 144, 145, 146, 147, 148, 149, 150, 151, 152, 153, 154, 155, 156, 157, 158, 159, 160, 161, 162, 163, 164, 165, 166, 167, 168, 169, 170, 171, 172, 173, 174, 175, 176, 177, 178, 179, 180, 181, 182, 183, 184, 185, 186, 187, 188, 189, 190, 191, 192, 193, 194, 195, 196, 197, 198, 199, 200, 201, 202, 203, 204, 205, 206, 207, 208, 209, 210, 211, 212, 213, 214, 215, 216, 217, 218, 219, 220, 221, 222, 223, 224, 225, 226, 227, 228, 229, 230, 249, 250, 251, 252, 253, 254, 255, 256, 257, 258, 259, 260, 231, 232, 233, 234, 235, 236, 237, 238, 239, 240, 241, 242, 243, 244, 245, 246, 247, 248, 261, 262, 263, 264, 265, 266, 267, 268, 269, 270, 271, 272, 273, 274, 275, 276] (by decide +kernel) (by decide +kernel)
set_option maxRecDepth 20000 in
theorem gX8_heavy_X8_byChoice : GoodIn wsX8_heavy (wsV RX8 218 RX8 yX8_byChoice wsX8_byChoice) := goodIn_app (goodIn_of _ (by decide +kernel)) ggX8_heavy_X8_byChoice
theorem dX8_heavy_0 : decode cX8_heavy 0 = .ok (.aload_n 0, 1) := by decide +kernel
theorem dX8_heavy_1 : decode cX8_heavy 1 = .ok (.iload_n 1, 1) := by decide +kernel
theorem dX8_heavy_2 : decode cX8_heavy 2 = .ok (.invokevirtual 97, 3) := by decide +kernel
theorem dX8_heavy_5 : decode cX8_heavy 5 = .ok (.ifCond .ne 5, 3) := by decide +kernel
theorem dX8_heavy_8 : decode cX8_heavy 8 = .ok (.iconst (-1), 1) := by decide +kernel
theorem dX8_heavy_9 : decode cX8_heavy 9 = .ok (.ireturn, 1) := by decide +kernel
theorem dX8_heavy_10 : decode cX8_heavy 10 = .ok (.aload_n 0, 1) := by decide +kernel
theorem dX8_heavy_11 : decode cX8_heavy 11 = .ok (.getfield 45, 3) := by decide +kernel
theorem dX8_heavy_14 : decode cX8_heavy 14 = .ok (.invokevirtual 191, 3) := by decide +kernel
theorem dX8_heavy_17 : decode cX8_heavy 17 = .ok (.aload_n 0, 1) := by decide +kernel
theorem dX8_heavy_18 : decode cX8_heavy 18 = .ok (.iload_n 1, 1) := by decide +kernel
theorem dX8_heavy_19 : decode cX8_heavy 19 = .ok (.invokevirtual 218, 3) := by decide +kernel
theorem dX8_heavy_22 : decode cX8_heavy 22 = .ok (.ireturn, 1) := by decide +kernel
set_option maxRecDepth 20000 in
theorem ggX8_reach_X8_isLifter : GoodIn wsX8_reach wsX8_isLifter := goodIn_r _ [6, 7, 8, 219, 220, 221, 222, 223, 224, 225, 226, 227, 228, 229, 230, 231, 232, 233, 234, 235, 236, 237, 238, 239, 240, 241, 242, 243, 244, 245, 246] (by decide +kernel) (by decide +kernel)
set_option maxRecDepth 20000 in
theorem gX8_reach_X8_isLifter : GoodIn wsX8_reach (wsV RX8 97 RX8 yX8_isLifter wsX8_isLifter) := goodIn_app (goodIn_of _ (by decide +kernel)) ggX8_reach_X8_isLifter
set_option maxRecDepth 20000 in
theorem ggX8_reach_X8_isAimed : GoodIn wsX8_reach wsX8_isAimed := goodIn_r _ [11] (by decide +kernel) (by decide +kernel)
set_option maxRecDepth 20000 in
theorem gX8_reach_X8_isAimed : GoodIn wsX8_reach (va_wsS RX8 197 yX8_isAimed wsX8_isAimed) := goodIn_app (goodIn_of _ (by decide +kernel)) ggX8_reach_X8_isAimed
set_option maxRecDepth 20000 in
theorem ggX8_reach_X0_beReach : GoodIn wsX8_reach wsX0_beReach := goodIn_r _ [16, 17, 18, 19, 247, 248] (by decide +kernel) (by decide +kernel)
set_option maxRecDepth 20000 in
theorem gX8_reach_X0_beReach : GoodIn wsX8_reach (wsV RX8 200 RX0 yX0_beReach wsX0_beReach) := goodIn_app (goodIn_of _ (by decide +kernel)) ggX8_reach_X0_beReach
set_option maxRecDepth 20000 in
theorem ggX8_reach_X8_byChoice : GoodIn wsX8_reach wsX8_byChoice := goodIn_r _ [23, 24, 7, 25, 26, 27, 28, 5, 29, 30, 31, 32, 33, 1, 34, 35, 36, 37, 38, 39, 40, 41, 42, 43, 44, 45, 46, 47, 48, 49, 50, 51, 52, 53, 54, 55, 56, 57, 15, 58, 59, 13, 14, 16, 17, 18, 19, 60, 61, 62, 63, 64, 65, 66, 67, 68, 69, 70, 71, 72, 73, 74, 75, 76, 77, 78, 79, 80, 81, 82, 83, 84, 85, 86, 87, 88, 89, 90, 91, 92, 93, 94, 95, 96, 97, 98, 99, 100, 101, 102, 103, 104, 105, 106, 107, 108, 109, 110, 111, 112, 113, 114, 115, 116, 117, 118, 119, 120, 121, 122, 123, 124, 125, 126, 127, 128, 129, 130, 131, 132, 133, 134, 135, 136, 137, 138, 139, 140, 141, 142, 143, 144, 145, 146, 147, 148, 149, 150, 151, 152, 153, 154, 155, 156, 157, 158, 159, 160, 161, 162, 163, 164, 165, 166, 167, 168, 169, 170, 171, 172, 173, 174, 175, 176, 177, 178, 179, 180, 181, 182, 183, 184, 185, 186, 187, 188, 189, 190, 191, 192, 193, 194, 195, 196, 197, 198, 199, 200, 201, 202, 203, 204, 205, 206, 207, 208, 209, 210, 211, 212, 213, 214, 215, 216, 217, 218, 219, 220, 221, 222, 223, 224, 225, 226, 227, 228, 229, 230, 249, 250, 251, 252, 253, 254, 255, 256, 257, 258, 259, 260, 231, 232, 233, 234, 235, 236, 237, 238, 239, 240, 241, 242, 243, 244, 245, 246, 247, 248, 261, 262, 263, 264, 265, 266, 267, 268, 269, 270, 271, 272, 273, 274, 275, 276] (by decide +kernel) (by decide +kernel)
set_option maxRecDepth 20000 in
theorem gX8_reach_X8_byChoice : GoodIn wsX8_reach (wsV RX8 218 RX8 yX8_byChoice wsX8_byChoice) := goodIn_app (goodIn_of _ (by decide +kernel)) ggX8_reach_X8_byChoice
theorem dX8_reach_0 : decode cX8_reach 0 = .ok (.aload_n 0, 1) := by decide +kernel
theorem dX8_reach_1 : decode cX8_reach 1 = .ok (.iload_n 1, 1) := by decide +kernel
theorem dX8_reach_2 : decode cX8_reach 2 = .ok (.invokevirtual 97, 3) := by decide +kernel
theorem dX8_reach_5 : decode cX8_reach 5 = .ok (.ifCond .eq 10, 3) := by decide +kernel
theorem dX8_reach_8 : decode cX8_reach 8 = .ok (.iload_n 2, 1) := by decide +kernel
theorem dX8_reach_9 : decode cX8_reach 9 = .ok (.invokestatic 197, 3) := by decide +kernel
theorem dX8_reach_12 : decode cX8_reach 12 = .ok (.ifCond .ne 5, 3) := by decide +kernel
theorem dX8_reach_15 : decode cX8_reach 15 = .ok (.iconst (-1), 1) := by decide +kernel
theorem dX8_reach_16 : decode cX8_reach 16 = .ok (.ireturn, 1) := by decide +kernel
theorem dX8_reach_17 : decode cX8_reach 17 = .ok (.aload_n 0, 1) := by decide +kernel
theorem dX8_reach_18 : decode cX8_reach 18 = .ok (.getfield 45, 3) := by decide +kernel
theorem dX8_reach_21 : decode cX8_reach 21 = .ok (.iload_n 2, 1) := by decide +kernel
theorem dX8_reach_22 : decode cX8_reach 22 = .ok (.invokevirtual 200, 3) := by decide +kernel
theorem dX8_reach_25 : decode cX8_reach 25 = .ok (.aload_n 0, 1) := by decide +kernel
theorem dX8_reach_26 : decode cX8_reach 26 = .ok (.iload_n 1, 1) := by decide +kernel
theorem dX8_reach_27 : decode cX8_reach 27 = .ok (.invokevirtual 218, 3) := by decide +kernel
theorem dX8_reach_30 : decode cX8_reach 30 = .ok (.ireturn, 1) := by decide +kernel
set_option maxRecDepth 20000 in
theorem ggX8_aim_X8_isLifter : GoodIn wsX8_aim wsX8_isLifter := goodIn_r _ [11, 3, 12, 164, 165, 166, 167, 168, 169, 170, 171, 172, 173, 174, 175, 184, 185, 186, 187, 188, 189, 190, 191, 192, 193, 194, 195, 196, 197, 198, 199] (by decide +kernel) (by decide +kernel)
set_option maxRecDepth 20000 in
theorem gX8_aim_X8_isLifter : GoodIn wsX8_aim (wsV RX8 97 RX8 yX8_isLifter wsX8_isLifter) := goodIn_app (goodIn_of _ (by decide +kernel)) ggX8_aim_X8_isLifter
set_option maxRecDepth 20000 in
theorem ggX8_aim_X8_thinkFreely : GoodIn wsX8_aim wsX8_thinkFreely := goodIn_r _ [16, 17, 18, 19, 20, 21, 22, 3, 23, 24, 25, 26, 27, 28, 29, 30, 31, 32, 33, 34, 35, 36, 37, 38, 39, 40, 41, 42, 43, 44, 45, 46, 47, 48, 49, 50, 51, 52, 53, 54, 55, 56, 57, 58, 59, 60, 61, 62, 63, 64, 65, 66, 67, 68, 69, 70, 71, 72, 73, 74, 75, 76, 77, 78, 164, 165, 166, 167, 168, 169, 170, 171, 172, 173, 174, 175, 200, 201, 202, 203, 204, 205, 206, 207, 208, 209, 210, 211, 184, 185, 186, 187, 188, 189, 190, 191, 192, 193, 194, 195, 196, 197, 198, 199, 212, 213, 214, 215, 216, 217] (by decide +kernel) (by decide +kernel)
set_option maxRecDepth 20000 in
theorem gX8_aim_X8_thinkFreely : GoodIn wsX8_aim (wsV RX8 221 RX8 yX8_thinkFreely wsX8_thinkFreely) := goodIn_app (goodIn_of _ (by decide +kernel)) ggX8_aim_X8_thinkFreely
set_option maxRecDepth 20000 in
theorem ggX8_aim_X5_look : GoodIn wsX8_aim wsX5_look := goodIn_r _ [83, 84, 85, 86, 87, 88, 89, 90, 91, 92, 93, 94, 95, 96, 97, 98, 99, 100, 101, 102, 103, 104, 105, 106, 107, 108, 109, 110, 111, 112, 113, 114, 72, 73, 74, 184, 185, 186, 187, 188, 189, 190, 191, 192, 193, 194, 195, 196, 197, 198, 199, 176, 177, 178, 179, 180, 181, 182, 183] (by decide +kernel) (by decide +kernel)
set_option maxRecDepth 20000 in
theorem gX8_aim_X5_look : GoodIn wsX8_aim (wsV RX8 225 RX5 yX5_look wsX5_look) := goodIn_app (goodIn_of _ (by decide +kernel)) ggX8_aim_X5_look
set_option maxRecDepth 20000 in
theorem ggX8_aim_X2_valueFrom : GoodIn wsX8_aim wsX2_valueFrom := goodIn_r _ [118, 29, 119, 30, 120, 121, 122, 123, 124, 125, 126, 127, 128, 20, 129, 35, 130, 131, 132, 133, 134, 135, 136, 34, 36, 137, 72, 73, 74, 138, 139, 140, 141, 37, 142, 143, 144, 145, 33, 41, 42, 38, 39, 40, 146, 10, 147, 148, 149, 150, 151, 152, 153, 154, 155, 156, 157, 158, 159, 160, 161, 162, 82, 163, 85, 87, 98, 95, 200, 201, 202, 203, 204, 205, 206, 207, 208, 209, 210, 211, 176, 177, 178, 179, 180, 181, 182, 183] (by decide +kernel) (by decide +kernel)
set_option maxRecDepth 20000 in
theorem gX8_aim_X2_valueFrom : GoodIn wsX8_aim (wsV RX8 232 RX2 yX2_valueFrom wsX2_valueFrom) := goodIn_app (goodIn_of _ (by decide +kernel)) ggX8_aim_X2_valueFrom
theorem dX8_aim_0 : decode cX8_aim 0 = .ok (.aload_n 0, 1) := by decide +kernel
theorem dX8_aim_1 : decode cX8_aim 1 = .ok (.iload_n 1, 1) := by decide +kernel
theorem dX8_aim_2 : decode cX8_aim 2 = .ok (.invokevirtual 97, 3) := by decide +kernel
theorem dX8_aim_5 : decode cX8_aim 5 = .ok (.ifCond .eq 14, 3) := by decide +kernel
theorem dX8_aim_8 : decode cX8_aim 8 = .ok (.iload_n 2, 1) := by decide +kernel
theorem dX8_aim_9 : decode cX8_aim 9 = .ok (.iconst 1, 1) := by decide +kernel
theorem dX8_aim_10 : decode cX8_aim 10 = .ok (.if_icmp .lt 9, 3) := by decide +kernel
theorem dX8_aim_13 : decode cX8_aim 13 = .ok (.iload_n 2, 1) := by decide +kernel
theorem dX8_aim_14 : decode cX8_aim 14 = .ok (.ldc 213, 2) := by decide +kernel
theorem dX8_aim_16 : decode cX8_aim 16 = .ok (.if_icmp .le 5, 3) := by decide +kernel
theorem dX8_aim_19 : decode cX8_aim 19 = .ok (.iconst (-1), 1) := by decide +kernel
theorem dX8_aim_20 : decode cX8_aim 20 = .ok (.ireturn, 1) := by decide +kernel
theorem dX8_aim_21 : decode cX8_aim 21 = .ok (.aload_n 0, 1) := by decide +kernel
theorem dX8_aim_22 : decode cX8_aim 22 = .ok (.iload_n 1, 1) := by decide +kernel
theorem dX8_aim_23 : decode cX8_aim 23 = .ok (.iconst 1, 1) := by decide +kernel
theorem dX8_aim_24 : decode cX8_aim 24 = .ok (.invokevirtual 221, 3) := by decide +kernel
theorem dX8_aim_27 : decode cX8_aim 27 = .ok (.astore_n 3, 1) := by decide +kernel
theorem dX8_aim_28 : decode cX8_aim 28 = .ok (.iconst 0, 1) := by decide +kernel
theorem dX8_aim_29 : decode cX8_aim 29 = .ok (.istore 4, 2) := by decide +kernel
theorem dX8_aim_31 : decode cX8_aim 31 = .ok (.ldc 213, 2) := by decide +kernel
theorem dX8_aim_33 : decode cX8_aim 33 = .ok (.istore 5, 2) := by decide +kernel
theorem dX8_aim_35 : decode cX8_aim 35 = .ok (.bipush 64, 2) := by decide +kernel
theorem dX8_aim_37 : decode cX8_aim 37 = .ok (.istore 6, 2) := by decide +kernel
theorem dX8_aim_39 : decode cX8_aim 39 = .ok (.iload 6, 2) := by decide +kernel
theorem dX8_aim_41 : decode cX8_aim 41 = .ok (.ifCond .le 79, 3) := by decide +kernel
theorem dX8_aim_44 : decode cX8_aim 44 = .ok (.iload 4, 2) := by decide +kernel
theorem dX8_aim_46 : decode cX8_aim 46 = .ok (.iload 6, 2) := by decide +kernel
theorem dX8_aim_48 : decode cX8_aim 48 = .ok (.iadd, 1) := by decide +kernel
theorem dX8_aim_49 : decode cX8_aim 49 = .ok (.istore 7, 2) := by decide +kernel
theorem dX8_aim_51 : decode cX8_aim 51 = .ok (.iload 7, 2) := by decide +kernel
theorem dX8_aim_53 : decode cX8_aim 53 = .ok (.bipush 120, 2) := by decide +kernel
theorem dX8_aim_55 : decode cX8_aim 55 = .ok (.if_icmp .gt 56, 3) := by decide +kernel
theorem dX8_aim_58 : decode cX8_aim 58 = .ok (.aload_n 0, 1) := by decide +kernel
theorem dX8_aim_59 : decode cX8_aim 59 = .ok (.getfield 38, 3) := by decide +kernel
theorem dX8_aim_62 : decode cX8_aim 62 = .ok (.aload_n 0, 1) := by decide +kernel
theorem dX8_aim_63 : decode cX8_aim 63 = .ok (.getfield 28, 3) := by decide +kernel
theorem dX8_aim_66 : decode cX8_aim 66 = .ok (.iload_n 1, 1) := by decide +kernel
theorem dX8_aim_67 : decode cX8_aim 67 = .ok (.invokevirtual 225, 3) := by decide +kernel
theorem dX8_aim_70 : decode cX8_aim 70 = .ok (.aload_n 0, 1) := by decide +kernel
theorem dX8_aim_71 : decode cX8_aim 71 = .ok (.getfield 38, 3) := by decide +kernel
theorem dX8_aim_74 : decode cX8_aim 74 = .ok (.dup, 1) := by decide +kernel
theorem dX8_aim_75 : decode cX8_aim 75 = .ok (.getfield 229, 3) := by decide +kernel
theorem dX8_aim_78 : decode cX8_aim 78 = .ok (.bipush 121, 2) := by decide +kernel
theorem dX8_aim_80 : decode cX8_aim 80 = .ok (.iload 7, 2) := by decide +kernel
theorem dX8_aim_82 : decode cX8_aim 82 = .ok (.isub, 1) := by decide +kernel
theorem dX8_aim_83 : decode cX8_aim 83 = .ok (.iadd, 1) := by decide +kernel
theorem dX8_aim_84 : decode cX8_aim 84 = .ok (.putfield 229, 3) := by decide +kernel
theorem dX8_aim_87 : decode cX8_aim 87 = .ok (.aload_n 3, 1) := by decide +kernel
theorem dX8_aim_88 : decode cX8_aim 88 = .ok (.aload_n 0, 1) := by decide +kernel
theorem dX8_aim_89 : decode cX8_aim 89 = .ok (.getfield 38, 3) := by decide +kernel
theorem dX8_aim_92 : decode cX8_aim 92 = .ok (.invokevirtual 232, 3) := by decide +kernel
theorem dX8_aim_95 : decode cX8_aim 95 = .ok (.istore 8, 2) := by decide +kernel
theorem dX8_aim_97 : decode cX8_aim 97 = .ok (.iload 8, 2) := by decide +kernel
theorem dX8_aim_99 : decode cX8_aim 99 = .ok (.iload_n 2, 1) := by decide +kernel
theorem dX8_aim_100 : decode cX8_aim 100 = .ok (.if_icmp .lt 11, 3) := by decide +kernel
theorem dX8_aim_103 : decode cX8_aim 103 = .ok (.iload 7, 2) := by decide +kernel
theorem dX8_aim_105 : decode cX8_aim 105 = .ok (.istore 4, 2) := by decide +kernel
theorem dX8_aim_107 : decode cX8_aim 107 = .ok (.iload 8, 2) := by decide +kernel
theorem dX8_aim_109 : decode cX8_aim 109 = .ok (.istore 5, 2) := by decide +kernel
theorem dX8_aim_111 : decode cX8_aim 111 = .ok (.iload 6, 2) := by decide +kernel
theorem dX8_aim_113 : decode cX8_aim 113 = .ok (.iconst 2, 1) := by decide +kernel
theorem dX8_aim_114 : decode cX8_aim 114 = .ok (.idiv, 1) := by decide +kernel
theorem dX8_aim_115 : decode cX8_aim 115 = .ok (.istore 6, 2) := by decide +kernel
theorem dX8_aim_117 : decode cX8_aim 117 = .ok (.goto (-78), 3) := by decide +kernel
theorem dX8_aim_120 : decode cX8_aim 120 = .ok (.aload_n 0, 1) := by decide +kernel
theorem dX8_aim_121 : decode cX8_aim 121 = .ok (.getfield 61, 3) := by decide +kernel
theorem dX8_aim_124 : decode cX8_aim 124 = .ok (.iconst 0, 1) := by decide +kernel
theorem dX8_aim_125 : decode cX8_aim 125 = .ok (.iload 5, 2) := by decide +kernel
theorem dX8_aim_127 : decode cX8_aim 127 = .ok (.i2l, 1) := by decide +kernel
theorem dX8_aim_128 : decode cX8_aim 128 = .ok (.lastore, 1) := by decide +kernel
theorem dX8_aim_129 : decode cX8_aim 129 = .ok (.aload_n 0, 1) := by decide +kernel
theorem dX8_aim_130 : decode cX8_aim 130 = .ok (.iconst 1, 1) := by decide +kernel
theorem dX8_aim_131 : decode cX8_aim 131 = .ok (.putfield 65, 3) := by decide +kernel
theorem dX8_aim_134 : decode cX8_aim 134 = .ok (.iload 4, 2) := by decide +kernel
theorem dX8_aim_136 : decode cX8_aim 136 = .ok (.ireturn, 1) := by decide +kernel
set_option maxRecDepth 20000 in
theorem ggX8_against_X8_isLifter : GoodIn wsX8_against wsX8_isLifter := goodIn_r _ [5, 6, 7, 242, 243, 244, 245, 246, 247, 248, 249, 250, 251, 252, 253, 254, 255, 256, 257, 258, 259, 260, 261, 262, 263, 264, 265, 266, 267, 268, 269] (by decide +kernel) (by decide +kernel)
set_option maxRecDepth 20000 in
theorem gX8_against_X8_isLifter : GoodIn wsX8_against (wsV RX8 97 RX8 yX8_isLifter wsX8_isLifter) := goodIn_app (goodIn_of _ (by decide +kernel)) ggX8_against_X8_isLifter
set_option maxRecDepth 20000 in
theorem ggX8_against_X8_aimToBeat : GoodIn wsX8_against wsX8_aimToBeat := goodIn_r _ [11, 12, 13, 14, 15, 16, 17, 4, 18, 19, 6, 20, 21, 22, 23, 24, 25, 26, 27, 28, 29, 30, 31, 32, 33, 34, 35, 36, 37, 38, 39, 40, 41, 42, 43, 44, 45, 46, 47, 48, 49, 50, 51, 52, 53, 54, 55, 56, 57, 58, 59, 60, 61, 62, 63, 64, 65, 66, 67, 68, 69, 70, 71, 72, 73, 74, 75, 76, 77, 78, 79, 80, 81, 82, 83, 84, 85, 86, 87, 88, 89, 90, 91, 92, 93, 94, 95, 96, 97, 98, 99, 100, 101, 102, 103, 104, 105, 106, 107, 108, 109, 110, 111, 112, 113, 114, 115, 116, 117, 118, 119, 120, 121, 122, 123, 124, 125, 126, 127, 128, 129, 130, 131, 132, 133, 134, 135, 242, 243, 244, 245, 246, 247, 248, 249, 250, 251, 252, 253, 254, 255, 256, 257, 258, 259, 260, 261, 262, 263, 264, 265, 266, 267, 268, 269, 270, 271, 272, 273, 274, 275, 276, 277, 278, 279, 280, 281, 282, 283, 284, 285, 286, 287] (by decide +kernel) (by decide +kernel)
set_option maxRecDepth 20000 in
theorem gX8_against_X8_aimToBeat : GoodIn wsX8_against (wsV RX8 207 RX8 yX8_aimToBeat wsX8_aimToBeat) := goodIn_app (goodIn_of _ (by decide +kernel)) ggX8_against_X8_aimToBeat
set_option maxRecDepth 20000 in
theorem ggX8_against_X8_byChoice : GoodIn wsX8_against wsX8_byChoice := goodIn_r _ [139, 21, 6, 140, 141, 142, 143, 4, 144, 145, 146, 147, 148, 12, 13, 20, 149, 150, 151, 152, 153, 154, 155, 156, 157, 158, 159, 160, 161, 162, 163, 164, 165, 166, 167, 24, 25, 26, 27, 28, 29, 30, 31, 32, 33, 34, 35, 168, 169, 170, 171, 172, 173, 174, 175, 176, 177, 178, 112, 113, 114, 115, 116, 117, 85, 86, 87, 179, 46, 47, 48, 49, 50, 51, 52, 53, 54, 55, 56, 57, 58, 59, 60, 61, 62, 63, 64, 65, 66, 67, 68, 69, 70, 71, 72, 73, 74, 75, 76, 77, 78, 79, 80, 81, 82, 83, 84, 180, 181, 182, 183, 184, 185, 186, 187, 188, 189, 190, 191, 192, 193, 194, 195, 196, 197, 198, 199, 200, 201, 202, 203, 204, 205, 206, 207, 208, 209, 210, 211, 212, 213, 214, 215, 216, 217, 218, 118, 119, 219, 220, 221, 222, 223, 224, 225, 226, 227, 228, 229, 230, 231, 232, 233, 234, 235, 19, 36, 37, 38, 39, 40, 41, 42, 43, 44, 45, 88, 89, 90, 91, 92, 93, 94, 95, 96, 97, 98, 99, 100, 101, 102, 103, 104, 105, 106, 107, 108, 109, 110, 111, 236, 237, 238, 239, 240, 241, 242, 243, 244, 245, 246, 247, 248, 249, 250, 251, 252, 253, 288, 289, 290, 291, 292, 293, 294, 295, 296, 297, 298, 299, 254, 255, 256, 257, 258, 259, 260, 261, 262, 263, 264, 265, 266, 267, 268, 269, 278, 279, 284, 285, 286, 287, 270, 271, 272, 273, 274, 275, 276, 277, 280, 281, 282, 283] (by decide +kernel) (by decide +kernel)
set_option maxRecDepth 20000 in
theorem gX8_against_X8_byChoice : GoodIn wsX8_against (wsV RX8 218 RX8 yX8_byChoice wsX8_byChoice) := goodIn_app (goodIn_of _ (by decide +kernel)) ggX8_against_X8_byChoice
theorem dX8_against_0 : decode cX8_against 0 = .ok (.aload_n 0, 1) := by decide +kernel
theorem dX8_against_1 : decode cX8_against 1 = .ok (.iload_n 1, 1) := by decide +kernel
theorem dX8_against_2 : decode cX8_against 2 = .ok (.invokevirtual 97, 3) := by decide +kernel
theorem dX8_against_5 : decode cX8_against 5 = .ok (.ifCond .eq 16, 3) := by decide +kernel
theorem dX8_against_8 : decode cX8_against 8 = .ok (.aload_n 0, 1) := by decide +kernel
theorem dX8_against_9 : decode cX8_against 9 = .ok (.iload_n 2, 1) := by decide +kernel
theorem dX8_against_10 : decode cX8_against 10 = .ok (.invokevirtual 97, 3) := by decide +kernel
theorem dX8_against_13 : decode cX8_against 13 = .ok (.ifCond .eq 8, 3) := by decide +kernel
theorem dX8_against_16 : decode cX8_against 16 = .ok (.iload_n 1, 1) := by decide +kernel
theorem dX8_against_17 : decode cX8_against 17 = .ok (.iload_n 2, 1) := by decide +kernel
theorem dX8_against_18 : decode cX8_against 18 = .ok (.if_icmp .ne 5, 3) := by decide +kernel
theorem dX8_against_21 : decode cX8_against 21 = .ok (.iconst (-1), 1) := by decide +kernel
theorem dX8_against_22 : decode cX8_against 22 = .ok (.ireturn, 1) := by decide +kernel
theorem dX8_against_23 : decode cX8_against 23 = .ok (.aload_n 0, 1) := by decide +kernel
theorem dX8_against_24 : decode cX8_against 24 = .ok (.iload_n 1, 1) := by decide +kernel
theorem dX8_against_25 : decode cX8_against 25 = .ok (.iload_n 2, 1) := by decide +kernel
theorem dX8_against_26 : decode cX8_against 26 = .ok (.invokevirtual 207, 3) := by decide +kernel
theorem dX8_against_29 : decode cX8_against 29 = .ok (.aload_n 0, 1) := by decide +kernel
theorem dX8_against_30 : decode cX8_against 30 = .ok (.iload_n 1, 1) := by decide +kernel
theorem dX8_against_31 : decode cX8_against 31 = .ok (.invokevirtual 218, 3) := by decide +kernel
theorem dX8_against_34 : decode cX8_against 34 = .ok (.ireturn, 1) := by decide +kernel
set_option maxRecDepth 20000 in
theorem ggX8_gold_X8_isLifter : GoodIn wsX8_gold wsX8_isLifter := goodIn_r _ [5, 6, 7, 246, 247, 248, 249, 250, 251, 252, 253, 254, 255, 256, 257, 258, 259, 260, 261, 262, 263, 264, 265, 266, 267, 268, 269, 270, 271, 272, 273] (by decide +kernel) (by decide +kernel)
set_option maxRecDepth 20000 in
theorem gX8_gold_X8_isLifter : GoodIn wsX8_gold (wsV RX8 97 RX8 yX8_isLifter wsX8_isLifter) := goodIn_app (goodIn_of _ (by decide +kernel)) ggX8_gold_X8_isLifter
set_option maxRecDepth 20000 in
theorem ggX8_gold_X8_aimToWin : GoodIn wsX8_gold wsX8_aimToWin := goodIn_r _ [11, 6, 7, 12, 13, 14, 4, 15, 16, 17, 18, 19, 20, 21, 22, 23, 24, 25, 26, 27, 28, 29, 30, 31, 32, 33, 34, 35, 36, 37, 38, 39, 40, 41, 42, 43, 44, 45, 46, 47, 48, 49, 50, 51, 52, 53, 54, 55, 56, 57, 58, 59, 60, 61, 62, 63, 64, 65, 66, 67, 68, 69, 70, 71, 72, 73, 74, 75, 76, 77, 78, 79, 80, 81, 82, 83, 84, 85, 86, 87, 88, 89, 90, 91, 92, 93, 94, 95, 96, 97, 98, 99, 100, 101, 102, 103, 104, 105, 106, 107, 108, 109, 110, 111, 112, 113, 114, 115, 116, 117, 118, 119, 120, 121, 122, 123, 124, 125, 126, 127, 128, 129, 130, 131, 132, 133, 134, 135, 136, 137, 138, 139, 246, 247, 248, 249, 250, 251, 252, 253, 254, 255, 256, 257, 258, 259, 260, 261, 262, 263, 264, 265, 266, 267, 268, 269, 270, 271, 272, 273, 274, 275, 276, 277, 278, 279, 280, 281, 282, 283, 284, 285, 286, 287, 288, 289, 290, 291] (by decide +kernel) (by decide +kernel)
set_option maxRecDepth 20000 in
theorem gX8_gold_X8_aimToWin : GoodIn wsX8_gold (wsV RX8 238 RX8 yX8_aimToWin wsX8_aimToWin) := goodIn_app (goodIn_of _ (by decide +kernel)) ggX8_gold_X8_aimToWin
set_option maxRecDepth 20000 in
theorem ggX8_gold_X8_byChoice : GoodIn wsX8_gold wsX8_byChoice := goodIn_r _ [143, 20, 6, 144, 145, 146, 147, 4, 148, 149, 150, 151, 152, 16, 18, 19, 153, 154, 155, 156, 157, 158, 159, 160, 161, 162, 163, 164, 165, 166, 167, 168, 169, 170, 171, 24, 25, 26, 27, 28, 29, 30, 31, 32, 33, 34, 35, 172, 173, 174, 175, 176, 177, 178, 179, 180, 181, 182, 112, 113, 114, 115, 116, 117, 85, 86, 87, 183, 46, 47, 48, 49, 50, 51, 52, 53, 54, 55, 56, 57, 58, 59, 60, 61, 62, 63, 64, 65, 66, 67, 68, 69, 70, 71, 72, 73, 74, 75, 76, 77, 78, 79, 80, 81, 82, 83, 84, 184, 185, 186, 187, 188, 189, 190, 191, 192, 193, 194, 195, 196, 197, 198, 199, 200, 201, 202, 203, 204, 205, 206, 207, 208, 209, 210, 211, 212, 213, 214, 215, 216, 217, 218, 219, 220, 221, 222, 118, 119, 223, 224, 225, 226, 227, 228, 229, 230, 231, 232, 233, 234, 235, 236, 237, 238, 239, 17, 36, 37, 38, 39, 40, 41, 42, 43, 44, 45, 88, 89, 90, 91, 92, 93, 94, 95, 96, 97, 98, 99, 100, 101, 102, 103, 104, 105, 106, 107, 108, 109, 110, 111, 240, 241, 242, 243, 244, 245, 246, 247, 248, 249, 250, 251, 252, 253, 254, 255, 256, 257, 292, 293, 294, 295, 296, 297, 298, 299, 300, 301, 302, 303, 258, 259, 260, 261, 262, 263, 264, 265, 266, 267, 268, 269, 270, 271, 272, 273, 282, 283, 288, 289, 290, 291, 274, 275, 276, 277, 278, 279, 280, 281, 284, 285, 286, 287] (by decide +kernel) (by decide +kernel)
set_option maxRecDepth 20000 in
theorem gX8_gold_X8_byChoice : GoodIn wsX8_gold (wsV RX8 218 RX8 yX8_byChoice wsX8_byChoice) := goodIn_app (goodIn_of _ (by decide +kernel)) ggX8_gold_X8_byChoice
theorem dX8_gold_0 : decode cX8_gold 0 = .ok (.aload_n 0, 1) := by decide +kernel
theorem dX8_gold_1 : decode cX8_gold 1 = .ok (.iload_n 1, 1) := by decide +kernel
theorem dX8_gold_2 : decode cX8_gold 2 = .ok (.invokevirtual 97, 3) := by decide +kernel
theorem dX8_gold_5 : decode cX8_gold 5 = .ok (.ifCond .ne 5, 3) := by decide +kernel
theorem dX8_gold_8 : decode cX8_gold 8 = .ok (.iconst (-1), 1) := by decide +kernel
theorem dX8_gold_9 : decode cX8_gold 9 = .ok (.ireturn, 1) := by decide +kernel
theorem dX8_gold_10 : decode cX8_gold 10 = .ok (.aload_n 0, 1) := by decide +kernel
theorem dX8_gold_11 : decode cX8_gold 11 = .ok (.iload_n 1, 1) := by decide +kernel
theorem dX8_gold_12 : decode cX8_gold 12 = .ok (.invokevirtual 238, 3) := by decide +kernel
theorem dX8_gold_15 : decode cX8_gold 15 = .ok (.aload_n 0, 1) := by decide +kernel
theorem dX8_gold_16 : decode cX8_gold 16 = .ok (.iload_n 1, 1) := by decide +kernel
theorem dX8_gold_17 : decode cX8_gold 17 = .ok (.invokevirtual 218, 3) := by decide +kernel
theorem dX8_gold_20 : decode cX8_gold 20 = .ok (.ireturn, 1) := by decide +kernel
set_option maxRecDepth 20000 in
theorem ggX8_line_X8_isLifter : GoodIn wsX8_line wsX8_isLifter := goodIn_r _ [11, 3, 12, 242, 243, 244, 245, 246, 247, 248, 249, 250, 251, 252, 253, 266, 267, 268, 269, 270, 271, 272, 273, 274, 275, 276, 277, 278, 279, 280, 281] (by decide +kernel) (by decide +kernel)
set_option maxRecDepth 20000 in
theorem gX8_line_X8_isLifter : GoodIn wsX8_line (wsV RX8 97 RX8 yX8_isLifter wsX8_isLifter) := goodIn_app (goodIn_of _ (by decide +kernel)) ggX8_line_X8_isLifter
set_option maxRecDepth 20000 in
theorem ggX8_line_X0_beMass : GoodIn wsX8_line wsX0_beMass := goodIn_r _ [17, 18, 19, 282, 283] (by decide +kernel) (by decide +kernel)
set_option maxRecDepth 20000 in
theorem gX8_line_X0_beMass : GoodIn wsX8_line (wsV RX8 191 RX0 yX0_beMass wsX0_beMass) := goodIn_app (goodIn_of _ (by decide +kernel)) ggX8_line_X0_beMass
set_option maxRecDepth 20000 in
theorem ggX8_line_X8_aimToWin : GoodIn wsX8_line wsX8_aimToWin := goodIn_r _ [23, 3, 12, 24, 25, 26, 10, 27, 1, 28, 29, 30, 2, 31, 32, 33, 34, 35, 36, 16, 37, 38, 39, 40, 41, 18, 42, 19, 43, 44, 45, 46, 47, 48, 49, 50, 51, 52, 53, 54, 55, 56, 57, 58, 59, 60, 61, 62, 63, 64, 65, 66, 67, 68, 69, 70, 71, 72, 73, 74, 75, 76, 77, 78, 79, 80, 81, 82, 83, 84, 85, 86, 87, 88, 89, 90, 91, 92, 93, 94, 95, 96, 97, 98, 99, 100, 101, 102, 103, 104, 105, 106, 107, 108, 109, 110, 111, 112, 113, 114, 115, 116, 117, 118, 119, 120, 121, 122, 123, 124, 125, 126, 127, 128, 129, 130, 131, 132, 133, 134, 135, 136, 137, 138, 139, 140, 141, 142, 143, 144, 145, 146, 242, 243, 244, 245, 246, 247, 248, 249, 250, 251, 252, 253, 266, 267, 268, 269, 270, 271, 272, 273, 274, 275, 276, 277, 278, 279, 280, 281, 284, 285, 286, 287, 288, 289, 290, 291, 282, 283, 292, 293, 294, 295, 296, 297, 298, 299] (by decide +kernel) (by decide +kernel)
set_option maxRecDepth 20000 in
theorem gX8_line_X8_aimToWin : GoodIn wsX8_line (wsV RX8 238 RX8 yX8_aimToWin wsX8_aimToWin) := goodIn_app (goodIn_of _ (by decide +kernel)) ggX8_line_X8_aimToWin
set_option maxRecDepth 20000 in
theorem ggX8_line_X8_thinkFreely : GoodIn wsX8_line wsX8_thinkFreely := goodIn_r _ [150, 151, 152, 153, 154, 1, 29, 3, 30, 155, 156, 157, 158, 159, 160, 161, 162, 163, 164, 165, 166, 167, 168, 169, 170, 171, 172, 173, 34, 35, 36, 16, 37, 38, 39, 40, 41, 18, 42, 19, 174, 175, 176, 177, 178, 179, 180, 181, 182, 183, 184, 119, 120, 121, 122, 123, 124, 92, 93, 94, 185, 53, 54, 55, 242, 243, 244, 245, 246, 247, 248, 249, 250, 251, 252, 253, 254, 255, 256, 257, 258, 259, 260, 261, 262, 263, 264, 265, 266, 267, 268, 269, 270, 271, 272, 273, 274, 275, 276, 277, 278, 279, 280, 281, 282, 283, 296, 297, 298, 299] (by decide +kernel) (by decide +kernel)
set_option maxRecDepth 20000 in
theorem gX8_line_X8_thinkFreely : GoodIn wsX8_line (wsV RX8 221 RX8 yX8_thinkFreely wsX8_thinkFreely) := goodIn_app (goodIn_of _ (by decide +kernel)) ggX8_line_X8_thinkFreely
set_option maxRecDepth 20000 in
theorem ggX8_line_X5_look : GoodIn wsX8_line wsX5_look := goodIn_r _ [60, 61, 62, 63, 64, 65, 66, 67, 68, 69, 70, 71, 72, 73, 74, 75, 76, 77, 78, 79, 80, 81, 82, 83, 84, 85, 86, 87, 88, 89, 90, 91, 92, 93, 94, 266, 267, 268, 269, 270, 271, 272, 273, 274, 275, 276, 277, 278, 279, 280, 281, 284, 285, 286, 287, 288, 289, 290, 291] (by decide +kernel) (by decide +kernel)
set_option maxRecDepth 20000 in
theorem gX8_line_X5_look : GoodIn wsX8_line (wsV RX8 225 RX5 yX5_look wsX5_look) := goodIn_app (goodIn_of _ (by decide +kernel)) ggX8_line_X5_look
set_option maxRecDepth 20000 in
theorem ggX8_line_X5_findTry : GoodIn wsX8_line wsX5_findTry := goodIn_r _ [189, 62, 64, 66, 67, 69, 72, 75, 190, 191, 192, 59, 193, 284, 285, 286, 287, 288, 289, 290, 291] (by decide +kernel) (by decide +kernel)
set_option maxRecDepth 20000 in
theorem gX8_line_X5_findTry : GoodIn wsX8_line (wsV RX8 241 RX5 yX5_findTry wsX5_findTry) := goodIn_app (goodIn_of _ (by decide +kernel)) ggX8_line_X5_findTry
set_option maxRecDepth 20000 in
theorem ggX8_line_X2_valueFrom : GoodIn wsX8_line wsX2_valueFrom := goodIn_r _ [197, 160, 198, 161, 199, 200, 201, 202, 203, 204, 205, 206, 207, 154, 208, 166, 209, 210, 211, 212, 213, 214, 215, 165, 167, 216, 92, 93, 94, 217, 218, 219, 220, 168, 221, 222, 223, 224, 164, 172, 173, 169, 170, 171, 125, 10, 126, 225, 226, 227, 228, 229, 230, 231, 232, 233, 234, 235, 236, 237, 191, 192, 59, 193, 62, 64, 75, 72, 254, 255, 256, 257, 258, 259, 260, 261, 262, 263, 264, 265, 284, 285, 286, 287, 288, 289, 290, 291] (by decide +kernel) (by decide +kernel)
set_option maxRecDepth 20000 in
theorem gX8_line_X2_valueFrom : GoodIn wsX8_line (wsV RX8 232 RX2 yX2_valueFrom wsX2_valueFrom) := goodIn_app (goodIn_of _ (by decide +kernel)) ggX8_line_X2_valueFrom
set_option maxRecDepth 20000 in
theorem ggX8_line_X5_take : GoodIn wsX8_line wsX5_take := goodIn_r _ [241, 75, 66, 72, 69, 284, 285, 286, 287, 288, 289, 290, 291] (by decide +kernel) (by decide +kernel)
set_option maxRecDepth 20000 in
theorem gX8_line_X5_take : GoodIn wsX8_line (wsV RX8 248 RX5 yX5_take wsX5_take) := goodIn_app (goodIn_of _ (by decide +kernel)) ggX8_line_X5_take
theorem dX8_line_0 : decode cX8_line 0 = .ok (.aload_n 0, 1) := by decide +kernel
theorem dX8_line_1 : decode cX8_line 1 = .ok (.iload_n 1, 1) := by decide +kernel
theorem dX8_line_2 : decode cX8_line 2 = .ok (.invokevirtual 97, 3) := by decide +kernel
theorem dX8_line_5 : decode cX8_line 5 = .ok (.ifCond .eq 12, 3) := by decide +kernel
theorem dX8_line_8 : decode cX8_line 8 = .ok (.iload_n 2, 1) := by decide +kernel
theorem dX8_line_9 : decode cX8_line 9 = .ok (.ifCond .lt 8, 3) := by decide +kernel
theorem dX8_line_12 : decode cX8_line 12 = .ok (.iload_n 2, 1) := by decide +kernel
theorem dX8_line_13 : decode cX8_line 13 = .ok (.iconst 1, 1) := by decide +kernel
theorem dX8_line_14 : decode cX8_line 14 = .ok (.if_icmp .le 5, 3) := by decide +kernel
theorem dX8_line_17 : decode cX8_line 17 = .ok (.iconst (-1), 1) := by decide +kernel
theorem dX8_line_18 : decode cX8_line 18 = .ok (.ireturn, 1) := by decide +kernel
theorem dX8_line_19 : decode cX8_line 19 = .ok (.iload_n 2, 1) := by decide +kernel
theorem dX8_line_20 : decode cX8_line 20 = .ok (.ifCond .ne 13, 3) := by decide +kernel
theorem dX8_line_23 : decode cX8_line 23 = .ok (.aload_n 0, 1) := by decide +kernel
theorem dX8_line_24 : decode cX8_line 24 = .ok (.getfield 45, 3) := by decide +kernel
theorem dX8_line_27 : decode cX8_line 27 = .ok (.invokevirtual 191, 3) := by decide +kernel
theorem dX8_line_30 : decode cX8_line 30 = .ok (.goto 8, 3) := by decide +kernel
theorem dX8_line_33 : decode cX8_line 33 = .ok (.aload_n 0, 1) := by decide +kernel
theorem dX8_line_34 : decode cX8_line 34 = .ok (.iload_n 1, 1) := by decide +kernel
theorem dX8_line_35 : decode cX8_line 35 = .ok (.invokevirtual 238, 3) := by decide +kernel
theorem dX8_line_38 : decode cX8_line 38 = .ok (.aload_n 0, 1) := by decide +kernel
theorem dX8_line_39 : decode cX8_line 39 = .ok (.iload_n 1, 1) := by decide +kernel
theorem dX8_line_40 : decode cX8_line 40 = .ok (.iconst 0, 1) := by decide +kernel
theorem dX8_line_41 : decode cX8_line 41 = .ok (.invokevirtual 221, 3) := by decide +kernel
theorem dX8_line_44 : decode cX8_line 44 = .ok (.astore 4, 2) := by decide +kernel
theorem dX8_line_46 : decode cX8_line 46 = .ok (.aload_n 0, 1) := by decide +kernel
theorem dX8_line_47 : decode cX8_line 47 = .ok (.getfield 38, 3) := by decide +kernel
theorem dX8_line_50 : decode cX8_line 50 = .ok (.aload_n 0, 1) := by decide +kernel
theorem dX8_line_51 : decode cX8_line 51 = .ok (.getfield 28, 3) := by decide +kernel
theorem dX8_line_54 : decode cX8_line 54 = .ok (.iload_n 1, 1) := by decide +kernel
theorem dX8_line_55 : decode cX8_line 55 = .ok (.invokevirtual 225, 3) := by decide +kernel
theorem dX8_line_58 : decode cX8_line 58 = .ok (.aload_n 0, 1) := by decide +kernel
theorem dX8_line_59 : decode cX8_line 59 = .ok (.iconst 0, 1) := by decide +kernel
theorem dX8_line_60 : decode cX8_line 60 = .ok (.putfield 65, 3) := by decide +kernel
theorem dX8_line_63 : decode cX8_line 63 = .ok (.iconst 0, 1) := by decide +kernel
theorem dX8_line_64 : decode cX8_line 64 = .ok (.istore 5, 2) := by decide +kernel
theorem dX8_line_66 : decode cX8_line 66 = .ok (.iload 5, 2) := by decide +kernel
theorem dX8_line_68 : decode cX8_line 68 = .ok (.aload_n 0, 1) := by decide +kernel
theorem dX8_line_69 : decode cX8_line 69 = .ok (.getfield 61, 3) := by decide +kernel
theorem dX8_line_72 : decode cX8_line 72 = .ok (.arraylength, 1) := by decide +kernel
theorem dX8_line_73 : decode cX8_line 73 = .ok (.if_icmp .ge 65, 3) := by decide +kernel
theorem dX8_line_76 : decode cX8_line 76 = .ok (.aload_n 0, 1) := by decide +kernel
theorem dX8_line_77 : decode cX8_line 77 = .ok (.getfield 38, 3) := by decide +kernel
theorem dX8_line_80 : decode cX8_line 80 = .ok (.invokevirtual 241, 3) := by decide +kernel
theorem dX8_line_83 : decode cX8_line 83 = .ok (.ifCond .eq 55, 3) := by decide +kernel
theorem dX8_line_86 : decode cX8_line 86 = .ok (.aload 4, 2) := by decide +kernel
theorem dX8_line_88 : decode cX8_line 88 = .ok (.aload_n 0, 1) := by decide +kernel
theorem dX8_line_89 : decode cX8_line 89 = .ok (.getfield 38, 3) := by decide +kernel
theorem dX8_line_92 : decode cX8_line 92 = .ok (.invokevirtual 232, 3) := by decide +kernel
theorem dX8_line_95 : decode cX8_line 95 = .ok (.pop, 1) := by decide +kernel
theorem dX8_line_96 : decode cX8_line 96 = .ok (.aload_n 0, 1) := by decide +kernel
theorem dX8_line_97 : decode cX8_line 97 = .ok (.getfield 61, 3) := by decide +kernel
theorem dX8_line_100 : decode cX8_line 100 = .ok (.iload 5, 2) := by decide +kernel
theorem dX8_line_102 : decode cX8_line 102 = .ok (.aload 4, 2) := by decide +kernel
theorem dX8_line_104 : decode cX8_line 104 = .ok (.getfield 245, 3) := by decide +kernel
theorem dX8_line_107 : decode cX8_line 107 = .ok (.i2l, 1) := by decide +kernel
theorem dX8_line_108 : decode cX8_line 108 = .ok (.lastore, 1) := by decide +kernel
theorem dX8_line_109 : decode cX8_line 109 = .ok (.aload_n 0, 1) := by decide +kernel
theorem dX8_line_110 : decode cX8_line 110 = .ok (.dup, 1) := by decide +kernel
theorem dX8_line_111 : decode cX8_line 111 = .ok (.getfield 65, 3) := by decide +kernel
theorem dX8_line_114 : decode cX8_line 114 = .ok (.iconst 1, 1) := by decide +kernel
theorem dX8_line_115 : decode cX8_line 115 = .ok (.iadd, 1) := by decide +kernel
theorem dX8_line_116 : decode cX8_line 116 = .ok (.putfield 65, 3) := by decide +kernel
theorem dX8_line_119 : decode cX8_line 119 = .ok (.aload_n 0, 1) := by decide +kernel
theorem dX8_line_120 : decode cX8_line 120 = .ok (.getfield 38, 3) := by decide +kernel
theorem dX8_line_123 : decode cX8_line 123 = .ok (.aload 4, 2) := by decide +kernel
theorem dX8_line_125 : decode cX8_line 125 = .ok (.getfield 245, 3) := by decide +kernel
theorem dX8_line_128 : decode cX8_line 128 = .ok (.iload_n 3, 1) := by decide +kernel
theorem dX8_line_129 : decode cX8_line 129 = .ok (.invokevirtual 248, 3) := by decide +kernel
theorem dX8_line_132 : decode cX8_line 132 = .ok (.iinc 5 1, 3) := by decide +kernel
theorem dX8_line_135 : decode cX8_line 135 = .ok (.goto (-69), 3) := by decide +kernel
theorem dX8_line_138 : decode cX8_line 138 = .ok (.aload_n 0, 1) := by decide +kernel
theorem dX8_line_139 : decode cX8_line 139 = .ok (.getfield 65, 3) := by decide +kernel
theorem dX8_line_142 : decode cX8_line 142 = .ok (.ireturn, 1) := by decide +kernel
set_option maxRecDepth 20000 in
theorem ggX8_duel_X8_isLifter : GoodIn wsX8_duel wsX8_isLifter := goodIn_r _ [7, 1, 8, 129, 130, 131, 132, 133, 134, 135, 136, 137, 138, 139, 140, 141, 142, 143, 144, 145, 146, 147, 148, 149, 150, 151, 152, 153, 154, 155, 156] (by decide +kernel) (by decide +kernel)
set_option maxRecDepth 20000 in
theorem gX8_duel_X8_isLifter : GoodIn wsX8_duel (wsV RX8 97 RX8 yX8_isLifter wsX8_isLifter) := goodIn_app (goodIn_of _ (by decide +kernel)) ggX8_duel_X8_isLifter
set_option maxRecDepth 20000 in
theorem ggX8_duel_X8_fight : GoodIn wsX8_duel wsX8_fight := goodIn_r _ [12, 1, 13, 14, 15, 16, 17, 18, 19, 20, 21, 22, 23, 24, 25, 26, 27, 28, 29, 30, 31, 32, 33, 34, 35, 36, 37, 38, 39, 40, 41, 42, 43, 44, 45, 46, 47, 48, 49, 50, 51, 52, 53, 54, 55, 56, 57, 58, 59, 60, 61, 62, 63, 64, 65, 66, 67, 68, 69, 70, 71, 72, 73, 74, 75, 76, 77, 78, 79, 80, 81, 82, 83, 84, 85, 86, 87, 88, 89, 6, 90, 91, 92, 93, 94, 95, 96, 97, 98, 99, 100, 101, 102, 103, 104, 105, 106, 107, 108, 109, 110, 111, 112, 113, 114, 115, 116, 117, 118, 119, 120, 121, 122, 123, 124, 125, 126, 127, 128, 129, 130, 131, 132, 133, 134, 135, 136, 137, 138, 139, 140, 141, 142, 143, 144, 145, 146, 147, 148, 149, 150, 151, 152, 153, 154, 155, 156, 157, 158, 159, 160, 161, 162, 163, 164, 165, 166, 167, 168, 169, 170, 171, 172, 173, 174, 175, 176] (by decide +kernel) (by decide +kernel)
set_option maxRecDepth 20000 in
theorem gX8_duel_X8_fight : GoodIn wsX8_duel (wsV RX8 249 RX8 yX8_fight wsX8_fight) := goodIn_app (goodIn_of _ (by decide +kernel)) ggX8_duel_X8_fight
theorem dX8_duel_0 : decode cX8_duel 0 = .ok (.aload_n 0, 1) := by decide +kernel
theorem dX8_duel_1 : decode cX8_duel 1 = .ok (.iload_n 1, 1) := by decide +kernel
theorem dX8_duel_2 : decode cX8_duel 2 = .ok (.invokevirtual 97, 3) := by decide +kernel
theorem dX8_duel_5 : decode cX8_duel 5 = .ok (.ifCond .eq 16, 3) := by decide +kernel
theorem dX8_duel_8 : decode cX8_duel 8 = .ok (.aload_n 0, 1) := by decide +kernel
theorem dX8_duel_9 : decode cX8_duel 9 = .ok (.iload_n 2, 1) := by decide +kernel
theorem dX8_duel_10 : decode cX8_duel 10 = .ok (.invokevirtual 97, 3) := by decide +kernel
theorem dX8_duel_13 : decode cX8_duel 13 = .ok (.ifCond .eq 8, 3) := by decide +kernel
theorem dX8_duel_16 : decode cX8_duel 16 = .ok (.iload_n 1, 1) := by decide +kernel
theorem dX8_duel_17 : decode cX8_duel 17 = .ok (.iload_n 2, 1) := by decide +kernel
theorem dX8_duel_18 : decode cX8_duel 18 = .ok (.if_icmp .ne 5, 3) := by decide +kernel
theorem dX8_duel_21 : decode cX8_duel 21 = .ok (.iconst (-1), 1) := by decide +kernel
theorem dX8_duel_22 : decode cX8_duel 22 = .ok (.ireturn, 1) := by decide +kernel
theorem dX8_duel_23 : decode cX8_duel 23 = .ok (.aload_n 0, 1) := by decide +kernel
theorem dX8_duel_24 : decode cX8_duel 24 = .ok (.iload_n 1, 1) := by decide +kernel
theorem dX8_duel_25 : decode cX8_duel 25 = .ok (.iload_n 2, 1) := by decide +kernel
theorem dX8_duel_26 : decode cX8_duel 26 = .ok (.aload_n 0, 1) := by decide +kernel
theorem dX8_duel_27 : decode cX8_duel 27 = .ok (.getfield 28, 3) := by decide +kernel
theorem dX8_duel_30 : decode cX8_duel 30 = .ok (.getfield 137, 3) := by decide +kernel
theorem dX8_duel_33 : decode cX8_duel 33 = .ok (.iload_n 1, 1) := by decide +kernel
theorem dX8_duel_34 : decode cX8_duel 34 = .ok (.iaload, 1) := by decide +kernel
theorem dX8_duel_35 : decode cX8_duel 35 = .ok (.aload_n 0, 1) := by decide +kernel
theorem dX8_duel_36 : decode cX8_duel 36 = .ok (.getfield 28, 3) := by decide +kernel
theorem dX8_duel_39 : decode cX8_duel 39 = .ok (.getfield 137, 3) := by decide +kernel
theorem dX8_duel_42 : decode cX8_duel 42 = .ok (.iload_n 2, 1) := by decide +kernel
theorem dX8_duel_43 : decode cX8_duel 43 = .ok (.iaload, 1) := by decide +kernel
theorem dX8_duel_44 : decode cX8_duel 44 = .ok (.iconst 3, 1) := by decide +kernel
theorem dX8_duel_45 : decode cX8_duel 45 = .ok (.invokevirtual 249, 3) := by decide +kernel
theorem dX8_duel_48 : decode cX8_duel 48 = .ok (.ireturn, 1) := by decide +kernel
set_option maxRecDepth 20000 in
theorem ggX8_bluff_X8_isLifter : GoodIn wsX8_bluff wsX8_isLifter := goodIn_r _ [5, 6, 7, 128, 129, 130, 131, 132, 133, 134, 135, 136, 137, 138, 139, 140, 141, 142, 143, 144, 145, 146, 147, 148, 149, 150, 151, 152, 153, 154, 155] (by decide +kernel) (by decide +kernel)
set_option maxRecDepth 20000 in
theorem gX8_bluff_X8_isLifter : GoodIn wsX8_bluff (wsV RX8 97 RX8 yX8_isLifter wsX8_isLifter) := goodIn_app (goodIn_of _ (by decide +kernel)) ggX8_bluff_X8_isLifter
set_option maxRecDepth 20000 in
theorem ggX8_bluff_X8_fight : GoodIn wsX8_bluff wsX8_fight := goodIn_r _ [11, 6, 12, 13, 14, 15, 16, 17, 18, 19, 20, 21, 22, 23, 24, 25, 26, 27, 28, 29, 30, 31, 32, 33, 34, 35, 36, 37, 38, 39, 40, 41, 42, 43, 44, 45, 46, 47, 48, 49, 50, 51, 52, 53, 54, 55, 56, 57, 58, 59, 60, 61, 62, 63, 64, 65, 66, 67, 68, 69, 70, 71, 72, 73, 74, 75, 76, 77, 78, 79, 80, 81, 82, 83, 84, 85, 86, 87, 88, 4, 89, 90, 91, 92, 93, 94, 95, 96, 97, 98, 99, 100, 101, 102, 103, 104, 105, 106, 107, 108, 109, 110, 111, 112, 113, 114, 115, 116, 117, 118, 119, 120, 121, 122, 123, 124, 125, 126, 127, 128, 129, 130, 131, 132, 133, 134, 135, 136, 137, 138, 139, 140, 141, 142, 143, 144, 145, 146, 147, 148, 149, 150, 151, 152, 153, 154, 155, 156, 157, 158, 159, 160, 161, 162, 163, 164, 165, 166, 167, 168, 169, 170, 171, 172, 173, 174, 175] (by decide +kernel) (by decide +kernel)
set_option maxRecDepth 20000 in
theorem gX8_bluff_X8_fight : GoodIn wsX8_bluff (wsV RX8 249 RX8 yX8_fight wsX8_fight) := goodIn_app (goodIn_of _ (by decide +kernel)) ggX8_bluff_X8_fight
theorem dX8_bluff_0 : decode cX8_bluff 0 = .ok (.aload_n 0, 1) := by decide +kernel
theorem dX8_bluff_1 : decode cX8_bluff 1 = .ok (.iload_n 1, 1) := by decide +kernel
theorem dX8_bluff_2 : decode cX8_bluff 2 = .ok (.invokevirtual 97, 3) := by decide +kernel
theorem dX8_bluff_5 : decode cX8_bluff 5 = .ok (.ifCond .eq 36, 3) := by decide +kernel
theorem dX8_bluff_8 : decode cX8_bluff 8 = .ok (.aload_n 0, 1) := by decide +kernel
theorem dX8_bluff_9 : decode cX8_bluff 9 = .ok (.iload_n 2, 1) := by decide +kernel
theorem dX8_bluff_10 : decode cX8_bluff 10 = .ok (.invokevirtual 97, 3) := by decide +kernel
theorem dX8_bluff_13 : decode cX8_bluff 13 = .ok (.ifCond .eq 28, 3) := by decide +kernel
theorem dX8_bluff_16 : decode cX8_bluff 16 = .ok (.iload_n 1, 1) := by decide +kernel
theorem dX8_bluff_17 : decode cX8_bluff 17 = .ok (.iload_n 2, 1) := by decide +kernel
theorem dX8_bluff_18 : decode cX8_bluff 18 = .ok (.if_icmp .eq 23, 3) := by decide +kernel
theorem dX8_bluff_21 : decode cX8_bluff 21 = .ok (.iload_n 3, 1) := by decide +kernel
theorem dX8_bluff_22 : decode cX8_bluff 22 = .ok (.ifCond .lt 19, 3) := by decide +kernel
theorem dX8_bluff_25 : decode cX8_bluff 25 = .ok (.iload_n 3, 1) := by decide +kernel
theorem dX8_bluff_26 : decode cX8_bluff 26 = .ok (.iconst 2, 1) := by decide +kernel
theorem dX8_bluff_27 : decode cX8_bluff 27 = .ok (.if_icmp .gt 14, 3) := by decide +kernel
theorem dX8_bluff_30 : decode cX8_bluff 30 = .ok (.iload 4, 2) := by decide +kernel
theorem dX8_bluff_32 : decode cX8_bluff 32 = .ok (.ifCond .lt 9, 3) := by decide +kernel
theorem dX8_bluff_35 : decode cX8_bluff 35 = .ok (.iload 4, 2) := by decide +kernel
theorem dX8_bluff_37 : decode cX8_bluff 37 = .ok (.iconst 2, 1) := by decide +kernel
theorem dX8_bluff_38 : decode cX8_bluff 38 = .ok (.if_icmp .le 5, 3) := by decide +kernel
theorem dX8_bluff_41 : decode cX8_bluff 41 = .ok (.iconst (-1), 1) := by decide +kernel
theorem dX8_bluff_42 : decode cX8_bluff 42 = .ok (.ireturn, 1) := by decide +kernel
theorem dX8_bluff_43 : decode cX8_bluff 43 = .ok (.aload_n 0, 1) := by decide +kernel
theorem dX8_bluff_44 : decode cX8_bluff 44 = .ok (.iload_n 1, 1) := by decide +kernel
theorem dX8_bluff_45 : decode cX8_bluff 45 = .ok (.iload_n 2, 1) := by decide +kernel
theorem dX8_bluff_46 : decode cX8_bluff 46 = .ok (.iload_n 3, 1) := by decide +kernel
theorem dX8_bluff_47 : decode cX8_bluff 47 = .ok (.iload 4, 2) := by decide +kernel
theorem dX8_bluff_49 : decode cX8_bluff 49 = .ok (.iconst 2, 1) := by decide +kernel
theorem dX8_bluff_50 : decode cX8_bluff 50 = .ok (.invokevirtual 249, 3) := by decide +kernel
theorem dX8_bluff_53 : decode cX8_bluff 53 = .ok (.ireturn, 1) := by decide +kernel
set_option maxRecDepth 20000 in
theorem ggX8_plays_X4_next : GoodIn wsX8_plays wsX4_next := goodIn_r _ [7, 8, 9, 10, 11, 12, 6, 13, 14, 15, 16, 17, 18, 19, 20, 113, 114, 115, 116, 117, 118, 119, 120, 121, 122, 123, 124, 125, 126, 127, 128, 129, 130, 131, 132] (by decide +kernel) (by decide +kernel)
set_option maxRecDepth 20000 in
theorem gX8_plays_X4_next : GoodIn wsX8_plays (wsV RX8 150 RX4 yX4_next wsX4_next) := goodIn_app (goodIn_of _ (by decide +kernel)) ggX8_plays_X4_next
set_option maxRecDepth 20000 in
theorem ggX8_plays_X4_drawOn : GoodIn wsX8_plays wsX4_drawOn := goodIn_r _ [24, 25, 26, 4, 5, 6, 7, 8, 9, 10, 11, 12, 13, 14, 15, 16, 17, 18, 19, 20, 27, 28, 29, 30, 31, 32, 33, 34, 35, 36, 37, 38, 39, 40, 41, 42, 43, 44, 45, 46, 47, 48, 49, 50, 51, 52, 53, 54, 55, 56, 57, 58, 59, 60, 61, 62, 63, 64, 65, 66, 67, 68, 69, 70, 71, 72, 73, 74, 113, 114, 115, 116, 117, 118, 119, 120, 121, 122, 123, 124, 125, 126, 127, 128, 129, 130, 131, 132] (by decide +kernel) (by decide +kernel)
set_option maxRecDepth 20000 in
theorem gX8_plays_X4_drawOn : GoodIn wsX8_plays (wsV RX8 253 RX4 yX4_drawOn wsX4_drawOn) := goodIn_app (goodIn_of _ (by decide +kernel)) ggX8_plays_X4_drawOn
set_option maxRecDepth 20000 in
theorem ggX8_plays_X8_tellPlaces : GoodIn wsX8_plays wsX8_tellPlaces := goodIn_r _ [79, 1, 80, 81, 82, 83, 84, 85, 6, 86, 8, 87, 88, 89, 90, 70, 19, 91, 92, 93, 94, 54, 95, 96, 97, 37, 98, 99, 100, 101, 102, 103, 104, 105, 106, 107, 108, 109, 110, 111, 112, 113, 114, 115, 116, 117, 118, 119, 120, 121, 122, 123, 124, 125, 126, 127, 128, 129, 130, 131, 132] (by decide +kernel) (by decide +kernel)
set_option maxRecDepth 20000 in
theorem gX8_plays_X8_tellPlaces : GoodIn wsX8_plays (wsV RX8 178 RX8 yX8_tellPlaces wsX8_tellPlaces) := goodIn_app (goodIn_of _ (by decide +kernel)) ggX8_plays_X8_tellPlaces
theorem dX8_plays_0 : decode cX8_plays 0 = .ok (.aload_n 0, 1) := by decide +kernel
theorem dX8_plays_1 : decode cX8_plays 1 = .ok (.getfield 28, 3) := by decide +kernel
theorem dX8_plays_4 : decode cX8_plays 4 = .ok (.invokevirtual 150, 3) := by decide +kernel
theorem dX8_plays_7 : decode cX8_plays 7 = .ok (.ifCond .ge 6, 3) := by decide +kernel
theorem dX8_plays_10 : decode cX8_plays 10 = .ok (.bipush (-2), 2) := by decide +kernel
theorem dX8_plays_12 : decode cX8_plays 12 = .ok (.ireturn, 1) := by decide +kernel
theorem dX8_plays_13 : decode cX8_plays 13 = .ok (.aload_n 0, 1) := by decide +kernel
theorem dX8_plays_14 : decode cX8_plays 14 = .ok (.getfield 28, 3) := by decide +kernel
theorem dX8_plays_17 : decode cX8_plays 17 = .ok (.getfield 172, 3) := by decide +kernel
theorem dX8_plays_20 : decode cX8_plays 20 = .ok (.istore_n 2, 1) := by decide +kernel
theorem dX8_plays_21 : decode cX8_plays 21 = .ok (.aload_n 0, 1) := by decide +kernel
theorem dX8_plays_22 : decode cX8_plays 22 = .ok (.getfield 28, 3) := by decide +kernel
theorem dX8_plays_25 : decode cX8_plays 25 = .ok (.iload_n 1, 1) := by decide +kernel
theorem dX8_plays_26 : decode cX8_plays 26 = .ok (.invokevirtual 253, 3) := by decide +kernel
theorem dX8_plays_29 : decode cX8_plays 29 = .ok (.pop, 1) := by decide +kernel
theorem dX8_plays_30 : decode cX8_plays 30 = .ok (.aload_n 0, 1) := by decide +kernel
theorem dX8_plays_31 : decode cX8_plays 31 = .ok (.invokevirtual 178, 3) := by decide +kernel
theorem dX8_plays_34 : decode cX8_plays 34 = .ok (.aload_n 0, 1) := by decide +kernel
theorem dX8_plays_35 : decode cX8_plays 35 = .ok (.getfield 28, 3) := by decide +kernel
theorem dX8_plays_38 : decode cX8_plays 38 = .ok (.getfield 172, 3) := by decide +kernel
theorem dX8_plays_41 : decode cX8_plays 41 = .ok (.iload_n 2, 1) := by decide +kernel
theorem dX8_plays_42 : decode cX8_plays 42 = .ok (.isub, 1) := by decide +kernel
theorem dX8_plays_43 : decode cX8_plays 43 = .ok (.ireturn, 1) := by decide +kernel
set_option maxRecDepth 20000 in
theorem ggX8_often_X8_isLifter : GoodIn wsX8_often wsX8_isLifter := goodIn_r _ [8, 2, 9, 110, 111, 112, 113, 114, 115, 116, 117, 118, 119, 120, 121, 122, 123, 124, 125, 126, 127, 128, 129, 130, 131, 132, 133, 134, 135, 136, 137] (by decide +kernel) (by decide +kernel)
set_option maxRecDepth 20000 in
theorem gX8_often_X8_isLifter : GoodIn wsX8_often (wsV RX8 97 RX8 yX8_isLifter wsX8_isLifter) := goodIn_app (goodIn_of _ (by decide +kernel)) ggX8_often_X8_isLifter
set_option maxRecDepth 20000 in
theorem ggX8_often_X4_copy : GoodIn wsX8_often wsX4_copy := goodIn_r _ [14, 15, 16, 17, 18, 19, 20, 21, 22, 23, 24, 25, 26, 27, 28, 122, 123, 124, 125, 126, 127, 128, 129, 130, 131, 132, 133, 134, 135, 136, 137] (by decide +kernel) (by decide +kernel)
set_option maxRecDepth 20000 in
theorem gX8_often_X4_copy : GoodIn wsX8_often (wsV RX8 256 RX4 yX4_copy wsX4_copy) := goodIn_app (goodIn_of _ (by decide +kernel)) ggX8_often_X4_copy
set_option maxRecDepth 20000 in
theorem ggX8_often_X4_drawOn : GoodIn wsX8_often wsX4_drawOn := goodIn_r _ [32, 33, 34, 35, 36, 13, 37, 15, 22, 38, 39, 40, 41, 23, 42, 43, 44, 45, 46, 47, 48, 49, 50, 51, 17, 26, 16, 52, 53, 54, 55, 56, 57, 58, 59, 60, 61, 62, 63, 64, 65, 20, 66, 67, 19, 68, 21, 28, 27, 18, 69, 70, 71, 72, 73, 74, 75, 76, 24, 77, 78, 79, 80, 25, 81, 82, 83, 84, 122, 123, 124, 125, 126, 127, 128, 129, 130, 131, 132, 133, 134, 135, 136, 137, 138, 139, 140, 141] (by decide +kernel) (by decide +kernel)
set_option maxRecDepth 20000 in
theorem gX8_often_X4_drawOn : GoodIn wsX8_often (wsV RX8 253 RX4 yX4_drawOn wsX4_drawOn) := goodIn_app (goodIn_of _ (by decide +kernel)) ggX8_often_X4_drawOn
set_option maxRecDepth 20000 in
theorem ggX8_often_X4_placeOf : GoodIn wsX8_often wsX4_placeOf := goodIn_r _ [88, 15, 89, 90, 91, 13, 92, 25, 46, 93, 94, 95, 96, 28, 97, 98, 99, 55, 100, 101, 102, 122, 123, 124, 125, 126, 127, 128, 129, 130, 131, 132, 133, 134, 135, 136, 137, 138, 139, 140, 141] (by decide +kernel) (by decide +kernel)
set_option maxRecDepth 20000 in
theorem gX8_often_X4_placeOf : GoodIn wsX8_often (wsV RX8 181 RX4 yX4_placeOf wsX4_placeOf) := goodIn_app (goodIn_of _ (by decide +kernel)) ggX8_often_X4_placeOf
set_option maxRecDepth 20000 in
theorem ggX8_often_X4_sumOf : GoodIn wsX8_often wsX4_sumOf := goodIn_r _ [96, 25, 28, 122, 123, 124, 125, 126, 127, 128, 129, 130, 131, 132, 133, 134, 135, 136, 137] (by decide +kernel) (by decide +kernel)
set_option maxRecDepth 20000 in
theorem gX8_often_X4_sumOf : GoodIn wsX8_often (wsV RX8 147 RX4 yX4_sumOf wsX4_sumOf) := goodIn_app (goodIn_of _ (by decide +kernel)) ggX8_often_X4_sumOf
set_option maxRecDepth 20000 in
theorem ggX8_often_X8_tellTwo : GoodIn wsX8_often wsX8_tellTwo := goodIn_r _ [107, 108, 109, 110, 111, 112, 113, 114, 115, 116, 117, 118, 119, 120, 121] (by decide +kernel) (by decide +kernel)
set_option maxRecDepth 20000 in
theorem gX8_often_X8_tellTwo : GoodIn wsX8_often (wsV RX8 157 RX8 yX8_tellTwo wsX8_tellTwo) := goodIn_app (goodIn_of _ (by decide +kernel)) ggX8_often_X8_tellTwo
theorem dX8_often_0 : decode cX8_often 0 = .ok (.aload_n 0, 1) := by decide +kernel
theorem dX8_often_1 : decode cX8_often 1 = .ok (.iload_n 1, 1) := by decide +kernel
theorem dX8_often_2 : decode cX8_often 2 = .ok (.invokevirtual 97, 3) := by decide +kernel
theorem dX8_often_5 : decode cX8_often 5 = .ok (.ifCond .eq 14, 3) := by decide +kernel
theorem dX8_often_8 : decode cX8_often 8 = .ok (.iload_n 2, 1) := by decide +kernel
theorem dX8_often_9 : decode cX8_often 9 = .ok (.iconst 1, 1) := by decide +kernel
theorem dX8_often_10 : decode cX8_often 10 = .ok (.if_icmp .lt 9, 3) := by decide +kernel
theorem dX8_often_13 : decode cX8_often 13 = .ok (.iload_n 2, 1) := by decide +kernel
theorem dX8_often_14 : decode cX8_often 14 = .ok (.bipush 50, 2) := by decide +kernel
theorem dX8_often_16 : decode cX8_often 16 = .ok (.if_icmp .le 5, 3) := by decide +kernel
theorem dX8_often_19 : decode cX8_often 19 = .ok (.iconst (-1), 1) := by decide +kernel
theorem dX8_often_20 : decode cX8_often 20 = .ok (.ireturn, 1) := by decide +kernel
theorem dX8_often_21 : decode cX8_often 21 = .ok (.iload_n 3, 1) := by decide +kernel
theorem dX8_often_22 : decode cX8_often 22 = .ok (.istore 4, 2) := by decide +kernel
theorem dX8_often_24 : decode cX8_often 24 = .ok (.iconst 0, 1) := by decide +kernel
theorem dX8_often_25 : decode cX8_often 25 = .ok (.istore 5, 2) := by decide +kernel
theorem dX8_often_27 : decode cX8_often 27 = .ok (.iconst 0, 1) := by decide +kernel
theorem dX8_often_28 : decode cX8_often 28 = .ok (.istore 6, 2) := by decide +kernel
theorem dX8_often_30 : decode cX8_often 30 = .ok (.iconst 0, 1) := by decide +kernel
theorem dX8_often_31 : decode cX8_often 31 = .ok (.istore 7, 2) := by decide +kernel
theorem dX8_often_33 : decode cX8_often 33 = .ok (.iconst 0, 1) := by decide +kernel
theorem dX8_often_34 : decode cX8_often 34 = .ok (.istore 8, 2) := by decide +kernel
theorem dX8_often_36 : decode cX8_often 36 = .ok (.iload 8, 2) := by decide +kernel
theorem dX8_often_38 : decode cX8_often 38 = .ok (.iload_n 2, 1) := by decide +kernel
theorem dX8_often_39 : decode cX8_often 39 = .ok (.if_icmp .ge 76, 3) := by decide +kernel
theorem dX8_often_42 : decode cX8_often 42 = .ok (.aload_n 0, 1) := by decide +kernel
theorem dX8_often_43 : decode cX8_often 43 = .ok (.getfield 32, 3) := by decide +kernel
theorem dX8_often_46 : decode cX8_often 46 = .ok (.aload_n 0, 1) := by decide +kernel
theorem dX8_often_47 : decode cX8_often 47 = .ok (.getfield 28, 3) := by decide +kernel
theorem dX8_often_50 : decode cX8_often 50 = .ok (.invokevirtual 256, 3) := by decide +kernel
theorem dX8_often_53 : decode cX8_often 53 = .ok (.aload_n 0, 1) := by decide +kernel
theorem dX8_often_54 : decode cX8_often 54 = .ok (.getfield 32, 3) := by decide +kernel
theorem dX8_often_57 : decode cX8_often 57 = .ok (.iload 4, 2) := by decide +kernel
theorem dX8_often_59 : decode cX8_often 59 = .ok (.invokevirtual 253, 3) := by decide +kernel
theorem dX8_often_62 : decode cX8_often 62 = .ok (.istore 4, 2) := by decide +kernel
theorem dX8_often_64 : decode cX8_often 64 = .ok (.aload_n 0, 1) := by decide +kernel
theorem dX8_often_65 : decode cX8_often 65 = .ok (.getfield 32, 3) := by decide +kernel
theorem dX8_often_68 : decode cX8_often 68 = .ok (.getfield 143, 3) := by decide +kernel
theorem dX8_often_71 : decode cX8_often 71 = .ok (.iload_n 1, 1) := by decide +kernel
theorem dX8_often_72 : decode cX8_often 72 = .ok (.baload, 1) := by decide +kernel
theorem dX8_often_73 : decode cX8_often 73 = .ok (.ifCond .eq 9, 3) := by decide +kernel
theorem dX8_often_76 : decode cX8_often 76 = .ok (.iinc 6 1, 3) := by decide +kernel
theorem dX8_often_79 : decode cX8_often 79 = .ok (.goto 17, 3) := by decide +kernel
theorem dX8_often_82 : decode cX8_often 82 = .ok (.aload_n 0, 1) := by decide +kernel
theorem dX8_often_83 : decode cX8_often 83 = .ok (.getfield 32, 3) := by decide +kernel
theorem dX8_often_86 : decode cX8_often 86 = .ok (.iload_n 1, 1) := by decide +kernel
theorem dX8_often_87 : decode cX8_often 87 = .ok (.invokevirtual 181, 3) := by decide +kernel
theorem dX8_often_90 : decode cX8_often 90 = .ok (.ifCond .ne 6, 3) := by decide +kernel
theorem dX8_often_93 : decode cX8_often 93 = .ok (.iinc 5 1, 3) := by decide +kernel
theorem dX8_often_96 : decode cX8_often 96 = .ok (.iload 7, 2) := by decide +kernel
theorem dX8_often_98 : decode cX8_often 98 = .ok (.aload_n 0, 1) := by decide +kernel
theorem dX8_often_99 : decode cX8_often 99 = .ok (.getfield 32, 3) := by decide +kernel
theorem dX8_often_102 : decode cX8_often 102 = .ok (.iload_n 1, 1) := by decide +kernel
theorem dX8_often_103 : decode cX8_often 103 = .ok (.invokevirtual 147, 3) := by decide +kernel
theorem dX8_often_106 : decode cX8_often 106 = .ok (.iadd, 1) := by decide +kernel
theorem dX8_often_107 : decode cX8_often 107 = .ok (.istore 7, 2) := by decide +kernel
theorem dX8_often_109 : decode cX8_often 109 = .ok (.iinc 8 1, 3) := by decide +kernel
theorem dX8_often_112 : decode cX8_often 112 = .ok (.goto (-76), 3) := by decide +kernel
theorem dX8_often_115 : decode cX8_often 115 = .ok (.aload_n 0, 1) := by decide +kernel
theorem dX8_often_116 : decode cX8_often 116 = .ok (.iload 6, 2) := by decide +kernel
theorem dX8_often_118 : decode cX8_often 118 = .ok (.iload 7, 2) := by decide +kernel
theorem dX8_often_120 : decode cX8_often 120 = .ok (.invokevirtual 157, 3) := by decide +kernel
theorem dX8_often_123 : decode cX8_often 123 = .ok (.iload 5, 2) := by decide +kernel
theorem dX8_often_125 : decode cX8_often 125 = .ok (.ireturn, 1) := by decide +kernel
set_option maxRecDepth 20000 in
theorem ggX8_count_X4_outBits : GoodIn wsX8_count wsX4_outBits := goodIn_r _ [16, 17, 18, 31, 32, 33, 34, 35, 36, 37, 38, 39, 40, 41, 42, 43, 44, 45, 46] (by decide +kernel) (by decide +kernel)
set_option maxRecDepth 20000 in
theorem gX8_count_X4_outBits : GoodIn wsX8_count (wsV RX8 272 RX4 yX4_outBits wsX4_outBits) := goodIn_app (goodIn_of _ (by decide +kernel)) ggX8_count_X4_outBits
theorem dX8_count_0 : decode cX8_count 0 = .ok (.iload_n 1, 1) := by decide +kernel
theorem dX8_count_1 : decode cX8_count 1 = .ok (.tableswitch 132 0 9 #[55, 63, 71, 79, 87, 95, 103, 111, 116, 124], 55) := by decide +kernel
theorem dX8_count_56 : decode cX8_count 56 = .ok (.aload_n 0, 1) := by decide +kernel
theorem dX8_count_57 : decode cX8_count 57 = .ok (.getfield 28, 3) := by decide +kernel
theorem dX8_count_60 : decode cX8_count 60 = .ok (.getfield 87, 3) := by decide +kernel
theorem dX8_count_63 : decode cX8_count 63 = .ok (.ireturn, 1) := by decide +kernel
theorem dX8_count_64 : decode cX8_count 64 = .ok (.aload_n 0, 1) := by decide +kernel
theorem dX8_count_65 : decode cX8_count 65 = .ok (.getfield 28, 3) := by decide +kernel
theorem dX8_count_68 : decode cX8_count 68 = .ok (.getfield 260, 3) := by decide +kernel
theorem dX8_count_71 : decode cX8_count 71 = .ok (.ireturn, 1) := by decide +kernel
theorem dX8_count_72 : decode cX8_count 72 = .ok (.aload_n 0, 1) := by decide +kernel
theorem dX8_count_73 : decode cX8_count 73 = .ok (.getfield 28, 3) := by decide +kernel
theorem dX8_count_76 : decode cX8_count 76 = .ok (.getfield 263, 3) := by decide +kernel
theorem dX8_count_79 : decode cX8_count 79 = .ok (.ireturn, 1) := by decide +kernel
theorem dX8_count_80 : decode cX8_count 80 = .ok (.aload_n 0, 1) := by decide +kernel
theorem dX8_count_81 : decode cX8_count 81 = .ok (.getfield 28, 3) := by decide +kernel
theorem dX8_count_84 : decode cX8_count 84 = .ok (.getfield 266, 3) := by decide +kernel
theorem dX8_count_87 : decode cX8_count 87 = .ok (.ireturn, 1) := by decide +kernel
theorem dX8_count_88 : decode cX8_count 88 = .ok (.aload_n 0, 1) := by decide +kernel
theorem dX8_count_89 : decode cX8_count 89 = .ok (.getfield 28, 3) := by decide +kernel
theorem dX8_count_92 : decode cX8_count 92 = .ok (.getfield 172, 3) := by decide +kernel
theorem dX8_count_95 : decode cX8_count 95 = .ok (.ireturn, 1) := by decide +kernel
theorem dX8_count_96 : decode cX8_count 96 = .ok (.aload_n 0, 1) := by decide +kernel
theorem dX8_count_97 : decode cX8_count 97 = .ok (.getfield 28, 3) := by decide +kernel
theorem dX8_count_100 : decode cX8_count 100 = .ok (.getfield 269, 3) := by decide +kernel
theorem dX8_count_103 : decode cX8_count 103 = .ok (.ireturn, 1) := by decide +kernel
theorem dX8_count_104 : decode cX8_count 104 = .ok (.aload_n 0, 1) := by decide +kernel
theorem dX8_count_105 : decode cX8_count 105 = .ok (.getfield 28, 3) := by decide +kernel
theorem dX8_count_108 : decode cX8_count 108 = .ok (.getfield 111, 3) := by decide +kernel
theorem dX8_count_111 : decode cX8_count 111 = .ok (.ireturn, 1) := by decide +kernel
theorem dX8_count_112 : decode cX8_count 112 = .ok (.aload_n 0, 1) := by decide +kernel
theorem dX8_count_113 : decode cX8_count 113 = .ok (.getfield 65, 3) := by decide +kernel
theorem dX8_count_116 : decode cX8_count 116 = .ok (.ireturn, 1) := by decide +kernel
theorem dX8_count_117 : decode cX8_count 117 = .ok (.aload_n 0, 1) := by decide +kernel
theorem dX8_count_118 : decode cX8_count 118 = .ok (.getfield 12, 3) := by decide +kernel
theorem dX8_count_121 : decode cX8_count 121 = .ok (.getfield 81, 3) := by decide +kernel
theorem dX8_count_124 : decode cX8_count 124 = .ok (.ireturn, 1) := by decide +kernel
theorem dX8_count_125 : decode cX8_count 125 = .ok (.aload_n 0, 1) := by decide +kernel
theorem dX8_count_126 : decode cX8_count 126 = .ok (.getfield 28, 3) := by decide +kernel
theorem dX8_count_129 : decode cX8_count 129 = .ok (.invokevirtual 272, 3) := by decide +kernel
theorem dX8_count_132 : decode cX8_count 132 = .ok (.ireturn, 1) := by decide +kernel
theorem dX8_count_133 : decode cX8_count 133 = .ok (.iconst (-1), 1) := by decide +kernel
theorem dX8_count_134 : decode cX8_count 134 = .ok (.ireturn, 1) := by decide +kernel
theorem dX8_row_0 : decode cX8_row 0 = .ok (.iload_n 1, 1) := by decide +kernel
theorem dX8_row_1 : decode cX8_row 1 = .ok (.ifCond .lt 20, 3) := by decide +kernel
theorem dX8_row_4 : decode cX8_row 4 = .ok (.iload_n 1, 1) := by decide +kernel
theorem dX8_row_5 : decode cX8_row 5 = .ok (.aload_n 0, 1) := by decide +kernel
theorem dX8_row_6 : decode cX8_row 6 = .ok (.getfield 65, 3) := by decide +kernel
theorem dX8_row_9 : decode cX8_row 9 = .ok (.if_icmp .ge 12, 3) := by decide +kernel
theorem dX8_row_12 : decode cX8_row 12 = .ok (.iload_n 1, 1) := by decide +kernel
theorem dX8_row_13 : decode cX8_row 13 = .ok (.aload_n 0, 1) := by decide +kernel
theorem dX8_row_14 : decode cX8_row 14 = .ok (.getfield 61, 3) := by decide +kernel
theorem dX8_row_17 : decode cX8_row 17 = .ok (.arraylength, 1) := by decide +kernel
theorem dX8_row_18 : decode cX8_row 18 = .ok (.if_icmp .lt 11, 3) := by decide +kernel
theorem dX8_row_21 : decode cX8_row 21 = .ok (.new 275, 3) := by decide +kernel
theorem dX8_row_24 : decode cX8_row 24 = .ok (.dup, 1) := by decide +kernel
theorem dX8_row_25 : decode cX8_row 25 = .ok (.invokespecial 277, 3) := by decide +kernel
theorem dX8_row_28 : decode cX8_row 28 = .ok (.athrow, 1) := by decide +kernel
theorem dX8_row_29 : decode cX8_row 29 = .ok (.aload_n 0, 1) := by decide +kernel
theorem dX8_row_30 : decode cX8_row 30 = .ok (.getfield 61, 3) := by decide +kernel
theorem dX8_row_33 : decode cX8_row 33 = .ok (.iload_n 1, 1) := by decide +kernel
theorem dX8_row_34 : decode cX8_row 34 = .ok (.laload, 1) := by decide +kernel
theorem dX8_row_35 : decode cX8_row 35 = .ok (.lreturn, 1) := by decide +kernel
theorem dX8_isLifter_0 : decode cX8_isLifter 0 = .ok (.iload_n 1, 1) := by decide +kernel
theorem dX8_isLifter_1 : decode cX8_isLifter 1 = .ok (.ifCond .lt 18, 3) := by decide +kernel
theorem dX8_isLifter_4 : decode cX8_isLifter 4 = .ok (.iload_n 1, 1) := by decide +kernel
theorem dX8_isLifter_5 : decode cX8_isLifter 5 = .ok (.aload_n 0, 1) := by decide +kernel
theorem dX8_isLifter_6 : decode cX8_isLifter 6 = .ok (.getfield 28, 3) := by decide +kernel
theorem dX8_isLifter_9 : decode cX8_isLifter 9 = .ok (.getfield 87, 3) := by decide +kernel
theorem dX8_isLifter_12 : decode cX8_isLifter 12 = .ok (.if_icmp .ge 7, 3) := by decide +kernel
theorem dX8_isLifter_15 : decode cX8_isLifter 15 = .ok (.iconst 1, 1) := by decide +kernel
theorem dX8_isLifter_16 : decode cX8_isLifter 16 = .ok (.goto 4, 3) := by decide +kernel
theorem dX8_isLifter_19 : decode cX8_isLifter 19 = .ok (.iconst 0, 1) := by decide +kernel
theorem dX8_isLifter_20 : decode cX8_isLifter 20 = .ok (.ireturn, 1) := by decide +kernel
theorem dX8_isLift_0 : decode cX8_isLift 0 = .ok (.iload_n 0, 1) := by decide +kernel
theorem dX8_isLift_1 : decode cX8_isLift 1 = .ok (.ifCond .lt 12, 3) := by decide +kernel
theorem dX8_isLift_4 : decode cX8_isLift 4 = .ok (.iload_n 0, 1) := by decide +kernel
theorem dX8_isLift_5 : decode cX8_isLift 5 = .ok (.iconst 3, 1) := by decide +kernel
theorem dX8_isLift_6 : decode cX8_isLift 6 = .ok (.if_icmp .ge 7, 3) := by decide +kernel
theorem dX8_isLift_9 : decode cX8_isLift 9 = .ok (.iconst 1, 1) := by decide +kernel
theorem dX8_isLift_10 : decode cX8_isLift 10 = .ok (.goto 4, 3) := by decide +kernel
