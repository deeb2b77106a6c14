set_option maxRecDepth 20000 in
theorem gX8_mass_X0_beMass : GoodIn wsX8_mass (wsV RX8 191 RX0 yX0_beMass wsX0_beMass) := goodIn_app (goodIn_of _ (by decide +kernel)) ggX8_mass_X0_beMass
set_option maxRecDepth 20000 in
theorem ggX8_mass_X8_byPlan : GoodIn wsX8_mass wsX8_byPlan := goodIn_r _ [19, 20, 21, 7, 22, 1, 23, 24, 25, 26, 27, 28, 29, 30, 31, 32, 33, 34, 35, 36, 37, 38, 39, 40, 41, 42, 43, 44, 45, 46, 47, 48, 49, 50, 51, 52, 53, 54, 55, 56, 57, 58, 59, 60, 61, 62, 63, 64, 65, 66, 67, 68, 69, 70, 71, 72, 73, 74, 75, 76, 77, 78, 79, 80, 81, 82, 83, 84, 85, 86, 87, 88, 89, 90, 91, 92, 93, 94, 95, 96, 97, 98, 99, 100, 101, 102, 103, 104, 105, 106, 5, 107, 108, 109, 110, 111, 112, 113, 114, 115, 116, 117, 118, 119, 120, 121, 122, 123, 124, 125, 126, 127, 128, 129, 130, 131, 132, 133, 134, 135, 138, 139, 140, 141, 142, 143, 144, 145, 146, 147, 148, 149, 136, 137, 150, 151, 152, 153] (by decide +kernel) (by decide +kernel)
set_option maxRecDepth 20000 in
theorem gX8_mass_X8_byPlan : GoodIn wsX8_mass (wsV RX8 194 RX8 yX8_byPlan wsX8_byPlan) := goodIn_app (goodIn_of _ (by decide +kernel)) ggX8_mass_X8_byPlan
theorem dX8_mass_0 : decode cX8_mass 0 = .ok (.aload_n 0, 1) := by decide +kernel
theorem dX8_mass_1 : decode cX8_mass 1 = .ok (.iload_n 1, 1) := by decide +kernel
theorem dX8_mass_2 : decode cX8_mass 2 = .ok (.invokevirtual 97, 3) := by decide +kernel
theorem dX8_mass_5 : decode cX8_mass 5 = .ok (.ifCond .ne 5, 3) := by decide +kernel
theorem dX8_mass_8 : decode cX8_mass 8 = .ok (.iconst (-1), 1) := by decide +kernel
theorem dX8_mass_9 : decode cX8_mass 9 = .ok (.ireturn, 1) := by decide +kernel
theorem dX8_mass_10 : decode cX8_mass 10 = .ok (.aload_n 0, 1) := by decide +kernel
theorem dX8_mass_11 : decode cX8_mass 11 = .ok (.getfield 45, 3) := by decide +kernel
theorem dX8_mass_14 : decode cX8_mass 14 = .ok (.invokevirtual 191, 3) := by decide +kernel
theorem dX8_mass_17 : decode cX8_mass 17 = .ok (.aload_n 0, 1) := by decide +kernel
theorem dX8_mass_18 : decode cX8_mass 18 = .ok (.iload_n 1, 1) := by decide +kernel
theorem dX8_mass_19 : decode cX8_mass 19 = .ok (.invokevirtual 194, 3) := by decide +kernel
theorem dX8_mass_22 : decode cX8_mass 22 = .ok (.ireturn, 1) := by decide +kernel
set_option maxRecDepth 20000 in
theorem ggX8_chance_X8_isLifter : GoodIn wsX8_chance wsX8_isLifter := goodIn_r _ [6, 7, 8, 112, 113, 114, 115, 116, 117, 118, 119, 120, 121, 122, 123, 124, 125, 126, 127, 128, 129, 130, 131, 132, 133, 134, 135, 136, 137, 138, 139] (by decide +kernel) (by decide +kernel)
set_option maxRecDepth 20000 in
theorem gX8_chance_X8_isLifter : GoodIn wsX8_chance (wsV RX8 97 RX8 yX8_isLifter wsX8_isLifter) := goodIn_app (goodIn_of _ (by decide +kernel)) ggX8_chance_X8_isLifter
set_option maxRecDepth 20000 in
theorem ggX8_chance_X8_isAimed : GoodIn wsX8_chance wsX8_isAimed := goodIn_r _ [11] (by decide +kernel) (by decide +kernel)
set_option maxRecDepth 20000 in
theorem gX8_chance_X8_isAimed : GoodIn wsX8_chance (va_wsS RX8 197 yX8_isAimed wsX8_isAimed) := goodIn_app (goodIn_of _ (by decide +kernel)) ggX8_chance_X8_isAimed
set_option maxRecDepth 20000 in
theorem ggX8_chance_X0_beReach : GoodIn wsX8_chance wsX0_beReach := goodIn_r _ [16, 17, 18, 19, 140, 141] (by decide +kernel) (by decide +kernel)
set_option maxRecDepth 20000 in
theorem gX8_chance_X0_beReach : GoodIn wsX8_chance (wsV RX8 200 RX0 yX0_beReach wsX0_beReach) := goodIn_app (goodIn_of _ (by decide +kernel)) ggX8_chance_X0_beReach
set_option maxRecDepth 20000 in
theorem ggX8_chance_X8_byPlan : GoodIn wsX8_chance wsX8_byPlan := goodIn_r _ [23, 24, 25, 7, 26, 1, 27, 28, 29, 30, 31, 32, 33, 34, 35, 36, 37, 38, 39, 40, 41, 42, 43, 44, 45, 46, 47, 48, 49, 50, 51, 52, 53, 54, 55, 56, 57, 58, 59, 60, 61, 62, 63, 64, 65, 66, 67, 68, 69, 70, 71, 72, 73, 74, 75, 76, 77, 78, 79, 80, 81, 82, 83, 84, 85, 86, 87, 88, 89, 90, 91, 92, 93, 94, 95, 96, 97, 98, 99, 100, 101, 102, 103, 104, 105, 106, 107, 108, 109, 110, 5, 111, 112, 113, 114, 115, 116, 117, 118, 119, 120, 121, 122, 123, 124, 125, 126, 127, 128, 129, 130, 131, 132, 133, 134, 135, 136, 137, 138, 139, 142, 143, 144, 145, 146, 147, 148, 149, 150, 151, 152, 153, 140, 141, 154, 155, 156, 157] (by decide +kernel) (by decide +kernel)
set_option maxRecDepth 20000 in
theorem gX8_chance_X8_byPlan : GoodIn wsX8_chance (wsV RX8 194 RX8 yX8_byPlan wsX8_byPlan) := goodIn_app (goodIn_of _ (by decide +kernel)) ggX8_chance_X8_byPlan
theorem dX8_chance_0 : decode cX8_chance 0 = .ok (.aload_n 0, 1) := by decide +kernel
theorem dX8_chance_1 : decode cX8_chance 1 = .ok (.iload_n 1, 1) := by decide +kernel
theorem dX8_chance_2 : decode cX8_chance 2 = .ok (.invokevirtual 97, 3) := by decide +kernel
theorem dX8_chance_5 : decode cX8_chance 5 = .ok (.ifCond .eq 10, 3) := by decide +kernel
theorem dX8_chance_8 : decode cX8_chance 8 = .ok (.iload_n 2, 1) := by decide +kernel
theorem dX8_chance_9 : decode cX8_chance 9 = .ok (.invokestatic 197, 3) := by decide +kernel
theorem dX8_chance_12 : decode cX8_chance 12 = .ok (.ifCond .ne 5, 3) := by decide +kernel
theorem dX8_chance_15 : decode cX8_chance 15 = .ok (.iconst (-1), 1) := by decide +kernel
theorem dX8_chance_16 : decode cX8_chance 16 = .ok (.ireturn, 1) := by decide +kernel
theorem dX8_chance_17 : decode cX8_chance 17 = .ok (.aload_n 0, 1) := by decide +kernel
theorem dX8_chance_18 : decode cX8_chance 18 = .ok (.getfield 45, 3) := by decide +kernel
theorem dX8_chance_21 : decode cX8_chance 21 = .ok (.iload_n 2, 1) := by decide +kernel
theorem dX8_chance_22 : decode cX8_chance 22 = .ok (.invokevirtual 200, 3) := by decide +kernel
theorem dX8_chance_25 : decode cX8_chance 25 = .ok (.aload_n 0, 1) := by decide +kernel
theorem dX8_chance_26 : decode cX8_chance 26 = .ok (.iload_n 1, 1) := by decide +kernel
theorem dX8_chance_27 : decode cX8_chance 27 = .ok (.invokevirtual 194, 3) := by decide +kernel
theorem dX8_chance_30 : decode cX8_chance 30 = .ok (.ireturn, 1) := by decide +kernel
set_option maxRecDepth 20000 in
theorem ggX8_likeliest_X8_isLifter : GoodIn wsX8_likeliest wsX8_isLifter := goodIn_r _ [6, 7, 8, 122, 123, 124, 125, 126, 127, 128, 129, 130, 131, 132, 133, 134, 135, 136, 137, 138, 139, 140, 141, 142, 143, 144, 145, 146, 147, 148, 149] (by decide +kernel) (by decide +kernel)
set_option maxRecDepth 20000 in
theorem gX8_likeliest_X8_isLifter : GoodIn wsX8_likeliest (wsV RX8 97 RX8 yX8_isLifter wsX8_isLifter) := goodIn_app (goodIn_of _ (by decide +kernel)) ggX8_likeliest_X8_isLifter
set_option maxRecDepth 20000 in
theorem ggX8_likeliest_X8_reckonChances : GoodIn wsX8_likeliest wsX8_reckonChances := goodIn_r _ [12, 13, 14, 15, 7, 16, 17, 18, 1, 19, 20, 21, 22, 23, 24, 25, 26, 27, 28, 29, 30, 31, 32, 33, 34, 35, 36, 37, 38, 39, 40, 41, 42, 43, 44, 45, 46, 47, 48, 49, 50, 51, 52, 53, 54, 55, 56, 57, 58, 59, 60, 61, 62, 63, 64, 65, 66, 67, 68, 69, 70, 71, 72, 73, 74, 75, 76, 77, 78, 79, 80, 81, 82, 83, 84, 85, 86, 87, 88, 89, 90, 91, 92, 93, 94, 95, 96, 97, 98, 99, 100, 101, 102, 103, 104, 105, 106, 107, 108, 109, 110, 111, 112, 113, 114, 5, 115, 122, 123, 124, 125, 126, 127, 128, 129, 130, 131, 132, 133, 134, 135, 136, 137, 138, 139, 140, 141, 142, 143, 144, 145, 146, 147, 148, 149, 150, 151, 152, 153, 154, 155, 156, 157, 158, 159, 160, 161, 162, 163, 164, 165, 166, 167] (by decide +kernel) (by decide +kernel)
set_option maxRecDepth 20000 in
theorem gX8_likeliest_X8_reckonChances : GoodIn wsX8_likeliest (wsV RX8 204 RX8 yX8_reckonChances wsX8_reckonChances) := goodIn_app (goodIn_of _ (by decide +kernel)) ggX8_likeliest_X8_reckonChances
set_option maxRecDepth 20000 in
theorem ggX8_likeliest_X8_tellTwo : GoodIn wsX8_likeliest wsX8_tellTwo := goodIn_r _ [119, 120, 121, 122, 123, 124, 125, 126, 127, 128, 129, 130, 131, 132, 133] (by decide +kernel) (by decide +kernel)
set_option maxRecDepth 20000 in
theorem gX8_likeliest_X8_tellTwo : GoodIn wsX8_likeliest (wsV RX8 157 RX8 yX8_tellTwo wsX8_tellTwo) := goodIn_app (goodIn_of _ (by decide +kernel)) ggX8_likeliest_X8_tellTwo
theorem dX8_likeliest_0 : decode cX8_likeliest 0 = .ok (.aload_n 0, 1) := by decide +kernel
theorem dX8_likeliest_1 : decode cX8_likeliest 1 = .ok (.iload_n 1, 1) := by decide +kernel
theorem dX8_likeliest_2 : decode cX8_likeliest 2 = .ok (.invokevirtual 97, 3) := by decide +kernel
theorem dX8_likeliest_5 : decode cX8_likeliest 5 = .ok (.ifCond .ne 5, 3) := by decide +kernel
theorem dX8_likeliest_8 : decode cX8_likeliest 8 = .ok (.iconst (-1), 1) := by decide +kernel
theorem dX8_likeliest_9 : decode cX8_likeliest 9 = .ok (.ireturn, 1) := by decide +kernel
theorem dX8_likeliest_10 : decode cX8_likeliest 10 = .ok (.aload_n 0, 1) := by decide +kernel
theorem dX8_likeliest_11 : decode cX8_likeliest 11 = .ok (.iload_n 1, 1) := by decide +kernel
theorem dX8_likeliest_12 : decode cX8_likeliest 12 = .ok (.invokevirtual 204, 3) := by decide +kernel
theorem dX8_likeliest_15 : decode cX8_likeliest 15 = .ok (.aload_n 0, 1) := by decide +kernel
theorem dX8_likeliest_16 : decode cX8_likeliest 16 = .ok (.getfield 58, 3) := by decide +kernel
theorem dX8_likeliest_19 : decode cX8_likeliest 19 = .ok (.iload_n 1, 1) := by decide +kernel
theorem dX8_likeliest_20 : decode cX8_likeliest 20 = .ok (.aaload, 1) := by decide +kernel
theorem dX8_likeliest_21 : decode cX8_likeliest 21 = .ok (.astore_n 2, 1) := by decide +kernel
theorem dX8_likeliest_22 : decode cX8_likeliest 22 = .ok (.iconst 0, 1) := by decide +kernel
theorem dX8_likeliest_23 : decode cX8_likeliest 23 = .ok (.istore_n 3, 1) := by decide +kernel
theorem dX8_likeliest_24 : decode cX8_likeliest 24 = .ok (.iconst 1, 1) := by decide +kernel
theorem dX8_likeliest_25 : decode cX8_likeliest 25 = .ok (.istore 4, 2) := by decide +kernel
theorem dX8_likeliest_27 : decode cX8_likeliest 27 = .ok (.iload 4, 2) := by decide +kernel
theorem dX8_likeliest_29 : decode cX8_likeliest 29 = .ok (.bipush 120, 2) := by decide +kernel
theorem dX8_likeliest_31 : decode cX8_likeliest 31 = .ok (.if_icmp .gt 35, 3) := by decide +kernel
theorem dX8_likeliest_34 : decode cX8_likeliest 34 = .ok (.aload_n 2, 1) := by decide +kernel
theorem dX8_likeliest_35 : decode cX8_likeliest 35 = .ok (.iload 4, 2) := by decide +kernel
theorem dX8_likeliest_37 : decode cX8_likeliest 37 = .ok (.iaload, 1) := by decide +kernel
theorem dX8_likeliest_38 : decode cX8_likeliest 38 = .ok (.aload_n 2, 1) := by decide +kernel
theorem dX8_likeliest_39 : decode cX8_likeliest 39 = .ok (.iload 4, 2) := by decide +kernel
theorem dX8_likeliest_41 : decode cX8_likeliest 41 = .ok (.iconst 1, 1) := by decide +kernel
theorem dX8_likeliest_42 : decode cX8_likeliest 42 = .ok (.iadd, 1) := by decide +kernel
theorem dX8_likeliest_43 : decode cX8_likeliest 43 = .ok (.iaload, 1) := by decide +kernel
theorem dX8_likeliest_44 : decode cX8_likeliest 44 = .ok (.isub, 1) := by decide +kernel
theorem dX8_likeliest_45 : decode cX8_likeliest 45 = .ok (.aload_n 2, 1) := by decide +kernel
theorem dX8_likeliest_46 : decode cX8_likeliest 46 = .ok (.iload_n 3, 1) := by decide +kernel
theorem dX8_likeliest_47 : decode cX8_likeliest 47 = .ok (.iaload, 1) := by decide +kernel
theorem dX8_likeliest_48 : decode cX8_likeliest 48 = .ok (.aload_n 2, 1) := by decide +kernel
theorem dX8_likeliest_49 : decode cX8_likeliest 49 = .ok (.iload_n 3, 1) := by decide +kernel
theorem dX8_likeliest_50 : decode cX8_likeliest 50 = .ok (.iconst 1, 1) := by decide +kernel
theorem dX8_likeliest_51 : decode cX8_likeliest 51 = .ok (.iadd, 1) := by decide +kernel
theorem dX8_likeliest_52 : decode cX8_likeliest 52 = .ok (.iaload, 1) := by decide +kernel
theorem dX8_likeliest_53 : decode cX8_likeliest 53 = .ok (.isub, 1) := by decide +kernel
theorem dX8_likeliest_54 : decode cX8_likeliest 54 = .ok (.if_icmp .le 6, 3) := by decide +kernel
theorem dX8_likeliest_57 : decode cX8_likeliest 57 = .ok (.iload 4, 2) := by decide +kernel
theorem dX8_likeliest_59 : decode cX8_likeliest 59 = .ok (.istore_n 3, 1) := by decide +kernel
theorem dX8_likeliest_60 : decode cX8_likeliest 60 = .ok (.iinc 4 1, 3) := by decide +kernel
theorem dX8_likeliest_63 : decode cX8_likeliest 63 = .ok (.goto (-36), 3) := by decide +kernel
theorem dX8_likeliest_66 : decode cX8_likeliest 66 = .ok (.aload_n 0, 1) := by decide +kernel
theorem dX8_likeliest_67 : decode cX8_likeliest 67 = .ok (.aload_n 2, 1) := by decide +kernel
theorem dX8_likeliest_68 : decode cX8_likeliest 68 = .ok (.iload_n 3, 1) := by decide +kernel
theorem dX8_likeliest_69 : decode cX8_likeliest 69 = .ok (.iaload, 1) := by decide +kernel
theorem dX8_likeliest_70 : decode cX8_likeliest 70 = .ok (.aload_n 2, 1) := by decide +kernel
theorem dX8_likeliest_71 : decode cX8_likeliest 71 = .ok (.iload_n 3, 1) := by decide +kernel
theorem dX8_likeliest_72 : decode cX8_likeliest 72 = .ok (.iconst 1, 1) := by decide +kernel
theorem dX8_likeliest_73 : decode cX8_likeliest 73 = .ok (.iadd, 1) := by decide +kernel
theorem dX8_likeliest_74 : decode cX8_likeliest 74 = .ok (.iaload, 1) := by decide +kernel
theorem dX8_likeliest_75 : decode cX8_likeliest 75 = .ok (.isub, 1) := by decide +kernel
theorem dX8_likeliest_76 : decode cX8_likeliest 76 = .ok (.aload_n 2, 1) := by decide +kernel
theorem dX8_likeliest_77 : decode cX8_likeliest 77 = .ok (.iconst 1, 1) := by decide +kernel
theorem dX8_likeliest_78 : decode cX8_likeliest 78 = .ok (.iaload, 1) := by decide +kernel
theorem dX8_likeliest_79 : decode cX8_likeliest 79 = .ok (.invokevirtual 157, 3) := by decide +kernel
theorem dX8_likeliest_82 : decode cX8_likeliest 82 = .ok (.iload_n 3, 1) := by decide +kernel
theorem dX8_likeliest_83 : decode cX8_likeliest 83 = .ok (.ireturn, 1) := by decide +kernel
set_option maxRecDepth 20000 in
theorem ggX8_beats_X8_isLifter : GoodIn wsX8_beats wsX8_isLifter := goodIn_r _ [5, 6, 7, 140, 141, 142, 143, 144, 145, 146, 147, 148, 149, 150, 151, 152, 153, 154, 155, 156, 157, 158, 159, 160, 161, 162, 163, 164, 165, 166, 167] (by decide +kernel) (by decide +kernel)
set_option maxRecDepth 20000 in
theorem gX8_beats_X8_isLifter : GoodIn wsX8_beats (wsV RX8 97 RX8 yX8_isLifter wsX8_isLifter) := goodIn_app (goodIn_of _ (by decide +kernel)) ggX8_beats_X8_isLifter
set_option maxRecDepth 20000 in
theorem ggX8_beats_X8_aimToBeat : GoodIn wsX8_beats wsX8_aimToBeat := goodIn_r _ [11, 12, 13, 14, 15, 16, 17, 4, 18, 19, 6, 20, 21, 22, 23, 24, 25, 26, 27, 28, 29, 30, 31, 32, 33, 34, 35, 36, 37, 38, 39, 40, 41, 42, 43, 44, 45, 46, 47, 48, 49, 50, 51, 52, 53, 54, 55, 56, 57, 58, 59, 60, 61, 62, 63, 64, 65, 66, 67, 68, 69, 70, 71, 72, 73, 74, 75, 76, 77, 78, 79, 80, 81, 82, 83, 84, 85, 86, 87, 88, 89, 90, 91, 92, 93, 94, 95, 96, 97, 98, 99, 100, 101, 102, 103, 104, 105, 106, 107, 108, 109, 110, 111, 112, 113, 114, 115, 116, 117, 118, 119, 120, 121, 122, 123, 124, 125, 126, 127, 128, 129, 130, 131, 132, 133, 134, 135, 140, 141, 142, 143, 144, 145, 146, 147, 148, 149, 150, 151, 152, 153, 154, 155, 156, 157, 158, 159, 160, 161, 162, 163, 164, 165, 166, 167, 168, 169, 170, 171, 172, 173, 174, 175, 176, 177, 178, 179, 180, 181, 182, 183, 184, 185] (by decide +kernel) (by decide +kernel)
set_option maxRecDepth 20000 in
theorem gX8_beats_X8_aimToBeat : GoodIn wsX8_beats (wsV RX8 207 RX8 yX8_aimToBeat wsX8_aimToBeat) := goodIn_app (goodIn_of _ (by decide +kernel)) ggX8_beats_X8_aimToBeat
set_option maxRecDepth 20000 in
theorem ggX8_beats_X8_byPlan : GoodIn wsX8_beats wsX8_byPlan := goodIn_r _ [139, 19, 13, 6, 20, 12, 21, 36, 37, 38, 39, 40, 41, 42, 43, 44, 45, 46, 47, 48, 49, 50, 51, 52, 53, 54, 55, 56, 57, 58, 59, 60, 61, 62, 63, 64, 65, 66, 67, 68, 69, 70, 71, 72, 73, 74, 75, 76, 77, 78, 79, 80, 81, 82, 83, 84, 85, 86, 87, 88, 89, 90, 91, 92, 93, 94, 95, 96, 97, 98, 99, 100, 101, 102, 103, 104, 105, 106, 107, 108, 109, 110, 111, 112, 113, 114, 115, 116, 117, 118, 4, 119, 140, 141, 142, 143, 144, 145, 146, 147, 148, 149, 150, 151, 152, 153, 154, 155, 156, 157, 158, 159, 160, 161, 162, 163, 164, 165, 166, 167, 178, 179, 180, 181, 168, 169, 170, 171, 172, 173, 174, 175, 176, 177, 182, 183, 184, 185] (by decide +kernel) (by decide +kernel)
set_option maxRecDepth 20000 in
theorem gX8_beats_X8_byPlan : GoodIn wsX8_beats (wsV RX8 194 RX8 yX8_byPlan wsX8_byPlan) := goodIn_app (goodIn_of _ (by decide +kernel)) ggX8_beats_X8_byPlan
theorem dX8_beats_0 : decode cX8_beats 0 = .ok (.aload_n 0, 1) := by decide +kernel
theorem dX8_beats_1 : decode cX8_beats 1 = .ok (.iload_n 1, 1) := by decide +kernel
theorem dX8_beats_2 : decode cX8_beats 2 = .ok (.invokevirtual 97, 3) := by decide +kernel
theorem dX8_beats_5 : decode cX8_beats 5 = .ok (.ifCond .eq 16, 3) := by decide +kernel
theorem dX8_beats_8 : decode cX8_beats 8 = .ok (.aload_n 0, 1) := by decide +kernel
theorem dX8_beats_9 : decode cX8_beats 9 = .ok (.iload_n 2, 1) := by decide +kernel
theorem dX8_beats_10 : decode cX8_beats 10 = .ok (.invokevirtual 97, 3) := by decide +kernel
theorem dX8_beats_13 : decode cX8_beats 13 = .ok (.ifCond .eq 8, 3) := by decide +kernel
theorem dX8_beats_16 : decode cX8_beats 16 = .ok (.iload_n 1, 1) := by decide +kernel
theorem dX8_beats_17 : decode cX8_beats 17 = .ok (.iload_n 2, 1) := by decide +kernel
theorem dX8_beats_18 : decode cX8_beats 18 = .ok (.if_icmp .ne 5, 3) := by decide +kernel
theorem dX8_beats_21 : decode cX8_beats 21 = .ok (.iconst (-1), 1) := by decide +kernel
theorem dX8_beats_22 : decode cX8_beats 22 = .ok (.ireturn, 1) := by decide +kernel
theorem dX8_beats_23 : decode cX8_beats 23 = .ok (.aload_n 0, 1) := by decide +kernel
theorem dX8_beats_24 : decode cX8_beats 24 = .ok (.iload_n 1, 1) := by decide +kernel
theorem dX8_beats_25 : decode cX8_beats 25 = .ok (.iload_n 2, 1) := by decide +kernel
theorem dX8_beats_26 : decode cX8_beats 26 = .ok (.invokevirtual 207, 3) := by decide +kernel
theorem dX8_beats_29 : decode cX8_beats 29 = .ok (.aload_n 0, 1) := by decide +kernel
theorem dX8_beats_30 : decode cX8_beats 30 = .ok (.iload_n 1, 1) := by decide +kernel
theorem dX8_beats_31 : decode cX8_beats 31 = .ok (.invokevirtual 194, 3) := by decide +kernel
theorem dX8_beats_34 : decode cX8_beats 34 = .ok (.ireturn, 1) := by decide +kernel
set_option maxRecDepth 20000 in
theorem ggX8_wins_X8_isLifter : GoodIn wsX8_wins wsX8_isLifter := goodIn_r _ [9, 1, 2, 142, 143, 144, 145, 146, 147, 148, 149, 150, 151, 152, 153, 154, 155, 156, 157, 158, 159, 160, 161, 162, 163, 164, 165, 166, 167, 168, 169] (by decide +kernel) (by decide +kernel)
set_option maxRecDepth 20000 in
theorem gX8_wins_X8_isLifter : GoodIn wsX8_wins (wsV RX8 97 RX8 yX8_isLifter wsX8_isLifter) := goodIn_app (goodIn_of _ (by decide +kernel)) ggX8_wins_X8_isLifter
set_option maxRecDepth 20000 in
theorem ggX8_wins_X8_reckonChances : GoodIn wsX8_wins wsX8_reckonChances := goodIn_r _ [13, 14, 15, 16, 1, 17, 18, 19, 20, 21, 22, 23, 24, 25, 26, 27, 28, 29, 30, 31, 32, 33, 34, 35, 36, 37, 38, 39, 40, 41, 42, 43, 44, 45, 46, 47, 48, 49, 50, 51, 52, 53, 54, 55, 56, 57, 58, 59, 60, 61, 62, 63, 64, 65, 66, 67, 68, 69, 70, 71, 72, 73, 74, 75, 76, 77, 78, 79, 80, 81, 82, 83, 84, 85, 86, 87, 88, 89, 90, 91, 92, 93, 94, 95, 96, 97, 98, 99, 100, 101, 102, 103, 104, 105, 106, 107, 108, 109, 110, 111, 112, 113, 114, 115, 116, 8, 117, 142, 143, 144, 145, 146, 147, 148, 149, 150, 151, 152, 153, 154, 155, 156, 157, 158, 159, 160, 161, 162, 163, 164, 165, 166, 167, 168, 169, 170, 171, 172, 173, 174, 175, 176, 177, 178, 179, 180, 181, 182, 183, 184, 185, 186, 187] (by decide +kernel) (by decide +kernel)
set_option maxRecDepth 20000 in
theorem gX8_wins_X8_reckonChances : GoodIn wsX8_wins (wsV RX8 204 RX8 yX8_reckonChances wsX8_reckonChances) := goodIn_app (goodIn_of _ (by decide +kernel)) ggX8_wins_X8_reckonChances
set_option maxRecDepth 20000 in
theorem ggX8_wins_X8_aimAheadOfAll : GoodIn wsX8_wins wsX8_aimAheadOfAll := goodIn_r _ [121, 14, 1, 2, 16, 20, 122, 123, 124, 25, 125, 31, 32, 33, 126, 44, 45, 46, 127, 128, 129, 112, 130, 131, 132, 133, 134, 135, 136, 137, 142, 143, 144, 145, 146, 147, 148, 149, 150, 151, 152, 153, 154, 155, 156, 157, 158, 159, 160, 161, 162, 163, 164, 165, 166, 167, 168, 169, 178, 179, 184, 185, 186, 187] (by decide +kernel) (by decide +kernel)
set_option maxRecDepth 20000 in
theorem gX8_wins_X8_aimAheadOfAll : GoodIn wsX8_wins (wsV RX8 210 RX8 yX8_aimAheadOfAll wsX8_aimAheadOfAll) := goodIn_app (goodIn_of _ (by decide +kernel)) ggX8_wins_X8_aimAheadOfAll
set_option maxRecDepth 20000 in
theorem ggX8_wins_X8_byPlan : GoodIn wsX8_wins wsX8_byPlan := goodIn_r _ [141, 15, 16, 1, 17, 14, 18, 34, 35, 36, 37, 38, 39, 40, 41, 42, 43, 44, 45, 46, 47, 48, 49, 50, 51, 52, 53, 54, 55, 56, 57, 58, 59, 60, 61, 62, 63, 64, 65, 66, 67, 68, 69, 70, 71, 72, 73, 74, 75, 76, 77, 78, 79, 80, 81, 82, 83, 84, 85, 86, 87, 88, 89, 90, 91, 92, 93, 94, 95, 96, 97, 98, 99, 100, 101, 102, 103, 104, 105, 106, 107, 108, 109, 110, 111, 112, 113, 114, 115, 116, 8, 117, 142, 143, 144, 145, 146, 147, 148, 149, 150, 151, 152, 153, 154, 155, 156, 157, 158, 159, 160, 161, 162, 163, 164, 165, 166, 167, 168, 169, 180, 181, 182, 183, 170, 171, 172, 173, 174, 175, 176, 177, 178, 179, 184, 185, 186, 187] (by decide +kernel) (by decide +kernel)
set_option maxRecDepth 20000 in
theorem gX8_wins_X8_byPlan : GoodIn wsX8_wins (wsV RX8 194 RX8 yX8_byPlan wsX8_byPlan) := goodIn_app (goodIn_of _ (by decide +kernel)) ggX8_wins_X8_byPlan
theorem dX8_wins_0 : decode cX8_wins 0 = .ok (.aload_n 0, 1) := by decide +kernel
theorem dX8_wins_1 : decode cX8_wins 1 = .ok (.iload_n 1, 1) := by decide +kernel
