theorem dX8_wins_2 : decode cX8_wins 2 = .ok (.invokevirtual 97, 3) := by decide +kernel
theorem dX8_wins_5 : decode cX8_wins 5 = .ok (.ifCond .ne 5, 3) := by decide +kernel
theorem dX8_wins_8 : decode cX8_wins 8 = .ok (.iconst (-1), 1) := by decide +kernel
theorem dX8_wins_9 : decode cX8_wins 9 = .ok (.ireturn, 1) := by decide +kernel
theorem dX8_wins_10 : decode cX8_wins 10 = .ok (.iconst 0, 1) := by decide +kernel
theorem dX8_wins_11 : decode cX8_wins 11 = .ok (.istore_n 2, 1) := by decide +kernel
theorem dX8_wins_12 : decode cX8_wins 12 = .ok (.iload_n 2, 1) := by decide +kernel
theorem dX8_wins_13 : decode cX8_wins 13 = .ok (.aload_n 0, 1) := by decide +kernel
theorem dX8_wins_14 : decode cX8_wins 14 = .ok (.getfield 28, 3) := by decide +kernel
theorem dX8_wins_17 : decode cX8_wins 17 = .ok (.getfield 87, 3) := by decide +kernel
theorem dX8_wins_20 : decode cX8_wins 20 = .ok (.if_icmp .ge 14, 3) := by decide +kernel
theorem dX8_wins_23 : decode cX8_wins 23 = .ok (.aload_n 0, 1) := by decide +kernel
theorem dX8_wins_24 : decode cX8_wins 24 = .ok (.iload_n 2, 1) := by decide +kernel
theorem dX8_wins_25 : decode cX8_wins 25 = .ok (.invokevirtual 204, 3) := by decide +kernel
theorem dX8_wins_28 : decode cX8_wins 28 = .ok (.iinc 2 1, 3) := by decide +kernel
theorem dX8_wins_31 : decode cX8_wins 31 = .ok (.goto (-19), 3) := by decide +kernel
theorem dX8_wins_34 : decode cX8_wins 34 = .ok (.iconst 0, 1) := by decide +kernel
theorem dX8_wins_35 : decode cX8_wins 35 = .ok (.istore_n 2, 1) := by decide +kernel
theorem dX8_wins_36 : decode cX8_wins 36 = .ok (.iload_n 2, 1) := by decide +kernel
theorem dX8_wins_37 : decode cX8_wins 37 = .ok (.aload_n 0, 1) := by decide +kernel
theorem dX8_wins_38 : decode cX8_wins 38 = .ok (.getfield 28, 3) := by decide +kernel
theorem dX8_wins_41 : decode cX8_wins 41 = .ok (.getfield 87, 3) := by decide +kernel
theorem dX8_wins_44 : decode cX8_wins 44 = .ok (.if_icmp .ge 26, 3) := by decide +kernel
theorem dX8_wins_47 : decode cX8_wins 47 = .ok (.aload_n 0, 1) := by decide +kernel
theorem dX8_wins_48 : decode cX8_wins 48 = .ok (.iload_n 2, 1) := by decide +kernel
theorem dX8_wins_49 : decode cX8_wins 49 = .ok (.invokevirtual 210, 3) := by decide +kernel
theorem dX8_wins_52 : decode cX8_wins 52 = .ok (.aload_n 0, 1) := by decide +kernel
theorem dX8_wins_53 : decode cX8_wins 53 = .ok (.getfield 61, 3) := by decide +kernel
theorem dX8_wins_56 : decode cX8_wins 56 = .ok (.iload_n 2, 1) := by decide +kernel
theorem dX8_wins_57 : decode cX8_wins 57 = .ok (.aload_n 0, 1) := by decide +kernel
theorem dX8_wins_58 : decode cX8_wins 58 = .ok (.iload_n 2, 1) := by decide +kernel
theorem dX8_wins_59 : decode cX8_wins 59 = .ok (.invokevirtual 194, 3) := by decide +kernel
theorem dX8_wins_62 : decode cX8_wins 62 = .ok (.i2l, 1) := by decide +kernel
theorem dX8_wins_63 : decode cX8_wins 63 = .ok (.lastore, 1) := by decide +kernel
theorem dX8_wins_64 : decode cX8_wins 64 = .ok (.iinc 2 1, 3) := by decide +kernel
theorem dX8_wins_67 : decode cX8_wins 67 = .ok (.goto (-31), 3) := by decide +kernel
theorem dX8_wins_70 : decode cX8_wins 70 = .ok (.aload_n 0, 1) := by decide +kernel
theorem dX8_wins_71 : decode cX8_wins 71 = .ok (.aload_n 0, 1) := by decide +kernel
theorem dX8_wins_72 : decode cX8_wins 72 = .ok (.getfield 28, 3) := by decide +kernel
theorem dX8_wins_75 : decode cX8_wins 75 = .ok (.getfield 87, 3) := by decide +kernel
theorem dX8_wins_78 : decode cX8_wins 78 = .ok (.putfield 65, 3) := by decide +kernel
theorem dX8_wins_81 : decode cX8_wins 81 = .ok (.aload_n 0, 1) := by decide +kernel
theorem dX8_wins_82 : decode cX8_wins 82 = .ok (.getfield 61, 3) := by decide +kernel
theorem dX8_wins_85 : decode cX8_wins 85 = .ok (.iload_n 1, 1) := by decide +kernel
theorem dX8_wins_86 : decode cX8_wins 86 = .ok (.laload, 1) := by decide +kernel
theorem dX8_wins_87 : decode cX8_wins 87 = .ok (.l2i, 1) := by decide +kernel
theorem dX8_wins_88 : decode cX8_wins 88 = .ok (.ireturn, 1) := by decide +kernel
set_option maxRecDepth 20000 in
theorem ggX8_bombs_X8_isLifter : GoodIn wsX8_bombs wsX8_isLifter := goodIn_r _ [11, 12, 13, 118, 119, 120, 121, 122, 123, 124, 125, 126, 127, 128, 129, 134, 135, 136, 137, 138, 139, 140, 141, 142, 143, 144, 145, 146, 147, 148, 149] (by decide +kernel) (by decide +kernel)
set_option maxRecDepth 20000 in
theorem gX8_bombs_X8_isLifter : GoodIn wsX8_bombs (wsV RX8 97 RX8 yX8_isLifter wsX8_isLifter) := goodIn_app (goodIn_of _ (by decide +kernel)) ggX8_bombs_X8_isLifter
set_option maxRecDepth 20000 in
theorem ggX8_bombs_X0_beReach : GoodIn wsX8_bombs wsX0_beReach := goodIn_r _ [18, 19, 20, 21, 150, 151] (by decide +kernel) (by decide +kernel)
set_option maxRecDepth 20000 in
theorem gX8_bombs_X0_beReach : GoodIn wsX8_bombs (wsV RX8 200 RX0 yX0_beReach wsX0_beReach) := goodIn_app (goodIn_of _ (by decide +kernel)) ggX8_bombs_X0_beReach
set_option maxRecDepth 20000 in
theorem ggX8_bombs_X8_byPlan : GoodIn wsX8_bombs wsX8_byPlan := goodIn_r _ [25, 26, 3, 12, 27, 1, 28, 29, 30, 31, 32, 33, 34, 35, 36, 37, 38, 39, 40, 41, 42, 43, 44, 45, 46, 47, 48, 49, 50, 51, 52, 53, 54, 55, 56, 57, 58, 59, 60, 61, 62, 63, 64, 65, 66, 67, 68, 69, 70, 71, 72, 73, 74, 75, 76, 77, 78, 79, 80, 81, 82, 83, 84, 85, 86, 87, 88, 89, 90, 91, 92, 93, 94, 95, 96, 97, 98, 99, 100, 101, 102, 103, 104, 105, 106, 107, 108, 109, 110, 111, 10, 112, 118, 119, 120, 121, 122, 123, 124, 125, 126, 127, 128, 129, 134, 135, 136, 137, 138, 139, 140, 141, 142, 143, 144, 145, 146, 147, 148, 149, 152, 153, 154, 155, 156, 157, 158, 159, 160, 161, 162, 163, 150, 151, 130, 131, 132, 133] (by decide +kernel) (by decide +kernel)
set_option maxRecDepth 20000 in
theorem gX8_bombs_X8_byPlan : GoodIn wsX8_bombs (wsV RX8 194 RX8 yX8_byPlan wsX8_byPlan) := goodIn_app (goodIn_of _ (by decide +kernel)) ggX8_bombs_X8_byPlan
set_option maxRecDepth 20000 in
theorem ggX8_bombs_X8_allFail : GoodIn wsX8_bombs wsX8_allFail := goodIn_r _ [116, 2, 3, 12, 27, 117, 105, 106, 107, 108, 109, 110, 78, 79, 80, 118, 119, 120, 121, 122, 123, 124, 125, 126, 127, 128, 129, 134, 135, 136, 137, 138, 139, 140, 141, 142, 143, 144, 145, 146, 147, 148, 149, 130, 131, 132, 133] (by decide +kernel) (by decide +kernel)
set_option maxRecDepth 20000 in
theorem gX8_bombs_X8_allFail : GoodIn wsX8_bombs (wsV RX8 214 RX8 yX8_allFail wsX8_allFail) := goodIn_app (goodIn_of _ (by decide +kernel)) ggX8_bombs_X8_allFail
theorem dX8_bombs_0 : decode cX8_bombs 0 = .ok (.aload_n 0, 1) := by decide +kernel
theorem dX8_bombs_1 : decode cX8_bombs 1 = .ok (.iload_n 1, 1) := by decide +kernel
theorem dX8_bombs_2 : decode cX8_bombs 2 = .ok (.invokevirtual 97, 3) := by decide +kernel
theorem dX8_bombs_5 : decode cX8_bombs 5 = .ok (.ifCond .ne 5, 3) := by decide +kernel
theorem dX8_bombs_8 : decode cX8_bombs 8 = .ok (.iconst (-1), 1) := by decide +kernel
theorem dX8_bombs_9 : decode cX8_bombs 9 = .ok (.ireturn, 1) := by decide +kernel
theorem dX8_bombs_10 : decode cX8_bombs 10 = .ok (.aload_n 0, 1) := by decide +kernel
theorem dX8_bombs_11 : decode cX8_bombs 11 = .ok (.getfield 45, 3) := by decide +kernel
theorem dX8_bombs_14 : decode cX8_bombs 14 = .ok (.iconst 1, 1) := by decide +kernel
theorem dX8_bombs_15 : decode cX8_bombs 15 = .ok (.invokevirtual 200, 3) := by decide +kernel
theorem dX8_bombs_18 : decode cX8_bombs 18 = .ok (.ldc 213, 2) := by decide +kernel
theorem dX8_bombs_20 : decode cX8_bombs 20 = .ok (.aload_n 0, 1) := by decide +kernel
theorem dX8_bombs_21 : decode cX8_bombs 21 = .ok (.iload_n 1, 1) := by decide +kernel
theorem dX8_bombs_22 : decode cX8_bombs 22 = .ok (.invokevirtual 194, 3) := by decide +kernel
theorem dX8_bombs_25 : decode cX8_bombs 25 = .ok (.isub, 1) := by decide +kernel
theorem dX8_bombs_26 : decode cX8_bombs 26 = .ok (.istore_n 2, 1) := by decide +kernel
theorem dX8_bombs_27 : decode cX8_bombs 27 = .ok (.aload_n 0, 1) := by decide +kernel
theorem dX8_bombs_28 : decode cX8_bombs 28 = .ok (.getfield 18, 3) := by decide +kernel
theorem dX8_bombs_31 : decode cX8_bombs 31 = .ok (.iload_n 1, 1) := by decide +kernel
theorem dX8_bombs_32 : decode cX8_bombs 32 = .ok (.aaload, 1) := by decide +kernel
theorem dX8_bombs_33 : decode cX8_bombs 33 = .ok (.getfield 107, 3) := by decide +kernel
theorem dX8_bombs_36 : decode cX8_bombs 36 = .ok (.astore_n 3, 1) := by decide +kernel
theorem dX8_bombs_37 : decode cX8_bombs 37 = .ok (.iconst 0, 1) := by decide +kernel
theorem dX8_bombs_38 : decode cX8_bombs 38 = .ok (.istore 4, 2) := by decide +kernel
theorem dX8_bombs_40 : decode cX8_bombs 40 = .ok (.iload 4, 2) := by decide +kernel
theorem dX8_bombs_42 : decode cX8_bombs 42 = .ok (.iconst 3, 1) := by decide +kernel
theorem dX8_bombs_43 : decode cX8_bombs 43 = .ok (.if_icmp .ge 38, 3) := by decide +kernel
theorem dX8_bombs_46 : decode cX8_bombs 46 = .ok (.aload_n 0, 1) := by decide +kernel
theorem dX8_bombs_47 : decode cX8_bombs 47 = .ok (.getfield 61, 3) := by decide +kernel
theorem dX8_bombs_50 : decode cX8_bombs 50 = .ok (.iload 4, 2) := by decide +kernel
theorem dX8_bombs_52 : decode cX8_bombs 52 = .ok (.aload_n 0, 1) := by decide +kernel
theorem dX8_bombs_53 : decode cX8_bombs 53 = .ok (.iload_n 1, 1) := by decide +kernel
theorem dX8_bombs_54 : decode cX8_bombs 54 = .ok (.iload 4, 2) := by decide +kernel
theorem dX8_bombs_56 : decode cX8_bombs 56 = .ok (.aload_n 3, 1) := by decide +kernel
theorem dX8_bombs_57 : decode cX8_bombs 57 = .ok (.iload 4, 2) := by decide +kernel
theorem dX8_bombs_59 : decode cX8_bombs 59 = .ok (.iconst 3, 1) := by decide +kernel
theorem dX8_bombs_60 : decode cX8_bombs 60 = .ok (.imul, 1) := by decide +kernel
theorem dX8_bombs_61 : decode cX8_bombs 61 = .ok (.iaload, 1) := by decide +kernel
theorem dX8_bombs_62 : decode cX8_bombs 62 = .ok (.aload_n 3, 1) := by decide +kernel
theorem dX8_bombs_63 : decode cX8_bombs 63 = .ok (.iload 4, 2) := by decide +kernel
theorem dX8_bombs_65 : decode cX8_bombs 65 = .ok (.iconst 3, 1) := by decide +kernel
theorem dX8_bombs_66 : decode cX8_bombs 66 = .ok (.imul, 1) := by decide +kernel
theorem dX8_bombs_67 : decode cX8_bombs 67 = .ok (.iconst 2, 1) := by decide +kernel
theorem dX8_bombs_68 : decode cX8_bombs 68 = .ok (.iadd, 1) := by decide +kernel
theorem dX8_bombs_69 : decode cX8_bombs 69 = .ok (.iaload, 1) := by decide +kernel
theorem dX8_bombs_70 : decode cX8_bombs 70 = .ok (.invokevirtual 214, 3) := by decide +kernel
theorem dX8_bombs_73 : decode cX8_bombs 73 = .ok (.i2l, 1) := by decide +kernel
theorem dX8_bombs_74 : decode cX8_bombs 74 = .ok (.lastore, 1) := by decide +kernel
theorem dX8_bombs_75 : decode cX8_bombs 75 = .ok (.iinc 4 1, 3) := by decide +kernel
theorem dX8_bombs_78 : decode cX8_bombs 78 = .ok (.goto (-38), 3) := by decide +kernel
theorem dX8_bombs_81 : decode cX8_bombs 81 = .ok (.aload_n 0, 1) := by decide +kernel
theorem dX8_bombs_82 : decode cX8_bombs 82 = .ok (.iconst 3, 1) := by decide +kernel
theorem dX8_bombs_83 : decode cX8_bombs 83 = .ok (.putfield 65, 3) := by decide +kernel
theorem dX8_bombs_86 : decode cX8_bombs 86 = .ok (.iload_n 2, 1) := by decide +kernel
theorem dX8_bombs_87 : decode cX8_bombs 87 = .ok (.ireturn, 1) := by decide +kernel
set_option maxRecDepth 20000 in
theorem ggX8_opener_X8_isLifter : GoodIn wsX8_opener wsX8_isLifter := goodIn_r _ [6, 7, 8, 28, 29, 30, 31, 32, 33, 34, 35, 36, 37, 38, 39, 40, 41, 42, 43, 44, 45, 46, 47, 48, 49, 50, 51, 52, 53, 54, 55] (by decide +kernel) (by decide +kernel)
set_option maxRecDepth 20000 in
theorem gX8_opener_X8_isLifter : GoodIn wsX8_opener (wsV RX8 97 RX8 yX8_isLifter wsX8_isLifter) := goodIn_app (goodIn_of _ (by decide +kernel)) ggX8_opener_X8_isLifter
set_option maxRecDepth 20000 in
theorem ggX8_opener_X8_isLift : GoodIn wsX8_opener wsX8_isLift := goodIn_r _ [11] (by decide +kernel) (by decide +kernel)
set_option maxRecDepth 20000 in
theorem gX8_opener_X8_isLift : GoodIn wsX8_opener (va_wsS RX8 100 yX8_isLift wsX8_isLift) := goodIn_app (goodIn_of _ (by decide +kernel)) ggX8_opener_X8_isLift
set_option maxRecDepth 20000 in
theorem ggX8_opener_X8_allFail : GoodIn wsX8_opener wsX8_allFail := goodIn_r _ [15, 1, 16, 7, 17, 18, 19, 20, 21, 22, 23, 24, 25, 26, 27, 28, 29, 30, 31, 32, 33, 34, 35, 36, 37, 38, 39, 40, 41, 42, 43, 44, 45, 46, 47, 48, 49, 50, 51, 52, 53, 54, 55, 56, 57, 58, 59] (by decide +kernel) (by decide +kernel)
set_option maxRecDepth 20000 in
theorem gX8_opener_X8_allFail : GoodIn wsX8_opener (wsV RX8 214 RX8 yX8_allFail wsX8_allFail) := goodIn_app (goodIn_of _ (by decide +kernel)) ggX8_opener_X8_allFail
theorem dX8_opener_0 : decode cX8_opener 0 = .ok (.aload_n 0, 1) := by decide +kernel
theorem dX8_opener_1 : decode cX8_opener 1 = .ok (.iload_n 1, 1) := by decide +kernel
theorem dX8_opener_2 : decode cX8_opener 2 = .ok (.invokevirtual 97, 3) := by decide +kernel
theorem dX8_opener_5 : decode cX8_opener 5 = .ok (.ifCond .eq 20, 3) := by decide +kernel
theorem dX8_opener_8 : decode cX8_opener 8 = .ok (.iload_n 2, 1) := by decide +kernel
theorem dX8_opener_9 : decode cX8_opener 9 = .ok (.invokestatic 100, 3) := by decide +kernel
theorem dX8_opener_12 : decode cX8_opener 12 = .ok (.ifCond .eq 13, 3) := by decide +kernel
theorem dX8_opener_15 : decode cX8_opener 15 = .ok (.iload_n 3, 1) := by decide +kernel
theorem dX8_opener_16 : decode cX8_opener 16 = .ok (.ifCond .lt 9, 3) := by decide +kernel
theorem dX8_opener_19 : decode cX8_opener 19 = .ok (.iload_n 3, 1) := by decide +kernel
theorem dX8_opener_20 : decode cX8_opener 20 = .ok (.ldc 213, 2) := by decide +kernel
theorem dX8_opener_22 : decode cX8_opener 22 = .ok (.if_icmp .le 5, 3) := by decide +kernel
theorem dX8_opener_25 : decode cX8_opener 25 = .ok (.iconst (-1), 1) := by decide +kernel
theorem dX8_opener_26 : decode cX8_opener 26 = .ok (.ireturn, 1) := by decide +kernel
theorem dX8_opener_27 : decode cX8_opener 27 = .ok (.bipush 40, 2) := by decide +kernel
theorem dX8_opener_29 : decode cX8_opener 29 = .ok (.istore 4, 2) := by decide +kernel
theorem dX8_opener_31 : decode cX8_opener 31 = .ok (.iload 4, 2) := by decide +kernel
theorem dX8_opener_33 : decode cX8_opener 33 = .ok (.iconst 1, 1) := by decide +kernel
theorem dX8_opener_34 : decode cX8_opener 34 = .ok (.if_icmp .lt 25, 3) := by decide +kernel
theorem dX8_opener_37 : decode cX8_opener 37 = .ok (.aload_n 0, 1) := by decide +kernel
theorem dX8_opener_38 : decode cX8_opener 38 = .ok (.iload_n 1, 1) := by decide +kernel
theorem dX8_opener_39 : decode cX8_opener 39 = .ok (.iload_n 2, 1) := by decide +kernel
theorem dX8_opener_40 : decode cX8_opener 40 = .ok (.iload 4, 2) := by decide +kernel
theorem dX8_opener_42 : decode cX8_opener 42 = .ok (.iconst 0, 1) := by decide +kernel
theorem dX8_opener_43 : decode cX8_opener 43 = .ok (.invokevirtual 214, 3) := by decide +kernel
theorem dX8_opener_46 : decode cX8_opener 46 = .ok (.iload_n 3, 1) := by decide +kernel
theorem dX8_opener_47 : decode cX8_opener 47 = .ok (.if_icmp .gt 6, 3) := by decide +kernel
theorem dX8_opener_50 : decode cX8_opener 50 = .ok (.iload 4, 2) := by decide +kernel
theorem dX8_opener_52 : decode cX8_opener 52 = .ok (.ireturn, 1) := by decide +kernel
theorem dX8_opener_53 : decode cX8_opener 53 = .ok (.iinc 4 (-1), 3) := by decide +kernel
theorem dX8_opener_56 : decode cX8_opener 56 = .ok (.goto (-25), 3) := by decide +kernel
theorem dX8_opener_59 : decode cX8_opener 59 = .ok (.bipush (-2), 2) := by decide +kernel
theorem dX8_opener_61 : decode cX8_opener 61 = .ok (.ireturn, 1) := by decide +kernel
set_option maxRecDepth 20000 in
theorem ggX8_heavy_X8_isLifter : GoodIn wsX8_heavy wsX8_isLifter := goodIn_r _ [6, 7, 8, 219, 220, 221, 222, 223, 224, 225, 226, 227, 228, 229, 230, 231, 232, 233, 234, 235, 236, 237, 238, 239, 240, 241, 242, 243, 244, 245, 246] (by decide +kernel) (by decide +kernel)
set_option maxRecDepth 20000 in
theorem gX8_heavy_X8_isLifter : GoodIn wsX8_heavy (wsV RX8 97 RX8 yX8_isLifter wsX8_isLifter) := goodIn_app (goodIn_of _ (by decide +kernel)) ggX8_heavy_X8_isLifter
set_option maxRecDepth 20000 in
theorem ggX8_heavy_X0_beMass : GoodIn wsX8_heavy wsX0_beMass := goodIn_r _ [13, 14, 15, 247, 248] (by decide +kernel) (by decide +kernel)
set_option maxRecDepth 20000 in
theorem gX8_heavy_X0_beMass : GoodIn wsX8_heavy (wsV RX8 191 RX0 yX0_beMass wsX0_beMass) := goodIn_app (goodIn_of _ (by decide +kernel)) ggX8_heavy_X0_beMass
set_option maxRecDepth 20000 in
theorem ggX8_heavy_X8_byChoice : GoodIn wsX8_heavy wsX8_byChoice := goodIn_r _ [19, 20, 7, 21, 22, 23, 24, 5, 25, 26, 27, 28, 29, 1, 30, 31, 32, 33, 34, 35, 36, 37, 38, 39, 40, 41, 42, 43, 44, 45, 46, 47, 48, 49, 50, 51, 52, 53, 12, 54, 55, 56, 57, 58, 14, 59, 15, 60, 61, 62, 63, 64, 65, 66, 67, 68, 69, 70, 71, 72, 73, 74, 75, 76, 77, 78, 79, 80, 81, 82, 83, 84, 85, 86, 87, 88, 89, 90, 91, 92, 93, 94, 95, 96, 97, 98, 99, 100, 101, 102, 103, 104, 105, 106, 107, 108, 109, 110, 111, 112, 113, 114, 115, 116, 117, 118, 119, 120, 121, 122, 123, 124, 125, 126, 127, 128, 129, 130, 131, 132, 133, 134, 135, 136, 137, 138, 139, 140, 141, 142, 143, 144, 145, 146, 147, 148, 149, 150, 151, 152, 153, 154, 155, 156, 157, 158, 159, 160, 161, 162, 163, 164, 165, 166, 167, 168, 169, 170, 171, 172, 173, 174, 175, 176, 177, 178, 179, 180, 181, 182, 183, 184, 185, 186, 187, 188, 189, 190, 191, 192, 193, 194, 195, 196, 197, 198, 199, 200, 201, 202, 203, 204, 205, 206, 207, 208, 209, 210, 211, 212, 213, 214, 215, 216, 217, 218, 219, 220, 221, 222, 223, 224, 225, 226, 227, 228, 229, 230, 249, 250, 251, 252, 253, 254, 255, 256, 257, 258, 259, 260, 231, 232, 233, 234, 235, 236, 237, 238, 239, 240, 241, 242, 243, 244, 245, 246, 247, 248, 261, 262, 263, 264, 265, 266, 267, 268, 269, 270, 271, 272, 273, 274, 275, 276] (by decide +kernel) (by decide +kernel)
set_option maxRecDepth 20000 in
theorem gX8_heavy_X8_byChoice : GoodIn wsX8_heavy (wsV RX8 218 RX8 yX8_byChoice wsX8_byChoice) := goodIn_app (goodIn_of _ (by decide +kernel)) ggX8_heavy_X8_byChoice
theorem dX8_heavy_0 : decode cX8_heavy 0 = .ok (.aload_n 0, 1) := by decide +kernel
theorem dX8_heavy_1 : decode cX8_heavy 1 = .ok (.iload_n 1, 1) := by decide +kernel
theorem dX8_heavy_2 : decode cX8_heavy 2 = .ok (.invokevirtual 97, 3) := by decide +kernel
theorem dX8_heavy_5 : decode cX8_heavy 5 = .ok (.ifCond .ne 5, 3) := by decide +kernel
theorem dX8_heavy_8 : decode cX8_heavy 8 = .ok (.iconst (-1), 1) := by decide +kernel
theorem dX8_heavy_9 : decode cX8_heavy 9 = .ok (.ireturn, 1) := by decide +kernel
theorem dX8_heavy_10 : decode cX8_heavy 10 = .ok (.aload_n 0, 1) := by decide +kernel
theorem dX8_heavy_11 : decode cX8_heavy 11 = .ok (.getfield 45, 3) := by decide +kernel
theorem dX8_heavy_14 : decode cX8_heavy 14 = .ok (.invokevirtual 191, 3) := by decide +kernel
theorem dX8_heavy_17 : decode cX8_heavy 17 = .ok (.aload_n 0, 1) := by decide +kernel
theorem dX8_heavy_18 : decode cX8_heavy 18 = .ok (.iload_n 1, 1) := by decide +kernel
theorem dX8_heavy_19 : decode cX8_heavy 19 = .ok (.invokevirtual 218, 3) := by decide +kernel
theorem dX8_heavy_22 : decode cX8_heavy 22 = .ok (.ireturn, 1) := by decide +kernel
set_option maxRecDepth 20000 in
theorem ggX8_reach_X8_isLifter : GoodIn wsX8_reach wsX8_isLifter := goodIn_r _ [6, 7, 8, 219, 220, 221, 222, 223, 224, 225, 226, 227, 228, 229, 230, 231, 232, 233, 234, 235, 236, 237, 238, 239, 240, 241, 242, 243, 244, 245, 246] (by decide +kernel) (by decide +kernel)
set_option maxRecDepth 20000 in
theorem gX8_reach_X8_isLifter : GoodIn wsX8_reach (wsV RX8 97 RX8 yX8_isLifter wsX8_isLifter) := goodIn_app (goodIn_of _ (by decide +kernel)) ggX8_reach_X8_isLifter
set_option maxRecDepth 20000 in
theorem ggX8_reach_X8_isAimed : GoodIn wsX8_reach wsX8_isAimed := goodIn_r _ [11] (by decide +kernel) (by decide +kernel)
set_option maxRecDepth 20000 in
theorem gX8_reach_X8_isAimed : GoodIn wsX8_reach (va_wsS RX8 197 yX8_isAimed wsX8_isAimed) := goodIn_app (goodIn_of _ (by decide +kernel)) ggX8_reach_X8_isAimed
set_option maxRecDepth 20000 in
theorem ggX8_reach_X0_beReach : GoodIn wsX8_reach wsX0_beReach := goodIn_r _ [16, 17, 18, 19, 247, 248] (by decide +kernel) (by decide +kernel)
set_option maxRecDepth 20000 in
theorem gX8_reach_X0_beReach : GoodIn wsX8_reach (wsV RX8 200 RX0 yX0_beReach wsX0_beReach) := goodIn_app (goodIn_of _ (by decide +kernel)) ggX8_reach_X0_beReach
set_option maxRecDepth 20000 in
theorem ggX8_reach_X8_byChoice : GoodIn wsX8_reach wsX8_byChoice := goodIn_r _ [23, 24, 7, 25, 26, 27, 28, 5, 29, 30, 31, 32, 33, 1, 34, 35, 36, 37, 38, 39, 40, 41, 42, 43, 44, 45, 46, 47, 48, 49, 50, 51, 52, 53, 54, 55, 56, 57, 15, 58, 59, 13, 14, 16, 17, 18, 19, 60, 61, 62, 63, 64, 65, 66, 67, 68, 69, 70, 71, 72, 73, 74, 75, 76, 77, 78, 79, 80, 81, 82, 83, 84, 85, 86, 87, 88, 89, 90, 91, 92, 93, 94, 95, 96, 97, 98, 99, 100, 101, 102, 103, 104, 105, 106, 107, 108, 109, 110, 111, 112, 113, 114, 115, 116, 117, 118, 119, 120, 121, 122, 123, 124, 125, 126, 127, 128, 129, 130, 131, 132, 133, 134, 135, 136, 137, 138, 139, 140, 141, 142, 143, 144, 145, 146, 147, 148, 149, 150, 151, 152, 153, 154, 155, 156, 157, 158, 159, 160, 161, 162, 163, 164, 165, 166, 167, 168, 169, 170, 171, 172, 173, 174, 175, 176, 177, 178, 179, 180, 181, 182, 183, 184, 185, 186, 187, 188, 189, 190, 191, 192, 193, 194, 195, 196, 197, 198, 199, 200, 201, 202, 203, 204, 205, 206, 207, 208, 209, 210, 211, 212, 213, 214, 215, 216, 217, 218, 219, 220, 221, 222, 223, 224, 225, 226, 227, 228, 229, 230, 249, 250, 251, 252, 253, 254, 255, 256, 257, 258, 259, 260, 231, 232, 233, 234, 235, 236, 237, 238, 239, 240, 241, 242, 243, 244, 245, 246, 247, 248, 261, 262, 263, 264, 265, 266, 267, 268, 269, 270, 271, 272, 273, 274, 275, 276] (by decide +kernel) (by decide +kernel)
