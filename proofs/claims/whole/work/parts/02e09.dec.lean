theorem dX8_allFail_68 : decode cX8_allFail 68 = .ok (.goto (-58), 3) := by decide +kernel
theorem dX8_allFail_71 : decode cX8_allFail 71 = .ok (.iload 5, 2) := by decide +kernel
theorem dX8_allFail_73 : decode cX8_allFail 73 = .ok (.ireturn, 1) := by decide +kernel
set_option maxRecDepth 20000 in
theorem ggX8_byPlan_X6_prepare : GoodIn wsX8_byPlan wsX6_prepare := goodIn_r _ [11, 12, 13, 14, 15, 16, 17, 18, 19, 120, 121, 122, 123] (by decide +kernel) (by decide +kernel)
set_option maxRecDepth 20000 in
theorem gX8_byPlan_X6_prepare : GoodIn wsX8_byPlan (wsV RX8 278 RX6 yX6_prepare wsX6_prepare) := goodIn_app (goodIn_of _ (by decide +kernel)) ggX8_byPlan_X6_prepare
set_option maxRecDepth 20000 in
theorem ggX8_byPlan_X5_look : GoodIn wsX8_byPlan wsX5_look := goodIn_r _ [24, 25, 26, 27, 28, 29, 30, 31, 32, 33, 34, 35, 36, 37, 38, 39, 40, 41, 42, 43, 44, 45, 46, 47, 48, 49, 50, 51, 52, 53, 54, 55, 56, 57, 58, 104, 105, 106, 107, 108, 109, 110, 111, 112, 113, 114, 115, 116, 117, 118, 119, 124, 125, 126, 127, 128, 129, 130, 131] (by decide +kernel) (by decide +kernel)
set_option maxRecDepth 20000 in
theorem gX8_byPlan_X5_look : GoodIn wsX8_byPlan (wsV RX8 225 RX5 yX5_look wsX5_look) := goodIn_app (goodIn_of _ (by decide +kernel)) ggX8_byPlan_X5_look
set_option maxRecDepth 20000 in
theorem ggX8_byPlan_X6_valueFrom : GoodIn wsX8_byPlan wsX6_valueFrom := goodIn_r _ [62, 12, 14, 63, 64, 65, 66, 67, 68, 69, 70, 71, 72, 73, 10, 74, 75, 15, 76, 77, 78, 79, 80, 81, 56, 57, 58, 13, 82, 83, 84, 85, 86, 87, 88, 89, 90, 91, 120, 121, 122, 123, 124, 125, 126, 127, 128, 129, 130, 131, 132, 133, 134, 135, 136, 137] (by decide +kernel) (by decide +kernel)
set_option maxRecDepth 20000 in
theorem gX8_byPlan_X6_valueFrom : GoodIn wsX8_byPlan (wsV RX8 282 RX6 yX6_valueFrom wsX6_valueFrom) := goodIn_app (goodIn_of _ (by decide +kernel)) ggX8_byPlan_X6_valueFrom
theorem dX8_byPlan_0 : decode cX8_byPlan 0 = .ok (.aload_n 0, 1) := by decide +kernel
theorem dX8_byPlan_1 : decode cX8_byPlan 1 = .ok (.getfield 52, 3) := by decide +kernel
theorem dX8_byPlan_4 : decode cX8_byPlan 4 = .ok (.aload_n 0, 1) := by decide +kernel
theorem dX8_byPlan_5 : decode cX8_byPlan 5 = .ok (.getfield 18, 3) := by decide +kernel
theorem dX8_byPlan_8 : decode cX8_byPlan 8 = .ok (.iload_n 1, 1) := by decide +kernel
theorem dX8_byPlan_9 : decode cX8_byPlan 9 = .ok (.aaload, 1) := by decide +kernel
theorem dX8_byPlan_10 : decode cX8_byPlan 10 = .ok (.aload_n 0, 1) := by decide +kernel
theorem dX8_byPlan_11 : decode cX8_byPlan 11 = .ok (.getfield 28, 3) := by decide +kernel
theorem dX8_byPlan_14 : decode cX8_byPlan 14 = .ok (.getfield 111, 3) := by decide +kernel
theorem dX8_byPlan_17 : decode cX8_byPlan 17 = .ok (.aload_n 0, 1) := by decide +kernel
theorem dX8_byPlan_18 : decode cX8_byPlan 18 = .ok (.getfield 45, 3) := by decide +kernel
theorem dX8_byPlan_21 : decode cX8_byPlan 21 = .ok (.invokevirtual 278, 3) := by decide +kernel
theorem dX8_byPlan_24 : decode cX8_byPlan 24 = .ok (.aload_n 0, 1) := by decide +kernel
theorem dX8_byPlan_25 : decode cX8_byPlan 25 = .ok (.getfield 38, 3) := by decide +kernel
theorem dX8_byPlan_28 : decode cX8_byPlan 28 = .ok (.aload_n 0, 1) := by decide +kernel
theorem dX8_byPlan_29 : decode cX8_byPlan 29 = .ok (.getfield 28, 3) := by decide +kernel
theorem dX8_byPlan_32 : decode cX8_byPlan 32 = .ok (.iload_n 1, 1) := by decide +kernel
theorem dX8_byPlan_33 : decode cX8_byPlan 33 = .ok (.invokevirtual 225, 3) := by decide +kernel
theorem dX8_byPlan_36 : decode cX8_byPlan 36 = .ok (.aload_n 0, 1) := by decide +kernel
theorem dX8_byPlan_37 : decode cX8_byPlan 37 = .ok (.getfield 52, 3) := by decide +kernel
theorem dX8_byPlan_40 : decode cX8_byPlan 40 = .ok (.aload_n 0, 1) := by decide +kernel
theorem dX8_byPlan_41 : decode cX8_byPlan 41 = .ok (.getfield 38, 3) := by decide +kernel
theorem dX8_byPlan_44 : decode cX8_byPlan 44 = .ok (.invokevirtual 282, 3) := by decide +kernel
theorem dX8_byPlan_47 : decode cX8_byPlan 47 = .ok (.ireturn, 1) := by decide +kernel
set_option maxRecDepth 20000 in
theorem ggX8_reckonChances_X0_beStep : GoodIn wsX8_reckonChances wsX0_beStep := goodIn_r _ [14, 15, 16, 17, 13, 18, 19, 20, 21, 143, 144] (by decide +kernel) (by decide +kernel)
set_option maxRecDepth 20000 in
theorem gX8_reckonChances_X0_beStep : GoodIn wsX8_reckonChances (wsV RX8 283 RX0 yX0_beStep wsX0_beStep) := goodIn_app (goodIn_of _ (by decide +kernel)) ggX8_reckonChances_X0_beStep
set_option maxRecDepth 20000 in
theorem ggX8_reckonChances_X6_prepare : GoodIn wsX8_reckonChances wsX6_prepare := goodIn_r _ [26, 27, 28, 29, 30, 31, 32, 33, 34, 145, 146, 147, 148] (by decide +kernel) (by decide +kernel)
set_option maxRecDepth 20000 in
theorem gX8_reckonChances_X6_prepare : GoodIn wsX8_reckonChances (wsV RX8 278 RX6 yX6_prepare wsX6_prepare) := goodIn_app (goodIn_of _ (by decide +kernel)) ggX8_reckonChances_X6_prepare
set_option maxRecDepth 20000 in
theorem ggX8_reckonChances_X5_look : GoodIn wsX8_reckonChances wsX5_look := goodIn_r _ [39, 40, 41, 42, 43, 44, 45, 46, 47, 48, 49, 50, 51, 52, 53, 54, 55, 56, 57, 58, 59, 60, 61, 62, 63, 64, 65, 66, 67, 68, 69, 70, 71, 72, 73, 119, 120, 121, 122, 123, 124, 125, 126, 127, 128, 129, 130, 131, 132, 133, 134, 135, 136, 137, 138, 139, 140, 141, 142] (by decide +kernel) (by decide +kernel)
set_option maxRecDepth 20000 in
theorem gX8_reckonChances_X5_look : GoodIn wsX8_reckonChances (wsV RX8 225 RX5 yX5_look wsX5_look) := goodIn_app (goodIn_of _ (by decide +kernel)) ggX8_reckonChances_X5_look
set_option maxRecDepth 20000 in
theorem ggX8_reckonChances_X6_valueFrom : GoodIn wsX8_reckonChances wsX6_valueFrom := goodIn_r _ [77, 27, 29, 78, 79, 80, 81, 82, 83, 84, 85, 86, 87, 88, 25, 89, 90, 30, 91, 92, 93, 94, 95, 96, 71, 72, 73, 28, 97, 98, 99, 100, 101, 102, 103, 104, 105, 106, 145, 146, 147, 148, 135, 136, 137, 138, 139, 140, 141, 142, 143, 144, 149, 150, 151, 152] (by decide +kernel) (by decide +kernel)
set_option maxRecDepth 20000 in
theorem gX8_reckonChances_X6_valueFrom : GoodIn wsX8_reckonChances (wsV RX8 282 RX6 yX6_valueFrom wsX6_valueFrom) := goodIn_app (goodIn_of _ (by decide +kernel)) ggX8_reckonChances_X6_valueFrom
theorem dX8_reckonChances_0 : decode cX8_reckonChances 0 = .ok (.aload_n 0, 1) := by decide +kernel
theorem dX8_reckonChances_1 : decode cX8_reckonChances 1 = .ok (.getfield 45, 3) := by decide +kernel
theorem dX8_reckonChances_4 : decode cX8_reckonChances 4 = .ok (.invokevirtual 283, 3) := by decide +kernel
theorem dX8_reckonChances_7 : decode cX8_reckonChances 7 = .ok (.aload_n 0, 1) := by decide +kernel
theorem dX8_reckonChances_8 : decode cX8_reckonChances 8 = .ok (.getfield 52, 3) := by decide +kernel
theorem dX8_reckonChances_11 : decode cX8_reckonChances 11 = .ok (.aload_n 0, 1) := by decide +kernel
theorem dX8_reckonChances_12 : decode cX8_reckonChances 12 = .ok (.getfield 18, 3) := by decide +kernel
theorem dX8_reckonChances_15 : decode cX8_reckonChances 15 = .ok (.iload_n 1, 1) := by decide +kernel
theorem dX8_reckonChances_16 : decode cX8_reckonChances 16 = .ok (.aaload, 1) := by decide +kernel
theorem dX8_reckonChances_17 : decode cX8_reckonChances 17 = .ok (.aload_n 0, 1) := by decide +kernel
theorem dX8_reckonChances_18 : decode cX8_reckonChances 18 = .ok (.getfield 28, 3) := by decide +kernel
theorem dX8_reckonChances_21 : decode cX8_reckonChances 21 = .ok (.getfield 111, 3) := by decide +kernel
theorem dX8_reckonChances_24 : decode cX8_reckonChances 24 = .ok (.aload_n 0, 1) := by decide +kernel
theorem dX8_reckonChances_25 : decode cX8_reckonChances 25 = .ok (.getfield 45, 3) := by decide +kernel
theorem dX8_reckonChances_28 : decode cX8_reckonChances 28 = .ok (.invokevirtual 278, 3) := by decide +kernel
theorem dX8_reckonChances_31 : decode cX8_reckonChances 31 = .ok (.aload_n 0, 1) := by decide +kernel
theorem dX8_reckonChances_32 : decode cX8_reckonChances 32 = .ok (.getfield 38, 3) := by decide +kernel
theorem dX8_reckonChances_35 : decode cX8_reckonChances 35 = .ok (.aload_n 0, 1) := by decide +kernel
theorem dX8_reckonChances_36 : decode cX8_reckonChances 36 = .ok (.getfield 28, 3) := by decide +kernel
theorem dX8_reckonChances_39 : decode cX8_reckonChances 39 = .ok (.iload_n 1, 1) := by decide +kernel
theorem dX8_reckonChances_40 : decode cX8_reckonChances 40 = .ok (.invokevirtual 225, 3) := by decide +kernel
theorem dX8_reckonChances_43 : decode cX8_reckonChances 43 = .ok (.aload_n 0, 1) := by decide +kernel
theorem dX8_reckonChances_44 : decode cX8_reckonChances 44 = .ok (.getfield 38, 3) := by decide +kernel
theorem dX8_reckonChances_47 : decode cX8_reckonChances 47 = .ok (.getfield 229, 3) := by decide +kernel
theorem dX8_reckonChances_50 : decode cX8_reckonChances 50 = .ok (.istore_n 2, 1) := by decide +kernel
theorem dX8_reckonChances_51 : decode cX8_reckonChances 51 = .ok (.aload_n 0, 1) := by decide +kernel
theorem dX8_reckonChances_52 : decode cX8_reckonChances 52 = .ok (.getfield 58, 3) := by decide +kernel
theorem dX8_reckonChances_55 : decode cX8_reckonChances 55 = .ok (.iload_n 1, 1) := by decide +kernel
theorem dX8_reckonChances_56 : decode cX8_reckonChances 56 = .ok (.aaload, 1) := by decide +kernel
theorem dX8_reckonChances_57 : decode cX8_reckonChances 57 = .ok (.astore_n 3, 1) := by decide +kernel
theorem dX8_reckonChances_58 : decode cX8_reckonChances 58 = .ok (.aload_n 3, 1) := by decide +kernel
theorem dX8_reckonChances_59 : decode cX8_reckonChances 59 = .ok (.iconst 0, 1) := by decide +kernel
theorem dX8_reckonChances_60 : decode cX8_reckonChances 60 = .ok (.ldc 213, 2) := by decide +kernel
theorem dX8_reckonChances_62 : decode cX8_reckonChances 62 = .ok (.iastore, 1) := by decide +kernel
theorem dX8_reckonChances_63 : decode cX8_reckonChances 63 = .ok (.iconst 1, 1) := by decide +kernel
theorem dX8_reckonChances_64 : decode cX8_reckonChances 64 = .ok (.istore 4, 2) := by decide +kernel
theorem dX8_reckonChances_66 : decode cX8_reckonChances 66 = .ok (.iload 4, 2) := by decide +kernel
theorem dX8_reckonChances_68 : decode cX8_reckonChances 68 = .ok (.aload_n 3, 1) := by decide +kernel
theorem dX8_reckonChances_69 : decode cX8_reckonChances 69 = .ok (.arraylength, 1) := by decide +kernel
theorem dX8_reckonChances_70 : decode cX8_reckonChances 70 = .ok (.if_icmp .ge 40, 3) := by decide +kernel
theorem dX8_reckonChances_73 : decode cX8_reckonChances 73 = .ok (.aload_n 0, 1) := by decide +kernel
theorem dX8_reckonChances_74 : decode cX8_reckonChances 74 = .ok (.getfield 38, 3) := by decide +kernel
theorem dX8_reckonChances_77 : decode cX8_reckonChances 77 = .ok (.iload_n 2, 1) := by decide +kernel
theorem dX8_reckonChances_78 : decode cX8_reckonChances 78 = .ok (.bipush 120, 2) := by decide +kernel
theorem dX8_reckonChances_80 : decode cX8_reckonChances 80 = .ok (.iadd, 1) := by decide +kernel
theorem dX8_reckonChances_81 : decode cX8_reckonChances 81 = .ok (.iconst 1, 1) := by decide +kernel
theorem dX8_reckonChances_82 : decode cX8_reckonChances 82 = .ok (.iadd, 1) := by decide +kernel
theorem dX8_reckonChances_83 : decode cX8_reckonChances 83 = .ok (.iload 4, 2) := by decide +kernel
theorem dX8_reckonChances_85 : decode cX8_reckonChances 85 = .ok (.isub, 1) := by decide +kernel
theorem dX8_reckonChances_86 : decode cX8_reckonChances 86 = .ok (.putfield 229, 3) := by decide +kernel
theorem dX8_reckonChances_89 : decode cX8_reckonChances 89 = .ok (.aload_n 3, 1) := by decide +kernel
theorem dX8_reckonChances_90 : decode cX8_reckonChances 90 = .ok (.iload 4, 2) := by decide +kernel
theorem dX8_reckonChances_92 : decode cX8_reckonChances 92 = .ok (.aload_n 0, 1) := by decide +kernel
theorem dX8_reckonChances_93 : decode cX8_reckonChances 93 = .ok (.getfield 52, 3) := by decide +kernel
theorem dX8_reckonChances_96 : decode cX8_reckonChances 96 = .ok (.aload_n 0, 1) := by decide +kernel
theorem dX8_reckonChances_97 : decode cX8_reckonChances 97 = .ok (.getfield 38, 3) := by decide +kernel
theorem dX8_reckonChances_100 : decode cX8_reckonChances 100 = .ok (.invokevirtual 282, 3) := by decide +kernel
theorem dX8_reckonChances_103 : decode cX8_reckonChances 103 = .ok (.iastore, 1) := by decide +kernel
theorem dX8_reckonChances_104 : decode cX8_reckonChances 104 = .ok (.iinc 4 1, 3) := by decide +kernel
theorem dX8_reckonChances_107 : decode cX8_reckonChances 107 = .ok (.goto (-41), 3) := by decide +kernel
theorem dX8_reckonChances_110 : decode cX8_reckonChances 110 = .ok (.return_, 1) := by decide +kernel
set_option maxRecDepth 20000 in
theorem ggX8_aimToBeat_X8_reckonChances : GoodIn wsX8_aimToBeat wsX8_reckonChances := goodIn_r _ [8, 1, 9, 2, 10, 11, 12, 13, 3, 14, 15, 16, 17, 18, 19, 20, 21, 22, 23, 24, 25, 26, 27, 28, 29, 30, 31, 32, 33, 34, 35, 36, 37, 38, 39, 40, 41, 42, 43, 44, 45, 46, 47, 48, 49, 50, 51, 52, 53, 54, 55, 56, 57, 58, 59, 60, 61, 62, 63, 64, 65, 66, 67, 68, 69, 70, 71, 72, 73, 74, 75, 76, 77, 78, 79, 80, 81, 82, 83, 84, 85, 86, 87, 88, 89, 90, 91, 92, 93, 94, 95, 96, 97, 98, 99, 100, 101, 102, 103, 104, 105, 106, 107, 108, 109, 7, 110, 127, 128, 129, 130, 131, 132, 133, 134, 135, 136, 137, 138, 139, 140, 141, 142, 143, 144, 145, 146, 147, 148, 149, 150, 151, 152, 153, 154, 155, 156, 157, 158, 159, 160, 161, 162, 163, 164, 165, 166, 167, 168, 169, 170, 171, 172] (by decide +kernel) (by decide +kernel)
set_option maxRecDepth 20000 in
theorem gX8_aimToBeat_X8_reckonChances : GoodIn wsX8_aimToBeat (wsV RX8 204 RX8 yX8_reckonChances wsX8_reckonChances) := goodIn_app (goodIn_of _ (by decide +kernel)) ggX8_aimToBeat_X8_reckonChances
set_option maxRecDepth 20000 in
theorem ggX8_aimToBeat_X0_beSure : GoodIn wsX8_aimToBeat wsX0_beSure := goodIn_r _ [114, 24, 25, 26, 115, 37, 38, 39, 163, 164] (by decide +kernel) (by decide +kernel)
set_option maxRecDepth 20000 in
theorem gX8_aimToBeat_X0_beSure : GoodIn wsX8_aimToBeat (wsV RX8 286 RX0 yX0_beSure wsX0_beSure) := goodIn_app (goodIn_of _ (by decide +kernel)) ggX8_aimToBeat_X0_beSure
set_option maxRecDepth 20000 in
theorem ggX8_aimToBeat_X3_leadsLike : GoodIn wsX8_aimToBeat wsX3_leadsLike := goodIn_r _ [119, 120, 121, 169, 170, 171, 172] (by decide +kernel) (by decide +kernel)
set_option maxRecDepth 20000 in
theorem gX8_aimToBeat_X3_leadsLike : GoodIn wsX8_aimToBeat (wsV RX8 289 RX3 yX3_leadsLike wsX3_leadsLike) := goodIn_app (goodIn_of _ (by decide +kernel)) ggX8_aimToBeat_X3_leadsLike
set_option maxRecDepth 20000 in
theorem ggX8_aimToBeat_X0_timesBeat : GoodIn wsX8_aimToBeat wsX0_timesBeat := goodIn_r _ [125, 24, 25, 126, 163, 164] (by decide +kernel) (by decide +kernel)
set_option maxRecDepth 20000 in
theorem gX8_aimToBeat_X0_timesBeat : GoodIn wsX8_aimToBeat (wsV RX8 293 RX0 yX0_timesBeat wsX0_timesBeat) := goodIn_app (goodIn_of _ (by decide +kernel)) ggX8_aimToBeat_X0_timesBeat
theorem dX8_aimToBeat_0 : decode cX8_aimToBeat 0 = .ok (.aload_n 0, 1) := by decide +kernel
theorem dX8_aimToBeat_1 : decode cX8_aimToBeat 1 = .ok (.iload_n 2, 1) := by decide +kernel
theorem dX8_aimToBeat_2 : decode cX8_aimToBeat 2 = .ok (.invokevirtual 204, 3) := by decide +kernel
theorem dX8_aimToBeat_5 : decode cX8_aimToBeat 5 = .ok (.aload_n 0, 1) := by decide +kernel
theorem dX8_aimToBeat_6 : decode cX8_aimToBeat 6 = .ok (.getfield 45, 3) := by decide +kernel
theorem dX8_aimToBeat_9 : decode cX8_aimToBeat 9 = .ok (.invokevirtual 286, 3) := by decide +kernel
theorem dX8_aimToBeat_12 : decode cX8_aimToBeat 12 = .ok (.aload_n 0, 1) := by decide +kernel
theorem dX8_aimToBeat_13 : decode cX8_aimToBeat 13 = .ok (.getfield 45, 3) := by decide +kernel
theorem dX8_aimToBeat_16 : decode cX8_aimToBeat 16 = .ok (.aload_n 0, 1) := by decide +kernel
theorem dX8_aimToBeat_17 : decode cX8_aimToBeat 17 = .ok (.getfield 18, 3) := by decide +kernel
theorem dX8_aimToBeat_20 : decode cX8_aimToBeat 20 = .ok (.iload_n 1, 1) := by decide +kernel
theorem dX8_aimToBeat_21 : decode cX8_aimToBeat 21 = .ok (.aaload, 1) := by decide +kernel
theorem dX8_aimToBeat_22 : decode cX8_aimToBeat 22 = .ok (.aload_n 0, 1) := by decide +kernel
theorem dX8_aimToBeat_23 : decode cX8_aimToBeat 23 = .ok (.getfield 18, 3) := by decide +kernel
theorem dX8_aimToBeat_26 : decode cX8_aimToBeat 26 = .ok (.iload_n 2, 1) := by decide +kernel
theorem dX8_aimToBeat_27 : decode cX8_aimToBeat 27 = .ok (.aaload, 1) := by decide +kernel
theorem dX8_aimToBeat_28 : decode cX8_aimToBeat 28 = .ok (.invokevirtual 289, 3) := by decide +kernel
theorem dX8_aimToBeat_31 : decode cX8_aimToBeat 31 = .ok (.aload_n 0, 1) := by decide +kernel
theorem dX8_aimToBeat_32 : decode cX8_aimToBeat 32 = .ok (.getfield 58, 3) := by decide +kernel
theorem dX8_aimToBeat_35 : decode cX8_aimToBeat 35 = .ok (.iload_n 2, 1) := by decide +kernel
theorem dX8_aimToBeat_36 : decode cX8_aimToBeat 36 = .ok (.aaload, 1) := by decide +kernel
theorem dX8_aimToBeat_37 : decode cX8_aimToBeat 37 = .ok (.invokevirtual 293, 3) := by decide +kernel
theorem dX8_aimToBeat_40 : decode cX8_aimToBeat 40 = .ok (.return_, 1) := by decide +kernel
set_option maxRecDepth 20000 in
theorem ggX8_aimToWin_X8_reckonChances : GoodIn wsX8_aimToWin wsX8_reckonChances := goodIn_r _ [7, 8, 9, 10, 1, 11, 12, 13, 14, 15, 16, 17, 18, 19, 20, 21, 22, 23, 24, 25, 26, 27, 28, 29, 30, 31, 32, 33, 34, 35, 36, 37, 38, 39, 40, 41, 42, 43, 44, 45, 46, 47, 48, 49, 50, 51, 52, 53, 54, 55, 56, 57, 58, 59, 60, 61, 62, 63, 64, 65, 66, 67, 68, 69, 70, 71, 72, 73, 74, 75, 76, 77, 78, 79, 80, 81, 82, 83, 84, 85, 86, 87, 88, 89, 90, 91, 92, 93, 94, 95, 96, 97, 98, 99, 100, 101, 102, 103, 104, 105, 106, 107, 108, 109, 110, 6, 111, 132, 133, 134, 135, 136, 137, 138, 139, 140, 141, 142, 143, 144, 145, 146, 147, 148, 149, 150, 151, 152, 153, 154, 155, 156, 157, 158, 159, 160, 161, 162, 163, 164, 165, 166, 167, 168, 169, 170, 171, 172, 173, 174, 175, 176, 177] (by decide +kernel) (by decide +kernel)
set_option maxRecDepth 20000 in
theorem gX8_aimToWin_X8_reckonChances : GoodIn wsX8_aimToWin (wsV RX8 204 RX8 yX8_reckonChances wsX8_reckonChances) := goodIn_app (goodIn_of _ (by decide +kernel)) ggX8_aimToWin_X8_reckonChances
set_option maxRecDepth 20000 in
theorem ggX8_aimToWin_X8_aimAheadOfAll : GoodIn wsX8_aimToWin wsX8_aimAheadOfAll := goodIn_r _ [115, 8, 1, 2, 10, 14, 116, 117, 118, 19, 119, 25, 26, 27, 120, 38, 39, 40, 121, 122, 123, 106, 124, 125, 126, 127, 128, 129, 130, 131, 132, 133, 134, 135, 136, 137, 138, 139, 140, 141, 142, 143, 144, 145, 146, 147, 148, 149, 150, 151, 152, 153, 154, 155, 156, 157, 158, 159, 168, 169, 174, 175, 176, 177] (by decide +kernel) (by decide +kernel)
set_option maxRecDepth 20000 in
theorem gX8_aimToWin_X8_aimAheadOfAll : GoodIn wsX8_aimToWin (wsV RX8 210 RX8 yX8_aimAheadOfAll wsX8_aimAheadOfAll) := goodIn_app (goodIn_of _ (by decide +kernel)) ggX8_aimToWin_X8_aimAheadOfAll
theorem dX8_aimToWin_0 : decode cX8_aimToWin 0 = .ok (.iconst 0, 1) := by decide +kernel
theorem dX8_aimToWin_1 : decode cX8_aimToWin 1 = .ok (.istore_n 2, 1) := by decide +kernel
theorem dX8_aimToWin_2 : decode cX8_aimToWin 2 = .ok (.iload_n 2, 1) := by decide +kernel
theorem dX8_aimToWin_3 : decode cX8_aimToWin 3 = .ok (.aload_n 0, 1) := by decide +kernel
theorem dX8_aimToWin_4 : decode cX8_aimToWin 4 = .ok (.getfield 28, 3) := by decide +kernel
theorem dX8_aimToWin_7 : decode cX8_aimToWin 7 = .ok (.getfield 87, 3) := by decide +kernel
theorem dX8_aimToWin_10 : decode cX8_aimToWin 10 = .ok (.if_icmp .ge 19, 3) := by decide +kernel
theorem dX8_aimToWin_13 : decode cX8_aimToWin 13 = .ok (.iload_n 2, 1) := by decide +kernel
theorem dX8_aimToWin_14 : decode cX8_aimToWin 14 = .ok (.iload_n 1, 1) := by decide +kernel
theorem dX8_aimToWin_15 : decode cX8_aimToWin 15 = .ok (.if_icmp .eq 8, 3) := by decide +kernel
theorem dX8_aimToWin_18 : decode cX8_aimToWin 18 = .ok (.aload_n 0, 1) := by decide +kernel
theorem dX8_aimToWin_19 : decode cX8_aimToWin 19 = .ok (.iload_n 2, 1) := by decide +kernel
theorem dX8_aimToWin_20 : decode cX8_aimToWin 20 = .ok (.invokevirtual 204, 3) := by decide +kernel
theorem dX8_aimToWin_23 : decode cX8_aimToWin 23 = .ok (.iinc 2 1, 3) := by decide +kernel
theorem dX8_aimToWin_26 : decode cX8_aimToWin 26 = .ok (.goto (-24), 3) := by decide +kernel
theorem dX8_aimToWin_29 : decode cX8_aimToWin 29 = .ok (.aload_n 0, 1) := by decide +kernel
theorem dX8_aimToWin_30 : decode cX8_aimToWin 30 = .ok (.iload_n 1, 1) := by decide +kernel
theorem dX8_aimToWin_31 : decode cX8_aimToWin 31 = .ok (.invokevirtual 210, 3) := by decide +kernel
theorem dX8_aimToWin_34 : decode cX8_aimToWin 34 = .ok (.return_, 1) := by decide +kernel
set_option maxRecDepth 20000 in
theorem ggX8_aimAheadOfAll_X0_beSure : GoodIn wsX8_aimAheadOfAll wsX0_beSure := goodIn_r _ [10, 11, 12, 13, 14, 15, 16, 17, 58, 59] (by decide +kernel) (by decide +kernel)
set_option maxRecDepth 20000 in
theorem gX8_aimAheadOfAll_X0_beSure : GoodIn wsX8_aimAheadOfAll (wsV RX8 286 RX0 yX0_beSure wsX0_beSure) := goodIn_app (goodIn_of _ (by decide +kernel)) ggX8_aimAheadOfAll_X0_beSure
set_option maxRecDepth 20000 in
theorem ggX8_aimAheadOfAll_X3_leadsLike : GoodIn wsX8_aimAheadOfAll wsX3_leadsLike := goodIn_r _ [22, 23, 24, 60, 61, 62, 63] (by decide +kernel) (by decide +kernel)
