theorem dX8_isLift_13 : decode cX8_isLift 13 = .ok (.iconst 0, 1) := by decide +kernel
theorem dX8_isLift_14 : decode cX8_isLift 14 = .ok (.ireturn, 1) := by decide +kernel
theorem dX8_isLoad_0 : decode cX8_isLoad 0 = .ok (.iload_n 0, 1) := by decide +kernel
theorem dX8_isLoad_1 : decode cX8_isLoad 1 = .ok (.iconst 1, 1) := by decide +kernel
theorem dX8_isLoad_2 : decode cX8_isLoad 2 = .ok (.if_icmp .lt 13, 3) := by decide +kernel
theorem dX8_isLoad_5 : decode cX8_isLoad 5 = .ok (.iload_n 0, 1) := by decide +kernel
theorem dX8_isLoad_6 : decode cX8_isLoad 6 = .ok (.bipush 40, 2) := by decide +kernel
theorem dX8_isLoad_8 : decode cX8_isLoad 8 = .ok (.if_icmp .gt 7, 3) := by decide +kernel
theorem dX8_isLoad_11 : decode cX8_isLoad 11 = .ok (.iconst 1, 1) := by decide +kernel
theorem dX8_isLoad_12 : decode cX8_isLoad 12 = .ok (.goto 4, 3) := by decide +kernel
theorem dX8_isLoad_15 : decode cX8_isLoad 15 = .ok (.iconst 0, 1) := by decide +kernel
theorem dX8_isLoad_16 : decode cX8_isLoad 16 = .ok (.ireturn, 1) := by decide +kernel
theorem dX8_isAimed_0 : decode cX8_isAimed 0 = .ok (.iload_n 0, 1) := by decide +kernel
theorem dX8_isAimed_1 : decode cX8_isAimed 1 = .ok (.ifCond .lt 13, 3) := by decide +kernel
theorem dX8_isAimed_4 : decode cX8_isAimed 4 = .ok (.iload_n 0, 1) := by decide +kernel
theorem dX8_isAimed_5 : decode cX8_isAimed 5 = .ok (.bipush 121, 2) := by decide +kernel
theorem dX8_isAimed_7 : decode cX8_isAimed 7 = .ok (.if_icmp .gt 7, 3) := by decide +kernel
theorem dX8_isAimed_10 : decode cX8_isAimed 10 = .ok (.iconst 1, 1) := by decide +kernel
theorem dX8_isAimed_11 : decode cX8_isAimed 11 = .ok (.goto 4, 3) := by decide +kernel
theorem dX8_isAimed_14 : decode cX8_isAimed 14 = .ok (.iconst 0, 1) := by decide +kernel
theorem dX8_isAimed_15 : decode cX8_isAimed 15 = .ok (.ireturn, 1) := by decide +kernel
set_option maxRecDepth 20000 in
theorem ggX8_isPlan_X8_isLoad : GoodIn wsX8_isPlan wsX8_isLoad := goodIn_r _ [4] (by decide +kernel) (by decide +kernel)
set_option maxRecDepth 20000 in
theorem gX8_isPlan_X8_isLoad : GoodIn wsX8_isPlan (va_wsS RX8 114 yX8_isLoad wsX8_isLoad) := goodIn_app (goodIn_of _ (by decide +kernel)) ggX8_isPlan_X8_isLoad
theorem dX8_isPlan_0 : decode cX8_isPlan 0 = .ok (.iload_n 0, 1) := by decide +kernel
theorem dX8_isPlan_1 : decode cX8_isPlan 1 = .ok (.tableswitch 65 0 2 #[27, 32, 49], 27) := by decide +kernel
theorem dX8_isPlan_28 : decode cX8_isPlan 28 = .ok (.iload_n 1, 1) := by decide +kernel
theorem dX8_isPlan_29 : decode cX8_isPlan 29 = .ok (.invokestatic 114, 3) := by decide +kernel
theorem dX8_isPlan_32 : decode cX8_isPlan 32 = .ok (.ireturn, 1) := by decide +kernel
theorem dX8_isPlan_33 : decode cX8_isPlan 33 = .ok (.iload_n 1, 1) := by decide +kernel
theorem dX8_isPlan_34 : decode cX8_isPlan 34 = .ok (.iconst 1, 1) := by decide +kernel
theorem dX8_isPlan_35 : decode cX8_isPlan 35 = .ok (.if_icmp .lt 13, 3) := by decide +kernel
theorem dX8_isPlan_38 : decode cX8_isPlan 38 = .ok (.iload_n 1, 1) := by decide +kernel
theorem dX8_isPlan_39 : decode cX8_isPlan 39 = .ok (.bipush 9, 2) := by decide +kernel
theorem dX8_isPlan_41 : decode cX8_isPlan 41 = .ok (.if_icmp .gt 7, 3) := by decide +kernel
theorem dX8_isPlan_44 : decode cX8_isPlan 44 = .ok (.iconst 1, 1) := by decide +kernel
theorem dX8_isPlan_45 : decode cX8_isPlan 45 = .ok (.goto 4, 3) := by decide +kernel
theorem dX8_isPlan_48 : decode cX8_isPlan 48 = .ok (.iconst 0, 1) := by decide +kernel
theorem dX8_isPlan_49 : decode cX8_isPlan 49 = .ok (.ireturn, 1) := by decide +kernel
theorem dX8_isPlan_50 : decode cX8_isPlan 50 = .ok (.iload_n 1, 1) := by decide +kernel
theorem dX8_isPlan_51 : decode cX8_isPlan 51 = .ok (.ifCond .lt 13, 3) := by decide +kernel
theorem dX8_isPlan_54 : decode cX8_isPlan 54 = .ok (.iload_n 1, 1) := by decide +kernel
theorem dX8_isPlan_55 : decode cX8_isPlan 55 = .ok (.bipush 9, 2) := by decide +kernel
theorem dX8_isPlan_57 : decode cX8_isPlan 57 = .ok (.if_icmp .gt 7, 3) := by decide +kernel
theorem dX8_isPlan_60 : decode cX8_isPlan 60 = .ok (.iconst 1, 1) := by decide +kernel
theorem dX8_isPlan_61 : decode cX8_isPlan 61 = .ok (.goto 4, 3) := by decide +kernel
theorem dX8_isPlan_64 : decode cX8_isPlan 64 = .ok (.iconst 0, 1) := by decide +kernel
theorem dX8_isPlan_65 : decode cX8_isPlan 65 = .ok (.ireturn, 1) := by decide +kernel
theorem dX8_isPlan_66 : decode cX8_isPlan 66 = .ok (.iconst 0, 1) := by decide +kernel
theorem dX8_isPlan_67 : decode cX8_isPlan 67 = .ok (.ireturn, 1) := by decide +kernel
theorem dX8_tellTwo_0 : decode cX8_tellTwo 0 = .ok (.aload_n 0, 1) := by decide +kernel
theorem dX8_tellTwo_1 : decode cX8_tellTwo 1 = .ok (.getfield 61, 3) := by decide +kernel
theorem dX8_tellTwo_4 : decode cX8_tellTwo 4 = .ok (.iconst 0, 1) := by decide +kernel
theorem dX8_tellTwo_5 : decode cX8_tellTwo 5 = .ok (.iload_n 1, 1) := by decide +kernel
theorem dX8_tellTwo_6 : decode cX8_tellTwo 6 = .ok (.i2l, 1) := by decide +kernel
theorem dX8_tellTwo_7 : decode cX8_tellTwo 7 = .ok (.lastore, 1) := by decide +kernel
theorem dX8_tellTwo_8 : decode cX8_tellTwo 8 = .ok (.aload_n 0, 1) := by decide +kernel
theorem dX8_tellTwo_9 : decode cX8_tellTwo 9 = .ok (.getfield 61, 3) := by decide +kernel
theorem dX8_tellTwo_12 : decode cX8_tellTwo 12 = .ok (.iconst 1, 1) := by decide +kernel
theorem dX8_tellTwo_13 : decode cX8_tellTwo 13 = .ok (.iload_n 2, 1) := by decide +kernel
theorem dX8_tellTwo_14 : decode cX8_tellTwo 14 = .ok (.i2l, 1) := by decide +kernel
theorem dX8_tellTwo_15 : decode cX8_tellTwo 15 = .ok (.lastore, 1) := by decide +kernel
theorem dX8_tellTwo_16 : decode cX8_tellTwo 16 = .ok (.aload_n 0, 1) := by decide +kernel
theorem dX8_tellTwo_17 : decode cX8_tellTwo 17 = .ok (.iconst 2, 1) := by decide +kernel
theorem dX8_tellTwo_18 : decode cX8_tellTwo 18 = .ok (.putfield 65, 3) := by decide +kernel
theorem dX8_tellTwo_21 : decode cX8_tellTwo 21 = .ok (.return_, 1) := by decide +kernel
set_option maxRecDepth 20000 in
theorem ggX8_tellPlaces_X4_placeOf : GoodIn wsX8_tellPlaces wsX4_placeOf := goodIn_r _ [9, 10, 11, 12, 13, 8, 14, 15, 16, 17, 18, 19, 20, 21, 22, 23, 24, 25, 26, 27, 28, 41, 42, 43, 44, 45, 46, 47, 48, 49, 50, 51, 52, 53, 54, 55, 56, 57, 58, 59, 60] (by decide +kernel) (by decide +kernel)
set_option maxRecDepth 20000 in
theorem gX8_tellPlaces_X4_placeOf : GoodIn wsX8_tellPlaces (wsV RX8 181 RX4 yX4_placeOf wsX4_placeOf) := goodIn_app (goodIn_of _ (by decide +kernel)) ggX8_tellPlaces_X4_placeOf
theorem dX8_tellPlaces_0 : decode cX8_tellPlaces 0 = .ok (.iconst 0, 1) := by decide +kernel
theorem dX8_tellPlaces_1 : decode cX8_tellPlaces 1 = .ok (.istore_n 1, 1) := by decide +kernel
theorem dX8_tellPlaces_2 : decode cX8_tellPlaces 2 = .ok (.iload_n 1, 1) := by decide +kernel
theorem dX8_tellPlaces_3 : decode cX8_tellPlaces 3 = .ok (.aload_n 0, 1) := by decide +kernel
theorem dX8_tellPlaces_4 : decode cX8_tellPlaces 4 = .ok (.getfield 28, 3) := by decide +kernel
theorem dX8_tellPlaces_7 : decode cX8_tellPlaces 7 = .ok (.getfield 87, 3) := by decide +kernel
theorem dX8_tellPlaces_10 : decode cX8_tellPlaces 10 = .ok (.if_icmp .ge 24, 3) := by decide +kernel
theorem dX8_tellPlaces_13 : decode cX8_tellPlaces 13 = .ok (.aload_n 0, 1) := by decide +kernel
theorem dX8_tellPlaces_14 : decode cX8_tellPlaces 14 = .ok (.getfield 61, 3) := by decide +kernel
theorem dX8_tellPlaces_17 : decode cX8_tellPlaces 17 = .ok (.aload_n 0, 1) := by decide +kernel
theorem dX8_tellPlaces_18 : decode cX8_tellPlaces 18 = .ok (.getfield 28, 3) := by decide +kernel
theorem dX8_tellPlaces_21 : decode cX8_tellPlaces 21 = .ok (.iload_n 1, 1) := by decide +kernel
theorem dX8_tellPlaces_22 : decode cX8_tellPlaces 22 = .ok (.invokevirtual 181, 3) := by decide +kernel
theorem dX8_tellPlaces_25 : decode cX8_tellPlaces 25 = .ok (.iload_n 1, 1) := by decide +kernel
theorem dX8_tellPlaces_26 : decode cX8_tellPlaces 26 = .ok (.i2l, 1) := by decide +kernel
theorem dX8_tellPlaces_27 : decode cX8_tellPlaces 27 = .ok (.lastore, 1) := by decide +kernel
theorem dX8_tellPlaces_28 : decode cX8_tellPlaces 28 = .ok (.iinc 1 1, 3) := by decide +kernel
theorem dX8_tellPlaces_31 : decode cX8_tellPlaces 31 = .ok (.goto (-29), 3) := by decide +kernel
theorem dX8_tellPlaces_34 : decode cX8_tellPlaces 34 = .ok (.aload_n 0, 1) := by decide +kernel
theorem dX8_tellPlaces_35 : decode cX8_tellPlaces 35 = .ok (.aload_n 0, 1) := by decide +kernel
theorem dX8_tellPlaces_36 : decode cX8_tellPlaces 36 = .ok (.getfield 28, 3) := by decide +kernel
theorem dX8_tellPlaces_39 : decode cX8_tellPlaces 39 = .ok (.getfield 87, 3) := by decide +kernel
theorem dX8_tellPlaces_42 : decode cX8_tellPlaces 42 = .ok (.putfield 65, 3) := by decide +kernel
theorem dX8_tellPlaces_45 : decode cX8_tellPlaces 45 = .ok (.return_, 1) := by decide +kernel
theorem dX8_mix_0 : decode cX8_mix 0 = .ok (.iload_n 0, 1) := by decide +kernel
theorem dX8_mix_1 : decode cX8_mix 1 = .ok (.iload_n 1, 1) := by decide +kernel
theorem dX8_mix_2 : decode cX8_mix 2 = .ok (.imul, 1) := by decide +kernel
theorem dX8_mix_3 : decode cX8_mix 3 = .ok (.sipush 1000, 3) := by decide +kernel
theorem dX8_mix_6 : decode cX8_mix 6 = .ok (.iload_n 0, 1) := by decide +kernel
theorem dX8_mix_7 : decode cX8_mix 7 = .ok (.isub, 1) := by decide +kernel
theorem dX8_mix_8 : decode cX8_mix 8 = .ok (.iload_n 2, 1) := by decide +kernel
theorem dX8_mix_9 : decode cX8_mix 9 = .ok (.imul, 1) := by decide +kernel
theorem dX8_mix_10 : decode cX8_mix 10 = .ok (.iadd, 1) := by decide +kernel
theorem dX8_mix_11 : decode cX8_mix 11 = .ok (.sipush 1000, 3) := by decide +kernel
theorem dX8_mix_14 : decode cX8_mix 14 = .ok (.idiv, 1) := by decide +kernel
theorem dX8_mix_15 : decode cX8_mix 15 = .ok (.ireturn, 1) := by decide +kernel
set_option maxRecDepth 20000 in
theorem ggX8_allFail_X3_oddsOf : GoodIn wsX8_allFail wsX3_oddsOf := goodIn_r _ [9, 10, 11, 12, 13, 14, 43, 44, 45, 46] (by decide +kernel) (by decide +kernel)
set_option maxRecDepth 20000 in
theorem gX8_allFail_X3_oddsOf : GoodIn wsX8_allFail (wsV RX8 117 RX3 yX3_oddsOf wsX3_oddsOf) := goodIn_app (goodIn_of _ (by decide +kernel)) ggX8_allFail_X3_oddsOf
theorem dX8_allFail_0 : decode cX8_allFail 0 = .ok (.ldc 213, 2) := by decide +kernel
theorem dX8_allFail_2 : decode cX8_allFail 2 = .ok (.istore 5, 2) := by decide +kernel
theorem dX8_allFail_4 : decode cX8_allFail 4 = .ok (.iload_n 3, 1) := by decide +kernel
theorem dX8_allFail_5 : decode cX8_allFail 5 = .ok (.istore 6, 2) := by decide +kernel
theorem dX8_allFail_7 : decode cX8_allFail 7 = .ok (.iconst 0, 1) := by decide +kernel
theorem dX8_allFail_8 : decode cX8_allFail 8 = .ok (.istore 7, 2) := by decide +kernel
theorem dX8_allFail_10 : decode cX8_allFail 10 = .ok (.iload 7, 2) := by decide +kernel
theorem dX8_allFail_12 : decode cX8_allFail 12 = .ok (.iconst 3, 1) := by decide +kernel
theorem dX8_allFail_13 : decode cX8_allFail 13 = .ok (.if_icmp .ge 58, 3) := by decide +kernel
theorem dX8_allFail_16 : decode cX8_allFail 16 = .ok (.iload 6, 2) := by decide +kernel
theorem dX8_allFail_18 : decode cX8_allFail 18 = .ok (.bipush 40, 2) := by decide +kernel
theorem dX8_allFail_20 : decode cX8_allFail 20 = .ok (.if_icmp .gt 51, 3) := by decide +kernel
theorem dX8_allFail_23 : decode cX8_allFail 23 = .ok (.iload 5, 2) := by decide +kernel
theorem dX8_allFail_25 : decode cX8_allFail 25 = .ok (.sipush 1000, 3) := by decide +kernel
theorem dX8_allFail_28 : decode cX8_allFail 28 = .ok (.aload_n 0, 1) := by decide +kernel
theorem dX8_allFail_29 : decode cX8_allFail 29 = .ok (.getfield 18, 3) := by decide +kernel
theorem dX8_allFail_32 : decode cX8_allFail 32 = .ok (.iload_n 1, 1) := by decide +kernel
theorem dX8_allFail_33 : decode cX8_allFail 33 = .ok (.aaload, 1) := by decide +kernel
theorem dX8_allFail_34 : decode cX8_allFail 34 = .ok (.iload_n 2, 1) := by decide +kernel
theorem dX8_allFail_35 : decode cX8_allFail 35 = .ok (.iload 6, 2) := by decide +kernel
theorem dX8_allFail_37 : decode cX8_allFail 37 = .ok (.iload 7, 2) := by decide +kernel
theorem dX8_allFail_39 : decode cX8_allFail 39 = .ok (.aload_n 0, 1) := by decide +kernel
theorem dX8_allFail_40 : decode cX8_allFail 40 = .ok (.getfield 28, 3) := by decide +kernel
theorem dX8_allFail_43 : decode cX8_allFail 43 = .ok (.getfield 111, 3) := by decide +kernel
theorem dX8_allFail_46 : decode cX8_allFail 46 = .ok (.imul, 1) := by decide +kernel
theorem dX8_allFail_47 : decode cX8_allFail 47 = .ok (.invokevirtual 117, 3) := by decide +kernel
theorem dX8_allFail_50 : decode cX8_allFail 50 = .ok (.isub, 1) := by decide +kernel
theorem dX8_allFail_51 : decode cX8_allFail 51 = .ok (.imul, 1) := by decide +kernel
theorem dX8_allFail_52 : decode cX8_allFail 52 = .ok (.sipush 1000, 3) := by decide +kernel
theorem dX8_allFail_55 : decode cX8_allFail 55 = .ok (.idiv, 1) := by decide +kernel
theorem dX8_allFail_56 : decode cX8_allFail 56 = .ok (.istore 5, 2) := by decide +kernel
theorem dX8_allFail_58 : decode cX8_allFail 58 = .ok (.iload 6, 2) := by decide +kernel
theorem dX8_allFail_60 : decode cX8_allFail 60 = .ok (.iload 4, 2) := by decide +kernel
theorem dX8_allFail_62 : decode cX8_allFail 62 = .ok (.iadd, 1) := by decide +kernel
theorem dX8_allFail_63 : decode cX8_allFail 63 = .ok (.istore 6, 2) := by decide +kernel
theorem dX8_allFail_65 : decode cX8_allFail 65 = .ok (.iinc 7 1, 3) := by decide +kernel
theorem dX8_allFail_68 : decode cX8_allFail 68 = .ok (.goto (-58), 3) := by decide +kernel
theorem dX8_allFail_71 : decode cX8_allFail 71 = .ok (.iload 5, 2) := by decide +kernel
theorem dX8_allFail_73 : decode cX8_allFail 73 = .ok (.ireturn, 1) := by decide +kernel
set_option maxRecDepth 20000 in
theorem ggX8_byPlan_X6_prepare : GoodIn wsX8_byPlan wsX6_prepare := goodIn_r _ [11, 12, 13, 14, 15, 16, 17, 18, 19, 120, 121, 122, 123] (by decide +kernel) (by decide +kernel)
set_option maxRecDepth 20000 in
theorem gX8_byPlan_X6_prepare : GoodIn wsX8_byPlan (wsV RX8 278 RX6 yX6_prepare wsX6_prepare) := goodIn_app (goodIn_of _ (by decide +kernel)) ggX8_byPlan_X6_prepare
set_option maxRecDepth 20000 in
theorem ggX8_byPlan_X5_look : GoodIn wsX8_byPlan wsX5_look := goodIn_r _ [24, 25, 26, 27, 28, 29, 30, 31, 32, 33, 34, 35, 36, 37, 38, 39, 40, 41, 42, 43, 44, 45, 46, 47, 48, 49, 50, 51, 52, 53, 54, 55, 56, 57, 58, 104, 105, 106, 107, 108, 109, 110, 111, 112, 113, 114, 115, 116, 117, 118, 119, 124, 125, 126, 127, 128, 129, 130, 131] (by decide +kernel) (by decide +kernel)
set_option maxRecDepth 20000 in
theorem gX8_byPlan_X5_look : GoodIn wsX8_byPlan (wsV RX8 225 RX5 yX5_look wsX5_look) := goodIn_app (goodIn_of _ (by decide +kernel)) ggX8_byPlan_X5_look
set_option maxRecDepth 20000 in
theorem ggX8_byPlan_X6_valueFrom : GoodIn wsX8_byPlan wsX6_valueFrom := goodIn_r _ [62, 12, 14, 63, 64, 65, 66, 67, 68, 69, 70, 71, 72, 73, 10, 74, 75, 15, 76, 77, 78, 79, 80, 81, 56, 57, 58, 13, 82, 83, 84, 85, 86, 87, 88, 89, 90, 91, 120, 121, 122, 123, 124, 125, 126, 127, 128, 129, 130, 131, 132, 133, 134, 135, 136, 137] (by decide +kernel) (by decide +kernel)
set_option maxRecDepth 20000 in
theorem gX8_byPlan_X6_valueFrom : GoodIn wsX8_byPlan (wsV RX8 282 RX6 yX6_valueFrom wsX6_valueFrom) := goodIn_app (goodIn_of _ (by decide +kernel)) ggX8_byPlan_X6_valueFrom
theorem dX8_byPlan_0 : decode cX8_byPlan 0 = .ok (.aload_n 0, 1) := by decide +kernel
theorem dX8_byPlan_1 : decode cX8_byPlan 1 = .ok (.getfield 52, 3) := by decide +kernel
theorem dX8_byPlan_4 : decode cX8_byPlan 4 = .ok (.aload_n 0, 1) := by decide +kernel
theorem dX8_byPlan_5 : decode cX8_byPlan 5 = .ok (.getfield 18, 3) := by decide +kernel
theorem dX8_byPlan_8 : decode cX8_byPlan 8 = .ok (.iload_n 1, 1) := by decide +kernel
theorem dX8_byPlan_9 : decode cX8_byPlan 9 = .ok (.aaload, 1) := by decide +kernel
theorem dX8_byPlan_10 : decode cX8_byPlan 10 = .ok (.aload_n 0, 1) := by decide +kernel
theorem dX8_byPlan_11 : decode cX8_byPlan 11 = .ok (.getfield 28, 3) := by decide +kernel
theorem dX8_byPlan_14 : decode cX8_byPlan 14 = .ok (.getfield 111, 3) := by decide +kernel
theorem dX8_byPlan_17 : decode cX8_byPlan 17 = .ok (.aload_n 0, 1) := by decide +kernel
theorem dX8_byPlan_18 : decode cX8_byPlan 18 = .ok (.getfield 45, 3) := by decide +kernel
theorem dX8_byPlan_21 : decode cX8_byPlan 21 = .ok (.invokevirtual 278, 3) := by decide +kernel
theorem dX8_byPlan_24 : decode cX8_byPlan 24 = .ok (.aload_n 0, 1) := by decide +kernel
theorem dX8_byPlan_25 : decode cX8_byPlan 25 = .ok (.getfield 38, 3) := by decide +kernel
theorem dX8_byPlan_28 : decode cX8_byPlan 28 = .ok (.aload_n 0, 1) := by decide +kernel
theorem dX8_byPlan_29 : decode cX8_byPlan 29 = .ok (.getfield 28, 3) := by decide +kernel
theorem dX8_byPlan_32 : decode cX8_byPlan 32 = .ok (.iload_n 1, 1) := by decide +kernel
theorem dX8_byPlan_33 : decode cX8_byPlan 33 = .ok (.invokevirtual 225, 3) := by decide +kernel
theorem dX8_byPlan_36 : decode cX8_byPlan 36 = .ok (.aload_n 0, 1) := by decide +kernel
theorem dX8_byPlan_37 : decode cX8_byPlan 37 = .ok (.getfield 52, 3) := by decide +kernel
theorem dX8_byPlan_40 : decode cX8_byPlan 40 = .ok (.aload_n 0, 1) := by decide +kernel
theorem dX8_byPlan_41 : decode cX8_byPlan 41 = .ok (.getfield 38, 3) := by decide +kernel
theorem dX8_byPlan_44 : decode cX8_byPlan 44 = .ok (.invokevirtual 282, 3) := by decide +kernel
theorem dX8_byPlan_47 : decode cX8_byPlan 47 = .ok (.ireturn, 1) := by decide +kernel
set_option maxRecDepth 20000 in
theorem ggX8_reckonChances_X0_beStep : GoodIn wsX8_reckonChances wsX0_beStep := goodIn_r _ [14, 15, 16, 17, 13, 18, 19, 20, 21, 143, 144] (by decide +kernel) (by decide +kernel)
set_option maxRecDepth 20000 in
theorem gX8_reckonChances_X0_beStep : GoodIn wsX8_reckonChances (wsV RX8 283 RX0 yX0_beStep wsX0_beStep) := goodIn_app (goodIn_of _ (by decide +kernel)) ggX8_reckonChances_X0_beStep
set_option maxRecDepth 20000 in
theorem ggX8_reckonChances_X6_prepare : GoodIn wsX8_reckonChances wsX6_prepare := goodIn_r _ [26, 27, 28, 29, 30, 31, 32, 33, 34, 145, 146, 147, 148] (by decide +kernel) (by decide +kernel)
set_option maxRecDepth 20000 in
theorem gX8_reckonChances_X6_prepare : GoodIn wsX8_reckonChances (wsV RX8 278 RX6 yX6_prepare wsX6_prepare) := goodIn_app (goodIn_of _ (by decide +kernel)) ggX8_reckonChances_X6_prepare
set_option maxRecDepth 20000 in
theorem ggX8_reckonChances_X5_look : GoodIn wsX8_reckonChances wsX5_look := goodIn_r _ [39, 40, 41, 42, 43, 44, 45, 46, 47, 48, 49, 50, 51, 52, 53, 54, 55, 56, 57, 58, 59, 60, 61, 62, 63, 64, 65, 66, 67, 68, 69, 70, 71, 72, 73, 119, 120, 121, 122, 123, 124, 125, 126, 127, 128, 129, 130, 131, 132, 133, 134, 135, 136, 137, 138, 139, 140, 141, 142] (by decide +kernel) (by decide +kernel)
set_option maxRecDepth 20000 in
theorem gX8_reckonChances_X5_look : GoodIn wsX8_reckonChances (wsV RX8 225 RX5 yX5_look wsX5_look) := goodIn_app (goodIn_of _ (by decide +kernel)) ggX8_reckonChances_X5_look
set_option maxRecDepth 20000 in
theorem ggX8_reckonChances_X6_valueFrom : GoodIn wsX8_reckonChances wsX6_valueFrom := goodIn_r _ [77, 27, 29, 78, 79, 80, 81, 82, 83, 84, 85, 86, 87, 88, 25, 89, 90, 30, 91, 92, 93, 94, 95, 96, 71, 72, 73, 28, 97, 98, 99, 100, 101, 102, 103, 104, 105, 106, 145, 146, 147, 148, 135, 136, 137, 138, 139, 140, 141, 142, 143, 144, 149, 150, 151, 152] (by decide +kernel) (by decide +kernel)
set_option maxRecDepth 20000 in
theorem gX8_reckonChances_X6_valueFrom : GoodIn wsX8_reckonChances (wsV RX8 282 RX6 yX6_valueFrom wsX6_valueFrom) := goodIn_app (goodIn_of _ (by decide +kernel)) ggX8_reckonChances_X6_valueFrom
theorem dX8_reckonChances_0 : decode cX8_reckonChances 0 = .ok (.aload_n 0, 1) := by decide +kernel
theorem dX8_reckonChances_1 : decode cX8_reckonChances 1 = .ok (.getfield 45, 3) := by decide +kernel
theorem dX8_reckonChances_4 : decode cX8_reckonChances 4 = .ok (.invokevirtual 283, 3) := by decide +kernel
theorem dX8_reckonChances_7 : decode cX8_reckonChances 7 = .ok (.aload_n 0, 1) := by decide +kernel
theorem dX8_reckonChances_8 : decode cX8_reckonChances 8 = .ok (.getfield 52, 3) := by decide +kernel
theorem dX8_reckonChances_11 : decode cX8_reckonChances 11 = .ok (.aload_n 0, 1) := by decide +kernel
theorem dX8_reckonChances_12 : decode cX8_reckonChances 12 = .ok (.getfield 18, 3) := by decide +kernel
theorem dX8_reckonChances_15 : decode cX8_reckonChances 15 = .ok (.iload_n 1, 1) := by decide +kernel
theorem dX8_reckonChances_16 : decode cX8_reckonChances 16 = .ok (.aaload, 1) := by decide +kernel
theorem dX8_reckonChances_17 : decode cX8_reckonChances 17 = .ok (.aload_n 0, 1) := by decide +kernel
theorem dX8_reckonChances_18 : decode cX8_reckonChances 18 = .ok (.getfield 28, 3) := by decide +kernel
theorem dX8_reckonChances_21 : decode cX8_reckonChances 21 = .ok (.getfield 111, 3) := by decide +kernel
theorem dX8_reckonChances_24 : decode cX8_reckonChances 24 = .ok (.aload_n 0, 1) := by decide +kernel
theorem dX8_reckonChances_25 : decode cX8_reckonChances 25 = .ok (.getfield 45, 3) := by decide +kernel
theorem dX8_reckonChances_28 : decode cX8_reckonChances 28 = .ok (.invokevirtual 278, 3) := by decide +kernel
theorem dX8_reckonChances_31 : decode cX8_reckonChances 31 = .ok (.aload_n 0, 1) := by decide +kernel
theorem dX8_reckonChances_32 : decode cX8_reckonChances 32 = .ok (.getfield 38, 3) := by decide +kernel
theorem dX8_reckonChances_35 : decode cX8_reckonChances 35 = .ok (.aload_n 0, 1) := by decide +kernel
theorem dX8_reckonChances_36 : decode cX8_reckonChances 36 = .ok (.getfield 28, 3) := by decide +kernel
theorem dX8_reckonChances_39 : decode cX8_reckonChances 39 = .ok (.iload_n 1, 1) := by decide +kernel
theorem dX8_reckonChances_40 : decode cX8_reckonChances 40 = .ok (.invokevirtual 225, 3) := by decide +kernel
theorem dX8_reckonChances_43 : decode cX8_reckonChances 43 = .ok (.aload_n 0, 1) := by decide +kernel
theorem dX8_reckonChances_44 : decode cX8_reckonChances 44 = .ok (.getfield 38, 3) := by decide +kernel
theorem dX8_reckonChances_47 : decode cX8_reckonChances 47 = .ok (.getfield 229, 3) := by decide +kernel
theorem dX8_reckonChances_50 : decode cX8_reckonChances 50 = .ok (.istore_n 2, 1) := by decide +kernel
theorem dX8_reckonChances_51 : decode cX8_reckonChances 51 = .ok (.aload_n 0, 1) := by decide +kernel
theorem dX8_reckonChances_52 : decode cX8_reckonChances 52 = .ok (.getfield 58, 3) := by decide +kernel
theorem dX8_reckonChances_55 : decode cX8_reckonChances 55 = .ok (.iload_n 1, 1) := by decide +kernel
theorem dX8_reckonChances_56 : decode cX8_reckonChances 56 = .ok (.aaload, 1) := by decide +kernel
theorem dX8_reckonChances_57 : decode cX8_reckonChances 57 = .ok (.astore_n 3, 1) := by decide +kernel
theorem dX8_reckonChances_58 : decode cX8_reckonChances 58 = .ok (.aload_n 3, 1) := by decide +kernel
theorem dX8_reckonChances_59 : decode cX8_reckonChances 59 = .ok (.iconst 0, 1) := by decide +kernel
theorem dX8_reckonChances_60 : decode cX8_reckonChances 60 = .ok (.ldc 213, 2) := by decide +kernel
theorem dX8_reckonChances_62 : decode cX8_reckonChances 62 = .ok (.iastore, 1) := by decide +kernel
theorem dX8_reckonChances_63 : decode cX8_reckonChances 63 = .ok (.iconst 1, 1) := by decide +kernel
theorem dX8_reckonChances_64 : decode cX8_reckonChances 64 = .ok (.istore 4, 2) := by decide +kernel
theorem dX8_reckonChances_66 : decode cX8_reckonChances 66 = .ok (.iload 4, 2) := by decide +kernel
theorem dX8_reckonChances_68 : decode cX8_reckonChances 68 = .ok (.aload_n 3, 1) := by decide +kernel
theorem dX8_reckonChances_69 : decode cX8_reckonChances 69 = .ok (.arraylength, 1) := by decide +kernel
theorem dX8_reckonChances_70 : decode cX8_reckonChances 70 = .ok (.if_icmp .ge 40, 3) := by decide +kernel
theorem dX8_reckonChances_73 : decode cX8_reckonChances 73 = .ok (.aload_n 0, 1) := by decide +kernel
theorem dX8_reckonChances_74 : decode cX8_reckonChances 74 = .ok (.getfield 38, 3) := by decide +kernel
theorem dX8_reckonChances_77 : decode cX8_reckonChances 77 = .ok (.iload_n 2, 1) := by decide +kernel
theorem dX8_reckonChances_78 : decode cX8_reckonChances 78 = .ok (.bipush 120, 2) := by decide +kernel
theorem dX8_reckonChances_80 : decode cX8_reckonChances 80 = .ok (.iadd, 1) := by decide +kernel
theorem dX8_reckonChances_81 : decode cX8_reckonChances 81 = .ok (.iconst 1, 1) := by decide +kernel
theorem dX8_reckonChances_82 : decode cX8_reckonChances 82 = .ok (.iadd, 1) := by decide +kernel
theorem dX8_reckonChances_83 : decode cX8_reckonChances 83 = .ok (.iload 4, 2) := by decide +kernel
theorem dX8_reckonChances_85 : decode cX8_reckonChances 85 = .ok (.isub, 1) := by decide +kernel
theorem dX8_reckonChances_86 : decode cX8_reckonChances 86 = .ok (.putfield 229, 3) := by decide +kernel
theorem dX8_reckonChances_89 : decode cX8_reckonChances 89 = .ok (.aload_n 3, 1) := by decide +kernel
theorem dX8_reckonChances_90 : decode cX8_reckonChances 90 = .ok (.iload 4, 2) := by decide +kernel
theorem dX8_reckonChances_92 : decode cX8_reckonChances 92 = .ok (.aload_n 0, 1) := by decide +kernel
theorem dX8_reckonChances_93 : decode cX8_reckonChances 93 = .ok (.getfield 52, 3) := by decide +kernel
theorem dX8_reckonChances_96 : decode cX8_reckonChances 96 = .ok (.aload_n 0, 1) := by decide +kernel
theorem dX8_reckonChances_97 : decode cX8_reckonChances 97 = .ok (.getfield 38, 3) := by decide +kernel
theorem dX8_reckonChances_100 : decode cX8_reckonChances 100 = .ok (.invokevirtual 282, 3) := by decide +kernel
theorem dX8_reckonChances_103 : decode cX8_reckonChances 103 = .ok (.iastore, 1) := by decide +kernel
theorem dX8_reckonChances_104 : decode cX8_reckonChances 104 = .ok (.iinc 4 1, 3) := by decide +kernel
theorem dX8_reckonChances_107 : decode cX8_reckonChances 107 = .ok (.goto (-41), 3) := by decide +kernel
theorem dX8_reckonChances_110 : decode cX8_reckonChances 110 = .ok (.return_, 1) := by decide +kernel
set_option maxRecDepth 20000 in
theorem ggX8_aimToBeat_X8_reckonChances : GoodIn wsX8_aimToBeat wsX8_reckonChances := goodIn_r _ [8, 1, 9, 2, 10, 11, 12, 13, 3, 14, 15, 16, 17, 18, 19, 20, 21, 22, 23, 24, 25, 26, 27, 28, 29, 30, 31, 32, 33, 34, 35, 36, 37, 38, 39, 40, 41, 42, 43, 44, 45, 46, 47, 48, 49, 50, 51, 52, 53, 54, 55, 56, 57, 58, 59, 60, 61, 62, 63, 64, 65, 66, 67, 68, 69, 70, 71, 72, 73, 74, 75, 76, 77, 78, 79, 80, 81, 82, 83, 84, 85, 86, 87, 88, 89, 90, 91, 92, 93, 94, 95, 96, 97, 98, 99, 100, 101, 102, 103, 104, 105, 106, 107, 108, 109, 7, 110, 127, 128, 129, 130, 131, 132, 133, 134, 135, 136, 137, 138, 139, 140, 141, 142, 143, 144, 145, 146, 147, 148, 149, 150, 151, 152, 153, 154, 155, 156, 157, 158, 159, 160, 161, 162, 163, 164, 165, 166, 167, 168, 169, 170, 171, 172] (by decide +kernel) (by decide +kernel)
set_option maxRecDepth 20000 in
theorem gX8_aimToBeat_X8_reckonChances : GoodIn wsX8_aimToBeat (wsV RX8 204 RX8 yX8_reckonChances wsX8_reckonChances) := goodIn_app (goodIn_of _ (by decide +kernel)) ggX8_aimToBeat_X8_reckonChances
set_option maxRecDepth 20000 in
theorem ggX8_aimToBeat_X0_beSure : GoodIn wsX8_aimToBeat wsX0_beSure := goodIn_r _ [114, 24, 25, 26, 115, 37, 38, 39, 163, 164] (by decide +kernel) (by decide +kernel)
set_option maxRecDepth 20000 in
theorem gX8_aimToBeat_X0_beSure : GoodIn wsX8_aimToBeat (wsV RX8 286 RX0 yX0_beSure wsX0_beSure) := goodIn_app (goodIn_of _ (by decide +kernel)) ggX8_aimToBeat_X0_beSure
set_option maxRecDepth 20000 in
theorem ggX8_aimToBeat_X3_leadsLike : GoodIn wsX8_aimToBeat wsX3_leadsLike := goodIn_r _ [119, 120, 121, 169, 170, 171, 172] (by decide +kernel) (by decide +kernel)
set_option maxRecDepth 20000 in
theorem gX8_aimToBeat_X3_leadsLike : GoodIn wsX8_aimToBeat (wsV RX8 289 RX3 yX3_leadsLike wsX3_leadsLike) := goodIn_app (goodIn_of _ (by decide +kernel)) ggX8_aimToBeat_X3_leadsLike
set_option maxRecDepth 20000 in
theorem ggX8_aimToBeat_X0_timesBeat : GoodIn wsX8_aimToBeat wsX0_timesBeat := goodIn_r _ [125, 24, 25, 126, 163, 164] (by decide +kernel) (by decide +kernel)
set_option maxRecDepth 20000 in
theorem gX8_aimToBeat_X0_timesBeat : GoodIn wsX8_aimToBeat (wsV RX8 293 RX0 yX0_timesBeat wsX0_timesBeat) := goodIn_app (goodIn_of _ (by decide +kernel)) ggX8_aimToBeat_X0_timesBeat
theorem dX8_aimToBeat_0 : decode cX8_aimToBeat 0 = .ok (.aload_n 0, 1) := by decide +kernel
theorem dX8_aimToBeat_1 : decode cX8_aimToBeat 1 = .ok (.iload_n 2, 1) := by decide +kernel
theorem dX8_aimToBeat_2 : decode cX8_aimToBeat 2 = .ok (.invokevirtual 204, 3) := by decide +kernel
theorem dX8_aimToBeat_5 : decode cX8_aimToBeat 5 = .ok (.aload_n 0, 1) := by decide +kernel
theorem dX8_aimToBeat_6 : decode cX8_aimToBeat 6 = .ok (.getfield 45, 3) := by decide +kernel
theorem dX8_aimToBeat_9 : decode cX8_aimToBeat 9 = .ok (.invokevirtual 286, 3) := by decide +kernel
theorem dX8_aimToBeat_12 : decode cX8_aimToBeat 12 = .ok (.aload_n 0, 1) := by decide +kernel
theorem dX8_aimToBeat_13 : decode cX8_aimToBeat 13 = .ok (.getfield 45, 3) := by decide +kernel
theorem dX8_aimToBeat_16 : decode cX8_aimToBeat 16 = .ok (.aload_n 0, 1) := by decide +kernel
theorem dX8_aimToBeat_17 : decode cX8_aimToBeat 17 = .ok (.getfield 18, 3) := by decide +kernel
theorem dX8_aimToBeat_20 : decode cX8_aimToBeat 20 = .ok (.iload_n 1, 1) := by decide +kernel
theorem dX8_aimToBeat_21 : decode cX8_aimToBeat 21 = .ok (.aaload, 1) := by decide +kernel
theorem dX8_aimToBeat_22 : decode cX8_aimToBeat 22 = .ok (.aload_n 0, 1) := by decide +kernel
theorem dX8_aimToBeat_23 : decode cX8_aimToBeat 23 = .ok (.getfield 18, 3) := by decide +kernel
theorem dX8_aimToBeat_26 : decode cX8_aimToBeat 26 = .ok (.iload_n 2, 1) := by decide +kernel
theorem dX8_aimToBeat_27 : decode cX8_aimToBeat 27 = .ok (.aaload, 1) := by decide +kernel
theorem dX8_aimToBeat_28 : decode cX8_aimToBeat 28 = .ok (.invokevirtual 289, 3) := by decide +kernel
theorem dX8_aimToBeat_31 : decode cX8_aimToBeat 31 = .ok (.aload_n 0, 1) := by decide +kernel
theorem dX8_aimToBeat_32 : decode cX8_aimToBeat 32 = .ok (.getfield 58, 3) := by decide +kernel
theorem dX8_aimToBeat_35 : decode cX8_aimToBeat 35 = .ok (.iload_n 2, 1) := by decide +kernel
theorem dX8_aimToBeat_36 : decode cX8_aimToBeat 36 = .ok (.aaload, 1) := by decide +kernel
theorem dX8_aimToBeat_37 : decode cX8_aimToBeat 37 = .ok (.invokevirtual 293, 3) := by decide +kernel
theorem dX8_aimToBeat_40 : decode cX8_aimToBeat 40 = .ok (.return_, 1) := by decide +kernel
set_option maxRecDepth 20000 in
theorem ggX8_aimToWin_X8_reckonChances : GoodIn wsX8_aimToWin wsX8_reckonChances := goodIn_r _ [7, 8, 9, 10, 1, 11, 12, 13, 14, 15, 16, 17, 18, 19, 20, 21, 22, 23, 24, 25, 26, 27, 28, 29, 30, 31, 32, 33, 34, 35, 36, 37, 38, 39, 40, 41, 42, 43, 44, 45, 46, 47, 48, 49, 50, 51, 52, 53, 54, 55, 56, 57, 58, 59, 60, 61, 62, 63, 64, 65, 66, 67, 68, 69, 70, 71, 72, 73, 74, 75, 76, 77, 78, 79, 80, 81, 82, 83, 84, 85, 86, 87, 88, 89, 90, 91, 92, 93, 94, 95, 96, 97, 98, 99, 100, 101, 102, 103, 104, 105, 106, 107, 108, 109, 110, 6, 111, 132, 133, 134, 135, 136, 137, 138, 139, 140, 141, 142, 143, 144, 145, 146, 147, 148, 149, 150, 151, 152, 153, 154, 155, 156, 157, 158, 159, 160, 161, 162, 163, 164, 165, 166, 167, 168, 169, 170, 171, 172, 173, 174, 175, 176, 177] (by decide +kernel) (by decide +kernel)
set_option maxRecDepth 20000 in
theorem gX8_aimToWin_X8_reckonChances : GoodIn wsX8_aimToWin (wsV RX8 204 RX8 yX8_reckonChances wsX8_reckonChances) := goodIn_app (goodIn_of _ (by decide +kernel)) ggX8_aimToWin_X8_reckonChances
set_option maxRecDepth 20000 in
theorem ggX8_aimToWin_X8_aimAheadOfAll : GoodIn wsX8_aimToWin wsX8_aimAheadOfAll := goodIn_r _ [115, 8, 1, 2, 10, 14, 116, 117, 118, 19, 119, 25, 26, 27, 120, 38, 39, 40, 121, 122, 123, 106, 124, 125, 126, 127, 128, 129, 130, 131, 132, 133, 134, 135, 136, 137, 138, 139, 140, 141, 142, 143, 144, 145, 146, 147, 148, 149, 150, 151, 152, 153, 154, 155, 156, 157, 158, 159, 168, 169, 174, 175, 176, 177] (by decide +kernel) (by decide +kernel)
set_option maxRecDepth 20000 in
theorem gX8_aimToWin_X8_aimAheadOfAll : GoodIn wsX8_aimToWin (wsV RX8 210 RX8 yX8_aimAheadOfAll wsX8_aimAheadOfAll) := goodIn_app (goodIn_of _ (by decide +kernel)) ggX8_aimToWin_X8_aimAheadOfAll
theorem dX8_aimToWin_0 : decode cX8_aimToWin 0 = .ok (.iconst 0, 1) := by decide +kernel
theorem dX8_aimToWin_1 : decode cX8_aimToWin 1 = .ok (.istore_n 2, 1) := by decide +kernel
theorem dX8_aimToWin_2 : decode cX8_aimToWin 2 = .ok (.iload_n 2, 1) := by decide +kernel
theorem dX8_aimToWin_3 : decode cX8_aimToWin 3 = .ok (.aload_n 0, 1) := by decide +kernel
theorem dX8_aimToWin_4 : decode cX8_aimToWin 4 = .ok (.getfield 28, 3) := by decide +kernel
theorem dX8_aimToWin_7 : decode cX8_aimToWin 7 = .ok (.getfield 87, 3) := by decide +kernel
theorem dX8_aimToWin_10 : decode cX8_aimToWin 10 = .ok (.if_icmp .ge 19, 3) := by decide +kernel
theorem dX8_aimToWin_13 : decode cX8_aimToWin 13 = .ok (.iload_n 2, 1) := by decide +kernel
theorem dX8_aimToWin_14 : decode cX8_aimToWin 14 = .ok (.iload_n 1, 1) := by decide +kernel
theorem dX8_aimToWin_15 : decode cX8_aimToWin 15 = .ok (.if_icmp .eq 8, 3) := by decide +kernel
theorem dX8_aimToWin_18 : decode cX8_aimToWin 18 = .ok (.aload_n 0, 1) := by decide +kernel
theorem dX8_aimToWin_19 : decode cX8_aimToWin 19 = .ok (.iload_n 2, 1) := by decide +kernel
theorem dX8_aimToWin_20 : decode cX8_aimToWin 20 = .ok (.invokevirtual 204, 3) := by decide +kernel
theorem dX8_aimToWin_23 : decode cX8_aimToWin 23 = .ok (.iinc 2 1, 3) := by decide +kernel
theorem dX8_aimToWin_26 : decode cX8_aimToWin 26 = .ok (.goto (-24), 3) := by decide +kernel
theorem dX8_aimToWin_29 : decode cX8_aimToWin 29 = .ok (.aload_n 0, 1) := by decide +kernel
theorem dX8_aimToWin_30 : decode cX8_aimToWin 30 = .ok (.iload_n 1, 1) := by decide +kernel
theorem dX8_aimToWin_31 : decode cX8_aimToWin 31 = .ok (.invokevirtual 210, 3) := by decide +kernel
theorem dX8_aimToWin_34 : decode cX8_aimToWin 34 = .ok (.return_, 1) := by decide +kernel
set_option maxRecDepth 20000 in
theorem ggX8_aimAheadOfAll_X0_beSure : GoodIn wsX8_aimAheadOfAll wsX0_beSure := goodIn_r _ [10, 11, 12, 13, 14, 15, 16, 17, 58, 59] (by decide +kernel) (by decide +kernel)
set_option maxRecDepth 20000 in
theorem gX8_aimAheadOfAll_X0_beSure : GoodIn wsX8_aimAheadOfAll (wsV RX8 286 RX0 yX0_beSure wsX0_beSure) := goodIn_app (goodIn_of _ (by decide +kernel)) ggX8_aimAheadOfAll_X0_beSure
set_option maxRecDepth 20000 in
theorem ggX8_aimAheadOfAll_X3_leadsLike : GoodIn wsX8_aimAheadOfAll wsX3_leadsLike := goodIn_r _ [22, 23, 24, 60, 61, 62, 63] (by decide +kernel) (by decide +kernel)
set_option maxRecDepth 20000 in
theorem gX8_aimAheadOfAll_X3_leadsLike : GoodIn wsX8_aimAheadOfAll (wsV RX8 289 RX3 yX3_leadsLike wsX3_leadsLike) := goodIn_app (goodIn_of _ (by decide +kernel)) ggX8_aimAheadOfAll_X3_leadsLike
set_option maxRecDepth 20000 in
theorem ggX8_aimAheadOfAll_X0_timesBeat : GoodIn wsX8_aimAheadOfAll wsX0_timesBeat := goodIn_r _ [28, 11, 12, 29, 58, 59] (by decide +kernel) (by decide +kernel)
set_option maxRecDepth 20000 in
theorem gX8_aimAheadOfAll_X0_timesBeat : GoodIn wsX8_aimAheadOfAll (wsV RX8 293 RX0 yX0_timesBeat wsX0_timesBeat) := goodIn_app (goodIn_of _ (by decide +kernel)) ggX8_aimAheadOfAll_X0_timesBeat
theorem dX8_aimAheadOfAll_0 : decode cX8_aimAheadOfAll 0 = .ok (.aload_n 0, 1) := by decide +kernel
theorem dX8_aimAheadOfAll_1 : decode cX8_aimAheadOfAll 1 = .ok (.getfield 45, 3) := by decide +kernel
theorem dX8_aimAheadOfAll_4 : decode cX8_aimAheadOfAll 4 = .ok (.invokevirtual 286, 3) := by decide +kernel
theorem dX8_aimAheadOfAll_7 : decode cX8_aimAheadOfAll 7 = .ok (.iconst 0, 1) := by decide +kernel
theorem dX8_aimAheadOfAll_8 : decode cX8_aimAheadOfAll 8 = .ok (.istore_n 2, 1) := by decide +kernel
theorem dX8_aimAheadOfAll_9 : decode cX8_aimAheadOfAll 9 = .ok (.iload_n 2, 1) := by decide +kernel
theorem dX8_aimAheadOfAll_10 : decode cX8_aimAheadOfAll 10 = .ok (.aload_n 0, 1) := by decide +kernel
theorem dX8_aimAheadOfAll_11 : decode cX8_aimAheadOfAll 11 = .ok (.getfield 28, 3) := by decide +kernel
theorem dX8_aimAheadOfAll_14 : decode cX8_aimAheadOfAll 14 = .ok (.getfield 87, 3) := by decide +kernel
theorem dX8_aimAheadOfAll_17 : decode cX8_aimAheadOfAll 17 = .ok (.if_icmp .ge 42, 3) := by decide +kernel
theorem dX8_aimAheadOfAll_20 : decode cX8_aimAheadOfAll 20 = .ok (.iload_n 2, 1) := by decide +kernel
theorem dX8_aimAheadOfAll_21 : decode cX8_aimAheadOfAll 21 = .ok (.iload_n 1, 1) := by decide +kernel
theorem dX8_aimAheadOfAll_22 : decode cX8_aimAheadOfAll 22 = .ok (.if_icmp .eq 31, 3) := by decide +kernel
theorem dX8_aimAheadOfAll_25 : decode cX8_aimAheadOfAll 25 = .ok (.aload_n 0, 1) := by decide +kernel
theorem dX8_aimAheadOfAll_26 : decode cX8_aimAheadOfAll 26 = .ok (.getfield 45, 3) := by decide +kernel
theorem dX8_aimAheadOfAll_29 : decode cX8_aimAheadOfAll 29 = .ok (.aload_n 0, 1) := by decide +kernel
theorem dX8_aimAheadOfAll_30 : decode cX8_aimAheadOfAll 30 = .ok (.getfield 18, 3) := by decide +kernel
theorem dX8_aimAheadOfAll_33 : decode cX8_aimAheadOfAll 33 = .ok (.iload_n 1, 1) := by decide +kernel
theorem dX8_aimAheadOfAll_34 : decode cX8_aimAheadOfAll 34 = .ok (.aaload, 1) := by decide +kernel
theorem dX8_aimAheadOfAll_35 : decode cX8_aimAheadOfAll 35 = .ok (.aload_n 0, 1) := by decide +kernel
theorem dX8_aimAheadOfAll_36 : decode cX8_aimAheadOfAll 36 = .ok (.getfield 18, 3) := by decide +kernel
theorem dX8_aimAheadOfAll_39 : decode cX8_aimAheadOfAll 39 = .ok (.iload_n 2, 1) := by decide +kernel
theorem dX8_aimAheadOfAll_40 : decode cX8_aimAheadOfAll 40 = .ok (.aaload, 1) := by decide +kernel
theorem dX8_aimAheadOfAll_41 : decode cX8_aimAheadOfAll 41 = .ok (.invokevirtual 289, 3) := by decide +kernel
theorem dX8_aimAheadOfAll_44 : decode cX8_aimAheadOfAll 44 = .ok (.aload_n 0, 1) := by decide +kernel
theorem dX8_aimAheadOfAll_45 : decode cX8_aimAheadOfAll 45 = .ok (.getfield 58, 3) := by decide +kernel
theorem dX8_aimAheadOfAll_48 : decode cX8_aimAheadOfAll 48 = .ok (.iload_n 2, 1) := by decide +kernel
theorem dX8_aimAheadOfAll_49 : decode cX8_aimAheadOfAll 49 = .ok (.aaload, 1) := by decide +kernel
theorem dX8_aimAheadOfAll_50 : decode cX8_aimAheadOfAll 50 = .ok (.invokevirtual 293, 3) := by decide +kernel
theorem dX8_aimAheadOfAll_53 : decode cX8_aimAheadOfAll 53 = .ok (.iinc 2 1, 3) := by decide +kernel
theorem dX8_aimAheadOfAll_56 : decode cX8_aimAheadOfAll 56 = .ok (.goto (-47), 3) := by decide +kernel
theorem dX8_aimAheadOfAll_59 : decode cX8_aimAheadOfAll 59 = .ok (.return_, 1) := by decide +kernel
set_option maxRecDepth 20000 in
theorem ggX8_thinkFreely_X2_init : GoodIn wsX8_thinkFreely wsX2_init := goodIn_r _ [10, 11, 12, 13, 14, 15, 16, 17, 18, 19, 20, 21, 22, 23, 24, 25, 26, 27, 76, 77, 78, 79, 80, 81, 82, 83, 84, 85, 86, 87] (by decide +kernel) (by decide +kernel)
set_option maxRecDepth 20000 in
theorem gX8_thinkFreely_X2_init_n297 : GoodIn wsX8_thinkFreely (wsX2_init) := ggX8_thinkFreely_X2_init
set_option maxRecDepth 20000 in
theorem ggX8_thinkFreely_X0_beStep : GoodIn wsX8_thinkFreely wsX0_beStep := goodIn_r _ [32, 33, 34, 35, 31, 36, 37, 38, 39, 104, 105] (by decide +kernel) (by decide +kernel)
set_option maxRecDepth 20000 in
theorem gX8_thinkFreely_X0_beStep : GoodIn wsX8_thinkFreely (wsV RX8 283 RX0 yX0_beStep wsX0_beStep) := goodIn_app (goodIn_of _ (by decide +kernel)) ggX8_thinkFreely_X0_beStep
set_option maxRecDepth 20000 in
theorem ggX8_thinkFreely_X2_prepare : GoodIn wsX8_thinkFreely wsX2_prepare := goodIn_r _ [43, 44, 15, 19, 18, 20, 45, 46, 47, 48, 49, 50, 51, 52, 53, 54, 55, 56, 57, 58, 59, 60, 61, 62, 63, 104, 105, 76, 77, 78, 79, 80, 81, 82, 83, 84, 85, 86, 87, 106, 107, 108, 109] (by decide +kernel) (by decide +kernel)
set_option maxRecDepth 20000 in
theorem gX8_thinkFreely_X2_prepare : GoodIn wsX8_thinkFreely (wsV RX8 298 RX2 yX2_prepare wsX2_prepare) := goodIn_app (goodIn_of _ (by decide +kernel)) ggX8_thinkFreely_X2_prepare
theorem dX8_thinkFreely_0 : decode cX8_thinkFreely 0 = .ok (.aload_n 0, 1) := by decide +kernel
theorem dX8_thinkFreely_1 : decode cX8_thinkFreely 1 = .ok (.getfield 69, 3) := by decide +kernel
theorem dX8_thinkFreely_4 : decode cX8_thinkFreely 4 = .ok (.ifnonnull 14, 3) := by decide +kernel
theorem dX8_thinkFreely_7 : decode cX8_thinkFreely 7 = .ok (.aload_n 0, 1) := by decide +kernel
theorem dX8_thinkFreely_8 : decode cX8_thinkFreely 8 = .ok (.new 233, 3) := by decide +kernel
theorem dX8_thinkFreely_11 : decode cX8_thinkFreely 11 = .ok (.dup, 1) := by decide +kernel
theorem dX8_thinkFreely_12 : decode cX8_thinkFreely 12 = .ok (.invokespecial 297, 3) := by decide +kernel
theorem dX8_thinkFreely_15 : decode cX8_thinkFreely 15 = .ok (.putfield 69, 3) := by decide +kernel
theorem dX8_thinkFreely_18 : decode cX8_thinkFreely 18 = .ok (.iload_n 2, 1) := by decide +kernel
theorem dX8_thinkFreely_19 : decode cX8_thinkFreely 19 = .ok (.ifCond .eq 10, 3) := by decide +kernel
theorem dX8_thinkFreely_22 : decode cX8_thinkFreely 22 = .ok (.aload_n 0, 1) := by decide +kernel
theorem dX8_thinkFreely_23 : decode cX8_thinkFreely 23 = .ok (.getfield 45, 3) := by decide +kernel
theorem dX8_thinkFreely_26 : decode cX8_thinkFreely 26 = .ok (.invokevirtual 283, 3) := by decide +kernel
theorem dX8_thinkFreely_29 : decode cX8_thinkFreely 29 = .ok (.aload_n 0, 1) := by decide +kernel
theorem dX8_thinkFreely_30 : decode cX8_thinkFreely 30 = .ok (.getfield 69, 3) := by decide +kernel
theorem dX8_thinkFreely_33 : decode cX8_thinkFreely 33 = .ok (.aload_n 0, 1) := by decide +kernel
theorem dX8_thinkFreely_34 : decode cX8_thinkFreely 34 = .ok (.getfield 18, 3) := by decide +kernel
theorem dX8_thinkFreely_37 : decode cX8_thinkFreely 37 = .ok (.iload_n 1, 1) := by decide +kernel
theorem dX8_thinkFreely_38 : decode cX8_thinkFreely 38 = .ok (.aaload, 1) := by decide +kernel
theorem dX8_thinkFreely_39 : decode cX8_thinkFreely 39 = .ok (.aload_n 0, 1) := by decide +kernel
theorem dX8_thinkFreely_40 : decode cX8_thinkFreely 40 = .ok (.getfield 28, 3) := by decide +kernel
theorem dX8_thinkFreely_43 : decode cX8_thinkFreely 43 = .ok (.getfield 111, 3) := by decide +kernel
theorem dX8_thinkFreely_46 : decode cX8_thinkFreely 46 = .ok (.aload_n 0, 1) := by decide +kernel
theorem dX8_thinkFreely_47 : decode cX8_thinkFreely 47 = .ok (.getfield 45, 3) := by decide +kernel
theorem dX8_thinkFreely_50 : decode cX8_thinkFreely 50 = .ok (.invokevirtual 298, 3) := by decide +kernel
theorem dX8_thinkFreely_53 : decode cX8_thinkFreely 53 = .ok (.aload_n 0, 1) := by decide +kernel
theorem dX8_thinkFreely_54 : decode cX8_thinkFreely 54 = .ok (.getfield 69, 3) := by decide +kernel
theorem dX8_thinkFreely_57 : decode cX8_thinkFreely 57 = .ok (.areturn, 1) := by decide +kernel
set_option maxRecDepth 20000 in
theorem ggX8_byChoice_X8_thinkFreely : GoodIn wsX8_byChoice wsX8_thinkFreely := goodIn_r _ [8, 9, 10, 11, 12, 13, 14, 2, 15, 16, 17, 18, 19, 20, 21, 22, 23, 24, 25, 26, 27, 28, 29, 30, 31, 32, 33, 34, 35, 36, 37, 38, 39, 40, 41, 42, 43, 44, 45, 46, 47, 48, 49, 50, 51, 52, 53, 54, 55, 56, 57, 58, 59, 60, 61, 62, 63, 64, 65, 66, 67, 68, 69, 70, 206, 207, 208, 209, 210, 211, 212, 213, 214, 215, 216, 217, 218, 219, 220, 221, 222, 223, 224, 225, 226, 227, 228, 229, 230, 231, 232, 233, 234, 235, 236, 237, 238, 239, 240, 241, 242, 243, 244, 245, 246, 247, 248, 249, 250, 251] (by decide +kernel) (by decide +kernel)
set_option maxRecDepth 20000 in
theorem gX8_byChoice_X8_thinkFreely : GoodIn wsX8_byChoice (wsV RX8 221 RX8 yX8_thinkFreely wsX8_thinkFreely) := goodIn_app (goodIn_of _ (by decide +kernel)) ggX8_byChoice_X8_thinkFreely
set_option maxRecDepth 20000 in
theorem ggX8_byChoice_X5_look : GoodIn wsX8_byChoice wsX5_look := goodIn_r _ [75, 76, 77, 78, 79, 80, 81, 82, 83, 84, 85, 86, 87, 88, 89, 90, 91, 92, 93, 94, 95, 96, 97, 98, 99, 100, 101, 102, 103, 104, 105, 106, 64, 65, 66, 230, 231, 232, 233, 234, 235, 236, 237, 238, 239, 240, 241, 242, 243, 244, 245, 252, 253, 254, 255, 256, 257, 258, 259] (by decide +kernel) (by decide +kernel)
set_option maxRecDepth 20000 in
theorem gX8_byChoice_X5_look : GoodIn wsX8_byChoice (wsV RX8 225 RX5 yX5_look wsX5_look) := goodIn_app (goodIn_of _ (by decide +kernel)) ggX8_byChoice_X5_look
set_option maxRecDepth 20000 in
theorem ggX8_byChoice_X5_findTry : GoodIn wsX8_byChoice wsX5_findTry := goodIn_r _ [110, 77, 79, 81, 82, 84, 87, 90, 111, 112, 113, 74, 114, 252, 253, 254, 255, 256, 257, 258, 259] (by decide +kernel) (by decide +kernel)
set_option maxRecDepth 20000 in
theorem gX8_byChoice_X5_findTry : GoodIn wsX8_byChoice (wsV RX8 241 RX5 yX5_findTry wsX5_findTry) := goodIn_app (goodIn_of _ (by decide +kernel)) ggX8_byChoice_X5_findTry
set_option maxRecDepth 20000 in
theorem ggX8_byChoice_X2_valueFrom : GoodIn wsX8_byChoice wsX2_valueFrom := goodIn_r _ [118, 21, 119, 22, 120, 121, 122, 123, 124, 125, 126, 127, 128, 12, 129, 27, 130, 131, 132, 133, 134, 135, 136, 26, 28, 137, 64, 65, 66, 138, 139, 140, 141, 29, 142, 143, 144, 145, 25, 33, 34, 30, 31, 32, 146, 7, 147, 148, 149, 150, 151, 152, 153, 154, 155, 156, 157, 158, 159, 160, 112, 113, 74, 114, 77, 79, 90, 87, 218, 219, 220, 221, 222, 223, 224, 225, 226, 227, 228, 229, 252, 253, 254, 255, 256, 257, 258, 259] (by decide +kernel) (by decide +kernel)
set_option maxRecDepth 20000 in
theorem gX8_byChoice_X2_valueFrom : GoodIn wsX8_byChoice (wsV RX8 232 RX2 yX2_valueFrom wsX2_valueFrom) := goodIn_app (goodIn_of _ (by decide +kernel)) ggX8_byChoice_X2_valueFrom
set_option maxRecDepth 20000 in
theorem ggX8_byChoice_X8_byPlan : GoodIn wsX8_byChoice wsX8_byPlan := goodIn_r _ [164, 165, 14, 2, 15, 13, 1, 166, 167, 168, 169, 170, 171, 172, 173, 174, 175, 68, 69, 70, 71, 72, 73, 74, 75, 76, 77, 78, 79, 80, 81, 82, 83, 84, 85, 86, 87, 88, 89, 90, 91, 92, 93, 94, 95, 96, 97, 98, 99, 100, 101, 102, 103, 104, 105, 106, 64, 65, 66, 176, 177, 178, 179, 180, 181, 182, 183, 184, 185, 186, 187, 188, 189, 190, 191, 192, 193, 194, 195, 196, 197, 198, 199, 58, 59, 60, 61, 62, 63, 146, 7, 147, 206, 207, 208, 209, 210, 211, 212, 213, 214, 215, 216, 217, 230, 231, 232, 233, 234, 235, 236, 237, 238, 239, 240, 241, 242, 243, 244, 245, 260, 261, 262, 263, 252, 253, 254, 255, 256, 257, 258, 259, 246, 247, 248, 249, 250, 251] (by decide +kernel) (by decide +kernel)
set_option maxRecDepth 20000 in
theorem gX8_byChoice_X8_byPlan : GoodIn wsX8_byChoice (wsV RX8 194 RX8 yX8_byPlan wsX8_byPlan) := goodIn_app (goodIn_of _ (by decide +kernel)) ggX8_byChoice_X8_byPlan
set_option maxRecDepth 20000 in
theorem ggX8_byChoice_X8_tellTwo : GoodIn wsX8_byChoice wsX8_tellTwo := goodIn_r _ [203, 204, 205, 206, 207, 208, 209, 210, 211, 212, 213, 214, 215, 216, 217] (by decide +kernel) (by decide +kernel)
set_option maxRecDepth 20000 in
theorem gX8_byChoice_X8_tellTwo : GoodIn wsX8_byChoice (wsV RX8 157 RX8 yX8_tellTwo wsX8_tellTwo) := goodIn_app (goodIn_of _ (by decide +kernel)) ggX8_byChoice_X8_tellTwo
theorem dX8_byChoice_0 : decode cX8_byChoice 0 = .ok (.aload_n 0, 1) := by decide +kernel
theorem dX8_byChoice_1 : decode cX8_byChoice 1 = .ok (.iload_n 1, 1) := by decide +kernel
theorem dX8_byChoice_2 : decode cX8_byChoice 2 = .ok (.iconst 0, 1) := by decide +kernel
theorem dX8_byChoice_3 : decode cX8_byChoice 3 = .ok (.invokevirtual 221, 3) := by decide +kernel
theorem dX8_byChoice_6 : decode cX8_byChoice 6 = .ok (.astore_n 2, 1) := by decide +kernel
theorem dX8_byChoice_7 : decode cX8_byChoice 7 = .ok (.aload_n 0, 1) := by decide +kernel
theorem dX8_byChoice_8 : decode cX8_byChoice 8 = .ok (.getfield 38, 3) := by decide +kernel
theorem dX8_byChoice_11 : decode cX8_byChoice 11 = .ok (.aload_n 0, 1) := by decide +kernel
theorem dX8_byChoice_12 : decode cX8_byChoice 12 = .ok (.getfield 28, 3) := by decide +kernel
theorem dX8_byChoice_15 : decode cX8_byChoice 15 = .ok (.iload_n 1, 1) := by decide +kernel
theorem dX8_byChoice_16 : decode cX8_byChoice 16 = .ok (.invokevirtual 225, 3) := by decide +kernel
theorem dX8_byChoice_19 : decode cX8_byChoice 19 = .ok (.aload_n 0, 1) := by decide +kernel
theorem dX8_byChoice_20 : decode cX8_byChoice 20 = .ok (.getfield 38, 3) := by decide +kernel
theorem dX8_byChoice_23 : decode cX8_byChoice 23 = .ok (.invokevirtual 241, 3) := by decide +kernel
theorem dX8_byChoice_26 : decode cX8_byChoice 26 = .ok (.pop, 1) := by decide +kernel
theorem dX8_byChoice_27 : decode cX8_byChoice 27 = .ok (.aload_n 2, 1) := by decide +kernel
theorem dX8_byChoice_28 : decode cX8_byChoice 28 = .ok (.aload_n 0, 1) := by decide +kernel
theorem dX8_byChoice_29 : decode cX8_byChoice 29 = .ok (.getfield 38, 3) := by decide +kernel
theorem dX8_byChoice_32 : decode cX8_byChoice 32 = .ok (.invokevirtual 232, 3) := by decide +kernel
theorem dX8_byChoice_35 : decode cX8_byChoice 35 = .ok (.istore_n 3, 1) := by decide +kernel
theorem dX8_byChoice_36 : decode cX8_byChoice 36 = .ok (.aload_n 2, 1) := by decide +kernel
theorem dX8_byChoice_37 : decode cX8_byChoice 37 = .ok (.getfield 245, 3) := by decide +kernel
theorem dX8_byChoice_40 : decode cX8_byChoice 40 = .ok (.istore 4, 2) := by decide +kernel
theorem dX8_byChoice_42 : decode cX8_byChoice 42 = .ok (.aload_n 0, 1) := by decide +kernel
theorem dX8_byChoice_43 : decode cX8_byChoice 43 = .ok (.iload 4, 2) := by decide +kernel
theorem dX8_byChoice_45 : decode cX8_byChoice 45 = .ok (.aload_n 0, 1) := by decide +kernel
theorem dX8_byChoice_46 : decode cX8_byChoice 46 = .ok (.iload_n 1, 1) := by decide +kernel
theorem dX8_byChoice_47 : decode cX8_byChoice 47 = .ok (.invokevirtual 194, 3) := by decide +kernel
theorem dX8_byChoice_50 : decode cX8_byChoice 50 = .ok (.invokevirtual 157, 3) := by decide +kernel
theorem dX8_byChoice_53 : decode cX8_byChoice 53 = .ok (.iload_n 3, 1) := by decide +kernel
theorem dX8_byChoice_54 : decode cX8_byChoice 54 = .ok (.ireturn, 1) := by decide +kernel
set_option maxRecDepth 20000 in
theorem ggX8_fight_X4_waits : GoodIn wsX8_fight wsX4_waits := goodIn_r _ [14, 15, 16, 131, 132, 133, 134, 135, 136, 137, 138, 139, 140, 141, 142, 143, 144, 145, 146] (by decide +kernel) (by decide +kernel)
set_option maxRecDepth 20000 in
theorem gX8_fight_X4_waits : GoodIn wsX8_fight (wsV RX8 140 RX4 yX4_waits wsX4_waits) := goodIn_app (goodIn_of _ (by decide +kernel)) ggX8_fight_X4_waits
set_option maxRecDepth 20000 in
theorem ggX8_fight_X1_init : GoodIn wsX8_fight wsX1_init := goodIn_r _ [18, 19, 20, 21, 22, 23, 24, 25, 26, 27, 28, 29, 30, 31, 32, 33, 34, 35, 36, 37, 38, 147, 148, 149, 150, 151, 152, 153, 154, 155, 156, 157, 158, 159, 160, 161, 162] (by decide +kernel) (by decide +kernel)
set_option maxRecDepth 20000 in
theorem gX8_fight_X1_init_n301 : GoodIn wsX8_fight (wsX1_init) := ggX8_fight_X1_init
set_option maxRecDepth 20000 in
theorem ggX8_fight_X1_meetUp : GoodIn wsX8_fight wsX1_meetUp := goodIn_r _ [42, 43, 22, 44, 23, 45, 24, 25, 46, 26, 27, 28, 29, 31, 47, 48, 32, 49, 50, 51, 52, 53, 54, 55, 56, 57, 58, 59, 60, 61, 62, 63, 64, 65, 66, 67, 7, 68, 69, 70, 71, 72, 73, 33, 34, 35, 36, 74, 75, 76, 77, 78, 79, 80, 131, 132, 133, 134, 135, 136, 137, 138, 139, 140, 141, 142, 143, 144, 145, 146, 147, 148, 149, 150, 151, 152, 153, 154, 155, 156, 157, 158, 159, 160, 161, 162, 163, 164, 165, 166] (by decide +kernel) (by decide +kernel)
set_option maxRecDepth 20000 in
theorem gX8_fight_X1_meetUp : GoodIn wsX8_fight (wsV RX8 302 RX1 yX1_meetUp wsX1_meetUp) := goodIn_app (goodIn_of _ (by decide +kernel)) ggX8_fight_X1_meetUp
set_option maxRecDepth 20000 in
theorem ggX8_fight_X1_solve : GoodIn wsX8_fight wsX1_solve := goodIn_r _ [84, 85, 86, 87, 7, 88, 38, 24, 89, 25, 73, 62, 63, 64, 70, 71, 72, 37, 90, 91, 92, 93, 94, 95, 96, 97, 98, 99, 100, 34, 33, 31, 36, 35, 32, 101, 102, 103, 104, 23, 78, 79, 80, 105, 106, 107, 108, 147, 148, 149, 150, 151, 152, 153, 154, 155, 156, 157, 158, 159, 160, 161, 162] (by decide +kernel) (by decide +kernel)
set_option maxRecDepth 20000 in
theorem gX8_fight_X1_solve : GoodIn wsX8_fight (wsV RX8 306 RX1 yX1_solve wsX1_solve) := goodIn_app (goodIn_of _ (by decide +kernel)) ggX8_fight_X1_solve
set_option maxRecDepth 20000 in
theorem ggX8_fight_X1_firstCalled : GoodIn wsX8_fight wsX1_firstCalled := goodIn_r _ [112, 24, 25, 101, 102, 103, 7, 104, 23, 147, 148, 149, 150, 151, 152, 153, 154, 155, 156, 157, 158, 159, 160, 161, 162] (by decide +kernel) (by decide +kernel)
set_option maxRecDepth 20000 in
theorem gX8_fight_X1_firstCalled : GoodIn wsX8_fight (wsV RX8 309 RX1 yX1_firstCalled wsX1_firstCalled) := goodIn_app (goodIn_of _ (by decide +kernel)) ggX8_fight_X1_firstCalled
set_option maxRecDepth 20000 in
theorem ggX8_fight_X1_chosen : GoodIn wsX8_fight wsX1_chosen := goodIn_r _ [116, 24, 25, 37, 105, 106, 107, 7, 108, 90, 91, 92, 97, 98, 99, 100, 34, 33, 31, 36, 35, 32, 101, 102, 103, 104, 23, 78, 79, 80, 117, 110, 111, 112, 147, 148, 149, 150, 151, 152, 153, 154, 155, 156, 157, 158, 159, 160, 161, 162] (by decide +kernel) (by decide +kernel)
set_option maxRecDepth 20000 in
theorem gX8_fight_X1_chosen : GoodIn wsX8_fight (wsV RX8 312 RX1 yX1_chosen wsX1_chosen) := goodIn_app (goodIn_of _ (by decide +kernel)) ggX8_fight_X1_chosen
set_option maxRecDepth 20000 in
theorem ggX8_fight_X1_valueAt : GoodIn wsX8_fight wsX1_valueAt := goodIn_r _ [108, 37, 24, 25, 90, 91, 7, 92, 147, 148, 149, 150, 151, 152, 153, 154, 155, 156, 157, 158, 159, 160, 161, 162] (by decide +kernel) (by decide +kernel)
set_option maxRecDepth 20000 in
theorem gX8_fight_X1_valueAt : GoodIn wsX8_fight (wsV RX8 315 RX1 yX1_valueAt wsX1_valueAt) := goodIn_app (goodIn_of _ (by decide +kernel)) ggX8_fight_X1_valueAt
theorem dX8_fight_0 : decode cX8_fight 0 = .ok (.aload_n 0, 1) := by decide +kernel
theorem dX8_fight_1 : decode cX8_fight 1 = .ok (.getfield 28, 3) := by decide +kernel
theorem dX8_fight_4 : decode cX8_fight 4 = .ok (.getfield 260, 3) := by decide +kernel
theorem dX8_fight_7 : decode cX8_fight 7 = .ok (.iconst 2, 1) := by decide +kernel
theorem dX8_fight_8 : decode cX8_fight 8 = .ok (.if_icmp .ne 14, 3) := by decide +kernel
theorem dX8_fight_11 : decode cX8_fight 11 = .ok (.aload_n 0, 1) := by decide +kernel
theorem dX8_fight_12 : decode cX8_fight 12 = .ok (.getfield 28, 3) := by decide +kernel
theorem dX8_fight_15 : decode cX8_fight 15 = .ok (.getfield 263, 3) := by decide +kernel
theorem dX8_fight_18 : decode cX8_fight 18 = .ok (.iconst 2, 1) := by decide +kernel
theorem dX8_fight_19 : decode cX8_fight 19 = .ok (.if_icmp .eq 6, 3) := by decide +kernel
theorem dX8_fight_22 : decode cX8_fight 22 = .ok (.bipush (-2), 2) := by decide +kernel
theorem dX8_fight_24 : decode cX8_fight 24 = .ok (.ireturn, 1) := by decide +kernel
theorem dX8_fight_25 : decode cX8_fight 25 = .ok (.aload_n 0, 1) := by decide +kernel
theorem dX8_fight_26 : decode cX8_fight 26 = .ok (.getfield 28, 3) := by decide +kernel
theorem dX8_fight_29 : decode cX8_fight 29 = .ok (.iload_n 1, 1) := by decide +kernel
theorem dX8_fight_30 : decode cX8_fight 30 = .ok (.invokevirtual 140, 3) := by decide +kernel
theorem dX8_fight_33 : decode cX8_fight 33 = .ok (.ifCond .eq 14, 3) := by decide +kernel
theorem dX8_fight_36 : decode cX8_fight 36 = .ok (.aload_n 0, 1) := by decide +kernel
theorem dX8_fight_37 : decode cX8_fight 37 = .ok (.getfield 28, 3) := by decide +kernel
theorem dX8_fight_40 : decode cX8_fight 40 = .ok (.iload_n 2, 1) := by decide +kernel
theorem dX8_fight_41 : decode cX8_fight 41 = .ok (.invokevirtual 140, 3) := by decide +kernel
theorem dX8_fight_44 : decode cX8_fight 44 = .ok (.ifCond .ne 6, 3) := by decide +kernel
theorem dX8_fight_47 : decode cX8_fight 47 = .ok (.bipush (-3), 2) := by decide +kernel
theorem dX8_fight_49 : decode cX8_fight 49 = .ok (.ireturn, 1) := by decide +kernel
theorem dX8_fight_50 : decode cX8_fight 50 = .ok (.aload_n 0, 1) := by decide +kernel
theorem dX8_fight_51 : decode cX8_fight 51 = .ok (.getfield 73, 3) := by decide +kernel
theorem dX8_fight_54 : decode cX8_fight 54 = .ok (.ifnonnull 14, 3) := by decide +kernel
theorem dX8_fight_57 : decode cX8_fight 57 = .ok (.aload_n 0, 1) := by decide +kernel
theorem dX8_fight_58 : decode cX8_fight 58 = .ok (.new 299, 3) := by decide +kernel
theorem dX8_fight_61 : decode cX8_fight 61 = .ok (.dup, 1) := by decide +kernel
theorem dX8_fight_62 : decode cX8_fight 62 = .ok (.invokespecial 301, 3) := by decide +kernel
theorem dX8_fight_65 : decode cX8_fight 65 = .ok (.putfield 73, 3) := by decide +kernel
theorem dX8_fight_68 : decode cX8_fight 68 = .ok (.aload_n 0, 1) := by decide +kernel
theorem dX8_fight_69 : decode cX8_fight 69 = .ok (.getfield 73, 3) := by decide +kernel
theorem dX8_fight_72 : decode cX8_fight 72 = .ok (.aload_n 0, 1) := by decide +kernel
theorem dX8_fight_73 : decode cX8_fight 73 = .ok (.getfield 28, 3) := by decide +kernel
theorem dX8_fight_76 : decode cX8_fight 76 = .ok (.iload_n 1, 1) := by decide +kernel
theorem dX8_fight_77 : decode cX8_fight 77 = .ok (.iload_n 2, 1) := by decide +kernel
theorem dX8_fight_78 : decode cX8_fight 78 = .ok (.invokevirtual 302, 3) := by decide +kernel
theorem dX8_fight_81 : decode cX8_fight 81 = .ok (.aload_n 0, 1) := by decide +kernel
theorem dX8_fight_82 : decode cX8_fight 82 = .ok (.getfield 73, 3) := by decide +kernel
theorem dX8_fight_85 : decode cX8_fight 85 = .ok (.iload_n 3, 1) := by decide +kernel
theorem dX8_fight_86 : decode cX8_fight 86 = .ok (.iload 4, 2) := by decide +kernel
theorem dX8_fight_88 : decode cX8_fight 88 = .ok (.invokevirtual 306, 3) := by decide +kernel
theorem dX8_fight_91 : decode cX8_fight 91 = .ok (.istore 6, 2) := by decide +kernel
theorem dX8_fight_93 : decode cX8_fight 93 = .ok (.aload_n 0, 1) := by decide +kernel
theorem dX8_fight_94 : decode cX8_fight 94 = .ok (.getfield 61, 3) := by decide +kernel
theorem dX8_fight_97 : decode cX8_fight 97 = .ok (.iconst 0, 1) := by decide +kernel
theorem dX8_fight_98 : decode cX8_fight 98 = .ok (.aload_n 0, 1) := by decide +kernel
theorem dX8_fight_99 : decode cX8_fight 99 = .ok (.getfield 73, 3) := by decide +kernel
theorem dX8_fight_102 : decode cX8_fight 102 = .ok (.invokevirtual 309, 3) := by decide +kernel
theorem dX8_fight_105 : decode cX8_fight 105 = .ok (.ifCond .eq 8, 3) := by decide +kernel
theorem dX8_fight_108 : decode cX8_fight 108 = .ok (.iload_n 1, 1) := by decide +kernel
theorem dX8_fight_109 : decode cX8_fight 109 = .ok (.i2l, 1) := by decide +kernel
theorem dX8_fight_110 : decode cX8_fight 110 = .ok (.goto 5, 3) := by decide +kernel
theorem dX8_fight_113 : decode cX8_fight 113 = .ok (.iload_n 2, 1) := by decide +kernel
theorem dX8_fight_114 : decode cX8_fight 114 = .ok (.i2l, 1) := by decide +kernel
theorem dX8_fight_115 : decode cX8_fight 115 = .ok (.lastore, 1) := by decide +kernel
theorem dX8_fight_116 : decode cX8_fight 116 = .ok (.aload_n 0, 1) := by decide +kernel
theorem dX8_fight_117 : decode cX8_fight 117 = .ok (.getfield 61, 3) := by decide +kernel
theorem dX8_fight_120 : decode cX8_fight 120 = .ok (.iconst 1, 1) := by decide +kernel
theorem dX8_fight_121 : decode cX8_fight 121 = .ok (.aload_n 0, 1) := by decide +kernel
theorem dX8_fight_122 : decode cX8_fight 122 = .ok (.getfield 73, 3) := by decide +kernel
theorem dX8_fight_125 : decode cX8_fight 125 = .ok (.iload_n 3, 1) := by decide +kernel
theorem dX8_fight_126 : decode cX8_fight 126 = .ok (.iload 4, 2) := by decide +kernel
theorem dX8_fight_128 : decode cX8_fight 128 = .ok (.invokevirtual 312, 3) := by decide +kernel
theorem dX8_fight_131 : decode cX8_fight 131 = .ok (.i2l, 1) := by decide +kernel
theorem dX8_fight_132 : decode cX8_fight 132 = .ok (.lastore, 1) := by decide +kernel
theorem dX8_fight_133 : decode cX8_fight 133 = .ok (.aload_n 0, 1) := by decide +kernel
theorem dX8_fight_134 : decode cX8_fight 134 = .ok (.getfield 61, 3) := by decide +kernel
theorem dX8_fight_137 : decode cX8_fight 137 = .ok (.iconst 2, 1) := by decide +kernel
theorem dX8_fight_138 : decode cX8_fight 138 = .ok (.aload_n 0, 1) := by decide +kernel
theorem dX8_fight_139 : decode cX8_fight 139 = .ok (.getfield 73, 3) := by decide +kernel
theorem dX8_fight_142 : decode cX8_fight 142 = .ok (.iconst 0, 1) := by decide +kernel
theorem dX8_fight_143 : decode cX8_fight 143 = .ok (.iconst 0, 1) := by decide +kernel
theorem dX8_fight_144 : decode cX8_fight 144 = .ok (.invokevirtual 315, 3) := by decide +kernel
theorem dX8_fight_147 : decode cX8_fight 147 = .ok (.i2l, 1) := by decide +kernel
theorem dX8_fight_148 : decode cX8_fight 148 = .ok (.lastore, 1) := by decide +kernel
theorem dX8_fight_149 : decode cX8_fight 149 = .ok (.aload_n 0, 1) := by decide +kernel
theorem dX8_fight_150 : decode cX8_fight 150 = .ok (.iload 5, 2) := by decide +kernel
theorem dX8_fight_152 : decode cX8_fight 152 = .ok (.putfield 65, 3) := by decide +kernel
theorem dX8_fight_155 : decode cX8_fight 155 = .ok (.iload 6, 2) := by decide +kernel
theorem dX8_fight_157 : decode cX8_fight 157 = .ok (.ireturn, 1) := by decide +kernel
theorem dX9_init_0 : decode cX9_init 0 = .ok (.aload_n 0, 1) := by decide +kernel
theorem dX9_init_1 : decode cX9_init 1 = .ok (.invokespecial 1, 3) := by decide +kernel
theorem dX9_init_4 : decode cX9_init 4 = .ok (.aload_n 0, 1) := by decide +kernel
theorem dX9_init_5 : decode cX9_init 5 = .ok (.bipush 64, 2) := by decide +kernel
theorem dX9_init_7 : decode cX9_init 7 = .ok (.newarray .long, 2) := by decide +kernel
theorem dX9_init_9 : decode cX9_init 9 = .ok (.putfield 7, 3) := by decide +kernel
theorem dX9_init_12 : decode cX9_init 12 = .ok (.aload_n 0, 1) := by decide +kernel
theorem dX9_init_13 : decode cX9_init 13 = .ok (.bipush 6, 2) := by decide +kernel
theorem dX9_init_15 : decode cX9_init 15 = .ok (.newarray .int, 2) := by decide +kernel
theorem dX9_init_17 : decode cX9_init 17 = .ok (.putfield 13, 3) := by decide +kernel
theorem dX9_init_20 : decode cX9_init 20 = .ok (.aload_n 0, 1) := by decide +kernel
theorem dX9_init_21 : decode cX9_init 21 = .ok (.bipush 6, 2) := by decide +kernel
theorem dX9_init_23 : decode cX9_init 23 = .ok (.newarray .int, 2) := by decide +kernel
theorem dX9_init_25 : decode cX9_init 25 = .ok (.putfield 17, 3) := by decide +kernel
theorem dX9_init_28 : decode cX9_init 28 = .ok (.aload_n 0, 1) := by decide +kernel
theorem dX9_init_29 : decode cX9_init 29 = .ok (.bipush 18, 2) := by decide +kernel
theorem dX9_init_31 : decode cX9_init 31 = .ok (.newarray .int, 2) := by decide +kernel
theorem dX9_init_33 : decode cX9_init 33 = .ok (.putfield 20, 3) := by decide +kernel
theorem dX9_init_36 : decode cX9_init 36 = .ok (.aload_n 0, 1) := by decide +kernel
theorem dX9_init_37 : decode cX9_init 37 = .ok (.bipush 108, 2) := by decide +kernel
theorem dX9_init_39 : decode cX9_init 39 = .ok (.newarray .int, 2) := by decide +kernel
theorem dX9_init_41 : decode cX9_init 41 = .ok (.putfield 23, 3) := by decide +kernel
theorem dX9_init_44 : decode cX9_init 44 = .ok (.aload_n 0, 1) := by decide +kernel
theorem dX9_init_45 : decode cX9_init 45 = .ok (.bipush 108, 2) := by decide +kernel
theorem dX9_init_47 : decode cX9_init 47 = .ok (.newarray .int, 2) := by decide +kernel
theorem dX9_init_49 : decode cX9_init 49 = .ok (.putfield 26, 3) := by decide +kernel
theorem dX9_init_52 : decode cX9_init 52 = .ok (.aload_n 0, 1) := by decide +kernel
theorem dX9_init_53 : decode cX9_init 53 = .ok (.bipush 54, 2) := by decide +kernel
theorem dX9_init_55 : decode cX9_init 55 = .ok (.newarray .int, 2) := by decide +kernel
theorem dX9_init_57 : decode cX9_init 57 = .ok (.putfield 29, 3) := by decide +kernel
theorem dX9_init_60 : decode cX9_init 60 = .ok (.aload_n 0, 1) := by decide +kernel
theorem dX9_init_61 : decode cX9_init 61 = .ok (.bipush 63, 2) := by decide +kernel
theorem dX9_init_63 : decode cX9_init 63 = .ok (.newarray .int, 2) := by decide +kernel
theorem dX9_init_65 : decode cX9_init 65 = .ok (.putfield 32, 3) := by decide +kernel
theorem dX9_init_68 : decode cX9_init 68 = .ok (.aload_n 0, 1) := by decide +kernel
theorem dX9_init_69 : decode cX9_init 69 = .ok (.bipush 63, 2) := by decide +kernel
theorem dX9_init_71 : decode cX9_init 71 = .ok (.newarray .int, 2) := by decide +kernel
theorem dX9_init_73 : decode cX9_init 73 = .ok (.putfield 35, 3) := by decide +kernel
theorem dX9_init_76 : decode cX9_init 76 = .ok (.aload_n 0, 1) := by decide +kernel
theorem dX9_init_77 : decode cX9_init 77 = .ok (.sipush 240, 3) := by decide +kernel
theorem dX9_init_80 : decode cX9_init 80 = .ok (.newarray .int, 2) := by decide +kernel
theorem dX9_init_82 : decode cX9_init 82 = .ok (.putfield 38, 3) := by decide +kernel
theorem dX9_init_85 : decode cX9_init 85 = .ok (.aload_n 0, 1) := by decide +kernel
theorem dX9_init_86 : decode cX9_init 86 = .ok (.sipush 240, 3) := by decide +kernel
theorem dX9_init_89 : decode cX9_init 89 = .ok (.newarray .int, 2) := by decide +kernel
theorem dX9_init_91 : decode cX9_init 91 = .ok (.putfield 41, 3) := by decide +kernel
theorem dX9_init_94 : decode cX9_init 94 = .ok (.aload_n 0, 1) := by decide +kernel
theorem dX9_init_95 : decode cX9_init 95 = .ok (.iconst 3, 1) := by decide +kernel
theorem dX9_init_96 : decode cX9_init 96 = .ok (.newarray .int, 2) := by decide +kernel
theorem dX9_init_98 : decode cX9_init 98 = .ok (.putfield 44, 3) := by decide +kernel
theorem dX9_init_101 : decode cX9_init 101 = .ok (.aload_n 0, 1) := by decide +kernel
theorem dX9_init_102 : decode cX9_init 102 = .ok (.bipush 18, 2) := by decide +kernel
theorem dX9_init_104 : decode cX9_init 104 = .ok (.newarray .int, 2) := by decide +kernel
theorem dX9_init_106 : decode cX9_init 106 = .ok (.putfield 47, 3) := by decide +kernel
theorem dX9_init_109 : decode cX9_init 109 = .ok (.aload_n 0, 1) := by decide +kernel
theorem dX9_init_110 : decode cX9_init 110 = .ok (.bipush 18, 2) := by decide +kernel
theorem dX9_init_112 : decode cX9_init 112 = .ok (.newarray .int, 2) := by decide +kernel
theorem dX9_init_114 : decode cX9_init 114 = .ok (.putfield 50, 3) := by decide +kernel
theorem dX9_init_117 : decode cX9_init 117 = .ok (.aload_n 0, 1) := by decide +kernel
theorem dX9_init_118 : decode cX9_init 118 = .ok (.bipush 9, 2) := by decide +kernel
theorem dX9_init_120 : decode cX9_init 120 = .ok (.newarray .int, 2) := by decide +kernel
theorem dX9_init_122 : decode cX9_init 122 = .ok (.putfield 53, 3) := by decide +kernel
theorem dX9_init_125 : decode cX9_init 125 = .ok (.aload_n 0, 1) := by decide +kernel
theorem dX9_init_126 : decode cX9_init 126 = .ok (.bipush 122, 2) := by decide +kernel
theorem dX9_init_128 : decode cX9_init 128 = .ok (.newarray .int, 2) := by decide +kernel
theorem dX9_init_130 : decode cX9_init 130 = .ok (.putfield 56, 3) := by decide +kernel
theorem dX9_init_133 : decode cX9_init 133 = .ok (.aload_n 0, 1) := by decide +kernel
theorem dX9_init_134 : decode cX9_init 134 = .ok (.bipush 122, 2) := by decide +kernel
theorem dX9_init_136 : decode cX9_init 136 = .ok (.newarray .int, 2) := by decide +kernel
theorem dX9_init_138 : decode cX9_init 138 = .ok (.putfield 59, 3) := by decide +kernel
theorem dX9_init_141 : decode cX9_init 141 = .ok (.aload_n 0, 1) := by decide +kernel
theorem dX9_init_142 : decode cX9_init 142 = .ok (.bipush 121, 2) := by decide +kernel
theorem dX9_init_144 : decode cX9_init 144 = .ok (.newarray .int, 2) := by decide +kernel
theorem dX9_init_146 : decode cX9_init 146 = .ok (.putfield 62, 3) := by decide +kernel
theorem dX9_init_149 : decode cX9_init 149 = .ok (.aload_n 0, 1) := by decide +kernel
theorem dX9_init_150 : decode cX9_init 150 = .ok (.sipush 484, 3) := by decide +kernel
theorem dX9_init_153 : decode cX9_init 153 = .ok (.newarray .int, 2) := by decide +kernel
theorem dX9_init_155 : decode cX9_init 155 = .ok (.putfield 65, 3) := by decide +kernel
theorem dX9_init_158 : decode cX9_init 158 = .ok (.aload_n 0, 1) := by decide +kernel
theorem dX9_init_159 : decode cX9_init 159 = .ok (.sipush 28224, 3) := by decide +kernel
theorem dX9_init_162 : decode cX9_init 162 = .ok (.newarray .int, 2) := by decide +kernel
theorem dX9_init_164 : decode cX9_init 164 = .ok (.putfield 68, 3) := by decide +kernel
theorem dX9_init_167 : decode cX9_init 167 = .ok (.aload_n 0, 1) := by decide +kernel
theorem dX9_init_168 : decode cX9_init 168 = .ok (.sipush 15129, 3) := by decide +kernel
theorem dX9_init_171 : decode cX9_init 171 = .ok (.newarray .int, 2) := by decide +kernel
theorem dX9_init_173 : decode cX9_init 173 = .ok (.putfield 71, 3) := by decide +kernel
theorem dX9_init_176 : decode cX9_init 176 = .ok (.aload_n 0, 1) := by decide +kernel
theorem dX9_init_177 : decode cX9_init 177 = .ok (.sipush 15129, 3) := by decide +kernel
theorem dX9_init_180 : decode cX9_init 180 = .ok (.newarray .int, 2) := by decide +kernel
theorem dX9_init_182 : decode cX9_init 182 = .ok (.putfield 74, 3) := by decide +kernel
theorem dX9_init_185 : decode cX9_init 185 = .ok (.return_, 1) := by decide +kernel
theorem dX9_thrown_0 : decode cX9_thrown 0 = .ok (.aload_n 0, 1) := by decide +kernel
theorem dX9_thrown_1 : decode cX9_thrown 1 = .ok (.getfield 77, 3) := by decide +kernel
theorem dX9_thrown_4 : decode cX9_thrown 4 = .ok (.ireturn, 1) := by decide +kernel
theorem dX9_in_0 : decode cX9_in 0 = .ok (.lload_n 0, 1) := by decide +kernel
theorem dX9_in_1 : decode cX9_in 1 = .ok (.lload_n 2, 1) := by decide +kernel
theorem dX9_in_2 : decode cX9_in 2 = .ok (.lcmp, 1) := by decide +kernel
theorem dX9_in_3 : decode cX9_in 3 = .ok (.ifCond .lt 14, 3) := by decide +kernel
theorem dX9_in_6 : decode cX9_in 6 = .ok (.lload_n 0, 1) := by decide +kernel
theorem dX9_in_7 : decode cX9_in 7 = .ok (.lload 4, 2) := by decide +kernel
theorem dX9_in_9 : decode cX9_in 9 = .ok (.lcmp, 1) := by decide +kernel
theorem dX9_in_10 : decode cX9_in 10 = .ok (.ifCond .gt 7, 3) := by decide +kernel
theorem dX9_in_13 : decode cX9_in 13 = .ok (.iconst 1, 1) := by decide +kernel
theorem dX9_in_14 : decode cX9_in 14 = .ok (.goto 4, 3) := by decide +kernel
theorem dX9_in_17 : decode cX9_in 17 = .ok (.iconst 0, 1) := by decide +kernel
theorem dX9_in_18 : decode cX9_in 18 = .ok (.ireturn, 1) := by decide +kernel
theorem dX9_flag_0 : decode cX9_flag 0 = .ok (.iload_n 0, 1) := by decide +kernel
theorem dX9_flag_1 : decode cX9_flag 1 = .ok (.ifCond .eq 7, 3) := by decide +kernel
theorem dX9_flag_4 : decode cX9_flag 4 = .ok (.iconst 1, 1) := by decide +kernel
theorem dX9_flag_5 : decode cX9_flag 5 = .ok (.goto 4, 3) := by decide +kernel
theorem dX9_flag_8 : decode cX9_flag 8 = .ok (.iconst 0, 1) := by decide +kernel
theorem dX9_flag_9 : decode cX9_flag 9 = .ok (.ireturn, 1) := by decide +kernel
theorem dX9_notes_0 : decode cX9_notes 0 = .ok (.aload_n 0, 1) := by decide +kernel
theorem dX9_notes_1 : decode cX9_notes 1 = .ok (.getfield 7, 3) := by decide +kernel
theorem dX9_notes_4 : decode cX9_notes 4 = .ok (.aload_n 0, 1) := by decide +kernel
theorem dX9_notes_5 : decode cX9_notes 5 = .ok (.getfield 81, 3) := by decide +kernel
theorem dX9_notes_8 : decode cX9_notes 8 = .ok (.lload_n 1, 1) := by decide +kernel
theorem dX9_notes_9 : decode cX9_notes 9 = .ok (.lastore, 1) := by decide +kernel
theorem dX9_notes_10 : decode cX9_notes 10 = .ok (.aload_n 0, 1) := by decide +kernel
theorem dX9_notes_11 : decode cX9_notes 11 = .ok (.dup, 1) := by decide +kernel
theorem dX9_notes_12 : decode cX9_notes 12 = .ok (.getfield 81, 3) := by decide +kernel
theorem dX9_notes_15 : decode cX9_notes 15 = .ok (.iconst 1, 1) := by decide +kernel
theorem dX9_notes_16 : decode cX9_notes 16 = .ok (.iadd, 1) := by decide +kernel
theorem dX9_notes_17 : decode cX9_notes 17 = .ok (.putfield 81, 3) := by decide +kernel
theorem dX9_notes_20 : decode cX9_notes 20 = .ok (.return_, 1) := by decide +kernel
set_option maxRecDepth 20000 in
theorem ggX9_isLifter_X9_in : GoodIn wsX9_isLifter wsX9_in := goodIn_r _ [5] (by decide +kernel) (by decide +kernel)
set_option maxRecDepth 20000 in
theorem gX9_isLifter_X9_in : GoodIn wsX9_isLifter (va_wsS RX9 87 yX9_in wsX9_in) := goodIn_app (goodIn_of _ (by decide +kernel)) ggX9_isLifter_X9_in
theorem dX9_isLifter_0 : decode cX9_isLifter 0 = .ok (.iload_n 1, 1) := by decide +kernel
theorem dX9_isLifter_1 : decode cX9_isLifter 1 = .ok (.i2l, 1) := by decide +kernel
theorem dX9_isLifter_2 : decode cX9_isLifter 2 = .ok (.lconst 0, 1) := by decide +kernel
theorem dX9_isLifter_3 : decode cX9_isLifter 3 = .ok (.aload_n 0, 1) := by decide +kernel
theorem dX9_isLifter_4 : decode cX9_isLifter 4 = .ok (.getfield 84, 3) := by decide +kernel
theorem dX9_isLifter_7 : decode cX9_isLifter 7 = .ok (.iconst 1, 1) := by decide +kernel
theorem dX9_isLifter_8 : decode cX9_isLifter 8 = .ok (.isub, 1) := by decide +kernel
theorem dX9_isLifter_9 : decode cX9_isLifter 9 = .ok (.i2l, 1) := by decide +kernel
theorem dX9_isLifter_10 : decode cX9_isLifter 10 = .ok (.invokestatic 87, 3) := by decide +kernel
theorem dX9_isLifter_13 : decode cX9_isLifter 13 = .ok (.ireturn, 1) := by decide +kernel
set_option maxRecDepth 20000 in
theorem ggX9_isLift_X9_in : GoodIn wsX9_isLift wsX9_in := goodIn_r _ [5] (by decide +kernel) (by decide +kernel)
set_option maxRecDepth 20000 in
theorem gX9_isLift_X9_in : GoodIn wsX9_isLift (va_wsS RX9 87 yX9_in wsX9_in) := goodIn_app (goodIn_of _ (by decide +kernel)) ggX9_isLift_X9_in
theorem dX9_isLift_0 : decode cX9_isLift 0 = .ok (.iload_n 0, 1) := by decide +kernel
theorem dX9_isLift_1 : decode cX9_isLift 1 = .ok (.i2l, 1) := by decide +kernel
theorem dX9_isLift_2 : decode cX9_isLift 2 = .ok (.lconst 0, 1) := by decide +kernel
theorem dX9_isLift_3 : decode cX9_isLift 3 = .ok (.ldc2_w 91, 3) := by decide +kernel
theorem dX9_isLift_6 : decode cX9_isLift 6 = .ok (.invokestatic 87, 3) := by decide +kernel
theorem dX9_isLift_9 : decode cX9_isLift 9 = .ok (.ireturn, 1) := by decide +kernel
theorem dX9_planOf_0 : decode cX9_planOf 0 = .ok (.aload_n 0, 1) := by decide +kernel
theorem dX9_planOf_1 : decode cX9_planOf 1 = .ok (.getfield 29, 3) := by decide +kernel
theorem dX9_planOf_4 : decode cX9_planOf 4 = .ok (.iconst 3, 1) := by decide +kernel
theorem dX9_planOf_5 : decode cX9_planOf 5 = .ok (.iconst 3, 1) := by decide +kernel
theorem dX9_planOf_6 : decode cX9_planOf 6 = .ok (.iload_n 1, 1) := by decide +kernel
theorem dX9_planOf_7 : decode cX9_planOf 7 = .ok (.imul, 1) := by decide +kernel
theorem dX9_planOf_8 : decode cX9_planOf 8 = .ok (.iload_n 2, 1) := by decide +kernel
theorem dX9_planOf_9 : decode cX9_planOf 9 = .ok (.iadd, 1) := by decide +kernel
theorem dX9_planOf_10 : decode cX9_planOf 10 = .ok (.imul, 1) := by decide +kernel
theorem dX9_planOf_11 : decode cX9_planOf 11 = .ok (.iload_n 3, 1) := by decide +kernel
theorem dX9_planOf_12 : decode cX9_planOf 12 = .ok (.iadd, 1) := by decide +kernel
theorem dX9_planOf_13 : decode cX9_planOf 13 = .ok (.iaload, 1) := by decide +kernel
theorem dX9_planOf_14 : decode cX9_planOf 14 = .ok (.ireturn, 1) := by decide +kernel
theorem dX9_tableOdds_0 : decode cX9_tableOdds 0 = .ok (.bipush 6, 2) := by decide +kernel
theorem dX9_tableOdds_2 : decode cX9_tableOdds 2 = .ok (.iconst 3, 1) := by decide +kernel
theorem dX9_tableOdds_3 : decode cX9_tableOdds 3 = .ok (.iload_n 1, 1) := by decide +kernel
theorem dX9_tableOdds_4 : decode cX9_tableOdds 4 = .ok (.imul, 1) := by decide +kernel
theorem dX9_tableOdds_5 : decode cX9_tableOdds 5 = .ok (.iload_n 2, 1) := by decide +kernel
theorem dX9_tableOdds_6 : decode cX9_tableOdds 6 = .ok (.iadd, 1) := by decide +kernel
theorem dX9_tableOdds_7 : decode cX9_tableOdds 7 = .ok (.imul, 1) := by decide +kernel
theorem dX9_tableOdds_8 : decode cX9_tableOdds 8 = .ok (.istore 4, 2) := by decide +kernel
theorem dX9_tableOdds_10 : decode cX9_tableOdds 10 = .ok (.aload_n 0, 1) := by decide +kernel
theorem dX9_tableOdds_11 : decode cX9_tableOdds 11 = .ok (.getfield 20, 3) := by decide +kernel
theorem dX9_tableOdds_14 : decode cX9_tableOdds 14 = .ok (.iconst 3, 1) := by decide +kernel
theorem dX9_tableOdds_15 : decode cX9_tableOdds 15 = .ok (.iload_n 1, 1) := by decide +kernel
theorem dX9_tableOdds_16 : decode cX9_tableOdds 16 = .ok (.imul, 1) := by decide +kernel
theorem dX9_tableOdds_17 : decode cX9_tableOdds 17 = .ok (.iload_n 2, 1) := by decide +kernel
theorem dX9_tableOdds_18 : decode cX9_tableOdds 18 = .ok (.iadd, 1) := by decide +kernel
theorem dX9_tableOdds_19 : decode cX9_tableOdds 19 = .ok (.iaload, 1) := by decide +kernel
theorem dX9_tableOdds_20 : decode cX9_tableOdds 20 = .ok (.istore 5, 2) := by decide +kernel
theorem dX9_tableOdds_22 : decode cX9_tableOdds 22 = .ok (.iload_n 3, 1) := by decide +kernel
theorem dX9_tableOdds_23 : decode cX9_tableOdds 23 = .ok (.aload_n 0, 1) := by decide +kernel
theorem dX9_tableOdds_24 : decode cX9_tableOdds 24 = .ok (.getfield 23, 3) := by decide +kernel
theorem dX9_tableOdds_27 : decode cX9_tableOdds 27 = .ok (.iload 4, 2) := by decide +kernel
theorem dX9_tableOdds_29 : decode cX9_tableOdds 29 = .ok (.iaload, 1) := by decide +kernel
theorem dX9_tableOdds_30 : decode cX9_tableOdds 30 = .ok (.if_icmp .gt 11, 3) := by decide +kernel
theorem dX9_tableOdds_33 : decode cX9_tableOdds 33 = .ok (.aload_n 0, 1) := by decide +kernel
theorem dX9_tableOdds_34 : decode cX9_tableOdds 34 = .ok (.getfield 26, 3) := by decide +kernel
theorem dX9_tableOdds_37 : decode cX9_tableOdds 37 = .ok (.iload 4, 2) := by decide +kernel
theorem dX9_tableOdds_39 : decode cX9_tableOdds 39 = .ok (.iaload, 1) := by decide +kernel
theorem dX9_tableOdds_40 : decode cX9_tableOdds 40 = .ok (.ireturn, 1) := by decide +kernel
theorem dX9_tableOdds_41 : decode cX9_tableOdds 41 = .ok (.iconst 1, 1) := by decide +kernel
theorem dX9_tableOdds_42 : decode cX9_tableOdds 42 = .ok (.istore 6, 2) := by decide +kernel
theorem dX9_tableOdds_44 : decode cX9_tableOdds 44 = .ok (.iload 6, 2) := by decide +kernel
theorem dX9_tableOdds_46 : decode cX9_tableOdds 46 = .ok (.iload 5, 2) := by decide +kernel
theorem dX9_tableOdds_48 : decode cX9_tableOdds 48 = .ok (.if_icmp .ge 86, 3) := by decide +kernel
theorem dX9_tableOdds_51 : decode cX9_tableOdds 51 = .ok (.iload 4, 2) := by decide +kernel
theorem dX9_tableOdds_53 : decode cX9_tableOdds 53 = .ok (.iload 6, 2) := by decide +kernel
theorem dX9_tableOdds_55 : decode cX9_tableOdds 55 = .ok (.iadd, 1) := by decide +kernel
theorem dX9_tableOdds_56 : decode cX9_tableOdds 56 = .ok (.iconst 1, 1) := by decide +kernel
theorem dX9_tableOdds_57 : decode cX9_tableOdds 57 = .ok (.isub, 1) := by decide +kernel
theorem dX9_tableOdds_58 : decode cX9_tableOdds 58 = .ok (.istore 7, 2) := by decide +kernel
theorem dX9_tableOdds_60 : decode cX9_tableOdds 60 = .ok (.iload 4, 2) := by decide +kernel
theorem dX9_tableOdds_62 : decode cX9_tableOdds 62 = .ok (.iload 6, 2) := by decide +kernel
theorem dX9_tableOdds_64 : decode cX9_tableOdds 64 = .ok (.iadd, 1) := by decide +kernel
theorem dX9_tableOdds_65 : decode cX9_tableOdds 65 = .ok (.istore 8, 2) := by decide +kernel
theorem dX9_tableOdds_67 : decode cX9_tableOdds 67 = .ok (.iload_n 3, 1) := by decide +kernel
theorem dX9_tableOdds_68 : decode cX9_tableOdds 68 = .ok (.aload_n 0, 1) := by decide +kernel
theorem dX9_tableOdds_69 : decode cX9_tableOdds 69 = .ok (.getfield 23, 3) := by decide +kernel
theorem dX9_tableOdds_72 : decode cX9_tableOdds 72 = .ok (.iload 8, 2) := by decide +kernel
theorem dX9_tableOdds_74 : decode cX9_tableOdds 74 = .ok (.iaload, 1) := by decide +kernel
theorem dX9_tableOdds_75 : decode cX9_tableOdds 75 = .ok (.if_icmp .gt 53, 3) := by decide +kernel
theorem dX9_tableOdds_78 : decode cX9_tableOdds 78 = .ok (.aload_n 0, 1) := by decide +kernel
theorem dX9_tableOdds_79 : decode cX9_tableOdds 79 = .ok (.getfield 26, 3) := by decide +kernel
theorem dX9_tableOdds_82 : decode cX9_tableOdds 82 = .ok (.iload 7, 2) := by decide +kernel
theorem dX9_tableOdds_84 : decode cX9_tableOdds 84 = .ok (.iaload, 1) := by decide +kernel
theorem dX9_tableOdds_85 : decode cX9_tableOdds 85 = .ok (.aload_n 0, 1) := by decide +kernel
theorem dX9_tableOdds_86 : decode cX9_tableOdds 86 = .ok (.getfield 26, 3) := by decide +kernel
theorem dX9_tableOdds_89 : decode cX9_tableOdds 89 = .ok (.iload 7, 2) := by decide +kernel
theorem dX9_tableOdds_91 : decode cX9_tableOdds 91 = .ok (.iaload, 1) := by decide +kernel
theorem dX9_tableOdds_92 : decode cX9_tableOdds 92 = .ok (.aload_n 0, 1) := by decide +kernel
theorem dX9_tableOdds_93 : decode cX9_tableOdds 93 = .ok (.getfield 26, 3) := by decide +kernel
theorem dX9_tableOdds_96 : decode cX9_tableOdds 96 = .ok (.iload 8, 2) := by decide +kernel
theorem dX9_tableOdds_98 : decode cX9_tableOdds 98 = .ok (.iaload, 1) := by decide +kernel
theorem dX9_tableOdds_99 : decode cX9_tableOdds 99 = .ok (.isub, 1) := by decide +kernel
theorem dX9_tableOdds_100 : decode cX9_tableOdds 100 = .ok (.iload_n 3, 1) := by decide +kernel
theorem dX9_tableOdds_101 : decode cX9_tableOdds 101 = .ok (.aload_n 0, 1) := by decide +kernel
theorem dX9_tableOdds_102 : decode cX9_tableOdds 102 = .ok (.getfield 23, 3) := by decide +kernel
theorem dX9_tableOdds_105 : decode cX9_tableOdds 105 = .ok (.iload 7, 2) := by decide +kernel
theorem dX9_tableOdds_107 : decode cX9_tableOdds 107 = .ok (.iaload, 1) := by decide +kernel
theorem dX9_tableOdds_108 : decode cX9_tableOdds 108 = .ok (.isub, 1) := by decide +kernel
theorem dX9_tableOdds_109 : decode cX9_tableOdds 109 = .ok (.imul, 1) := by decide +kernel
theorem dX9_tableOdds_110 : decode cX9_tableOdds 110 = .ok (.aload_n 0, 1) := by decide +kernel
theorem dX9_tableOdds_111 : decode cX9_tableOdds 111 = .ok (.getfield 23, 3) := by decide +kernel
theorem dX9_tableOdds_114 : decode cX9_tableOdds 114 = .ok (.iload 8, 2) := by decide +kernel
theorem dX9_tableOdds_116 : decode cX9_tableOdds 116 = .ok (.iaload, 1) := by decide +kernel
theorem dX9_tableOdds_117 : decode cX9_tableOdds 117 = .ok (.aload_n 0, 1) := by decide +kernel
theorem dX9_tableOdds_118 : decode cX9_tableOdds 118 = .ok (.getfield 23, 3) := by decide +kernel
theorem dX9_tableOdds_121 : decode cX9_tableOdds 121 = .ok (.iload 7, 2) := by decide +kernel
theorem dX9_tableOdds_123 : decode cX9_tableOdds 123 = .ok (.iaload, 1) := by decide +kernel
theorem dX9_tableOdds_124 : decode cX9_tableOdds 124 = .ok (.isub, 1) := by decide +kernel
theorem dX9_tableOdds_125 : decode cX9_tableOdds 125 = .ok (.idiv, 1) := by decide +kernel
theorem dX9_tableOdds_126 : decode cX9_tableOdds 126 = .ok (.isub, 1) := by decide +kernel
theorem dX9_tableOdds_127 : decode cX9_tableOdds 127 = .ok (.ireturn, 1) := by decide +kernel
theorem dX9_tableOdds_128 : decode cX9_tableOdds 128 = .ok (.iinc 6 1, 3) := by decide +kernel
theorem dX9_tableOdds_131 : decode cX9_tableOdds 131 = .ok (.goto (-87), 3) := by decide +kernel
theorem dX9_tableOdds_134 : decode cX9_tableOdds 134 = .ok (.iconst 0, 1) := by decide +kernel
theorem dX9_tableOdds_135 : decode cX9_tableOdds 135 = .ok (.ireturn, 1) := by decide +kernel
set_option maxRecDepth 20000 in
theorem ggX9_oddsOf_X9_tableOdds : GoodIn wsX9_oddsOf wsX9_tableOdds := goodIn_r _ [10, 11, 12, 13, 14, 15, 16, 17, 18, 19, 20, 21, 22, 23, 24, 25, 26, 27, 28, 29, 30, 31, 32, 33, 34, 35, 36, 37, 38, 39, 40, 41, 42, 43, 44, 45, 46, 47, 48, 49, 50, 51, 52, 53] (by decide +kernel) (by decide +kernel)
set_option maxRecDepth 20000 in
theorem gX9_oddsOf_X9_tableOdds : GoodIn wsX9_oddsOf (wsV RX9 93 RX9 yX9_tableOdds wsX9_tableOdds) := goodIn_app (goodIn_of _ (by decide +kernel)) ggX9_oddsOf_X9_tableOdds
theorem dX9_oddsOf_0 : decode cX9_oddsOf 0 = .ok (.iconst 0, 1) := by decide +kernel
theorem dX9_oddsOf_1 : decode cX9_oddsOf 1 = .ok (.aload_n 0, 1) := by decide +kernel
theorem dX9_oddsOf_2 : decode cX9_oddsOf 2 = .ok (.iload_n 1, 1) := by decide +kernel
theorem dX9_oddsOf_3 : decode cX9_oddsOf 3 = .ok (.iload_n 2, 1) := by decide +kernel
theorem dX9_oddsOf_4 : decode cX9_oddsOf 4 = .ok (.iload_n 3, 1) := by decide +kernel
theorem dX9_oddsOf_5 : decode cX9_oddsOf 5 = .ok (.invokevirtual 93, 3) := by decide +kernel
theorem dX9_oddsOf_8 : decode cX9_oddsOf 8 = .ok (.aload_n 0, 1) := by decide +kernel
theorem dX9_oddsOf_9 : decode cX9_oddsOf 9 = .ok (.getfield 97, 3) := by decide +kernel
theorem dX9_oddsOf_12 : decode cX9_oddsOf 12 = .ok (.iload 4, 2) := by decide +kernel
theorem dX9_oddsOf_14 : decode cX9_oddsOf 14 = .ok (.imul, 1) := by decide +kernel
theorem dX9_oddsOf_15 : decode cX9_oddsOf 15 = .ok (.isub, 1) := by decide +kernel
theorem dX9_oddsOf_16 : decode cX9_oddsOf 16 = .ok (.invokestatic 100, 3) := by decide +kernel
theorem dX9_oddsOf_19 : decode cX9_oddsOf 19 = .ok (.ireturn, 1) := by decide +kernel
theorem dX9_of_0 : decode cX9_of 0 = .ok (.aload_n 0, 1) := by decide +kernel
theorem dX9_of_1 : decode cX9_of 1 = .ok (.getfield 32, 3) := by decide +kernel
theorem dX9_of_4 : decode cX9_of 4 = .ok (.iconst 3, 1) := by decide +kernel
theorem dX9_of_5 : decode cX9_of 5 = .ok (.bipush 10, 2) := by decide +kernel
theorem dX9_of_7 : decode cX9_of 7 = .ok (.iload_n 1, 1) := by decide +kernel
theorem dX9_of_8 : decode cX9_of 8 = .ok (.imul, 1) := by decide +kernel
theorem dX9_of_9 : decode cX9_of 9 = .ok (.iadd, 1) := by decide +kernel
theorem dX9_of_10 : decode cX9_of 10 = .ok (.iload_n 2, 1) := by decide +kernel
theorem dX9_of_11 : decode cX9_of 11 = .ok (.iadd, 1) := by decide +kernel
theorem dX9_of_12 : decode cX9_of 12 = .ok (.iaload, 1) := by decide +kernel
theorem dX9_of_13 : decode cX9_of 13 = .ok (.ireturn, 1) := by decide +kernel
theorem dX9_sets_0 : decode cX9_sets 0 = .ok (.aload_n 0, 1) := by decide +kernel
theorem dX9_sets_1 : decode cX9_sets 1 = .ok (.getfield 32, 3) := by decide +kernel
theorem dX9_sets_4 : decode cX9_sets 4 = .ok (.iconst 3, 1) := by decide +kernel
theorem dX9_sets_5 : decode cX9_sets 5 = .ok (.bipush 10, 2) := by decide +kernel
theorem dX9_sets_7 : decode cX9_sets 7 = .ok (.iload_n 1, 1) := by decide +kernel
theorem dX9_sets_8 : decode cX9_sets 8 = .ok (.imul, 1) := by decide +kernel
theorem dX9_sets_9 : decode cX9_sets 9 = .ok (.iadd, 1) := by decide +kernel
theorem dX9_sets_10 : decode cX9_sets 10 = .ok (.iload_n 2, 1) := by decide +kernel
theorem dX9_sets_11 : decode cX9_sets 11 = .ok (.iadd, 1) := by decide +kernel
theorem dX9_sets_12 : decode cX9_sets 12 = .ok (.iload_n 3, 1) := by decide +kernel
theorem dX9_sets_13 : decode cX9_sets 13 = .ok (.iastore, 1) := by decide +kernel
theorem dX9_sets_14 : decode cX9_sets 14 = .ok (.return_, 1) := by decide +kernel
theorem dX9_isOver_0 : decode cX9_isOver 0 = .ok (.aload_n 0, 1) := by decide +kernel
theorem dX9_isOver_1 : decode cX9_isOver 1 = .ok (.getfield 32, 3) := by decide +kernel
theorem dX9_isOver_4 : decode cX9_isOver 4 = .ok (.iconst 0, 1) := by decide +kernel
theorem dX9_isOver_5 : decode cX9_isOver 5 = .ok (.iaload, 1) := by decide +kernel
theorem dX9_isOver_6 : decode cX9_isOver 6 = .ok (.iconst 3, 1) := by decide +kernel
theorem dX9_isOver_7 : decode cX9_isOver 7 = .ok (.if_icmp .ne 7, 3) := by decide +kernel
theorem dX9_isOver_10 : decode cX9_isOver 10 = .ok (.iconst 1, 1) := by decide +kernel
theorem dX9_isOver_11 : decode cX9_isOver 11 = .ok (.goto 4, 3) := by decide +kernel
theorem dX9_isOver_14 : decode cX9_isOver 14 = .ok (.iconst 0, 1) := by decide +kernel
theorem dX9_isOver_15 : decode cX9_isOver 15 = .ok (.ireturn, 1) := by decide +kernel
set_option maxRecDepth 20000 in
theorem ggX9_isOut_X9_of : GoodIn wsX9_isOut wsX9_of := goodIn_r _ [5, 6, 7, 8, 9, 10, 11, 12, 13, 14, 15, 16, 17, 18, 19, 20, 21, 22, 23, 24, 25, 26, 27, 28, 29, 30, 31, 32, 33, 34, 35, 36, 37, 38, 39, 40, 41, 42, 43, 44, 45, 46] (by decide +kernel) (by decide +kernel)
set_option maxRecDepth 20000 in
theorem gX9_isOut_X9_of : GoodIn wsX9_isOut (wsV RX9 106 RX9 yX9_of wsX9_of) := goodIn_app (goodIn_of _ (by decide +kernel)) ggX9_isOut_X9_of
theorem dX9_isOut_0 : decode cX9_isOut 0 = .ok (.aload_n 0, 1) := by decide +kernel
theorem dX9_isOut_1 : decode cX9_isOut 1 = .ok (.iload_n 1, 1) := by decide +kernel
theorem dX9_isOut_2 : decode cX9_isOut 2 = .ok (.bipush 6, 2) := by decide +kernel
theorem dX9_isOut_4 : decode cX9_isOut 4 = .ok (.invokevirtual 106, 3) := by decide +kernel
theorem dX9_isOut_7 : decode cX9_isOut 7 = .ok (.iconst 1, 1) := by decide +kernel
theorem dX9_isOut_8 : decode cX9_isOut 8 = .ok (.if_icmp .ne 7, 3) := by decide +kernel
theorem dX9_isOut_11 : decode cX9_isOut 11 = .ok (.iconst 1, 1) := by decide +kernel
theorem dX9_isOut_12 : decode cX9_isOut 12 = .ok (.goto 4, 3) := by decide +kernel
theorem dX9_isOut_15 : decode cX9_isOut 15 = .ok (.iconst 0, 1) := by decide +kernel
theorem dX9_isOut_16 : decode cX9_isOut 16 = .ok (.ireturn, 1) := by decide +kernel
theorem dX9_changesAtFirst_0 : decode cX9_changesAtFirst 0 = .ok (.aload_n 0, 1) := by decide +kernel
theorem dX9_changesAtFirst_1 : decode cX9_changesAtFirst 1 = .ok (.getfield 32, 3) := by decide +kernel
theorem dX9_changesAtFirst_4 : decode cX9_changesAtFirst 4 = .ok (.iconst 1, 1) := by decide +kernel
theorem dX9_changesAtFirst_5 : decode cX9_changesAtFirst 5 = .ok (.iaload, 1) := by decide +kernel
theorem dX9_changesAtFirst_6 : decode cX9_changesAtFirst 6 = .ok (.ifCond .ne 7, 3) := by decide +kernel
theorem dX9_changesAtFirst_9 : decode cX9_changesAtFirst 9 = .ok (.iconst 1, 1) := by decide +kernel
theorem dX9_changesAtFirst_10 : decode cX9_changesAtFirst 10 = .ok (.goto 28, 3) := by decide +kernel
theorem dX9_changesAtFirst_13 : decode cX9_changesAtFirst 13 = .ok (.aload_n 0, 1) := by decide +kernel
theorem dX9_changesAtFirst_14 : decode cX9_changesAtFirst 14 = .ok (.getfield 32, 3) := by decide +kernel
theorem dX9_changesAtFirst_17 : decode cX9_changesAtFirst 17 = .ok (.iconst 1, 1) := by decide +kernel
