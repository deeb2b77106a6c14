set_option maxRecDepth 20000 in
theorem gX8_aimAheadOfAll_X3_leadsLike : GoodIn wsX8_aimAheadOfAll (wsV RX8 289 RX3 yX3_leadsLike wsX3_leadsLike) := goodIn_app (goodIn_of _ (by decide +kernel)) ggX8_aimAheadOfAll_X3_leadsLike
set_option maxRecDepth 20000 in
theorem ggX8_aimAheadOfAll_X0_timesBeat : GoodIn wsX8_aimAheadOfAll wsX0_timesBeat := goodIn_r _ [28, 11, 12, 29, 58, 59] (by decide +kernel) (by decide +kernel)
set_option maxRecDepth 20000 in
theorem gX8_aimAheadOfAll_X0_timesBeat : GoodIn wsX8_aimAheadOfAll (wsV RX8 293 RX0 yX0_timesBeat wsX0_timesBeat) := goodIn_app (goodIn_of _ (by decide +kernel)) ggX8_aimAheadOfAll_X0_timesBeat
theorem dX8_aimAheadOfAll_0 : decode cX8_aimAheadOfAll 0 = .ok (.aload_n 0, 1) := by decide +kernel
theorem dX8_aimAheadOfAll_1 : decode cX8_aimAheadOfAll 1 = .ok (.getfield 45, 3) := by decide +kernel
theorem dX8_aimAheadOfAll_4 : decode cX8_aimAheadOfAll 4 = .ok (.invokevirtual 286, 3) := by decide +kernel
theorem dX8_aimAheadOfAll_7 : decode cX8_aimAheadOfAll 7 = .ok (.iconst 0, 1) := by decide +kernel
theorem dX8_aimAheadOfAll_8 : decode cX8_aimAheadOfAll 8 = .ok (.istore_n 2, 1) := by decide +kernel
theorem dX8_aimAheadOfAll_9 : decode cX8_aimAheadOfAll 9 = .ok (.iload_n 2, 1) := by decide +kernel
theorem dX8_aimAheadOfAll_10 : decode cX8_aimAheadOfAll 10 = .ok (.aload_n 0, 1) := by decide +kernel
theorem dX8_aimAheadOfAll_11 : decode cX8_aimAheadOfAll 11 = .ok (.getfield 28, 3) := by decide +kernel
theorem dX8_aimAheadOfAll_14 : decode cX8_aimAheadOfAll 14 = .ok (.getfield 87, 3) := by decide +kernel
theorem dX8_aimAheadOfAll_17 : decode cX8_aimAheadOfAll 17 = .ok (.if_icmp .ge 42, 3) := by decide +kernel
theorem dX8_aimAheadOfAll_20 : decode cX8_aimAheadOfAll 20 = .ok (.iload_n 2, 1) := by decide +kernel
theorem dX8_aimAheadOfAll_21 : decode cX8_aimAheadOfAll 21 = .ok (.iload_n 1, 1) := by decide +kernel
theorem dX8_aimAheadOfAll_22 : decode cX8_aimAheadOfAll 22 = .ok (.if_icmp .eq 31, 3) := by decide +kernel
theorem dX8_aimAheadOfAll_25 : decode cX8_aimAheadOfAll 25 = .ok (.aload_n 0, 1) := by decide +kernel
theorem dX8_aimAheadOfAll_26 : decode cX8_aimAheadOfAll 26 = .ok (.getfield 45, 3) := by decide +kernel
theorem dX8_aimAheadOfAll_29 : decode cX8_aimAheadOfAll 29 = .ok (.aload_n 0, 1) := by decide +kernel
theorem dX8_aimAheadOfAll_30 : decode cX8_aimAheadOfAll 30 = .ok (.getfield 18, 3) := by decide +kernel
theorem dX8_aimAheadOfAll_33 : decode cX8_aimAheadOfAll 33 = .ok (.iload_n 1, 1) := by decide +kernel
theorem dX8_aimAheadOfAll_34 : decode cX8_aimAheadOfAll 34 = .ok (.aaload, 1) := by decide +kernel
theorem dX8_aimAheadOfAll_35 : decode cX8_aimAheadOfAll 35 = .ok (.aload_n 0, 1) := by decide +kernel
theorem dX8_aimAheadOfAll_36 : decode cX8_aimAheadOfAll 36 = .ok (.getfield 18, 3) := by decide +kernel
theorem dX8_aimAheadOfAll_39 : decode cX8_aimAheadOfAll 39 = .ok (.iload_n 2, 1) := by decide +kernel
theorem dX8_aimAheadOfAll_40 : decode cX8_aimAheadOfAll 40 = .ok (.aaload, 1) := by decide +kernel
theorem dX8_aimAheadOfAll_41 : decode cX8_aimAheadOfAll 41 = .ok (.invokevirtual 289, 3) := by decide +kernel
theorem dX8_aimAheadOfAll_44 : decode cX8_aimAheadOfAll 44 = .ok (.aload_n 0, 1) := by decide +kernel
theorem dX8_aimAheadOfAll_45 : decode cX8_aimAheadOfAll 45 = .ok (.getfield 58, 3) := by decide +kernel
theorem dX8_aimAheadOfAll_48 : decode cX8_aimAheadOfAll 48 = .ok (.iload_n 2, 1) := by decide +kernel
theorem dX8_aimAheadOfAll_49 : decode cX8_aimAheadOfAll 49 = .ok (.aaload, 1) := by decide +kernel
theorem dX8_aimAheadOfAll_50 : decode cX8_aimAheadOfAll 50 = .ok (.invokevirtual 293, 3) := by decide +kernel
theorem dX8_aimAheadOfAll_53 : decode cX8_aimAheadOfAll 53 = .ok (.iinc 2 1, 3) := by decide +kernel
theorem dX8_aimAheadOfAll_56 : decode cX8_aimAheadOfAll 56 = .ok (.goto (-47), 3) := by decide +kernel
theorem dX8_aimAheadOfAll_59 : decode cX8_aimAheadOfAll 59 = .ok (.return_, 1) := by decide +kernel
set_option maxRecDepth 20000 in
theorem ggX8_thinkFreely_X2_init : GoodIn wsX8_thinkFreely wsX2_init := goodIn_r _ [10, 11, 12, 13, 14, 15, 16, 17, 18, 19, 20, 21, 22, 23, 24, 25, 26, 27, 76, 77, 78, 79, 80, 81, 82, 83, 84, 85, 86, 87] (by decide +kernel) (by decide +kernel)
set_option maxRecDepth 20000 in
theorem gX8_thinkFreely_X2_init_n297 : GoodIn wsX8_thinkFreely (wsX2_init) := ggX8_thinkFreely_X2_init
set_option maxRecDepth 20000 in
theorem ggX8_thinkFreely_X0_beStep : GoodIn wsX8_thinkFreely wsX0_beStep := goodIn_r _ [32, 33, 34, 35, 31, 36, 37, 38, 39, 104, 105] (by decide +kernel) (by decide +kernel)
set_option maxRecDepth 20000 in
theorem gX8_thinkFreely_X0_beStep : GoodIn wsX8_thinkFreely (wsV RX8 283 RX0 yX0_beStep wsX0_beStep) := goodIn_app (goodIn_of _ (by decide +kernel)) ggX8_thinkFreely_X0_beStep
set_option maxRecDepth 20000 in
theorem ggX8_thinkFreely_X2_prepare : GoodIn wsX8_thinkFreely wsX2_prepare := goodIn_r _ [43, 44, 15, 19, 18, 20, 45, 46, 47, 48, 49, 50, 51, 52, 53, 54, 55, 56, 57, 58, 59, 60, 61, 62, 63, 104, 105, 76, 77, 78, 79, 80, 81, 82, 83, 84, 85, 86, 87, 106, 107, 108, 109] (by decide +kernel) (by decide +kernel)
set_option maxRecDepth 20000 in
theorem gX8_thinkFreely_X2_prepare : GoodIn wsX8_thinkFreely (wsV RX8 298 RX2 yX2_prepare wsX2_prepare) := goodIn_app (goodIn_of _ (by decide +kernel)) ggX8_thinkFreely_X2_prepare
theorem dX8_thinkFreely_0 : decode cX8_thinkFreely 0 = .ok (.aload_n 0, 1) := by decide +kernel
theorem dX8_thinkFreely_1 : decode cX8_thinkFreely 1 = .ok (.getfield 69, 3) := by decide +kernel
theorem dX8_thinkFreely_4 : decode cX8_thinkFreely 4 = .ok (.ifnonnull 14, 3) := by decide +kernel
theorem dX8_thinkFreely_7 : decode cX8_thinkFreely 7 = .ok (.aload_n 0, 1) := by decide +kernel
theorem dX8_thinkFreely_8 : decode cX8_thinkFreely 8 = .ok (.new 233, 3) := by decide +kernel
theorem dX8_thinkFreely_11 : decode cX8_thinkFreely 11 = .ok (.dup, 1) := by decide +kernel
theorem dX8_thinkFreely_12 : decode cX8_thinkFreely 12 = .ok (.invokespecial 297, 3) := by decide +kernel
theorem dX8_thinkFreely_15 : decode cX8_thinkFreely 15 = .ok (.putfield 69, 3) := by decide +kernel
theorem dX8_thinkFreely_18 : decode cX8_thinkFreely 18 = .ok (.iload_n 2, 1) := by decide +kernel
theorem dX8_thinkFreely_19 : decode cX8_thinkFreely 19 = .ok (.ifCond .eq 10, 3) := by decide +kernel
theorem dX8_thinkFreely_22 : decode cX8_thinkFreely 22 = .ok (.aload_n 0, 1) := by decide +kernel
theorem dX8_thinkFreely_23 : decode cX8_thinkFreely 23 = .ok (.getfield 45, 3) := by decide +kernel
theorem dX8_thinkFreely_26 : decode cX8_thinkFreely 26 = .ok (.invokevirtual 283, 3) := by decide +kernel
theorem dX8_thinkFreely_29 : decode cX8_thinkFreely 29 = .ok (.aload_n 0, 1) := by decide +kernel
theorem dX8_thinkFreely_30 : decode cX8_thinkFreely 30 = .ok (.getfield 69, 3) := by decide +kernel
theorem dX8_thinkFreely_33 : decode cX8_thinkFreely 33 = .ok (.aload_n 0, 1) := by decide +kernel
theorem dX8_thinkFreely_34 : decode cX8_thinkFreely 34 = .ok (.getfield 18, 3) := by decide +kernel
theorem dX8_thinkFreely_37 : decode cX8_thinkFreely 37 = .ok (.iload_n 1, 1) := by decide +kernel
theorem dX8_thinkFreely_38 : decode cX8_thinkFreely 38 = .ok (.aaload, 1) := by decide +kernel
theorem dX8_thinkFreely_39 : decode cX8_thinkFreely 39 = .ok (.aload_n 0, 1) := by decide +kernel
theorem dX8_thinkFreely_40 : decode cX8_thinkFreely 40 = .ok (.getfield 28, 3) := by decide +kernel
theorem dX8_thinkFreely_43 : decode cX8_thinkFreely 43 = .ok (.getfield 111, 3) := by decide +kernel
theorem dX8_thinkFreely_46 : decode cX8_thinkFreely 46 = .ok (.aload_n 0, 1) := by decide +kernel
theorem dX8_thinkFreely_47 : decode cX8_thinkFreely 47 = .ok (.getfield 45, 3) := by decide +kernel
theorem dX8_thinkFreely_50 : decode cX8_thinkFreely 50 = .ok (.invokevirtual 298, 3) := by decide +kernel
theorem dX8_thinkFreely_53 : decode cX8_thinkFreely 53 = .ok (.aload_n 0, 1) := by decide +kernel
theorem dX8_thinkFreely_54 : decode cX8_thinkFreely 54 = .ok (.getfield 69, 3) := by decide +kernel
theorem dX8_thinkFreely_57 : decode cX8_thinkFreely 57 = .ok (.areturn, 1) := by decide +kernel
set_option maxRecDepth 20000 in
theorem ggX8_byChoice_X8_thinkFreely : GoodIn wsX8_byChoice wsX8_thinkFreely := goodIn_r _ [8, 9, 10, 11, 12, 13, 14, 2, 15, 16, 17, 18, 19, 20, 21, 22, 23, 24, 25, 26, 27, 28, 29, 30, 31, 32, 33, 34, 35, 36, 37, 38, 39, 40, 41, 42, 43, 44, 45, 46, 47, 48, 49, 50, 51, 52, 53, 54, 55, 56, 57, 58, 59, 60, 61, 62, 63, 64, 65, 66, 67, 68, 69, 70, 206, 207, 208, 209, 210, 211, 212, 213, 214, 215, 216, 217, 218, 219, 220, 221, 222, 223, 224, 225, 226, 227, 228, 229, 230, 231, 232, 233, 234, 235, 236, 237, 238, 239, 240, 241, 242, 243, 244, 245, 246, 247, 248, 249, 250, 251] (by decide +kernel) (by decide +kernel)
set_option maxRecDepth 20000 in
theorem gX8_byChoice_X8_thinkFreely : GoodIn wsX8_byChoice (wsV RX8 221 RX8 yX8_thinkFreely wsX8_thinkFreely) := goodIn_app (goodIn_of _ (by decide +kernel)) ggX8_byChoice_X8_thinkFreely
set_option maxRecDepth 20000 in
theorem ggX8_byChoice_X5_look : GoodIn wsX8_byChoice wsX5_look := goodIn_r _ [75, 76, 77, 78, 79, 80, 81, 82, 83, 84, 85, 86, 87, 88, 89, 90, 91, 92, 93, 94, 95, 96, 97, 98, 99, 100, 101, 102, 103, 104, 105, 106, 64, 65, 66, 230, 231, 232, 233, 234, 235, 236, 237, 238, 239, 240, 241, 242, 243, 244, 245, 252, 253, 254, 255, 256, 257, 258, 259] (by decide +kernel) (by decide +kernel)
set_option maxRecDepth 20000 in
theorem gX8_byChoice_X5_look : GoodIn wsX8_byChoice (wsV RX8 225 RX5 yX5_look wsX5_look) := goodIn_app (goodIn_of _ (by decide +kernel)) ggX8_byChoice_X5_look
set_option maxRecDepth 20000 in
theorem ggX8_byChoice_X5_findTry : GoodIn wsX8_byChoice wsX5_findTry := goodIn_r _ [110, 77, 79, 81, 82, 84, 87, 90, 111, 112, 113, 74, 114, 252, 253, 254, 255, 256, 257, 258, 259] (by decide +kernel) (by decide +kernel)
set_option maxRecDepth 20000 in
theorem gX8_byChoice_X5_findTry : GoodIn wsX8_byChoice (wsV RX8 241 RX5 yX5_findTry wsX5_findTry) := goodIn_app (goodIn_of _ (by decide +kernel)) ggX8_byChoice_X5_findTry
set_option maxRecDepth 20000 in
theorem ggX8_byChoice_X2_valueFrom : GoodIn wsX8_byChoice wsX2_valueFrom := goodIn_r _ [118, 21, 119, 22, 120, 121, 122, 123, 124, 125, 126, 127, 128, 12, 129, 27, 130, 131, 132, 133, 134, 135, 136, 26, 28, 137, 64, 65, 66, 138, 139, 140, 141, 29, 142, 143, 144, 145, 25, 33, 34, 30, 31, 32, 146, 7, 147, 148, 149, 150, 151, 152, 153, 154, 155, 156, 157, 158, 159, 160, 112, 113, 74, 114, 77, 79, 90, 87, 218, 219, 220, 221, 222, 223, 224, 225, 226, 227, 228, 229, 252, 253, 254, 255, 256, 257, 258, 259] (by decide +kernel) (by decide +kernel)
set_option maxRecDepth 20000 in
theorem gX8_byChoice_X2_valueFrom : GoodIn wsX8_byChoice (wsV RX8 232 RX2 yX2_valueFrom wsX2_valueFrom) := goodIn_app (goodIn_of _ (by decide +kernel)) ggX8_byChoice_X2_valueFrom
set_option maxRecDepth 20000 in
theorem ggX8_byChoice_X8_byPlan : GoodIn wsX8_byChoice wsX8_byPlan := goodIn_r _ [164, 165, 14, 2, 15, 13, 1, 166, 167, 168, 169, 170, 171, 172, 173, 174, 175, 68, 69, 70, 71, 72, 73, 74, 75, 76, 77, 78, 79, 80, 81, 82, 83, 84, 85, 86, 87, 88, 89, 90, 91, 92, 93, 94, 95, 96, 97, 98, 99, 100, 101, 102, 103, 104, 105, 106, 64, 65, 66, 176, 177, 178, 179, 180, 181, 182, 183, 184, 185, 186, 187, 188, 189, 190, 191, 192, 193, 194, 195, 196, 197, 198, 199, 58, 59, 60, 61, 62, 63, 146, 7, 147, 206, 207, 208, 209, 210, 211, 212, 213, 214, 215, 216, 217, 230, 231, 232, 233, 234, 235, 236, 237, 238, 239, 240, 241, 242, 243, 244, 245, 260, 261, 262, 263, 252, 253, 254, 255, 256, 257, 258, 259, 246, 247, 248, 249, 250, 251] (by decide +kernel) (by decide +kernel)
set_option maxRecDepth 20000 in
theorem gX8_byChoice_X8_byPlan : GoodIn wsX8_byChoice (wsV RX8 194 RX8 yX8_byPlan wsX8_byPlan) := goodIn_app (goodIn_of _ (by decide +kernel)) ggX8_byChoice_X8_byPlan
set_option maxRecDepth 20000 in
theorem ggX8_byChoice_X8_tellTwo : GoodIn wsX8_byChoice wsX8_tellTwo := goodIn_r _ [203, 204, 205, 206, 207, 208, 209, 210, 211, 212, 213, 214, 215, 216, 217] (by decide +kernel) (by decide +kernel)
set_option maxRecDepth 20000 in
theorem gX8_byChoice_X8_tellTwo : GoodIn wsX8_byChoice (wsV RX8 157 RX8 yX8_tellTwo wsX8_tellTwo) := goodIn_app (goodIn_of _ (by decide +kernel)) ggX8_byChoice_X8_tellTwo
theorem dX8_byChoice_0 : decode cX8_byChoice 0 = .ok (.aload_n 0, 1) := by decide +kernel
theorem dX8_byChoice_1 : decode cX8_byChoice 1 = .ok (.iload_n 1, 1) := by decide +kernel
theorem dX8_byChoice_2 : decode cX8_byChoice 2 = .ok (.iconst 0, 1) := by decide +kernel
theorem dX8_byChoice_3 : decode cX8_byChoice 3 = .ok (.invokevirtual 221, 3) := by decide +kernel
theorem dX8_byChoice_6 : decode cX8_byChoice 6 = .ok (.astore_n 2, 1) := by decide +kernel
theorem dX8_byChoice_7 : decode cX8_byChoice 7 = .ok (.aload_n 0, 1) := by decide +kernel
theorem dX8_byChoice_8 : decode cX8_byChoice 8 = .ok (.getfield 38, 3) := by decide +kernel
theorem dX8_byChoice_11 : decode cX8_byChoice 11 = .ok (.aload_n 0, 1) := by decide +kernel
theorem dX8_byChoice_12 : decode cX8_byChoice 12 = .ok (.getfield 28, 3) := by decide +kernel
theorem dX8_byChoice_15 : decode cX8_byChoice 15 = .ok (.iload_n 1, 1) := by decide +kernel
theorem dX8_byChoice_16 : decode cX8_byChoice 16 = .ok (.invokevirtual 225, 3) := by decide +kernel
theorem dX8_byChoice_19 : decode cX8_byChoice 19 = .ok (.aload_n 0, 1) := by decide +kernel
theorem dX8_byChoice_20 : decode cX8_byChoice 20 = .ok (.getfield 38, 3) := by decide +kernel
theorem dX8_byChoice_23 : decode cX8_byChoice 23 = .ok (.invokevirtual 241, 3) := by decide +kernel
theorem dX8_byChoice_26 : decode cX8_byChoice 26 = .ok (.pop, 1) := by decide +kernel
theorem dX8_byChoice_27 : decode cX8_byChoice 27 = .ok (.aload_n 2, 1) := by decide +kernel
theorem dX8_byChoice_28 : decode cX8_byChoice 28 = .ok (.aload_n 0, 1) := by decide +kernel
theorem dX8_byChoice_29 : decode cX8_byChoice 29 = .ok (.getfield 38, 3) := by decide +kernel
theorem dX8_byChoice_32 : decode cX8_byChoice 32 = .ok (.invokevirtual 232, 3) := by decide +kernel
theorem dX8_byChoice_35 : decode cX8_byChoice 35 = .ok (.istore_n 3, 1) := by decide +kernel
theorem dX8_byChoice_36 : decode cX8_byChoice 36 = .ok (.aload_n 2, 1) := by decide +kernel
theorem dX8_byChoice_37 : decode cX8_byChoice 37 = .ok (.getfield 245, 3) := by decide +kernel
theorem dX8_byChoice_40 : decode cX8_byChoice 40 = .ok (.istore 4, 2) := by decide +kernel
theorem dX8_byChoice_42 : decode cX8_byChoice 42 = .ok (.aload_n 0, 1) := by decide +kernel
theorem dX8_byChoice_43 : decode cX8_byChoice 43 = .ok (.iload 4, 2) := by decide +kernel
theorem dX8_byChoice_45 : decode cX8_byChoice 45 = .ok (.aload_n 0, 1) := by decide +kernel
theorem dX8_byChoice_46 : decode cX8_byChoice 46 = .ok (.iload_n 1, 1) := by decide +kernel
theorem dX8_byChoice_47 : decode cX8_byChoice 47 = .ok (.invokevirtual 194, 3) := by decide +kernel
theorem dX8_byChoice_50 : decode cX8_byChoice 50 = .ok (.invokevirtual 157, 3) := by decide +kernel
theorem dX8_byChoice_53 : decode cX8_byChoice 53 = .ok (.iload_n 3, 1) := by decide +kernel
theorem dX8_byChoice_54 : decode cX8_byChoice 54 = .ok (.ireturn, 1) := by decide +kernel
set_option maxRecDepth 20000 in
theorem ggX8_fight_X4_waits : GoodIn wsX8_fight wsX4_waits := goodIn_r _ [14, 15, 16, 131, 132, 133, 134, 135, 136, 137, 138, 139, 140, 141, 142, 143, 144, 145, 146] (by decide +kernel) (by decide +kernel)
set_option maxRecDepth 20000 in
theorem gX8_fight_X4_waits : GoodIn wsX8_fight (wsV RX8 140 RX4 yX4_waits wsX4_waits) := goodIn_app (goodIn_of _ (by decide +kernel)) ggX8_fight_X4_waits
set_option maxRecDepth 20000 in
theorem ggX8_fight_X1_init : GoodIn wsX8_fight wsX1_init := goodIn_r _ [18, 19, 20, 21, 22, 23, 24, 25, 26, 27, 28, 29, 30, 31, 32, 33, 34, 35, 36, 37, 38, 147, 148, 149, 150, 151, 152, 153, 154, 155, 156, 157, 158, 159, 160, 161, 162] (by decide +kernel) (by decide +kernel)
set_option maxRecDepth 20000 in
theorem gX8_fight_X1_init_n301 : GoodIn wsX8_fight (wsX1_init) := ggX8_fight_X1_init
set_option maxRecDepth 20000 in
theorem ggX8_fight_X1_meetUp : GoodIn wsX8_fight wsX1_meetUp := goodIn_r _ [42, 43, 22, 44, 23, 45, 24, 25, 46, 26, 27, 28, 29, 31, 47, 48, 32, 49, 50, 51, 52, 53, 54, 55, 56, 57, 58, 59, 60, 61, 62, 63, 64, 65, 66, 67, 7, 68, 69, 70, 71, 72, 73, 33, 34, 35, 36, 74, 75, 76, 77, 78, 79, 80, 131, 132, 133, 134, 135, 136, 137, 138, 139, 140, 141, 142, 143, 144, 145, 146, 147, 148, 149, 150, 151, 152, 153, 154, 155, 156, 157, 158, 159, 160, 161, 162, 163, 164, 165, 166] (by decide +kernel) (by decide +kernel)
set_option maxRecDepth 20000 in
theorem gX8_fight_X1_meetUp : GoodIn wsX8_fight (wsV RX8 302 RX1 yX1_meetUp wsX1_meetUp) := goodIn_app (goodIn_of _ (by decide +kernel)) ggX8_fight_X1_meetUp
set_option maxRecDepth 20000 in
theorem ggX8_fight_X1_solve : GoodIn wsX8_fight wsX1_solve := goodIn_r _ [84, 85, 86, 87, 7, 88, 38, 24, 89, 25, 73, 62, 63, 64, 70, 71, 72, 37, 90, 91, 92, 93, 94, 95, 96, 97, 98, 99, 100, 34, 33, 31, 36, 35, 32, 101, 102, 103, 104, 23, 78, 79, 80, 105, 106, 107, 108, 147, 148, 149, 150, 151, 152, 153, 154, 155, 156, 157, 158, 159, 160, 161, 162] (by decide +kernel) (by decide +kernel)
set_option maxRecDepth 20000 in
theorem gX8_fight_X1_solve : GoodIn wsX8_fight (wsV RX8 306 RX1 yX1_solve wsX1_solve) := goodIn_app (goodIn_of _ (by decide +kernel)) ggX8_fight_X1_solve
set_option maxRecDepth 20000 in
theorem ggX8_fight_X1_firstCalled : GoodIn wsX8_fight wsX1_firstCalled := goodIn_r _ [112, 24, 25, 101, 102, 103, 7, 104, 23, 147, 148, 149, 150, 151, 152, 153, 154, 155, 156, 157, 158, 159, 160, 161, 162] (by decide +kernel) (by decide +kernel)
set_option maxRecDepth 20000 in
theorem gX8_fight_X1_firstCalled : GoodIn wsX8_fight (wsV RX8 309 RX1 yX1_firstCalled wsX1_firstCalled) := goodIn_app (goodIn_of _ (by decide +kernel)) ggX8_fight_X1_firstCalled
set_option maxRecDepth 20000 in
theorem ggX8_fight_X1_chosen : GoodIn wsX8_fight wsX1_chosen := goodIn_r _ [116, 24, 25, 37, 105, 106, 107, 7, 108, 90, 91, 92, 97, 98, 99, 100, 34, 33, 31, 36, 35, 32, 101, 102, 103, 104, 23, 78, 79, 80, 117, 110, 111, 112, 147, 148, 149, 150, 151, 152, 153, 154, 155, 156, 157, 158, 159, 160, 161, 162] (by decide +kernel) (by decide +kernel)
set_option maxRecDepth 20000 in
theorem gX8_fight_X1_chosen : GoodIn wsX8_fight (wsV RX8 312 RX1 yX1_chosen wsX1_chosen) := goodIn_app (goodIn_of _ (by decide +kernel)) ggX8_fight_X1_chosen
set_option maxRecDepth 20000 in
theorem ggX8_fight_X1_valueAt : GoodIn wsX8_fight wsX1_valueAt := goodIn_r _ [108, 37, 24, 25, 90, 91, 7, 92, 147, 148, 149, 150, 151, 152, 153, 154, 155, 156, 157, 158, 159, 160, 161, 162] (by decide +kernel) (by decide +kernel)
