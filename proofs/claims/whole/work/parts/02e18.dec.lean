theorem dX9_plans_32 : decode cX9_plans 32 = .ok (.iload 4, 2) := by decide +kernel
theorem dX9_plans_34 : decode cX9_plans 34 = .ok (.i2l, 1) := by decide +kernel
theorem dX9_plans_35 : decode cX9_plans 35 = .ok (.iload_n 3, 1) := by decide +kernel
theorem dX9_plans_36 : decode cX9_plans 36 = .ok (.iconst 2, 1) := by decide +kernel
theorem dX9_plans_37 : decode cX9_plans 37 = .ok (.if_icmp .ne 7, 3) := by decide +kernel
theorem dX9_plans_40 : decode cX9_plans 40 = .ok (.lconst 0, 1) := by decide +kernel
theorem dX9_plans_41 : decode cX9_plans 41 = .ok (.goto 4, 3) := by decide +kernel
theorem dX9_plans_44 : decode cX9_plans 44 = .ok (.lconst 1, 1) := by decide +kernel
theorem dX9_plans_45 : decode cX9_plans 45 = .ok (.iload_n 3, 1) := by decide +kernel
theorem dX9_plans_46 : decode cX9_plans 46 = .ok (.ifCond .ne 9, 3) := by decide +kernel
theorem dX9_plans_49 : decode cX9_plans 49 = .ok (.ldc2_w 239, 3) := by decide +kernel
theorem dX9_plans_52 : decode cX9_plans 52 = .ok (.goto 6, 3) := by decide +kernel
theorem dX9_plans_55 : decode cX9_plans 55 = .ok (.ldc2_w 241, 3) := by decide +kernel
theorem dX9_plans_58 : decode cX9_plans 58 = .ok (.invokestatic 87, 3) := by decide +kernel
theorem dX9_plans_61 : decode cX9_plans 61 = .ok (.ifCond .ne 5, 3) := by decide +kernel
theorem dX9_plans_64 : decode cX9_plans 64 = .ok (.iconst (-1), 1) := by decide +kernel
theorem dX9_plans_65 : decode cX9_plans 65 = .ok (.ireturn, 1) := by decide +kernel
theorem dX9_plans_66 : decode cX9_plans 66 = .ok (.aload_n 0, 1) := by decide +kernel
theorem dX9_plans_67 : decode cX9_plans 67 = .ok (.iload_n 1, 1) := by decide +kernel
theorem dX9_plans_68 : decode cX9_plans 68 = .ok (.iload_n 2, 1) := by decide +kernel
theorem dX9_plans_69 : decode cX9_plans 69 = .ok (.iload_n 3, 1) := by decide +kernel
theorem dX9_plans_70 : decode cX9_plans 70 = .ok (.invokevirtual 125, 3) := by decide +kernel
theorem dX9_plans_73 : decode cX9_plans 73 = .ok (.istore 5, 2) := by decide +kernel
theorem dX9_plans_75 : decode cX9_plans 75 = .ok (.aload_n 0, 1) := by decide +kernel
theorem dX9_plans_76 : decode cX9_plans 76 = .ok (.getfield 29, 3) := by decide +kernel
theorem dX9_plans_79 : decode cX9_plans 79 = .ok (.iconst 3, 1) := by decide +kernel
theorem dX9_plans_80 : decode cX9_plans 80 = .ok (.iconst 3, 1) := by decide +kernel
theorem dX9_plans_81 : decode cX9_plans 81 = .ok (.iload_n 1, 1) := by decide +kernel
theorem dX9_plans_82 : decode cX9_plans 82 = .ok (.imul, 1) := by decide +kernel
theorem dX9_plans_83 : decode cX9_plans 83 = .ok (.iload_n 2, 1) := by decide +kernel
theorem dX9_plans_84 : decode cX9_plans 84 = .ok (.iadd, 1) := by decide +kernel
theorem dX9_plans_85 : decode cX9_plans 85 = .ok (.imul, 1) := by decide +kernel
theorem dX9_plans_86 : decode cX9_plans 86 = .ok (.iload_n 3, 1) := by decide +kernel
theorem dX9_plans_87 : decode cX9_plans 87 = .ok (.iadd, 1) := by decide +kernel
theorem dX9_plans_88 : decode cX9_plans 88 = .ok (.iload 4, 2) := by decide +kernel
theorem dX9_plans_90 : decode cX9_plans 90 = .ok (.iastore, 1) := by decide +kernel
theorem dX9_plans_91 : decode cX9_plans 91 = .ok (.aload_n 0, 1) := by decide +kernel
theorem dX9_plans_92 : decode cX9_plans 92 = .ok (.invokevirtual 230, 3) := by decide +kernel
theorem dX9_plans_95 : decode cX9_plans 95 = .ok (.iload 5, 2) := by decide +kernel
theorem dX9_plans_97 : decode cX9_plans 97 = .ok (.ireturn, 1) := by decide +kernel
set_option maxRecDepth 20000 in
theorem ggX9_tires_X9_in : GoodIn wsX9_tires wsX9_in := goodIn_r _ [7] (by decide +kernel) (by decide +kernel)
set_option maxRecDepth 20000 in
theorem gX9_tires_X9_in : GoodIn wsX9_tires (va_wsS RX9 87 yX9_in wsX9_in) := goodIn_app (goodIn_of _ (by decide +kernel)) ggX9_tires_X9_in
theorem dX9_tires_0 : decode cX9_tires 0 = .ok (.aload_n 0, 1) := by decide +kernel
theorem dX9_tires_1 : decode cX9_tires 1 = .ok (.iconst 0, 1) := by decide +kernel
theorem dX9_tires_2 : decode cX9_tires 2 = .ok (.putfield 77, 3) := by decide +kernel
theorem dX9_tires_5 : decode cX9_tires 5 = .ok (.iload_n 1, 1) := by decide +kernel
theorem dX9_tires_6 : decode cX9_tires 6 = .ok (.i2l, 1) := by decide +kernel
theorem dX9_tires_7 : decode cX9_tires 7 = .ok (.lconst 0, 1) := by decide +kernel
theorem dX9_tires_8 : decode cX9_tires 8 = .ok (.ldc2_w 243, 3) := by decide +kernel
theorem dX9_tires_11 : decode cX9_tires 11 = .ok (.invokestatic 87, 3) := by decide +kernel
theorem dX9_tires_14 : decode cX9_tires 14 = .ok (.ifCond .ne 5, 3) := by decide +kernel
theorem dX9_tires_17 : decode cX9_tires 17 = .ok (.iconst (-1), 1) := by decide +kernel
theorem dX9_tires_18 : decode cX9_tires 18 = .ok (.ireturn, 1) := by decide +kernel
theorem dX9_tires_19 : decode cX9_tires 19 = .ok (.aload_n 0, 1) := by decide +kernel
theorem dX9_tires_20 : decode cX9_tires 20 = .ok (.getfield 97, 3) := by decide +kernel
theorem dX9_tires_23 : decode cX9_tires 23 = .ok (.istore_n 2, 1) := by decide +kernel
theorem dX9_tires_24 : decode cX9_tires 24 = .ok (.aload_n 0, 1) := by decide +kernel
theorem dX9_tires_25 : decode cX9_tires 25 = .ok (.iload_n 1, 1) := by decide +kernel
theorem dX9_tires_26 : decode cX9_tires 26 = .ok (.putfield 97, 3) := by decide +kernel
theorem dX9_tires_29 : decode cX9_tires 29 = .ok (.iload_n 2, 1) := by decide +kernel
theorem dX9_tires_30 : decode cX9_tires 30 = .ok (.ireturn, 1) := by decide +kernel
set_option maxRecDepth 20000 in
theorem ggX9_begins_X9_meetBegins : GoodIn wsX9_begins wsX9_meetBegins := goodIn_r _ [7, 8, 9, 10, 11, 12, 13, 6, 14, 2, 15, 16, 17, 18, 19, 20, 21, 22, 23, 24, 25, 26, 27, 28, 29, 30, 31, 32, 33, 34, 35, 36, 37, 38, 39, 40, 41, 42, 43, 44, 45, 46, 47, 48, 49, 50, 51, 52, 53, 54, 55, 56, 57, 58, 59, 60, 61, 62, 63, 64, 65, 66, 67, 68, 69, 70, 71, 72, 73, 74, 75, 76, 77, 78, 79, 80, 81, 82, 83] (by decide +kernel) (by decide +kernel)
set_option maxRecDepth 20000 in
theorem gX9_begins_X9_meetBegins : GoodIn wsX9_begins (wsV RX9 230 RX9 yX9_meetBegins wsX9_meetBegins) := goodIn_app (goodIn_of _ (by decide +kernel)) ggX9_begins_X9_meetBegins
theorem dX9_begins_0 : decode cX9_begins 0 = .ok (.aload_n 0, 1) := by decide +kernel
theorem dX9_begins_1 : decode cX9_begins 1 = .ok (.iconst 0, 1) := by decide +kernel
theorem dX9_begins_2 : decode cX9_begins 2 = .ok (.putfield 77, 3) := by decide +kernel
theorem dX9_begins_5 : decode cX9_begins 5 = .ok (.aload_n 0, 1) := by decide +kernel
theorem dX9_begins_6 : decode cX9_begins 6 = .ok (.invokevirtual 230, 3) := by decide +kernel
theorem dX9_begins_9 : decode cX9_begins 9 = .ok (.aload_n 0, 1) := by decide +kernel
theorem dX9_begins_10 : decode cX9_begins 10 = .ok (.getfield 84, 3) := by decide +kernel
theorem dX9_begins_13 : decode cX9_begins 13 = .ok (.ireturn, 1) := by decide +kernel
set_option maxRecDepth 20000 in
theorem ggX9_odds_X9_isLifter : GoodIn wsX9_odds wsX9_isLifter := goodIn_r _ [8, 9, 10, 11, 7, 12, 32, 33, 34, 35, 36, 37, 38, 39, 40, 41, 42, 43, 44, 45, 46, 47, 48, 49, 50, 51, 52, 53, 54, 55, 56, 57, 58, 59, 60, 61, 62, 63, 64, 65, 66, 67, 68, 69, 70, 71] (by decide +kernel) (by decide +kernel)
set_option maxRecDepth 20000 in
theorem gX9_odds_X9_isLifter : GoodIn wsX9_odds (wsV RX9 233 RX9 yX9_isLifter wsX9_isLifter) := goodIn_app (goodIn_of _ (by decide +kernel)) ggX9_odds_X9_isLifter
set_option maxRecDepth 20000 in
theorem ggX9_odds_X9_isLift : GoodIn wsX9_odds wsX9_isLift := goodIn_r _ [15, 3, 10, 11, 7, 12] (by decide +kernel) (by decide +kernel)
set_option maxRecDepth 20000 in
theorem gX9_odds_X9_isLift : GoodIn wsX9_odds (va_wsS RX9 236 yX9_isLift wsX9_isLift) := goodIn_app (goodIn_of _ (by decide +kernel)) ggX9_odds_X9_isLift
set_option maxRecDepth 20000 in
theorem ggX9_odds_X9_in : GoodIn wsX9_odds wsX9_in := goodIn_r _ [12] (by decide +kernel) (by decide +kernel)
set_option maxRecDepth 20000 in
theorem gX9_odds_X9_in : GoodIn wsX9_odds (va_wsS RX9 87 yX9_in wsX9_in) := goodIn_app (goodIn_of _ (by decide +kernel)) ggX9_odds_X9_in
set_option maxRecDepth 20000 in
theorem ggX9_odds_X9_oddsOf : GoodIn wsX9_odds wsX9_oddsOf := goodIn_r _ [19, 20, 21, 22, 23, 24, 25, 26, 27, 7, 28, 29, 30, 31, 32, 33, 34, 35, 36, 37, 38, 39, 40, 41, 42, 43, 44, 45, 46, 47, 48, 49, 50, 51, 52, 53, 54, 55, 56, 57, 58, 59, 60, 61, 62, 63, 64, 65, 66, 67, 68, 69, 70, 71] (by decide +kernel) (by decide +kernel)
set_option maxRecDepth 20000 in
theorem gX9_odds_X9_oddsOf : GoodIn wsX9_odds (wsV RX9 245 RX9 yX9_oddsOf wsX9_oddsOf) := goodIn_app (goodIn_of _ (by decide +kernel)) ggX9_odds_X9_oddsOf
theorem dX9_odds_0 : decode cX9_odds 0 = .ok (.aload_n 0, 1) := by decide +kernel
theorem dX9_odds_1 : decode cX9_odds 1 = .ok (.iconst 0, 1) := by decide +kernel
theorem dX9_odds_2 : decode cX9_odds 2 = .ok (.putfield 77, 3) := by decide +kernel
theorem dX9_odds_5 : decode cX9_odds 5 = .ok (.aload_n 0, 1) := by decide +kernel
theorem dX9_odds_6 : decode cX9_odds 6 = .ok (.iload_n 1, 1) := by decide +kernel
theorem dX9_odds_7 : decode cX9_odds 7 = .ok (.invokevirtual 233, 3) := by decide +kernel
theorem dX9_odds_10 : decode cX9_odds 10 = .ok (.ifCond .eq 47, 3) := by decide +kernel
theorem dX9_odds_13 : decode cX9_odds 13 = .ok (.iload_n 2, 1) := by decide +kernel
theorem dX9_odds_14 : decode cX9_odds 14 = .ok (.invokestatic 236, 3) := by decide +kernel
theorem dX9_odds_17 : decode cX9_odds 17 = .ok (.ifCond .eq 40, 3) := by decide +kernel
theorem dX9_odds_20 : decode cX9_odds 20 = .ok (.iload_n 3, 1) := by decide +kernel
theorem dX9_odds_21 : decode cX9_odds 21 = .ok (.i2l, 1) := by decide +kernel
theorem dX9_odds_22 : decode cX9_odds 22 = .ok (.lconst 1, 1) := by decide +kernel
theorem dX9_odds_23 : decode cX9_odds 23 = .ok (.ldc2_w 239, 3) := by decide +kernel
theorem dX9_odds_26 : decode cX9_odds 26 = .ok (.invokestatic 87, 3) := by decide +kernel
theorem dX9_odds_29 : decode cX9_odds 29 = .ok (.ifCond .eq 28, 3) := by decide +kernel
theorem dX9_odds_32 : decode cX9_odds 32 = .ok (.iload 4, 2) := by decide +kernel
theorem dX9_odds_34 : decode cX9_odds 34 = .ok (.i2l, 1) := by decide +kernel
theorem dX9_odds_35 : decode cX9_odds 35 = .ok (.lconst 0, 1) := by decide +kernel
theorem dX9_odds_36 : decode cX9_odds 36 = .ok (.ldc2_w 91, 3) := by decide +kernel
theorem dX9_odds_39 : decode cX9_odds 39 = .ok (.invokestatic 87, 3) := by decide +kernel
theorem dX9_odds_42 : decode cX9_odds 42 = .ok (.ifCond .eq 15, 3) := by decide +kernel
theorem dX9_odds_45 : decode cX9_odds 45 = .ok (.aload_n 0, 1) := by decide +kernel
theorem dX9_odds_46 : decode cX9_odds 46 = .ok (.iload_n 1, 1) := by decide +kernel
theorem dX9_odds_47 : decode cX9_odds 47 = .ok (.iload_n 2, 1) := by decide +kernel
theorem dX9_odds_48 : decode cX9_odds 48 = .ok (.iload_n 3, 1) := by decide +kernel
theorem dX9_odds_49 : decode cX9_odds 49 = .ok (.iload 4, 2) := by decide +kernel
theorem dX9_odds_51 : decode cX9_odds 51 = .ok (.invokevirtual 245, 3) := by decide +kernel
theorem dX9_odds_54 : decode cX9_odds 54 = .ok (.goto 4, 3) := by decide +kernel
theorem dX9_odds_57 : decode cX9_odds 57 = .ok (.iconst (-1), 1) := by decide +kernel
theorem dX9_odds_58 : decode cX9_odds 58 = .ok (.ireturn, 1) := by decide +kernel
set_option maxRecDepth 20000 in
theorem ggX9_lifter_X9_isLifter : GoodIn wsX9_lifter wsX9_isLifter := goodIn_r _ [8, 9, 10, 11, 7, 12, 54, 55, 56, 57, 58, 59, 60, 61, 62, 63, 64, 65, 66, 67, 68, 69, 70, 71, 72, 73, 74, 75, 76, 77, 78, 79, 80, 81, 82, 83, 84, 85, 86, 87, 88, 89, 90, 91, 92, 93] (by decide +kernel) (by decide +kernel)
set_option maxRecDepth 20000 in
theorem gX9_lifter_X9_isLifter : GoodIn wsX9_lifter (wsV RX9 233 RX9 yX9_isLifter wsX9_isLifter) := goodIn_app (goodIn_of _ (by decide +kernel)) ggX9_lifter_X9_isLifter
set_option maxRecDepth 20000 in
theorem ggX9_lifter_X9_isLift : GoodIn wsX9_lifter wsX9_isLift := goodIn_r _ [15, 16, 10, 11, 7, 12] (by decide +kernel) (by decide +kernel)
set_option maxRecDepth 20000 in
theorem gX9_lifter_X9_isLift : GoodIn wsX9_lifter (va_wsS RX9 236 yX9_isLift wsX9_isLift) := goodIn_app (goodIn_of _ (by decide +kernel)) ggX9_lifter_X9_isLift
set_option maxRecDepth 20000 in
theorem ggX9_lifter_X9_planOf : GoodIn wsX9_lifter wsX9_planOf := goodIn_r _ [20, 21, 54, 55, 56, 57, 58, 59, 60, 61, 62, 63, 64, 65, 66, 67, 68, 69, 70, 71, 72, 73, 74, 75, 76, 77, 78, 79, 80, 81, 82, 83, 84, 85, 86, 87, 88, 89, 90, 91, 92, 93] (by decide +kernel) (by decide +kernel)
set_option maxRecDepth 20000 in
theorem gX9_lifter_X9_planOf : GoodIn wsX9_lifter (wsV RX9 125 RX9 yX9_planOf wsX9_planOf) := goodIn_app (goodIn_of _ (by decide +kernel)) ggX9_lifter_X9_planOf
set_option maxRecDepth 20000 in
theorem ggX9_lifter_X9_of : GoodIn wsX9_lifter wsX9_of := goodIn_r _ [25, 26, 54, 55, 56, 57, 58, 59, 60, 61, 62, 63, 64, 65, 66, 67, 68, 69, 70, 71, 72, 73, 74, 75, 76, 77, 78, 79, 80, 81, 82, 83, 84, 85, 86, 87, 88, 89, 90, 91, 92, 93] (by decide +kernel) (by decide +kernel)
set_option maxRecDepth 20000 in
theorem gX9_lifter_X9_of : GoodIn wsX9_lifter (wsV RX9 106 RX9 yX9_of wsX9_of) := goodIn_app (goodIn_of _ (by decide +kernel)) ggX9_lifter_X9_of
set_option maxRecDepth 20000 in
theorem ggX9_lifter_X9_leastOf : GoodIn wsX9_lifter wsX9_leastOf := goodIn_r _ [30, 26, 31, 32, 33, 34, 22, 23, 24, 7, 25, 35, 36, 37, 38, 39, 40, 41, 42, 54, 55, 56, 57, 58, 59, 60, 61, 62, 63, 64, 65, 66, 67, 68, 69, 70, 71, 72, 73, 74, 75, 76, 77, 78, 79, 80, 81, 82, 83, 84, 85, 86, 87, 88, 89, 90, 91, 92, 93] (by decide +kernel) (by decide +kernel)
set_option maxRecDepth 20000 in
theorem gX9_lifter_X9_leastOf : GoodIn wsX9_lifter (wsV RX9 249 RX9 yX9_leastOf wsX9_leastOf) := goodIn_app (goodIn_of _ (by decide +kernel)) ggX9_lifter_X9_leastOf
set_option maxRecDepth 20000 in
theorem ggX9_lifter_X9_isStill : GoodIn wsX9_lifter wsX9_isStill := goodIn_r _ [46, 22, 23, 24, 7, 25, 26, 35, 36, 37, 38, 39, 40, 41, 42, 54, 55, 56, 57, 58, 59, 60, 61, 62, 63, 64, 65, 66, 67, 68, 69, 70, 71, 72, 73, 74, 75, 76, 77, 78, 79, 80, 81, 82, 83, 84, 85, 86, 87, 88, 89, 90, 91, 92, 93] (by decide +kernel) (by decide +kernel)
set_option maxRecDepth 20000 in
theorem gX9_lifter_X9_isStill : GoodIn wsX9_lifter (wsV RX9 140 RX9 yX9_isStill wsX9_isStill) := goodIn_app (goodIn_of _ (by decide +kernel)) ggX9_lifter_X9_isStill
set_option maxRecDepth 20000 in
theorem ggX9_lifter_X9_flag : GoodIn wsX9_lifter wsX9_flag := goodIn_r _ [49] (by decide +kernel) (by decide +kernel)
set_option maxRecDepth 20000 in
theorem gX9_lifter_X9_flag : GoodIn wsX9_lifter (va_wsS RX9 160 yX9_flag wsX9_flag) := goodIn_app (goodIn_of _ (by decide +kernel)) ggX9_lifter_X9_flag
set_option maxRecDepth 20000 in
theorem ggX9_lifter_X9_sumOf : GoodIn wsX9_lifter wsX9_sumOf := goodIn_r _ [53, 35, 36, 37, 7, 38, 22, 23, 24, 25, 26, 54, 55, 56, 57, 58, 59, 60, 61, 62, 63, 64, 65, 66, 67, 68, 69, 70, 71, 72, 73, 74, 75, 76, 77, 78, 79, 80, 81, 82, 83, 84, 85, 86, 87, 88, 89, 90, 91, 92, 93] (by decide +kernel) (by decide +kernel)
set_option maxRecDepth 20000 in
theorem gX9_lifter_X9_sumOf : GoodIn wsX9_lifter (wsV RX9 167 RX9 yX9_sumOf wsX9_sumOf) := goodIn_app (goodIn_of _ (by decide +kernel)) ggX9_lifter_X9_sumOf
theorem dX9_lifter_0 : decode cX9_lifter 0 = .ok (.aload_n 0, 1) := by decide +kernel
theorem dX9_lifter_1 : decode cX9_lifter 1 = .ok (.iconst 0, 1) := by decide +kernel
theorem dX9_lifter_2 : decode cX9_lifter 2 = .ok (.putfield 77, 3) := by decide +kernel
theorem dX9_lifter_5 : decode cX9_lifter 5 = .ok (.aload_n 0, 1) := by decide +kernel
theorem dX9_lifter_6 : decode cX9_lifter 6 = .ok (.iload_n 1, 1) := by decide +kernel
theorem dX9_lifter_7 : decode cX9_lifter 7 = .ok (.invokevirtual 233, 3) := by decide +kernel
theorem dX9_lifter_10 : decode cX9_lifter 10 = .ok (.ifCond .eq 10, 3) := by decide +kernel
theorem dX9_lifter_13 : decode cX9_lifter 13 = .ok (.iload_n 2, 1) := by decide +kernel
theorem dX9_lifter_14 : decode cX9_lifter 14 = .ok (.invokestatic 236, 3) := by decide +kernel
theorem dX9_lifter_17 : decode cX9_lifter 17 = .ok (.ifCond .ne 5, 3) := by decide +kernel
theorem dX9_lifter_20 : decode cX9_lifter 20 = .ok (.iconst (-1), 1) := by decide +kernel
theorem dX9_lifter_21 : decode cX9_lifter 21 = .ok (.ireturn, 1) := by decide +kernel
theorem dX9_lifter_22 : decode cX9_lifter 22 = .ok (.iload_n 3, 1) := by decide +kernel
theorem dX9_lifter_23 : decode cX9_lifter 23 = .ok (.tableswitch 152 0 11 #[61, 68, 75, 83, 91, 99, 109, 116, 122, 129, 138, 146], 61) := by decide +kernel
theorem dX9_lifter_84 : decode cX9_lifter 84 = .ok (.aload_n 0, 1) := by decide +kernel
theorem dX9_lifter_85 : decode cX9_lifter 85 = .ok (.getfield 13, 3) := by decide +kernel
theorem dX9_lifter_88 : decode cX9_lifter 88 = .ok (.iload_n 1, 1) := by decide +kernel
theorem dX9_lifter_89 : decode cX9_lifter 89 = .ok (.iaload, 1) := by decide +kernel
theorem dX9_lifter_90 : decode cX9_lifter 90 = .ok (.ireturn, 1) := by decide +kernel
theorem dX9_lifter_91 : decode cX9_lifter 91 = .ok (.aload_n 0, 1) := by decide +kernel
theorem dX9_lifter_92 : decode cX9_lifter 92 = .ok (.getfield 17, 3) := by decide +kernel
theorem dX9_lifter_95 : decode cX9_lifter 95 = .ok (.iload_n 1, 1) := by decide +kernel
theorem dX9_lifter_96 : decode cX9_lifter 96 = .ok (.iaload, 1) := by decide +kernel
theorem dX9_lifter_97 : decode cX9_lifter 97 = .ok (.ireturn, 1) := by decide +kernel
theorem dX9_lifter_98 : decode cX9_lifter 98 = .ok (.aload_n 0, 1) := by decide +kernel
theorem dX9_lifter_99 : decode cX9_lifter 99 = .ok (.iload_n 1, 1) := by decide +kernel
theorem dX9_lifter_100 : decode cX9_lifter 100 = .ok (.iload_n 2, 1) := by decide +kernel
theorem dX9_lifter_101 : decode cX9_lifter 101 = .ok (.iconst 0, 1) := by decide +kernel
theorem dX9_lifter_102 : decode cX9_lifter 102 = .ok (.invokevirtual 125, 3) := by decide +kernel
theorem dX9_lifter_105 : decode cX9_lifter 105 = .ok (.ireturn, 1) := by decide +kernel
theorem dX9_lifter_106 : decode cX9_lifter 106 = .ok (.aload_n 0, 1) := by decide +kernel
theorem dX9_lifter_107 : decode cX9_lifter 107 = .ok (.iload_n 1, 1) := by decide +kernel
theorem dX9_lifter_108 : decode cX9_lifter 108 = .ok (.iload_n 2, 1) := by decide +kernel
theorem dX9_lifter_109 : decode cX9_lifter 109 = .ok (.iconst 1, 1) := by decide +kernel
theorem dX9_lifter_110 : decode cX9_lifter 110 = .ok (.invokevirtual 125, 3) := by decide +kernel
theorem dX9_lifter_113 : decode cX9_lifter 113 = .ok (.ireturn, 1) := by decide +kernel
theorem dX9_lifter_114 : decode cX9_lifter 114 = .ok (.aload_n 0, 1) := by decide +kernel
theorem dX9_lifter_115 : decode cX9_lifter 115 = .ok (.iload_n 1, 1) := by decide +kernel
theorem dX9_lifter_116 : decode cX9_lifter 116 = .ok (.iload_n 2, 1) := by decide +kernel
theorem dX9_lifter_117 : decode cX9_lifter 117 = .ok (.iconst 2, 1) := by decide +kernel
theorem dX9_lifter_118 : decode cX9_lifter 118 = .ok (.invokevirtual 125, 3) := by decide +kernel
theorem dX9_lifter_121 : decode cX9_lifter 121 = .ok (.ireturn, 1) := by decide +kernel
