theorem dX8_leaves_21 : decode cX8_leaves 21 = .ok (.iconst 1, 1) := by decide +kernel
theorem dX8_leaves_22 : decode cX8_leaves 22 = .ok (.isub, 1) := by decide +kernel
theorem dX8_leaves_23 : decode cX8_leaves 23 = .ok (.putfield 87, 3) := by decide +kernel
theorem dX8_leaves_26 : decode cX8_leaves 26 = .ok (.aload_n 0, 1) := by decide +kernel
theorem dX8_leaves_27 : decode cX8_leaves 27 = .ok (.getfield 28, 3) := by decide +kernel
theorem dX8_leaves_30 : decode cX8_leaves 30 = .ok (.invokevirtual 94, 3) := by decide +kernel
theorem dX8_leaves_33 : decode cX8_leaves 33 = .ok (.aload_n 0, 1) := by decide +kernel
theorem dX8_leaves_34 : decode cX8_leaves 34 = .ok (.getfield 28, 3) := by decide +kernel
theorem dX8_leaves_37 : decode cX8_leaves 37 = .ok (.getfield 87, 3) := by decide +kernel
theorem dX8_leaves_40 : decode cX8_leaves 40 = .ok (.ireturn, 1) := by decide +kernel
set_option maxRecDepth 20000 in
theorem ggX8_plans_X8_isLifter : GoodIn wsX8_plans wsX8_isLifter := goodIn_r _ [8, 3, 9, 47, 48, 49, 50, 51, 52, 53, 54, 55, 56, 57, 58, 63, 64, 65, 66, 67, 68, 69, 70, 71, 72, 73, 74, 75, 76, 77, 78] (by decide +kernel) (by decide +kernel)
set_option maxRecDepth 20000 in
theorem gX8_plans_X8_isLifter : GoodIn wsX8_plans (wsV RX8 97 RX8 yX8_isLifter wsX8_isLifter) := goodIn_app (goodIn_of _ (by decide +kernel)) ggX8_plans_X8_isLifter
set_option maxRecDepth 20000 in
theorem ggX8_plans_X8_isLift : GoodIn wsX8_plans wsX8_isLift := goodIn_r _ [12] (by decide +kernel) (by decide +kernel)
set_option maxRecDepth 20000 in
theorem gX8_plans_X8_isLift : GoodIn wsX8_plans (va_wsS RX8 100 yX8_isLift wsX8_isLift) := goodIn_app (goodIn_of _ (by decide +kernel)) ggX8_plans_X8_isLift
set_option maxRecDepth 20000 in
theorem ggX8_plans_X8_isPlan : GoodIn wsX8_plans wsX8_isPlan := goodIn_r _ [15, 16, 17, 7, 18] (by decide +kernel) (by decide +kernel)
set_option maxRecDepth 20000 in
theorem gX8_plans_X8_isPlan : GoodIn wsX8_plans (va_wsS RX8 103 yX8_isPlan wsX8_isPlan) := goodIn_app (goodIn_of _ (by decide +kernel)) ggX8_plans_X8_isPlan
set_option maxRecDepth 20000 in
theorem ggX8_plans_X4_open : GoodIn wsX8_plans wsX4_open := goodIn_r _ [23, 24, 25, 26, 27, 28, 29, 30, 31, 22, 32, 33, 34, 35, 36, 37, 38, 39, 40, 41, 42, 43, 44, 45, 46, 63, 64, 65, 66, 67, 68, 69, 70, 71, 72, 73, 74, 75, 76, 77, 78, 59, 60, 61, 62] (by decide +kernel) (by decide +kernel)
set_option maxRecDepth 20000 in
theorem gX8_plans_X4_open : GoodIn wsX8_plans (wsV RX8 94 RX4 yX4_open wsX4_open) := goodIn_app (goodIn_of _ (by decide +kernel)) ggX8_plans_X4_open
theorem dX8_plans_0 : decode cX8_plans 0 = .ok (.aload_n 0, 1) := by decide +kernel
theorem dX8_plans_1 : decode cX8_plans 1 = .ok (.iload_n 1, 1) := by decide +kernel
theorem dX8_plans_2 : decode cX8_plans 2 = .ok (.invokevirtual 97, 3) := by decide +kernel
theorem dX8_plans_5 : decode cX8_plans 5 = .ok (.ifCond .eq 19, 3) := by decide +kernel
theorem dX8_plans_8 : decode cX8_plans 8 = .ok (.iload_n 2, 1) := by decide +kernel
theorem dX8_plans_9 : decode cX8_plans 9 = .ok (.invokestatic 100, 3) := by decide +kernel
theorem dX8_plans_12 : decode cX8_plans 12 = .ok (.ifCond .eq 12, 3) := by decide +kernel
theorem dX8_plans_15 : decode cX8_plans 15 = .ok (.iload_n 3, 1) := by decide +kernel
theorem dX8_plans_16 : decode cX8_plans 16 = .ok (.iload 4, 2) := by decide +kernel
theorem dX8_plans_18 : decode cX8_plans 18 = .ok (.invokestatic 103, 3) := by decide +kernel
theorem dX8_plans_21 : decode cX8_plans 21 = .ok (.ifCond .ne 5, 3) := by decide +kernel
theorem dX8_plans_24 : decode cX8_plans 24 = .ok (.iconst (-1), 1) := by decide +kernel
theorem dX8_plans_25 : decode cX8_plans 25 = .ok (.ireturn, 1) := by decide +kernel
theorem dX8_plans_26 : decode cX8_plans 26 = .ok (.aload_n 0, 1) := by decide +kernel
theorem dX8_plans_27 : decode cX8_plans 27 = .ok (.getfield 18, 3) := by decide +kernel
theorem dX8_plans_30 : decode cX8_plans 30 = .ok (.iload_n 1, 1) := by decide +kernel
theorem dX8_plans_31 : decode cX8_plans 31 = .ok (.aaload, 1) := by decide +kernel
theorem dX8_plans_32 : decode cX8_plans 32 = .ok (.getfield 107, 3) := by decide +kernel
theorem dX8_plans_35 : decode cX8_plans 35 = .ok (.astore 5, 2) := by decide +kernel
theorem dX8_plans_37 : decode cX8_plans 37 = .ok (.aload 5, 2) := by decide +kernel
theorem dX8_plans_39 : decode cX8_plans 39 = .ok (.iload_n 2, 1) := by decide +kernel
theorem dX8_plans_40 : decode cX8_plans 40 = .ok (.iconst 3, 1) := by decide +kernel
theorem dX8_plans_41 : decode cX8_plans 41 = .ok (.imul, 1) := by decide +kernel
theorem dX8_plans_42 : decode cX8_plans 42 = .ok (.iload_n 3, 1) := by decide +kernel
theorem dX8_plans_43 : decode cX8_plans 43 = .ok (.iadd, 1) := by decide +kernel
theorem dX8_plans_44 : decode cX8_plans 44 = .ok (.iaload, 1) := by decide +kernel
theorem dX8_plans_45 : decode cX8_plans 45 = .ok (.istore 6, 2) := by decide +kernel
theorem dX8_plans_47 : decode cX8_plans 47 = .ok (.aload 5, 2) := by decide +kernel
theorem dX8_plans_49 : decode cX8_plans 49 = .ok (.iload_n 2, 1) := by decide +kernel
theorem dX8_plans_50 : decode cX8_plans 50 = .ok (.iconst 3, 1) := by decide +kernel
theorem dX8_plans_51 : decode cX8_plans 51 = .ok (.imul, 1) := by decide +kernel
theorem dX8_plans_52 : decode cX8_plans 52 = .ok (.iload_n 3, 1) := by decide +kernel
theorem dX8_plans_53 : decode cX8_plans 53 = .ok (.iadd, 1) := by decide +kernel
theorem dX8_plans_54 : decode cX8_plans 54 = .ok (.iload 4, 2) := by decide +kernel
theorem dX8_plans_56 : decode cX8_plans 56 = .ok (.iastore, 1) := by decide +kernel
theorem dX8_plans_57 : decode cX8_plans 57 = .ok (.aload_n 0, 1) := by decide +kernel
theorem dX8_plans_58 : decode cX8_plans 58 = .ok (.getfield 28, 3) := by decide +kernel
theorem dX8_plans_61 : decode cX8_plans 61 = .ok (.invokevirtual 94, 3) := by decide +kernel
theorem dX8_plans_64 : decode cX8_plans 64 = .ok (.iload 6, 2) := by decide +kernel
theorem dX8_plans_66 : decode cX8_plans 66 = .ok (.ireturn, 1) := by decide +kernel
theorem dX8_tires_0 : decode cX8_tires 0 = .ok (.iload_n 1, 1) := by decide +kernel
theorem dX8_tires_1 : decode cX8_tires 1 = .ok (.ifCond .lt 10, 3) := by decide +kernel
theorem dX8_tires_4 : decode cX8_tires 4 = .ok (.iload_n 1, 1) := by decide +kernel
theorem dX8_tires_5 : decode cX8_tires 5 = .ok (.sipush 300, 3) := by decide +kernel
theorem dX8_tires_8 : decode cX8_tires 8 = .ok (.if_icmp .le 5, 3) := by decide +kernel
theorem dX8_tires_11 : decode cX8_tires 11 = .ok (.iconst (-1), 1) := by decide +kernel
theorem dX8_tires_12 : decode cX8_tires 12 = .ok (.ireturn, 1) := by decide +kernel
theorem dX8_tires_13 : decode cX8_tires 13 = .ok (.aload_n 0, 1) := by decide +kernel
theorem dX8_tires_14 : decode cX8_tires 14 = .ok (.getfield 28, 3) := by decide +kernel
theorem dX8_tires_17 : decode cX8_tires 17 = .ok (.getfield 111, 3) := by decide +kernel
theorem dX8_tires_20 : decode cX8_tires 20 = .ok (.istore_n 2, 1) := by decide +kernel
theorem dX8_tires_21 : decode cX8_tires 21 = .ok (.aload_n 0, 1) := by decide +kernel
theorem dX8_tires_22 : decode cX8_tires 22 = .ok (.getfield 28, 3) := by decide +kernel
theorem dX8_tires_25 : decode cX8_tires 25 = .ok (.iload_n 1, 1) := by decide +kernel
theorem dX8_tires_26 : decode cX8_tires 26 = .ok (.putfield 111, 3) := by decide +kernel
theorem dX8_tires_29 : decode cX8_tires 29 = .ok (.iload_n 2, 1) := by decide +kernel
theorem dX8_tires_30 : decode cX8_tires 30 = .ok (.ireturn, 1) := by decide +kernel
set_option maxRecDepth 20000 in
theorem ggX8_begins_X4_open : GoodIn wsX8_begins wsX4_open := goodIn_r _ [7, 8, 9, 10, 11, 12, 13, 14, 15, 6, 16, 17, 18, 19, 20, 21, 22, 23, 24, 25, 26, 27, 28, 29, 30, 43, 44, 45, 46, 47, 48, 49, 50, 51, 52, 53, 54, 55, 56, 57, 58, 59, 60, 61, 62] (by decide +kernel) (by decide +kernel)
set_option maxRecDepth 20000 in
theorem gX8_begins_X4_open : GoodIn wsX8_begins (wsV RX8 94 RX4 yX4_open wsX4_open) := goodIn_app (goodIn_of _ (by decide +kernel)) ggX8_begins_X4_open
theorem dX8_begins_0 : decode cX8_begins 0 = .ok (.aload_n 0, 1) := by decide +kernel
theorem dX8_begins_1 : decode cX8_begins 1 = .ok (.getfield 28, 3) := by decide +kernel
theorem dX8_begins_4 : decode cX8_begins 4 = .ok (.invokevirtual 94, 3) := by decide +kernel
theorem dX8_begins_7 : decode cX8_begins 7 = .ok (.aload_n 0, 1) := by decide +kernel
theorem dX8_begins_8 : decode cX8_begins 8 = .ok (.getfield 28, 3) := by decide +kernel
theorem dX8_begins_11 : decode cX8_begins 11 = .ok (.getfield 87, 3) := by decide +kernel
theorem dX8_begins_14 : decode cX8_begins 14 = .ok (.ireturn, 1) := by decide +kernel
set_option maxRecDepth 20000 in
theorem ggX8_odds_X8_isLifter : GoodIn wsX8_odds wsX8_isLifter := goodIn_r _ [8, 2, 9, 26, 27, 28, 29, 30, 31, 32, 33, 34, 35, 36, 37, 38, 39, 40, 41, 42, 43, 44, 45, 46, 47, 48, 49, 50, 51, 52, 53] (by decide +kernel) (by decide +kernel)
set_option maxRecDepth 20000 in
theorem gX8_odds_X8_isLifter : GoodIn wsX8_odds (wsV RX8 97 RX8 yX8_isLifter wsX8_isLifter) := goodIn_app (goodIn_of _ (by decide +kernel)) ggX8_odds_X8_isLifter
set_option maxRecDepth 20000 in
theorem ggX8_odds_X8_isLift : GoodIn wsX8_odds wsX8_isLift := goodIn_r _ [12] (by decide +kernel) (by decide +kernel)
set_option maxRecDepth 20000 in
theorem gX8_odds_X8_isLift : GoodIn wsX8_odds (va_wsS RX8 100 yX8_isLift wsX8_isLift) := goodIn_app (goodIn_of _ (by decide +kernel)) ggX8_odds_X8_isLift
set_option maxRecDepth 20000 in
theorem ggX8_odds_X8_isLoad : GoodIn wsX8_odds wsX8_isLoad := goodIn_r _ [15] (by decide +kernel) (by decide +kernel)
set_option maxRecDepth 20000 in
theorem gX8_odds_X8_isLoad : GoodIn wsX8_odds (va_wsS RX8 114 yX8_isLoad wsX8_isLoad) := goodIn_app (goodIn_of _ (by decide +kernel)) ggX8_odds_X8_isLoad
set_option maxRecDepth 20000 in
theorem ggX8_odds_X3_oddsOf : GoodIn wsX8_odds wsX3_oddsOf := goodIn_r _ [20, 21, 22, 23, 24, 25, 54, 55, 56, 57] (by decide +kernel) (by decide +kernel)
set_option maxRecDepth 20000 in
theorem gX8_odds_X3_oddsOf : GoodIn wsX8_odds (wsV RX8 117 RX3 yX3_oddsOf wsX3_oddsOf) := goodIn_app (goodIn_of _ (by decide +kernel)) ggX8_odds_X3_oddsOf
theorem dX8_odds_0 : decode cX8_odds 0 = .ok (.aload_n 0, 1) := by decide +kernel
theorem dX8_odds_1 : decode cX8_odds 1 = .ok (.iload_n 1, 1) := by decide +kernel
theorem dX8_odds_2 : decode cX8_odds 2 = .ok (.invokevirtual 97, 3) := by decide +kernel
theorem dX8_odds_5 : decode cX8_odds 5 = .ok (.ifCond .eq 28, 3) := by decide +kernel
theorem dX8_odds_8 : decode cX8_odds 8 = .ok (.iload_n 2, 1) := by decide +kernel
theorem dX8_odds_9 : decode cX8_odds 9 = .ok (.invokestatic 100, 3) := by decide +kernel
theorem dX8_odds_12 : decode cX8_odds 12 = .ok (.ifCond .eq 21, 3) := by decide +kernel
theorem dX8_odds_15 : decode cX8_odds 15 = .ok (.iload_n 3, 1) := by decide +kernel
theorem dX8_odds_16 : decode cX8_odds 16 = .ok (.invokestatic 114, 3) := by decide +kernel
theorem dX8_odds_19 : decode cX8_odds 19 = .ok (.ifCond .eq 14, 3) := by decide +kernel
theorem dX8_odds_22 : decode cX8_odds 22 = .ok (.iload 4, 2) := by decide +kernel
theorem dX8_odds_24 : decode cX8_odds 24 = .ok (.ifCond .lt 9, 3) := by decide +kernel
theorem dX8_odds_27 : decode cX8_odds 27 = .ok (.iload 4, 2) := by decide +kernel
theorem dX8_odds_29 : decode cX8_odds 29 = .ok (.iconst 2, 1) := by decide +kernel
theorem dX8_odds_30 : decode cX8_odds 30 = .ok (.if_icmp .le 5, 3) := by decide +kernel
theorem dX8_odds_33 : decode cX8_odds 33 = .ok (.iconst (-1), 1) := by decide +kernel
theorem dX8_odds_34 : decode cX8_odds 34 = .ok (.ireturn, 1) := by decide +kernel
theorem dX8_odds_35 : decode cX8_odds 35 = .ok (.aload_n 0, 1) := by decide +kernel
theorem dX8_odds_36 : decode cX8_odds 36 = .ok (.getfield 18, 3) := by decide +kernel
theorem dX8_odds_39 : decode cX8_odds 39 = .ok (.iload_n 1, 1) := by decide +kernel
theorem dX8_odds_40 : decode cX8_odds 40 = .ok (.aaload, 1) := by decide +kernel
theorem dX8_odds_41 : decode cX8_odds 41 = .ok (.iload_n 2, 1) := by decide +kernel
theorem dX8_odds_42 : decode cX8_odds 42 = .ok (.iload_n 3, 1) := by decide +kernel
theorem dX8_odds_43 : decode cX8_odds 43 = .ok (.iload 4, 2) := by decide +kernel
theorem dX8_odds_45 : decode cX8_odds 45 = .ok (.aload_n 0, 1) := by decide +kernel
theorem dX8_odds_46 : decode cX8_odds 46 = .ok (.getfield 28, 3) := by decide +kernel
theorem dX8_odds_49 : decode cX8_odds 49 = .ok (.getfield 111, 3) := by decide +kernel
theorem dX8_odds_52 : decode cX8_odds 52 = .ok (.imul, 1) := by decide +kernel
theorem dX8_odds_53 : decode cX8_odds 53 = .ok (.invokevirtual 117, 3) := by decide +kernel
theorem dX8_odds_56 : decode cX8_odds 56 = .ok (.ireturn, 1) := by decide +kernel
set_option maxRecDepth 20000 in
theorem ggX8_lifter_X8_isLifter : GoodIn wsX8_lifter wsX8_isLifter := goodIn_r _ [14, 5, 15, 42, 43, 44, 45, 46, 47, 48, 49, 50, 51, 52, 53, 58, 59, 60, 61, 62, 63, 64, 65, 66, 67, 68, 69, 70, 71, 72, 73] (by decide +kernel) (by decide +kernel)
set_option maxRecDepth 20000 in
theorem gX8_lifter_X8_isLifter : GoodIn wsX8_lifter (wsV RX8 97 RX8 yX8_isLifter wsX8_isLifter) := goodIn_app (goodIn_of _ (by decide +kernel)) ggX8_lifter_X8_isLifter
set_option maxRecDepth 20000 in
theorem ggX8_lifter_X8_isLift : GoodIn wsX8_lifter wsX8_isLift := goodIn_r _ [18] (by decide +kernel) (by decide +kernel)
set_option maxRecDepth 20000 in
theorem gX8_lifter_X8_isLift : GoodIn wsX8_lifter (va_wsS RX8 100 yX8_isLift wsX8_isLift) := goodIn_app (goodIn_of _ (by decide +kernel)) ggX8_lifter_X8_isLift
set_option maxRecDepth 20000 in
theorem ggX8_lifter_X4_leastOf : GoodIn wsX8_lifter wsX4_leastOf := goodIn_r _ [23, 24, 25, 26, 27, 28, 29, 30, 31, 58, 59, 60, 61, 62, 63, 64, 65, 66, 67, 68, 69, 70, 71, 72, 73] (by decide +kernel) (by decide +kernel)
set_option maxRecDepth 20000 in
theorem gX8_lifter_X4_leastOf : GoodIn wsX8_lifter (wsV RX8 133 RX4 yX4_leastOf wsX4_leastOf) := goodIn_app (goodIn_of _ (by decide +kernel)) ggX8_lifter_X4_leastOf
set_option maxRecDepth 20000 in
theorem ggX8_lifter_X4_waits : GoodIn wsX8_lifter wsX4_waits := goodIn_r _ [35, 24, 25, 58, 59, 60, 61, 62, 63, 64, 65, 66, 67, 68, 69, 70, 71, 72, 73] (by decide +kernel) (by decide +kernel)
set_option maxRecDepth 20000 in
theorem gX8_lifter_X4_waits : GoodIn wsX8_lifter (wsV RX8 140 RX4 yX4_waits wsX4_waits) := goodIn_app (goodIn_of _ (by decide +kernel)) ggX8_lifter_X4_waits
set_option maxRecDepth 20000 in
theorem ggX8_lifter_X4_sumOf : GoodIn wsX8_lifter wsX4_sumOf := goodIn_r _ [39, 40, 41, 58, 59, 60, 61, 62, 63, 64, 65, 66, 67, 68, 69, 70, 71, 72, 73] (by decide +kernel) (by decide +kernel)
set_option maxRecDepth 20000 in
theorem gX8_lifter_X4_sumOf : GoodIn wsX8_lifter (wsV RX8 147 RX4 yX4_sumOf wsX4_sumOf) := goodIn_app (goodIn_of _ (by decide +kernel)) ggX8_lifter_X4_sumOf
theorem dX8_lifter_0 : decode cX8_lifter 0 = .ok (.aload_n 0, 1) := by decide +kernel
theorem dX8_lifter_1 : decode cX8_lifter 1 = .ok (.iload_n 1, 1) := by decide +kernel
theorem dX8_lifter_2 : decode cX8_lifter 2 = .ok (.invokevirtual 97, 3) := by decide +kernel
theorem dX8_lifter_5 : decode cX8_lifter 5 = .ok (.ifCond .eq 10, 3) := by decide +kernel
theorem dX8_lifter_8 : decode cX8_lifter 8 = .ok (.iload_n 2, 1) := by decide +kernel
theorem dX8_lifter_9 : decode cX8_lifter 9 = .ok (.invokestatic 100, 3) := by decide +kernel
theorem dX8_lifter_12 : decode cX8_lifter 12 = .ok (.ifCond .ne 5, 3) := by decide +kernel
theorem dX8_lifter_15 : decode cX8_lifter 15 = .ok (.iconst (-1), 1) := by decide +kernel
theorem dX8_lifter_16 : decode cX8_lifter 16 = .ok (.ireturn, 1) := by decide +kernel
theorem dX8_lifter_17 : decode cX8_lifter 17 = .ok (.aload_n 0, 1) := by decide +kernel
theorem dX8_lifter_18 : decode cX8_lifter 18 = .ok (.getfield 18, 3) := by decide +kernel
theorem dX8_lifter_21 : decode cX8_lifter 21 = .ok (.iload_n 1, 1) := by decide +kernel
theorem dX8_lifter_22 : decode cX8_lifter 22 = .ok (.aaload, 1) := by decide +kernel
theorem dX8_lifter_23 : decode cX8_lifter 23 = .ok (.astore 4, 2) := by decide +kernel
theorem dX8_lifter_25 : decode cX8_lifter 25 = .ok (.iload_n 3, 1) := by decide +kernel
theorem dX8_lifter_26 : decode cX8_lifter 26 = .ok (.tableswitch 195 0 11 #[62, 68, 74, 84, 96, 108, 122, 132, 141, 151, 168, 186], 62) := by decide +kernel
theorem dX8_lifter_88 : decode cX8_lifter 88 = .ok (.aload 4, 2) := by decide +kernel
theorem dX8_lifter_90 : decode cX8_lifter 90 = .ok (.getfield 121, 3) := by decide +kernel
theorem dX8_lifter_93 : decode cX8_lifter 93 = .ok (.ireturn, 1) := by decide +kernel
theorem dX8_lifter_94 : decode cX8_lifter 94 = .ok (.aload 4, 2) := by decide +kernel
theorem dX8_lifter_96 : decode cX8_lifter 96 = .ok (.getfield 124, 3) := by decide +kernel
theorem dX8_lifter_99 : decode cX8_lifter 99 = .ok (.ireturn, 1) := by decide +kernel
theorem dX8_lifter_100 : decode cX8_lifter 100 = .ok (.aload 4, 2) := by decide +kernel
theorem dX8_lifter_102 : decode cX8_lifter 102 = .ok (.getfield 107, 3) := by decide +kernel
theorem dX8_lifter_105 : decode cX8_lifter 105 = .ok (.iload_n 2, 1) := by decide +kernel
theorem dX8_lifter_106 : decode cX8_lifter 106 = .ok (.iconst 3, 1) := by decide +kernel
theorem dX8_lifter_107 : decode cX8_lifter 107 = .ok (.imul, 1) := by decide +kernel
theorem dX8_lifter_108 : decode cX8_lifter 108 = .ok (.iaload, 1) := by decide +kernel
theorem dX8_lifter_109 : decode cX8_lifter 109 = .ok (.ireturn, 1) := by decide +kernel
theorem dX8_lifter_110 : decode cX8_lifter 110 = .ok (.aload 4, 2) := by decide +kernel
theorem dX8_lifter_112 : decode cX8_lifter 112 = .ok (.getfield 107, 3) := by decide +kernel
theorem dX8_lifter_115 : decode cX8_lifter 115 = .ok (.iload_n 2, 1) := by decide +kernel
theorem dX8_lifter_116 : decode cX8_lifter 116 = .ok (.iconst 3, 1) := by decide +kernel
theorem dX8_lifter_117 : decode cX8_lifter 117 = .ok (.imul, 1) := by decide +kernel
theorem dX8_lifter_118 : decode cX8_lifter 118 = .ok (.iconst 1, 1) := by decide +kernel
theorem dX8_lifter_119 : decode cX8_lifter 119 = .ok (.iadd, 1) := by decide +kernel
