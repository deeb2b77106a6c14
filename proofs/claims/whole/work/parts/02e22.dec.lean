theorem dX9_planned_0 : decode cX9_planned 0 = .ok (.iload 4, 2) := by decide +kernel
theorem dX9_planned_2 : decode cX9_planned 2 = .ok (.ifCond .eq 8, 3) := by decide +kernel
theorem dX9_planned_5 : decode cX9_planned 5 = .ok (.iload_n 3, 1) := by decide +kernel
theorem dX9_planned_6 : decode cX9_planned 6 = .ok (.iconst 3, 1) := by decide +kernel
theorem dX9_planned_7 : decode cX9_planned 7 = .ok (.if_icmp .ne 14, 3) := by decide +kernel
theorem dX9_planned_10 : decode cX9_planned 10 = .ok (.aload_n 0, 1) := by decide +kernel
theorem dX9_planned_11 : decode cX9_planned 11 = .ok (.iload_n 1, 1) := by decide +kernel
theorem dX9_planned_12 : decode cX9_planned 12 = .ok (.iload_n 2, 1) := by decide +kernel
theorem dX9_planned_13 : decode cX9_planned 13 = .ok (.iload 6, 2) := by decide +kernel
theorem dX9_planned_15 : decode cX9_planned 15 = .ok (.iload 7, 2) := by decide +kernel
theorem dX9_planned_17 : decode cX9_planned 17 = .ok (.invokevirtual 267, 3) := by decide +kernel
theorem dX9_planned_20 : decode cX9_planned 20 = .ok (.ireturn, 1) := by decide +kernel
theorem dX9_planned_21 : decode cX9_planned 21 = .ok (.aload_n 0, 1) := by decide +kernel
theorem dX9_planned_22 : decode cX9_planned 22 = .ok (.iload_n 1, 1) := by decide +kernel
theorem dX9_planned_23 : decode cX9_planned 23 = .ok (.iload_n 2, 1) := by decide +kernel
theorem dX9_planned_24 : decode cX9_planned 24 = .ok (.iload_n 3, 1) := by decide +kernel
theorem dX9_planned_25 : decode cX9_planned 25 = .ok (.iconst 1, 1) := by decide +kernel
theorem dX9_planned_26 : decode cX9_planned 26 = .ok (.iadd, 1) := by decide +kernel
theorem dX9_planned_27 : decode cX9_planned 27 = .ok (.aload_n 0, 1) := by decide +kernel
theorem dX9_planned_28 : decode cX9_planned 28 = .ok (.iload_n 1, 1) := by decide +kernel
theorem dX9_planned_29 : decode cX9_planned 29 = .ok (.iload_n 2, 1) := by decide +kernel
theorem dX9_planned_30 : decode cX9_planned 30 = .ok (.iload_n 3, 1) := by decide +kernel
theorem dX9_planned_31 : decode cX9_planned 31 = .ok (.iload 4, 2) := by decide +kernel
theorem dX9_planned_33 : decode cX9_planned 33 = .ok (.iconst 1, 1) := by decide +kernel
theorem dX9_planned_34 : decode cX9_planned 34 = .ok (.invokevirtual 153, 3) := by decide +kernel
theorem dX9_planned_37 : decode cX9_planned 37 = .ok (.iload 5, 2) := by decide +kernel
theorem dX9_planned_39 : decode cX9_planned 39 = .ok (.iload 6, 2) := by decide +kernel
theorem dX9_planned_41 : decode cX9_planned 41 = .ok (.iload 4, 2) := by decide +kernel
theorem dX9_planned_43 : decode cX9_planned 43 = .ok (.invokestatic 100, 3) := by decide +kernel
theorem dX9_planned_46 : decode cX9_planned 46 = .ok (.iload 7, 2) := by decide +kernel
theorem dX9_planned_48 : decode cX9_planned 48 = .ok (.invokevirtual 270, 3) := by decide +kernel
theorem dX9_planned_51 : decode cX9_planned 51 = .ok (.istore 8, 2) := by decide +kernel
theorem dX9_planned_53 : decode cX9_planned 53 = .ok (.aload_n 0, 1) := by decide +kernel
theorem dX9_planned_54 : decode cX9_planned 54 = .ok (.iload_n 1, 1) := by decide +kernel
theorem dX9_planned_55 : decode cX9_planned 55 = .ok (.iload_n 2, 1) := by decide +kernel
theorem dX9_planned_56 : decode cX9_planned 56 = .ok (.iload_n 3, 1) := by decide +kernel
theorem dX9_planned_57 : decode cX9_planned 57 = .ok (.iconst 1, 1) := by decide +kernel
theorem dX9_planned_58 : decode cX9_planned 58 = .ok (.iadd, 1) := by decide +kernel
theorem dX9_planned_59 : decode cX9_planned 59 = .ok (.aload_n 0, 1) := by decide +kernel
theorem dX9_planned_60 : decode cX9_planned 60 = .ok (.iload_n 1, 1) := by decide +kernel
theorem dX9_planned_61 : decode cX9_planned 61 = .ok (.iload_n 2, 1) := by decide +kernel
theorem dX9_planned_62 : decode cX9_planned 62 = .ok (.iload_n 3, 1) := by decide +kernel
theorem dX9_planned_63 : decode cX9_planned 63 = .ok (.iload 4, 2) := by decide +kernel
theorem dX9_planned_65 : decode cX9_planned 65 = .ok (.iconst 0, 1) := by decide +kernel
theorem dX9_planned_66 : decode cX9_planned 66 = .ok (.invokevirtual 153, 3) := by decide +kernel
theorem dX9_planned_69 : decode cX9_planned 69 = .ok (.iload 5, 2) := by decide +kernel
theorem dX9_planned_71 : decode cX9_planned 71 = .ok (.iconst 1, 1) := by decide +kernel
theorem dX9_planned_72 : decode cX9_planned 72 = .ok (.iadd, 1) := by decide +kernel
theorem dX9_planned_73 : decode cX9_planned 73 = .ok (.iload 6, 2) := by decide +kernel
theorem dX9_planned_75 : decode cX9_planned 75 = .ok (.iload 7, 2) := by decide +kernel
theorem dX9_planned_77 : decode cX9_planned 77 = .ok (.invokevirtual 270, 3) := by decide +kernel
theorem dX9_planned_80 : decode cX9_planned 80 = .ok (.istore 9, 2) := by decide +kernel
theorem dX9_planned_82 : decode cX9_planned 82 = .ok (.aload_n 0, 1) := by decide +kernel
theorem dX9_planned_83 : decode cX9_planned 83 = .ok (.iload_n 1, 1) := by decide +kernel
theorem dX9_planned_84 : decode cX9_planned 84 = .ok (.iload_n 2, 1) := by decide +kernel
theorem dX9_planned_85 : decode cX9_planned 85 = .ok (.iload 4, 2) := by decide +kernel
theorem dX9_planned_87 : decode cX9_planned 87 = .ok (.iload 5, 2) := by decide +kernel
theorem dX9_planned_89 : decode cX9_planned 89 = .ok (.invokevirtual 245, 3) := by decide +kernel
theorem dX9_planned_92 : decode cX9_planned 92 = .ok (.iload 8, 2) := by decide +kernel
theorem dX9_planned_94 : decode cX9_planned 94 = .ok (.iload 9, 2) := by decide +kernel
theorem dX9_planned_96 : decode cX9_planned 96 = .ok (.invokestatic 274, 3) := by decide +kernel
theorem dX9_planned_99 : decode cX9_planned 99 = .ok (.ireturn, 1) := by decide +kernel
set_option maxRecDepth 20000 in
theorem ggX9_plannedBehind_X9_planOf : GoodIn wsX9_plannedBehind wsX9_planOf := goodIn_r _ [6, 7, 39, 40, 41, 42, 43, 44, 45, 46, 47, 48, 49, 50, 51, 52, 53, 54, 55, 56, 57, 58, 59, 60, 61, 62, 63, 64, 65, 66, 67, 68, 69, 70, 71, 72, 73, 74, 75, 76, 77, 78] (by decide +kernel) (by decide +kernel)
set_option maxRecDepth 20000 in
theorem gX9_plannedBehind_X9_planOf : GoodIn wsX9_plannedBehind (wsV RX9 125 RX9 yX9_planOf wsX9_planOf) := goodIn_app (goodIn_of _ (by decide +kernel)) ggX9_plannedBehind_X9_planOf
set_option maxRecDepth 20000 in
theorem ggX9_plannedBehind_X9_planned : GoodIn wsX9_plannedBehind wsX9_planned := goodIn_r _ [11, 12, 13, 14, 15, 16, 17, 18, 5, 19, 20, 21, 22, 2, 3, 4, 6, 7, 8, 9, 10, 23, 24, 25, 26, 27, 28, 29, 30, 31, 32, 33, 34, 35, 36, 37, 38, 0, 1, 39, 40, 41, 42, 43, 44, 45, 46, 47, 48, 49, 50, 51, 52, 53, 54, 55, 56, 57, 58, 59, 60, 61, 62, 63, 64, 65, 66, 67, 68, 69, 70, 71, 72, 73, 74, 75, 76, 77, 78] (by decide +kernel) (by decide +kernel)
set_option maxRecDepth 20000 in
theorem gX9_plannedBehind_X9_planned : GoodIn wsX9_plannedBehind (wsV RX9 270 RX9 yX9_planned wsX9_planned) := goodIn_app (goodIn_of _ (by decide +kernel)) ggX9_plannedBehind_X9_planned
theorem dX9_plannedBehind_0 : decode cX9_plannedBehind 0 = .ok (.iload_n 3, 1) := by decide +kernel
theorem dX9_plannedBehind_1 : decode cX9_plannedBehind 1 = .ok (.ifCond .ne 10, 3) := by decide +kernel
theorem dX9_plannedBehind_4 : decode cX9_plannedBehind 4 = .ok (.aload_n 0, 1) := by decide +kernel
theorem dX9_plannedBehind_5 : decode cX9_plannedBehind 5 = .ok (.getfield 56, 3) := by decide +kernel
theorem dX9_plannedBehind_8 : decode cX9_plannedBehind 8 = .ok (.iconst 0, 1) := by decide +kernel
theorem dX9_plannedBehind_9 : decode cX9_plannedBehind 9 = .ok (.iaload, 1) := by decide +kernel
theorem dX9_plannedBehind_10 : decode cX9_plannedBehind 10 = .ok (.ireturn, 1) := by decide +kernel
theorem dX9_plannedBehind_11 : decode cX9_plannedBehind 11 = .ok (.iload_n 2, 1) := by decide +kernel
theorem dX9_plannedBehind_12 : decode cX9_plannedBehind 12 = .ok (.iconst 2, 1) := by decide +kernel
theorem dX9_plannedBehind_13 : decode cX9_plannedBehind 13 = .ok (.if_icmp .ne 15, 3) := by decide +kernel
theorem dX9_plannedBehind_16 : decode cX9_plannedBehind 16 = .ok (.aload_n 0, 1) := by decide +kernel
theorem dX9_plannedBehind_17 : decode cX9_plannedBehind 17 = .ok (.getfield 56, 3) := by decide +kernel
theorem dX9_plannedBehind_20 : decode cX9_plannedBehind 20 = .ok (.iload 4, 2) := by decide +kernel
theorem dX9_plannedBehind_22 : decode cX9_plannedBehind 22 = .ok (.iload_n 3, 1) := by decide +kernel
theorem dX9_plannedBehind_23 : decode cX9_plannedBehind 23 = .ok (.iadd, 1) := by decide +kernel
theorem dX9_plannedBehind_24 : decode cX9_plannedBehind 24 = .ok (.iaload, 1) := by decide +kernel
theorem dX9_plannedBehind_25 : decode cX9_plannedBehind 25 = .ok (.goto 27, 3) := by decide +kernel
theorem dX9_plannedBehind_28 : decode cX9_plannedBehind 28 = .ok (.aload_n 0, 1) := by decide +kernel
theorem dX9_plannedBehind_29 : decode cX9_plannedBehind 29 = .ok (.iload_n 1, 1) := by decide +kernel
theorem dX9_plannedBehind_30 : decode cX9_plannedBehind 30 = .ok (.iload_n 2, 1) := by decide +kernel
theorem dX9_plannedBehind_31 : decode cX9_plannedBehind 31 = .ok (.iconst 1, 1) := by decide +kernel
theorem dX9_plannedBehind_32 : decode cX9_plannedBehind 32 = .ok (.iadd, 1) := by decide +kernel
theorem dX9_plannedBehind_33 : decode cX9_plannedBehind 33 = .ok (.iconst 0, 1) := by decide +kernel
theorem dX9_plannedBehind_34 : decode cX9_plannedBehind 34 = .ok (.aload_n 0, 1) := by decide +kernel
theorem dX9_plannedBehind_35 : decode cX9_plannedBehind 35 = .ok (.iload_n 1, 1) := by decide +kernel
theorem dX9_plannedBehind_36 : decode cX9_plannedBehind 36 = .ok (.iload_n 2, 1) := by decide +kernel
theorem dX9_plannedBehind_37 : decode cX9_plannedBehind 37 = .ok (.iconst 1, 1) := by decide +kernel
theorem dX9_plannedBehind_38 : decode cX9_plannedBehind 38 = .ok (.iadd, 1) := by decide +kernel
theorem dX9_plannedBehind_39 : decode cX9_plannedBehind 39 = .ok (.iconst 0, 1) := by decide +kernel
theorem dX9_plannedBehind_40 : decode cX9_plannedBehind 40 = .ok (.invokevirtual 125, 3) := by decide +kernel
theorem dX9_plannedBehind_43 : decode cX9_plannedBehind 43 = .ok (.iconst 0, 1) := by decide +kernel
theorem dX9_plannedBehind_44 : decode cX9_plannedBehind 44 = .ok (.iconst 0, 1) := by decide +kernel
theorem dX9_plannedBehind_45 : decode cX9_plannedBehind 45 = .ok (.iload 4, 2) := by decide +kernel
theorem dX9_plannedBehind_47 : decode cX9_plannedBehind 47 = .ok (.iload_n 3, 1) := by decide +kernel
theorem dX9_plannedBehind_48 : decode cX9_plannedBehind 48 = .ok (.iadd, 1) := by decide +kernel
theorem dX9_plannedBehind_49 : decode cX9_plannedBehind 49 = .ok (.invokevirtual 270, 3) := by decide +kernel
theorem dX9_plannedBehind_52 : decode cX9_plannedBehind 52 = .ok (.ireturn, 1) := by decide +kernel
set_option maxRecDepth 20000 in
theorem ggX9_roundOf_X9_of : GoodIn wsX9_roundOf wsX9_of := goodIn_r _ [6, 1, 7, 8, 9, 10, 11, 12, 13, 14, 15, 16, 17, 18, 19, 20, 21, 22, 23, 24, 25, 26, 27, 28, 29, 30, 31, 32, 33, 34, 35, 36, 37, 38, 39, 40, 41, 42, 43, 44, 45, 46] (by decide +kernel) (by decide +kernel)
set_option maxRecDepth 20000 in
theorem gX9_roundOf_X9_of : GoodIn wsX9_roundOf (wsV RX9 106 RX9 yX9_of wsX9_of) := goodIn_app (goodIn_of _ (by decide +kernel)) ggX9_roundOf_X9_of
theorem dX9_roundOf_0 : decode cX9_roundOf 0 = .ok (.aload_n 0, 1) := by decide +kernel
theorem dX9_roundOf_1 : decode cX9_roundOf 1 = .ok (.getfield 32, 3) := by decide +kernel
theorem dX9_roundOf_4 : decode cX9_roundOf 4 = .ok (.iconst 1, 1) := by decide +kernel
theorem dX9_roundOf_5 : decode cX9_roundOf 5 = .ok (.iaload, 1) := by decide +kernel
theorem dX9_roundOf_6 : decode cX9_roundOf 6 = .ok (.aload_n 0, 1) := by decide +kernel
theorem dX9_roundOf_7 : decode cX9_roundOf 7 = .ok (.iload_n 1, 1) := by decide +kernel
theorem dX9_roundOf_8 : decode cX9_roundOf 8 = .ok (.iconst 1, 1) := by decide +kernel
theorem dX9_roundOf_9 : decode cX9_roundOf 9 = .ok (.invokevirtual 106, 3) := by decide +kernel
theorem dX9_roundOf_12 : decode cX9_roundOf 12 = .ok (.iadd, 1) := by decide +kernel
theorem dX9_roundOf_13 : decode cX9_roundOf 13 = .ok (.ireturn, 1) := by decide +kernel
set_option maxRecDepth 20000 in
theorem ggX9_sumAhead_X9_of : GoodIn wsX9_sumAhead wsX9_of := goodIn_r _ [6, 1, 7, 8, 9, 10, 11, 12, 13, 14, 15, 16, 17, 18, 19, 20, 21, 22, 23, 24, 25, 26, 27, 28, 29, 30, 31, 32, 33, 34, 35, 36, 37, 38, 39, 40, 41, 42, 43, 44, 45, 46] (by decide +kernel) (by decide +kernel)
set_option maxRecDepth 20000 in
theorem gX9_sumAhead_X9_of : GoodIn wsX9_sumAhead (wsV RX9 106 RX9 yX9_of wsX9_of) := goodIn_app (goodIn_of _ (by decide +kernel)) ggX9_sumAhead_X9_of
theorem dX9_sumAhead_0 : decode cX9_sumAhead 0 = .ok (.iconst 0, 1) := by decide +kernel
theorem dX9_sumAhead_1 : decode cX9_sumAhead 1 = .ok (.istore_n 2, 1) := by decide +kernel
theorem dX9_sumAhead_2 : decode cX9_sumAhead 2 = .ok (.iconst 0, 1) := by decide +kernel
theorem dX9_sumAhead_3 : decode cX9_sumAhead 3 = .ok (.istore_n 3, 1) := by decide +kernel
theorem dX9_sumAhead_4 : decode cX9_sumAhead 4 = .ok (.iload_n 3, 1) := by decide +kernel
theorem dX9_sumAhead_5 : decode cX9_sumAhead 5 = .ok (.aload_n 0, 1) := by decide +kernel
theorem dX9_sumAhead_6 : decode cX9_sumAhead 6 = .ok (.getfield 32, 3) := by decide +kernel
theorem dX9_sumAhead_9 : decode cX9_sumAhead 9 = .ok (.iconst 0, 1) := by decide +kernel
theorem dX9_sumAhead_10 : decode cX9_sumAhead 10 = .ok (.iaload, 1) := by decide +kernel
theorem dX9_sumAhead_11 : decode cX9_sumAhead 11 = .ok (.if_icmp .ge 21, 3) := by decide +kernel
theorem dX9_sumAhead_14 : decode cX9_sumAhead 14 = .ok (.iload_n 2, 1) := by decide +kernel
theorem dX9_sumAhead_15 : decode cX9_sumAhead 15 = .ok (.aload_n 0, 1) := by decide +kernel
theorem dX9_sumAhead_16 : decode cX9_sumAhead 16 = .ok (.iload_n 1, 1) := by decide +kernel
theorem dX9_sumAhead_17 : decode cX9_sumAhead 17 = .ok (.bipush 7, 2) := by decide +kernel
theorem dX9_sumAhead_19 : decode cX9_sumAhead 19 = .ok (.iload_n 3, 1) := by decide +kernel
theorem dX9_sumAhead_20 : decode cX9_sumAhead 20 = .ok (.iadd, 1) := by decide +kernel
theorem dX9_sumAhead_21 : decode cX9_sumAhead 21 = .ok (.invokevirtual 106, 3) := by decide +kernel
theorem dX9_sumAhead_24 : decode cX9_sumAhead 24 = .ok (.iadd, 1) := by decide +kernel
theorem dX9_sumAhead_25 : decode cX9_sumAhead 25 = .ok (.istore_n 2, 1) := by decide +kernel
theorem dX9_sumAhead_26 : decode cX9_sumAhead 26 = .ok (.iinc 3 1, 3) := by decide +kernel
theorem dX9_sumAhead_29 : decode cX9_sumAhead 29 = .ok (.goto (-25), 3) := by decide +kernel
theorem dX9_sumAhead_32 : decode cX9_sumAhead 32 = .ok (.iload_n 2, 1) := by decide +kernel
theorem dX9_sumAhead_33 : decode cX9_sumAhead 33 = .ok (.ireturn, 1) := by decide +kernel
set_option maxRecDepth 20000 in
theorem ggX9_planNow_X9_isOut : GoodIn wsX9_planNow wsX9_isOut := goodIn_r _ [7, 8, 9, 10, 6, 11, 2, 65, 66, 67, 68, 69, 70, 71, 72, 73, 74, 75, 76, 77, 78, 79, 80, 81, 82, 83, 84, 85, 86, 87, 88, 89, 90, 91, 92, 93, 94, 95, 96, 97, 98, 99, 100, 101, 102, 103, 104] (by decide +kernel) (by decide +kernel)
set_option maxRecDepth 20000 in
theorem gX9_planNow_X9_isOut : GoodIn wsX9_planNow (wsV RX9 121 RX9 yX9_isOut wsX9_isOut) := goodIn_app (goodIn_of _ (by decide +kernel)) ggX9_planNow_X9_isOut
set_option maxRecDepth 20000 in
theorem ggX9_planNow_X9_isOver : GoodIn wsX9_planNow wsX9_isOver := goodIn_r _ [15, 2, 65, 66, 67, 68, 69, 70, 71, 72, 73, 74, 75, 76, 77, 78, 79, 80, 81, 82, 83, 84, 85, 86, 87, 88, 89, 90, 91, 92, 93, 94, 95, 96, 97, 98, 99, 100, 101, 102, 103, 104] (by decide +kernel) (by decide +kernel)
set_option maxRecDepth 20000 in
theorem gX9_planNow_X9_isOver : GoodIn wsX9_planNow (wsV RX9 113 RX9 yX9_isOver wsX9_isOver) := goodIn_app (goodIn_of _ (by decide +kernel)) ggX9_planNow_X9_isOver
set_option maxRecDepth 20000 in
theorem ggX9_planNow_X9_sumOf : GoodIn wsX9_planNow wsX9_sumOf := goodIn_r _ [19, 3, 4, 5, 6, 7, 8, 9, 10, 11, 2, 65, 66, 67, 68, 69, 70, 71, 72, 73, 74, 75, 76, 77, 78, 79, 80, 81, 82, 83, 84, 85, 86, 87, 88, 89, 90, 91, 92, 93, 94, 95, 96, 97, 98, 99, 100, 101, 102, 103, 104] (by decide +kernel) (by decide +kernel)
set_option maxRecDepth 20000 in
theorem gX9_planNow_X9_sumOf : GoodIn wsX9_planNow (wsV RX9 167 RX9 yX9_sumOf wsX9_sumOf) := goodIn_app (goodIn_of _ (by decide +kernel)) ggX9_planNow_X9_sumOf
set_option maxRecDepth 20000 in
theorem ggX9_planNow_X9_roundOf : GoodIn wsX9_planNow wsX9_roundOf := goodIn_r _ [23, 2, 8, 9, 10, 6, 11, 65, 66, 67, 68, 69, 70, 71, 72, 73, 74, 75, 76, 77, 78, 79, 80, 81, 82, 83, 84, 85, 86, 87, 88, 89, 90, 91, 92, 93, 94, 95, 96, 97, 98, 99, 100, 101, 102, 103, 104] (by decide +kernel) (by decide +kernel)
set_option maxRecDepth 20000 in
theorem gX9_planNow_X9_roundOf : GoodIn wsX9_planNow (wsV RX9 277 RX9 yX9_roundOf wsX9_roundOf) := goodIn_app (goodIn_of _ (by decide +kernel)) ggX9_planNow_X9_roundOf
set_option maxRecDepth 20000 in
theorem ggX9_planNow_X9_of : GoodIn wsX9_planNow wsX9_of := goodIn_r _ [11, 2, 65, 66, 67, 68, 69, 70, 71, 72, 73, 74, 75, 76, 77, 78, 79, 80, 81, 82, 83, 84, 85, 86, 87, 88, 89, 90, 91, 92, 93, 94, 95, 96, 97, 98, 99, 100, 101, 102, 103, 104] (by decide +kernel) (by decide +kernel)
set_option maxRecDepth 20000 in
theorem gX9_planNow_X9_of : GoodIn wsX9_planNow (wsV RX9 106 RX9 yX9_of wsX9_of) := goodIn_app (goodIn_of _ (by decide +kernel)) ggX9_planNow_X9_of
set_option maxRecDepth 20000 in
theorem ggX9_planNow_X9_sumAhead : GoodIn wsX9_planNow wsX9_sumAhead := goodIn_r _ [27, 2, 8, 9, 10, 6, 11, 65, 66, 67, 68, 69, 70, 71, 72, 73, 74, 75, 76, 77, 78, 79, 80, 81, 82, 83, 84, 85, 86, 87, 88, 89, 90, 91, 92, 93, 94, 95, 96, 97, 98, 99, 100, 101, 102, 103, 104] (by decide +kernel) (by decide +kernel)
set_option maxRecDepth 20000 in
theorem gX9_planNow_X9_sumAhead : GoodIn wsX9_planNow (wsV RX9 280 RX9 yX9_sumAhead wsX9_sumAhead) := goodIn_app (goodIn_of _ (by decide +kernel)) ggX9_planNow_X9_sumAhead
set_option maxRecDepth 20000 in
theorem ggX9_planNow_X9_planned : GoodIn wsX9_planNow wsX9_planned := goodIn_r _ [31, 32, 33, 34, 35, 36, 37, 38, 6, 39, 40, 41, 42, 43, 44, 45, 46, 47, 28, 29, 30, 48, 49, 50, 51, 52, 53, 54, 55, 56, 57, 58, 59, 60, 61, 62, 63, 64, 1, 65, 66, 67, 68, 69, 70, 71, 72, 73, 74, 75, 76, 77, 78, 79, 80, 81, 82, 83, 84, 85, 86, 87, 88, 89, 90, 91, 92, 93, 94, 95, 96, 97, 98, 99, 100, 101, 102, 103, 104] (by decide +kernel) (by decide +kernel)
set_option maxRecDepth 20000 in
theorem gX9_planNow_X9_planned : GoodIn wsX9_planNow (wsV RX9 270 RX9 yX9_planned wsX9_planned) := goodIn_app (goodIn_of _ (by decide +kernel)) ggX9_planNow_X9_planned
theorem dX9_planNow_0 : decode cX9_planNow 0 = .ok (.aload_n 0, 1) := by decide +kernel
theorem dX9_planNow_1 : decode cX9_planNow 1 = .ok (.iload_n 1, 1) := by decide +kernel
theorem dX9_planNow_2 : decode cX9_planNow 2 = .ok (.invokevirtual 121, 3) := by decide +kernel
theorem dX9_planNow_5 : decode cX9_planNow 5 = .ok (.ifCond .ne 10, 3) := by decide +kernel
theorem dX9_planNow_8 : decode cX9_planNow 8 = .ok (.aload_n 0, 1) := by decide +kernel
theorem dX9_planNow_9 : decode cX9_planNow 9 = .ok (.invokevirtual 113, 3) := by decide +kernel
theorem dX9_planNow_12 : decode cX9_planNow 12 = .ok (.ifCond .eq 14, 3) := by decide +kernel
theorem dX9_planNow_15 : decode cX9_planNow 15 = .ok (.aload_n 0, 1) := by decide +kernel
theorem dX9_planNow_16 : decode cX9_planNow 16 = .ok (.getfield 56, 3) := by decide +kernel
theorem dX9_planNow_19 : decode cX9_planNow 19 = .ok (.aload_n 0, 1) := by decide +kernel
theorem dX9_planNow_20 : decode cX9_planNow 20 = .ok (.iload_n 1, 1) := by decide +kernel
theorem dX9_planNow_21 : decode cX9_planNow 21 = .ok (.invokevirtual 167, 3) := by decide +kernel
theorem dX9_planNow_24 : decode cX9_planNow 24 = .ok (.iaload, 1) := by decide +kernel
theorem dX9_planNow_25 : decode cX9_planNow 25 = .ok (.ireturn, 1) := by decide +kernel
theorem dX9_planNow_26 : decode cX9_planNow 26 = .ok (.aload_n 0, 1) := by decide +kernel
theorem dX9_planNow_27 : decode cX9_planNow 27 = .ok (.getfield 32, 3) := by decide +kernel
theorem dX9_planNow_30 : decode cX9_planNow 30 = .ok (.iconst 0, 1) := by decide +kernel
theorem dX9_planNow_31 : decode cX9_planNow 31 = .ok (.iaload, 1) := by decide +kernel
theorem dX9_planNow_32 : decode cX9_planNow 32 = .ok (.istore_n 2, 1) := by decide +kernel
theorem dX9_planNow_33 : decode cX9_planNow 33 = .ok (.aload_n 0, 1) := by decide +kernel
theorem dX9_planNow_34 : decode cX9_planNow 34 = .ok (.iload_n 1, 1) := by decide +kernel
theorem dX9_planNow_35 : decode cX9_planNow 35 = .ok (.iload_n 2, 1) := by decide +kernel
theorem dX9_planNow_36 : decode cX9_planNow 36 = .ok (.aload_n 0, 1) := by decide +kernel
theorem dX9_planNow_37 : decode cX9_planNow 37 = .ok (.iload_n 1, 1) := by decide +kernel
theorem dX9_planNow_38 : decode cX9_planNow 38 = .ok (.invokevirtual 277, 3) := by decide +kernel
theorem dX9_planNow_41 : decode cX9_planNow 41 = .ok (.aload_n 0, 1) := by decide +kernel
theorem dX9_planNow_42 : decode cX9_planNow 42 = .ok (.iload_n 1, 1) := by decide +kernel
theorem dX9_planNow_43 : decode cX9_planNow 43 = .ok (.iconst 0, 1) := by decide +kernel
theorem dX9_planNow_44 : decode cX9_planNow 44 = .ok (.invokevirtual 106, 3) := by decide +kernel
theorem dX9_planNow_47 : decode cX9_planNow 47 = .ok (.aload_n 0, 1) := by decide +kernel
theorem dX9_planNow_48 : decode cX9_planNow 48 = .ok (.iload_n 1, 1) := by decide +kernel
theorem dX9_planNow_49 : decode cX9_planNow 49 = .ok (.iconst 4, 1) := by decide +kernel
theorem dX9_planNow_50 : decode cX9_planNow 50 = .ok (.invokevirtual 106, 3) := by decide +kernel
theorem dX9_planNow_53 : decode cX9_planNow 53 = .ok (.aload_n 0, 1) := by decide +kernel
theorem dX9_planNow_54 : decode cX9_planNow 54 = .ok (.iload_n 1, 1) := by decide +kernel
theorem dX9_planNow_55 : decode cX9_planNow 55 = .ok (.bipush 7, 2) := by decide +kernel
theorem dX9_planNow_57 : decode cX9_planNow 57 = .ok (.iload_n 2, 1) := by decide +kernel
theorem dX9_planNow_58 : decode cX9_planNow 58 = .ok (.iadd, 1) := by decide +kernel
theorem dX9_planNow_59 : decode cX9_planNow 59 = .ok (.invokevirtual 106, 3) := by decide +kernel
theorem dX9_planNow_62 : decode cX9_planNow 62 = .ok (.aload_n 0, 1) := by decide +kernel
theorem dX9_planNow_63 : decode cX9_planNow 63 = .ok (.iload_n 1, 1) := by decide +kernel
theorem dX9_planNow_64 : decode cX9_planNow 64 = .ok (.invokevirtual 280, 3) := by decide +kernel
theorem dX9_planNow_67 : decode cX9_planNow 67 = .ok (.invokevirtual 270, 3) := by decide +kernel
theorem dX9_planNow_70 : decode cX9_planNow 70 = .ok (.ireturn, 1) := by decide +kernel
set_option maxRecDepth 20000 in
theorem ggX9_chanceOf_X9_aimsReach : GoodIn wsX9_chanceOf wsX9_aimsReach := goodIn_r _ [5, 6, 7, 74, 75, 76, 77, 78, 79, 80, 81, 82, 83, 84, 85, 86, 87, 88, 89, 90, 91, 92, 93, 94, 95, 96, 97, 98, 99, 100, 101, 102, 103, 104, 105, 106, 107, 108, 109, 110, 111, 112, 113] (by decide +kernel) (by decide +kernel)
set_option maxRecDepth 20000 in
theorem gX9_chanceOf_X9_aimsReach : GoodIn wsX9_chanceOf (wsV RX9 283 RX9 yX9_aimsReach wsX9_aimsReach) := goodIn_app (goodIn_of _ (by decide +kernel)) ggX9_chanceOf_X9_aimsReach
set_option maxRecDepth 20000 in
theorem ggX9_chanceOf_X9_planNow : GoodIn wsX9_chanceOf wsX9_planNow := goodIn_r _ [11, 6, 12, 13, 14, 15, 4, 16, 17, 18, 19, 20, 21, 22, 23, 24, 25, 26, 27, 28, 29, 30, 31, 32, 33, 34, 35, 36, 37, 38, 39, 40, 41, 42, 43, 44, 45, 46, 47, 48, 49, 50, 51, 52, 53, 54, 55, 56, 57, 58, 59, 60, 61, 62, 63, 64, 65, 66, 67, 68, 69, 70, 71, 72, 73, 74, 75, 76, 77, 78, 79, 80, 81, 82, 83, 84, 85, 86, 87, 88, 89, 90, 91, 92, 93, 94, 95, 96, 97, 98, 99, 100, 101, 102, 103, 104, 105, 106, 107, 108, 109, 110, 111, 112, 113] (by decide +kernel) (by decide +kernel)
