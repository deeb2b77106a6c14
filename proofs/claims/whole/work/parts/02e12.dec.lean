theorem dX9_sets_10 : decode cX9_sets 10 = .ok (.iload_n 2, 1) := by decide +kernel
theorem dX9_sets_11 : decode cX9_sets 11 = .ok (.iadd, 1) := by decide +kernel
theorem dX9_sets_12 : decode cX9_sets 12 = .ok (.iload_n 3, 1) := by decide +kernel
theorem dX9_sets_13 : decode cX9_sets 13 = .ok (.iastore, 1) := by decide +kernel
theorem dX9_sets_14 : decode cX9_sets 14 = .ok (.return_, 1) := by decide +kernel
theorem dX9_isOver_0 : decode cX9_isOver 0 = .ok (.aload_n 0, 1) := by decide +kernel
theorem dX9_isOver_1 : decode cX9_isOver 1 = .ok (.getfield 32, 3) := by decide +kernel
theorem dX9_isOver_4 : decode cX9_isOver 4 = .ok (.iconst 0, 1) := by decide +kernel
theorem dX9_isOver_5 : decode cX9_isOver 5 = .ok (.iaload, 1) := by decide +kernel
theorem dX9_isOver_6 : decode cX9_isOver 6 = .ok (.iconst 3, 1) := by decide +kernel
theorem dX9_isOver_7 : decode cX9_isOver 7 = .ok (.if_icmp .ne 7, 3) := by decide +kernel
theorem dX9_isOver_10 : decode cX9_isOver 10 = .ok (.iconst 1, 1) := by decide +kernel
theorem dX9_isOver_11 : decode cX9_isOver 11 = .ok (.goto 4, 3) := by decide +kernel
theorem dX9_isOver_14 : decode cX9_isOver 14 = .ok (.iconst 0, 1) := by decide +kernel
theorem dX9_isOver_15 : decode cX9_isOver 15 = .ok (.ireturn, 1) := by decide +kernel
set_option maxRecDepth 20000 in
theorem ggX9_isOut_X9_of : GoodIn wsX9_isOut wsX9_of := goodIn_r _ [5, 6, 7, 8, 9, 10, 11, 12, 13, 14, 15, 16, 17, 18, 19, 20, 21, 22, 23, 24, 25, 26, 27, 28, 29, 30, 31, 32, 33, 34, 35, 36, 37, 38, 39, 40, 41, 42, 43, 44, 45, 46] (by decide +kernel) (by decide +kernel)
set_option maxRecDepth 20000 in
theorem gX9_isOut_X9_of : GoodIn wsX9_isOut (wsV RX9 106 RX9 yX9_of wsX9_of) := goodIn_app (goodIn_of _ (by decide +kernel)) ggX9_isOut_X9_of
theorem dX9_isOut_0 : decode cX9_isOut 0 = .ok (.aload_n 0, 1) := by decide +kernel
theorem dX9_isOut_1 : decode cX9_isOut 1 = .ok (.iload_n 1, 1) := by decide +kernel
theorem dX9_isOut_2 : decode cX9_isOut 2 = .ok (.bipush 6, 2) := by decide +kernel
theorem dX9_isOut_4 : decode cX9_isOut 4 = .ok (.invokevirtual 106, 3) := by decide +kernel
theorem dX9_isOut_7 : decode cX9_isOut 7 = .ok (.iconst 1, 1) := by decide +kernel
theorem dX9_isOut_8 : decode cX9_isOut 8 = .ok (.if_icmp .ne 7, 3) := by decide +kernel
theorem dX9_isOut_11 : decode cX9_isOut 11 = .ok (.iconst 1, 1) := by decide +kernel
theorem dX9_isOut_12 : decode cX9_isOut 12 = .ok (.goto 4, 3) := by decide +kernel
theorem dX9_isOut_15 : decode cX9_isOut 15 = .ok (.iconst 0, 1) := by decide +kernel
theorem dX9_isOut_16 : decode cX9_isOut 16 = .ok (.ireturn, 1) := by decide +kernel
theorem dX9_changesAtFirst_0 : decode cX9_changesAtFirst 0 = .ok (.aload_n 0, 1) := by decide +kernel
theorem dX9_changesAtFirst_1 : decode cX9_changesAtFirst 1 = .ok (.getfield 32, 3) := by decide +kernel
theorem dX9_changesAtFirst_4 : decode cX9_changesAtFirst 4 = .ok (.iconst 1, 1) := by decide +kernel
theorem dX9_changesAtFirst_5 : decode cX9_changesAtFirst 5 = .ok (.iaload, 1) := by decide +kernel
theorem dX9_changesAtFirst_6 : decode cX9_changesAtFirst 6 = .ok (.ifCond .ne 7, 3) := by decide +kernel
theorem dX9_changesAtFirst_9 : decode cX9_changesAtFirst 9 = .ok (.iconst 1, 1) := by decide +kernel
theorem dX9_changesAtFirst_10 : decode cX9_changesAtFirst 10 = .ok (.goto 28, 3) := by decide +kernel
theorem dX9_changesAtFirst_13 : decode cX9_changesAtFirst 13 = .ok (.aload_n 0, 1) := by decide +kernel
theorem dX9_changesAtFirst_14 : decode cX9_changesAtFirst 14 = .ok (.getfield 32, 3) := by decide +kernel
theorem dX9_changesAtFirst_17 : decode cX9_changesAtFirst 17 = .ok (.iconst 1, 1) := by decide +kernel
theorem dX9_changesAtFirst_18 : decode cX9_changesAtFirst 18 = .ok (.iaload, 1) := by decide +kernel
theorem dX9_changesAtFirst_19 : decode cX9_changesAtFirst 19 = .ok (.iconst 2, 1) := by decide +kernel
theorem dX9_changesAtFirst_20 : decode cX9_changesAtFirst 20 = .ok (.if_icmp .ne 17, 3) := by decide +kernel
theorem dX9_changesAtFirst_23 : decode cX9_changesAtFirst 23 = .ok (.aload_n 0, 1) := by decide +kernel
theorem dX9_changesAtFirst_24 : decode cX9_changesAtFirst 24 = .ok (.getfield 32, 3) := by decide +kernel
theorem dX9_changesAtFirst_27 : decode cX9_changesAtFirst 27 = .ok (.iconst 0, 1) := by decide +kernel
theorem dX9_changesAtFirst_28 : decode cX9_changesAtFirst 28 = .ok (.iaload, 1) := by decide +kernel
theorem dX9_changesAtFirst_29 : decode cX9_changesAtFirst 29 = .ok (.iconst 2, 1) := by decide +kernel
theorem dX9_changesAtFirst_30 : decode cX9_changesAtFirst 30 = .ok (.if_icmp .ne 7, 3) := by decide +kernel
theorem dX9_changesAtFirst_33 : decode cX9_changesAtFirst 33 = .ok (.iconst 2, 1) := by decide +kernel
theorem dX9_changesAtFirst_34 : decode cX9_changesAtFirst 34 = .ok (.goto 4, 3) := by decide +kernel
theorem dX9_changesAtFirst_37 : decode cX9_changesAtFirst 37 = .ok (.iconst 0, 1) := by decide +kernel
theorem dX9_changesAtFirst_38 : decode cX9_changesAtFirst 38 = .ok (.ireturn, 1) := by decide +kernel
set_option maxRecDepth 20000 in
theorem ggX9_roundBegins_X9_sets : GoodIn wsX9_roundBegins wsX9_sets := goodIn_r _ [7, 1, 16, 17, 18, 19, 20, 21, 22, 23, 24, 25, 26, 27, 28, 29, 30, 31, 32, 33, 34, 35, 36, 37, 38, 39, 40, 41, 42, 43, 44, 45, 46, 47, 48, 49, 50, 51, 52, 53, 54, 55] (by decide +kernel) (by decide +kernel)
set_option maxRecDepth 20000 in
theorem gX9_roundBegins_X9_sets : GoodIn wsX9_roundBegins (wsV RX9 109 RX9 yX9_sets wsX9_sets) := goodIn_app (goodIn_of _ (by decide +kernel)) ggX9_roundBegins_X9_sets
set_option maxRecDepth 20000 in
theorem ggX9_roundBegins_X9_isOver : GoodIn wsX9_roundBegins wsX9_isOver := goodIn_r _ [11, 1, 16, 17, 18, 19, 20, 21, 22, 23, 24, 25, 26, 27, 28, 29, 30, 31, 32, 33, 34, 35, 36, 37, 38, 39, 40, 41, 42, 43, 44, 45, 46, 47, 48, 49, 50, 51, 52, 53, 54, 55] (by decide +kernel) (by decide +kernel)
set_option maxRecDepth 20000 in
theorem gX9_roundBegins_X9_isOver : GoodIn wsX9_roundBegins (wsV RX9 113 RX9 yX9_isOver wsX9_isOver) := goodIn_app (goodIn_of _ (by decide +kernel)) ggX9_roundBegins_X9_isOver
set_option maxRecDepth 20000 in
theorem ggX9_roundBegins_X9_changesAtFirst : GoodIn wsX9_roundBegins wsX9_changesAtFirst := goodIn_r _ [15, 1, 16, 17, 18, 19, 20, 21, 22, 23, 24, 25, 26, 27, 28, 29, 30, 31, 32, 33, 34, 35, 36, 37, 38, 39, 40, 41, 42, 43, 44, 45, 46, 47, 48, 49, 50, 51, 52, 53, 54, 55] (by decide +kernel) (by decide +kernel)
set_option maxRecDepth 20000 in
theorem gX9_roundBegins_X9_changesAtFirst : GoodIn wsX9_roundBegins (wsV RX9 117 RX9 yX9_changesAtFirst wsX9_changesAtFirst) := goodIn_app (goodIn_of _ (by decide +kernel)) ggX9_roundBegins_X9_changesAtFirst
theorem dX9_roundBegins_0 : decode cX9_roundBegins 0 = .ok (.aload_n 0, 1) := by decide +kernel
theorem dX9_roundBegins_1 : decode cX9_roundBegins 1 = .ok (.getfield 32, 3) := by decide +kernel
theorem dX9_roundBegins_4 : decode cX9_roundBegins 4 = .ok (.iconst 2, 1) := by decide +kernel
theorem dX9_roundBegins_5 : decode cX9_roundBegins 5 = .ok (.iconst 0, 1) := by decide +kernel
theorem dX9_roundBegins_6 : decode cX9_roundBegins 6 = .ok (.iastore, 1) := by decide +kernel
theorem dX9_roundBegins_7 : decode cX9_roundBegins 7 = .ok (.iconst 0, 1) := by decide +kernel
theorem dX9_roundBegins_8 : decode cX9_roundBegins 8 = .ok (.istore_n 1, 1) := by decide +kernel
theorem dX9_roundBegins_9 : decode cX9_roundBegins 9 = .ok (.iload_n 1, 1) := by decide +kernel
theorem dX9_roundBegins_10 : decode cX9_roundBegins 10 = .ok (.aload_n 0, 1) := by decide +kernel
theorem dX9_roundBegins_11 : decode cX9_roundBegins 11 = .ok (.getfield 84, 3) := by decide +kernel
theorem dX9_roundBegins_14 : decode cX9_roundBegins 14 = .ok (.if_icmp .ge 37, 3) := by decide +kernel
theorem dX9_roundBegins_17 : decode cX9_roundBegins 17 = .ok (.aload_n 0, 1) := by decide +kernel
theorem dX9_roundBegins_18 : decode cX9_roundBegins 18 = .ok (.iload_n 1, 1) := by decide +kernel
theorem dX9_roundBegins_19 : decode cX9_roundBegins 19 = .ok (.iconst 1, 1) := by decide +kernel
theorem dX9_roundBegins_20 : decode cX9_roundBegins 20 = .ok (.iconst 0, 1) := by decide +kernel
theorem dX9_roundBegins_21 : decode cX9_roundBegins 21 = .ok (.invokevirtual 109, 3) := by decide +kernel
theorem dX9_roundBegins_24 : decode cX9_roundBegins 24 = .ok (.aload_n 0, 1) := by decide +kernel
theorem dX9_roundBegins_25 : decode cX9_roundBegins 25 = .ok (.iload_n 1, 1) := by decide +kernel
theorem dX9_roundBegins_26 : decode cX9_roundBegins 26 = .ok (.iconst 5, 1) := by decide +kernel
theorem dX9_roundBegins_27 : decode cX9_roundBegins 27 = .ok (.aload_n 0, 1) := by decide +kernel
theorem dX9_roundBegins_28 : decode cX9_roundBegins 28 = .ok (.invokevirtual 113, 3) := by decide +kernel
theorem dX9_roundBegins_31 : decode cX9_roundBegins 31 = .ok (.ifCond .eq 7, 3) := by decide +kernel
theorem dX9_roundBegins_34 : decode cX9_roundBegins 34 = .ok (.iconst 0, 1) := by decide +kernel
theorem dX9_roundBegins_35 : decode cX9_roundBegins 35 = .ok (.goto 7, 3) := by decide +kernel
theorem dX9_roundBegins_38 : decode cX9_roundBegins 38 = .ok (.aload_n 0, 1) := by decide +kernel
theorem dX9_roundBegins_39 : decode cX9_roundBegins 39 = .ok (.invokevirtual 117, 3) := by decide +kernel
theorem dX9_roundBegins_42 : decode cX9_roundBegins 42 = .ok (.invokevirtual 109, 3) := by decide +kernel
theorem dX9_roundBegins_45 : decode cX9_roundBegins 45 = .ok (.iinc 1 1, 3) := by decide +kernel
theorem dX9_roundBegins_48 : decode cX9_roundBegins 48 = .ok (.goto (-39), 3) := by decide +kernel
theorem dX9_roundBegins_51 : decode cX9_roundBegins 51 = .ok (.return_, 1) := by decide +kernel
set_option maxRecDepth 20000 in
theorem ggX9_liftBegins_X9_isOver : GoodIn wsX9_liftBegins wsX9_isOver := goodIn_r _ [7, 1, 33, 34, 35, 36, 37, 38, 39, 40, 41, 42, 43, 44, 45, 46, 47, 48, 49, 50, 51, 52, 53, 54, 55, 56, 57, 58, 59, 60, 61, 62, 63, 64, 65, 66, 67, 68, 69, 70, 71, 72] (by decide +kernel) (by decide +kernel)
set_option maxRecDepth 20000 in
theorem gX9_liftBegins_X9_isOver : GoodIn wsX9_liftBegins (wsV RX9 113 RX9 yX9_isOver wsX9_isOver) := goodIn_app (goodIn_of _ (by decide +kernel)) ggX9_liftBegins_X9_isOver
set_option maxRecDepth 20000 in
theorem ggX9_liftBegins_X9_isOut : GoodIn wsX9_liftBegins wsX9_isOut := goodIn_r _ [11, 12, 13, 14, 6, 15, 1, 33, 34, 35, 36, 37, 38, 39, 40, 41, 42, 43, 44, 45, 46, 47, 48, 49, 50, 51, 52, 53, 54, 55, 56, 57, 58, 59, 60, 61, 62, 63, 64, 65, 66, 67, 68, 69, 70, 71, 72] (by decide +kernel) (by decide +kernel)
set_option maxRecDepth 20000 in
theorem gX9_liftBegins_X9_isOut : GoodIn wsX9_liftBegins (wsV RX9 121 RX9 yX9_isOut wsX9_isOut) := goodIn_app (goodIn_of _ (by decide +kernel)) ggX9_liftBegins_X9_isOut
set_option maxRecDepth 20000 in
theorem ggX9_liftBegins_X9_planOf : GoodIn wsX9_liftBegins wsX9_planOf := goodIn_r _ [19, 20, 33, 34, 35, 36, 37, 38, 39, 40, 41, 42, 43, 44, 45, 46, 47, 48, 49, 50, 51, 52, 53, 54, 55, 56, 57, 58, 59, 60, 61, 62, 63, 64, 65, 66, 67, 68, 69, 70, 71, 72] (by decide +kernel) (by decide +kernel)
set_option maxRecDepth 20000 in
theorem gX9_liftBegins_X9_planOf : GoodIn wsX9_liftBegins (wsV RX9 125 RX9 yX9_planOf wsX9_planOf) := goodIn_app (goodIn_of _ (by decide +kernel)) ggX9_liftBegins_X9_planOf
set_option maxRecDepth 20000 in
theorem ggX9_liftBegins_X9_sets : GoodIn wsX9_liftBegins wsX9_sets := goodIn_r _ [24, 1, 33, 34, 35, 36, 37, 38, 39, 40, 41, 42, 43, 44, 45, 46, 47, 48, 49, 50, 51, 52, 53, 54, 55, 56, 57, 58, 59, 60, 61, 62, 63, 64, 65, 66, 67, 68, 69, 70, 71, 72] (by decide +kernel) (by decide +kernel)
set_option maxRecDepth 20000 in
theorem gX9_liftBegins_X9_sets : GoodIn wsX9_liftBegins (wsV RX9 109 RX9 yX9_sets wsX9_sets) := goodIn_app (goodIn_of _ (by decide +kernel)) ggX9_liftBegins_X9_sets
set_option maxRecDepth 20000 in
theorem ggX9_liftBegins_X9_roundBegins : GoodIn wsX9_liftBegins wsX9_roundBegins := goodIn_r _ [28, 1, 2, 21, 22, 23, 6, 24, 3, 4, 5, 7, 29, 30, 31, 32, 33, 34, 35, 36, 37, 38, 39, 40, 41, 42, 43, 44, 45, 46, 47, 48, 49, 50, 51, 52, 53, 54, 55, 56, 57, 58, 59, 60, 61, 62, 63, 64, 65, 66, 67, 68, 69, 70, 71, 72] (by decide +kernel) (by decide +kernel)
set_option maxRecDepth 20000 in
theorem gX9_liftBegins_X9_roundBegins : GoodIn wsX9_liftBegins (wsV RX9 128 RX9 yX9_roundBegins wsX9_roundBegins) := goodIn_app (goodIn_of _ (by decide +kernel)) ggX9_liftBegins_X9_roundBegins
theorem dX9_liftBegins_0 : decode cX9_liftBegins 0 = .ok (.aload_n 0, 1) := by decide +kernel
theorem dX9_liftBegins_1 : decode cX9_liftBegins 1 = .ok (.getfield 32, 3) := by decide +kernel
theorem dX9_liftBegins_4 : decode cX9_liftBegins 4 = .ok (.iconst 1, 1) := by decide +kernel
theorem dX9_liftBegins_5 : decode cX9_liftBegins 5 = .ok (.iconst 0, 1) := by decide +kernel
theorem dX9_liftBegins_6 : decode cX9_liftBegins 6 = .ok (.iastore, 1) := by decide +kernel
theorem dX9_liftBegins_7 : decode cX9_liftBegins 7 = .ok (.iconst 0, 1) := by decide +kernel
theorem dX9_liftBegins_8 : decode cX9_liftBegins 8 = .ok (.istore_n 1, 1) := by decide +kernel
theorem dX9_liftBegins_9 : decode cX9_liftBegins 9 = .ok (.iload_n 1, 1) := by decide +kernel
theorem dX9_liftBegins_10 : decode cX9_liftBegins 10 = .ok (.aload_n 0, 1) := by decide +kernel
theorem dX9_liftBegins_11 : decode cX9_liftBegins 11 = .ok (.getfield 84, 3) := by decide +kernel
theorem dX9_liftBegins_14 : decode cX9_liftBegins 14 = .ok (.if_icmp .ge 67, 3) := by decide +kernel
theorem dX9_liftBegins_17 : decode cX9_liftBegins 17 = .ok (.aload_n 0, 1) := by decide +kernel
theorem dX9_liftBegins_18 : decode cX9_liftBegins 18 = .ok (.iload_n 1, 1) := by decide +kernel
theorem dX9_liftBegins_19 : decode cX9_liftBegins 19 = .ok (.iconst 0, 1) := by decide +kernel
theorem dX9_liftBegins_20 : decode cX9_liftBegins 20 = .ok (.aload_n 0, 1) := by decide +kernel
theorem dX9_liftBegins_21 : decode cX9_liftBegins 21 = .ok (.invokevirtual 113, 3) := by decide +kernel
theorem dX9_liftBegins_24 : decode cX9_liftBegins 24 = .ok (.ifCond .ne 11, 3) := by decide +kernel
theorem dX9_liftBegins_27 : decode cX9_liftBegins 27 = .ok (.aload_n 0, 1) := by decide +kernel
theorem dX9_liftBegins_28 : decode cX9_liftBegins 28 = .ok (.iload_n 1, 1) := by decide +kernel
theorem dX9_liftBegins_29 : decode cX9_liftBegins 29 = .ok (.invokevirtual 121, 3) := by decide +kernel
theorem dX9_liftBegins_32 : decode cX9_liftBegins 32 = .ok (.ifCond .eq 7, 3) := by decide +kernel
theorem dX9_liftBegins_35 : decode cX9_liftBegins 35 = .ok (.iconst 0, 1) := by decide +kernel
theorem dX9_liftBegins_36 : decode cX9_liftBegins 36 = .ok (.goto 15, 3) := by decide +kernel
theorem dX9_liftBegins_39 : decode cX9_liftBegins 39 = .ok (.aload_n 0, 1) := by decide +kernel
theorem dX9_liftBegins_40 : decode cX9_liftBegins 40 = .ok (.iload_n 1, 1) := by decide +kernel
theorem dX9_liftBegins_41 : decode cX9_liftBegins 41 = .ok (.aload_n 0, 1) := by decide +kernel
theorem dX9_liftBegins_42 : decode cX9_liftBegins 42 = .ok (.getfield 32, 3) := by decide +kernel
theorem dX9_liftBegins_45 : decode cX9_liftBegins 45 = .ok (.iconst 0, 1) := by decide +kernel
theorem dX9_liftBegins_46 : decode cX9_liftBegins 46 = .ok (.iaload, 1) := by decide +kernel
theorem dX9_liftBegins_47 : decode cX9_liftBegins 47 = .ok (.iconst 0, 1) := by decide +kernel
theorem dX9_liftBegins_48 : decode cX9_liftBegins 48 = .ok (.invokevirtual 125, 3) := by decide +kernel
theorem dX9_liftBegins_51 : decode cX9_liftBegins 51 = .ok (.invokevirtual 109, 3) := by decide +kernel
theorem dX9_liftBegins_54 : decode cX9_liftBegins 54 = .ok (.aload_n 0, 1) := by decide +kernel
theorem dX9_liftBegins_55 : decode cX9_liftBegins 55 = .ok (.iload_n 1, 1) := by decide +kernel
theorem dX9_liftBegins_56 : decode cX9_liftBegins 56 = .ok (.iconst 2, 1) := by decide +kernel
theorem dX9_liftBegins_57 : decode cX9_liftBegins 57 = .ok (.iconst 0, 1) := by decide +kernel
theorem dX9_liftBegins_58 : decode cX9_liftBegins 58 = .ok (.invokevirtual 109, 3) := by decide +kernel
theorem dX9_liftBegins_61 : decode cX9_liftBegins 61 = .ok (.aload_n 0, 1) := by decide +kernel
theorem dX9_liftBegins_62 : decode cX9_liftBegins 62 = .ok (.iload_n 1, 1) := by decide +kernel
theorem dX9_liftBegins_63 : decode cX9_liftBegins 63 = .ok (.iconst 3, 1) := by decide +kernel
theorem dX9_liftBegins_64 : decode cX9_liftBegins 64 = .ok (.iconst 0, 1) := by decide +kernel
theorem dX9_liftBegins_65 : decode cX9_liftBegins 65 = .ok (.invokevirtual 109, 3) := by decide +kernel
theorem dX9_liftBegins_68 : decode cX9_liftBegins 68 = .ok (.aload_n 0, 1) := by decide +kernel
theorem dX9_liftBegins_69 : decode cX9_liftBegins 69 = .ok (.iload_n 1, 1) := by decide +kernel
theorem dX9_liftBegins_70 : decode cX9_liftBegins 70 = .ok (.iconst 4, 1) := by decide +kernel
theorem dX9_liftBegins_71 : decode cX9_liftBegins 71 = .ok (.iconst 0, 1) := by decide +kernel
theorem dX9_liftBegins_72 : decode cX9_liftBegins 72 = .ok (.invokevirtual 109, 3) := by decide +kernel
theorem dX9_liftBegins_75 : decode cX9_liftBegins 75 = .ok (.iinc 1 1, 3) := by decide +kernel
theorem dX9_liftBegins_78 : decode cX9_liftBegins 78 = .ok (.goto (-69), 3) := by decide +kernel
theorem dX9_liftBegins_81 : decode cX9_liftBegins 81 = .ok (.aload_n 0, 1) := by decide +kernel
theorem dX9_liftBegins_82 : decode cX9_liftBegins 82 = .ok (.invokevirtual 128, 3) := by decide +kernel
theorem dX9_liftBegins_85 : decode cX9_liftBegins 85 = .ok (.return_, 1) := by decide +kernel
set_option maxRecDepth 20000 in
theorem ggX9_meetBegins_X9_liftBegins : GoodIn wsX9_meetBegins wsX9_liftBegins := goodIn_r _ [8, 1, 9, 10, 11, 12, 7, 13, 14, 15, 16, 17, 18, 19, 20, 21, 22, 23, 24, 25, 26, 27, 28, 29, 30, 31, 32, 33, 34, 35, 36, 37, 38, 39, 40, 41, 42, 43, 44, 45, 46, 47, 48, 49, 50, 51, 52, 53, 54, 55, 56, 57, 58, 59, 60, 61, 62, 63, 64, 65, 66, 67, 68, 69, 70, 71, 72, 73, 74, 75, 76, 77, 78] (by decide +kernel) (by decide +kernel)
set_option maxRecDepth 20000 in
theorem gX9_meetBegins_X9_liftBegins : GoodIn wsX9_meetBegins (wsV RX9 137 RX9 yX9_liftBegins wsX9_liftBegins) := goodIn_app (goodIn_of _ (by decide +kernel)) ggX9_meetBegins_X9_liftBegins
theorem dX9_meetBegins_0 : decode cX9_meetBegins 0 = .ok (.iconst 0, 1) := by decide +kernel
theorem dX9_meetBegins_1 : decode cX9_meetBegins 1 = .ok (.istore_n 1, 1) := by decide +kernel
theorem dX9_meetBegins_2 : decode cX9_meetBegins 2 = .ok (.iload_n 1, 1) := by decide +kernel
theorem dX9_meetBegins_3 : decode cX9_meetBegins 3 = .ok (.aload_n 0, 1) := by decide +kernel
theorem dX9_meetBegins_4 : decode cX9_meetBegins 4 = .ok (.getfield 32, 3) := by decide +kernel
theorem dX9_meetBegins_7 : decode cX9_meetBegins 7 = .ok (.arraylength, 1) := by decide +kernel
theorem dX9_meetBegins_8 : decode cX9_meetBegins 8 = .ok (.if_icmp .ge 16, 3) := by decide +kernel
theorem dX9_meetBegins_11 : decode cX9_meetBegins 11 = .ok (.aload_n 0, 1) := by decide +kernel
theorem dX9_meetBegins_12 : decode cX9_meetBegins 12 = .ok (.getfield 32, 3) := by decide +kernel
theorem dX9_meetBegins_15 : decode cX9_meetBegins 15 = .ok (.iload_n 1, 1) := by decide +kernel
theorem dX9_meetBegins_16 : decode cX9_meetBegins 16 = .ok (.iconst 0, 1) := by decide +kernel
theorem dX9_meetBegins_17 : decode cX9_meetBegins 17 = .ok (.iastore, 1) := by decide +kernel
theorem dX9_meetBegins_18 : decode cX9_meetBegins 18 = .ok (.iinc 1 1, 3) := by decide +kernel
theorem dX9_meetBegins_21 : decode cX9_meetBegins 21 = .ok (.goto (-19), 3) := by decide +kernel
theorem dX9_meetBegins_24 : decode cX9_meetBegins 24 = .ok (.aload_n 0, 1) := by decide +kernel
theorem dX9_meetBegins_25 : decode cX9_meetBegins 25 = .ok (.iconst 0, 1) := by decide +kernel
theorem dX9_meetBegins_26 : decode cX9_meetBegins 26 = .ok (.putfield 131, 3) := by decide +kernel
theorem dX9_meetBegins_29 : decode cX9_meetBegins 29 = .ok (.aload_n 0, 1) := by decide +kernel
theorem dX9_meetBegins_30 : decode cX9_meetBegins 30 = .ok (.iconst 0, 1) := by decide +kernel
theorem dX9_meetBegins_31 : decode cX9_meetBegins 31 = .ok (.putfield 134, 3) := by decide +kernel
theorem dX9_meetBegins_34 : decode cX9_meetBegins 34 = .ok (.aload_n 0, 1) := by decide +kernel
theorem dX9_meetBegins_35 : decode cX9_meetBegins 35 = .ok (.invokevirtual 137, 3) := by decide +kernel
theorem dX9_meetBegins_38 : decode cX9_meetBegins 38 = .ok (.return_, 1) := by decide +kernel
set_option maxRecDepth 20000 in
theorem ggX9_isStill_X9_of : GoodIn wsX9_isStill wsX9_of := goodIn_r _ [5, 6, 15, 16, 17, 18, 19, 20, 21, 22, 23, 24, 25, 26, 27, 28, 29, 30, 31, 32, 33, 34, 35, 36, 37, 38, 39, 40, 41, 42, 43, 44, 45, 46, 47, 48, 49, 50, 51, 52, 53, 54] (by decide +kernel) (by decide +kernel)
set_option maxRecDepth 20000 in
theorem gX9_isStill_X9_of : GoodIn wsX9_isStill (wsV RX9 106 RX9 yX9_of wsX9_of) := goodIn_app (goodIn_of _ (by decide +kernel)) ggX9_isStill_X9_of
set_option maxRecDepth 20000 in
theorem ggX9_isStill_X9_isOut : GoodIn wsX9_isStill wsX9_isOut := goodIn_r _ [10, 1, 2, 3, 4, 5, 6, 15, 16, 17, 18, 19, 20, 21, 22, 23, 24, 25, 26, 27, 28, 29, 30, 31, 32, 33, 34, 35, 36, 37, 38, 39, 40, 41, 42, 43, 44, 45, 46, 47, 48, 49, 50, 51, 52, 53, 54] (by decide +kernel) (by decide +kernel)
set_option maxRecDepth 20000 in
theorem gX9_isStill_X9_isOut : GoodIn wsX9_isStill (wsV RX9 121 RX9 yX9_isOut wsX9_isOut) := goodIn_app (goodIn_of _ (by decide +kernel)) ggX9_isStill_X9_isOut
set_option maxRecDepth 20000 in
theorem ggX9_isStill_X9_isOver : GoodIn wsX9_isStill wsX9_isOver := goodIn_r _ [14, 6, 15, 16, 17, 18, 19, 20, 21, 22, 23, 24, 25, 26, 27, 28, 29, 30, 31, 32, 33, 34, 35, 36, 37, 38, 39, 40, 41, 42, 43, 44, 45, 46, 47, 48, 49, 50, 51, 52, 53, 54] (by decide +kernel) (by decide +kernel)
set_option maxRecDepth 20000 in
theorem gX9_isStill_X9_isOver : GoodIn wsX9_isStill (wsV RX9 113 RX9 yX9_isOver wsX9_isOver) := goodIn_app (goodIn_of _ (by decide +kernel)) ggX9_isStill_X9_isOver
theorem dX9_isStill_0 : decode cX9_isStill 0 = .ok (.aload_n 0, 1) := by decide +kernel
theorem dX9_isStill_1 : decode cX9_isStill 1 = .ok (.iload_n 1, 1) := by decide +kernel
theorem dX9_isStill_2 : decode cX9_isStill 2 = .ok (.iconst 0, 1) := by decide +kernel
theorem dX9_isStill_3 : decode cX9_isStill 3 = .ok (.invokevirtual 106, 3) := by decide +kernel
theorem dX9_isStill_6 : decode cX9_isStill 6 = .ok (.ifCond .le 31, 3) := by decide +kernel
theorem dX9_isStill_9 : decode cX9_isStill 9 = .ok (.aload_n 0, 1) := by decide +kernel
theorem dX9_isStill_10 : decode cX9_isStill 10 = .ok (.iload_n 1, 1) := by decide +kernel
