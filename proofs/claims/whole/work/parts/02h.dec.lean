theorem dX9_changesAtFirst_18 : decode cX9_changesAtFirst 18 = .ok (.iaload, 1) := by decide +kernel
theorem dX9_changesAtFirst_19 : decode cX9_changesAtFirst 19 = .ok (.iconst 2, 1) := by decide +kernel
theorem dX9_changesAtFirst_20 : decode cX9_changesAtFirst 20 = .ok (.if_icmp .ne 17, 3) := by decide +kernel
theorem dX9_changesAtFirst_23 : decode cX9_changesAtFirst 23 = .ok (.aload_n 0, 1) := by decide +kernel
theorem dX9_changesAtFirst_24 : decode cX9_changesAtFirst 24 = .ok (.getfield 32, 3) := by decide +kernel
theorem dX9_changesAtFirst_27 : decode cX9_changesAtFirst 27 = .ok (.iconst 0, 1) := by decide +kernel
theorem dX9_changesAtFirst_28 : decode cX9_changesAtFirst 28 = .ok (.iaload, 1) := by decide +kernel
theorem dX9_changesAtFirst_29 : decode cX9_changesAtFirst 29 = .ok (.iconst 2, 1) := by decide +kernel
theorem dX9_changesAtFirst_30 : decode cX9_changesAtFirst 30 = .ok (.if_icmp .ne 7, 3) := by decide +kernel
theorem dX9_changesAtFirst_33 : decode cX9_changesAtFirst 33 = .ok (.iconst 2, 1) := by decide +kernel
theorem dX9_changesAtFirst_34 : decode cX9_changesAtFirst 34 = .ok (.goto 4, 3) := by decide +kernel
theorem dX9_changesAtFirst_37 : decode cX9_changesAtFirst 37 = .ok (.iconst 0, 1) := by decide +kernel
theorem dX9_changesAtFirst_38 : decode cX9_changesAtFirst 38 = .ok (.ireturn, 1) := by decide +kernel
set_option maxRecDepth 20000 in
theorem ggX9_roundBegins_X9_sets : GoodIn wsX9_roundBegins wsX9_sets := goodIn_r _ [7, 1, 16, 17, 18, 19, 20, 21, 22, 23, 24, 25, 26, 27, 28, 29, 30, 31, 32, 33, 34, 35, 36, 37, 38, 39, 40, 41, 42, 43, 44, 45, 46, 47, 48, 49, 50, 51, 52, 53, 54, 55] (by decide +kernel) (by decide +kernel)
set_option maxRecDepth 20000 in
theorem gX9_roundBegins_X9_sets : GoodIn wsX9_roundBegins (wsV RX9 109 RX9 yX9_sets wsX9_sets) := goodIn_app (goodIn_of _ (by decide +kernel)) ggX9_roundBegins_X9_sets
set_option maxRecDepth 20000 in
theorem ggX9_roundBegins_X9_isOver : GoodIn wsX9_roundBegins wsX9_isOver := goodIn_r _ [11, 1, 16, 17, 18, 19, 20, 21, 22, 23, 24, 25, 26, 27, 28, 29, 30, 31, 32, 33, 34, 35, 36, 37, 38, 39, 40, 41, 42, 43, 44, 45, 46, 47, 48, 49, 50, 51, 52, 53, 54, 55] (by decide +kernel) (by decide +kernel)
set_option maxRecDepth 20000 in
theorem gX9_roundBegins_X9_isOver : GoodIn wsX9_roundBegins (wsV RX9 113 RX9 yX9_isOver wsX9_isOver) := goodIn_app (goodIn_of _ (by decide +kernel)) ggX9_roundBegins_X9_isOver
set_option maxRecDepth 20000 in
theorem ggX9_roundBegins_X9_changesAtFirst : GoodIn wsX9_roundBegins wsX9_changesAtFirst := goodIn_r _ [15, 1, 16, 17, 18, 19, 20, 21, 22, 23, 24, 25, 26, 27, 28, 29, 30, 31, 32, 33, 34, 35, 36, 37, 38, 39, 40, 41, 42, 43, 44, 45, 46, 47, 48, 49, 50, 51, 52, 53, 54, 55] (by decide +kernel) (by decide +kernel)
set_option maxRecDepth 20000 in
theorem gX9_roundBegins_X9_changesAtFirst : GoodIn wsX9_roundBegins (wsV RX9 117 RX9 yX9_changesAtFirst wsX9_changesAtFirst) := goodIn_app (goodIn_of _ (by decide +kernel)) ggX9_roundBegins_X9_changesAtFirst
theorem dX9_roundBegins_0 : decode cX9_roundBegins 0 = .ok (.aload_n 0, 1) := by decide +kernel
theorem dX9_roundBegins_1 : decode cX9_roundBegins 1 = .ok (.getfield 32, 3) := by decide +kernel
theorem dX9_roundBegins_4 : decode cX9_roundBegins 4 = .ok (.iconst 2, 1) := by decide +kernel
theorem dX9_roundBegins_5 : decode cX9_roundBegins 5 = .ok (.iconst 0, 1) := by decide +kernel
theorem dX9_roundBegins_6 : decode cX9_roundBegins 6 = .ok (.iastore, 1) := by decide +kernel
theorem dX9_roundBegins_7 : decode cX9_roundBegins 7 = .ok (.iconst 0, 1) := by decide +kernel
theorem dX9_roundBegins_8 : decode cX9_roundBegins 8 = .ok (.istore_n 1, 1) := by decide +kernel
theorem dX9_roundBegins_9 : decode cX9_roundBegins 9 = .ok (.iload_n 1, 1) := by decide +kernel
theorem dX9_roundBegins_10 : decode cX9_roundBegins 10 = .ok (.aload_n 0, 1) := by decide +kernel
theorem dX9_roundBegins_11 : decode cX9_roundBegins 11 = .ok (.getfield 84, 3) := by decide +kernel
theorem dX9_roundBegins_14 : decode cX9_roundBegins 14 = .ok (.if_icmp .ge 37, 3) := by decide +kernel
theorem dX9_roundBegins_17 : decode cX9_roundBegins 17 = .ok (.aload_n 0, 1) := by decide +kernel
theorem dX9_roundBegins_18 : decode cX9_roundBegins 18 = .ok (.iload_n 1, 1) := by decide +kernel
theorem dX9_roundBegins_19 : decode cX9_roundBegins 19 = .ok (.iconst 1, 1) := by decide +kernel
theorem dX9_roundBegins_20 : decode cX9_roundBegins 20 = .ok (.iconst 0, 1) := by decide +kernel
theorem dX9_roundBegins_21 : decode cX9_roundBegins 21 = .ok (.invokevirtual 109, 3) := by decide +kernel
theorem dX9_roundBegins_24 : decode cX9_roundBegins 24 = .ok (.aload_n 0, 1) := by decide +kernel
theorem dX9_roundBegins_25 : decode cX9_roundBegins 25 = .ok (.iload_n 1, 1) := by decide +kernel
theorem dX9_roundBegins_26 : decode cX9_roundBegins 26 = .ok (.iconst 5, 1) := by decide +kernel
theorem dX9_roundBegins_27 : decode cX9_roundBegins 27 = .ok (.aload_n 0, 1) := by decide +kernel
theorem dX9_roundBegins_28 : decode cX9_roundBegins 28 = .ok (.invokevirtual 113, 3) := by decide +kernel
theorem dX9_roundBegins_31 : decode cX9_roundBegins 31 = .ok (.ifCond .eq 7, 3) := by decide +kernel
theorem dX9_roundBegins_34 : decode cX9_roundBegins 34 = .ok (.iconst 0, 1) := by decide +kernel
theorem dX9_roundBegins_35 : decode cX9_roundBegins 35 = .ok (.goto 7, 3) := by decide +kernel
theorem dX9_roundBegins_38 : decode cX9_roundBegins 38 = .ok (.aload_n 0, 1) := by decide +kernel
theorem dX9_roundBegins_39 : decode cX9_roundBegins 39 = .ok (.invokevirtual 117, 3) := by decide +kernel
theorem dX9_roundBegins_42 : decode cX9_roundBegins 42 = .ok (.invokevirtual 109, 3) := by decide +kernel
theorem dX9_roundBegins_45 : decode cX9_roundBegins 45 = .ok (.iinc 1 1, 3) := by decide +kernel
theorem dX9_roundBegins_48 : decode cX9_roundBegins 48 = .ok (.goto (-39), 3) := by decide +kernel
theorem dX9_roundBegins_51 : decode cX9_roundBegins 51 = .ok (.return_, 1) := by decide +kernel
set_option maxRecDepth 20000 in
theorem ggX9_liftBegins_X9_isOver : GoodIn wsX9_liftBegins wsX9_isOver := goodIn_r _ [7, 1, 33, 34, 35, 36, 37, 38, 39, 40, 41, 42, 43, 44, 45, 46, 47, 48, 49, 50, 51, 52, 53, 54, 55, 56, 57, 58, 59, 60, 61, 62, 63, 64, 65, 66, 67, 68, 69, 70, 71, 72] (by decide +kernel) (by decide +kernel)
set_option maxRecDepth 20000 in
theorem gX9_liftBegins_X9_isOver : GoodIn wsX9_liftBegins (wsV RX9 113 RX9 yX9_isOver wsX9_isOver) := goodIn_app (goodIn_of _ (by decide +kernel)) ggX9_liftBegins_X9_isOver
set_option maxRecDepth 20000 in
theorem ggX9_liftBegins_X9_isOut : GoodIn wsX9_liftBegins wsX9_isOut := goodIn_r _ [11, 12, 13, 14, 6, 15, 1, 33, 34, 35, 36, 37, 38, 39, 40, 41, 42, 43, 44, 45, 46, 47, 48, 49, 50, 51, 52, 53, 54, 55, 56, 57, 58, 59, 60, 61, 62, 63, 64, 65, 66, 67, 68, 69, 70, 71, 72] (by decide +kernel) (by decide +kernel)
set_option maxRecDepth 20000 in
theorem gX9_liftBegins_X9_isOut : GoodIn wsX9_liftBegins (wsV RX9 121 RX9 yX9_isOut wsX9_isOut) := goodIn_app (goodIn_of _ (by decide +kernel)) ggX9_liftBegins_X9_isOut
set_option maxRecDepth 20000 in
theorem ggX9_liftBegins_X9_planOf : GoodIn wsX9_liftBegins wsX9_planOf := goodIn_r _ [19, 20, 33, 34, 35, 36, 37, 38, 39, 40, 41, 42, 43, 44, 45, 46, 47, 48, 49, 50, 51, 52, 53, 54, 55, 56, 57, 58, 59, 60, 61, 62, 63, 64, 65, 66, 67, 68, 69, 70, 71, 72] (by decide +kernel) (by decide +kernel)
set_option maxRecDepth 20000 in
theorem gX9_liftBegins_X9_planOf : GoodIn wsX9_liftBegins (wsV RX9 125 RX9 yX9_planOf wsX9_planOf) := goodIn_app (goodIn_of _ (by decide +kernel)) ggX9_liftBegins_X9_planOf
set_option maxRecDepth 20000 in
theorem ggX9_liftBegins_X9_sets : GoodIn wsX9_liftBegins wsX9_sets := goodIn_r _ [24, 1, 33, 34, 35, 36, 37, 38, 39, 40, 41, 42, 43, 44, 45, 46, 47, 48, 49, 50, 51, 52, 53, 54, 55, 56, 57, 58, 59, 60, 61, 62, 63, 64, 65, 66, 67, 68, 69, 70, 71, 72] (by decide +kernel) (by decide +kernel)
set_option maxRecDepth 20000 in
theorem gX9_liftBegins_X9_sets : GoodIn wsX9_liftBegins (wsV RX9 109 RX9 yX9_sets wsX9_sets) := goodIn_app (goodIn_of _ (by decide +kernel)) ggX9_liftBegins_X9_sets
set_option maxRecDepth 20000 in
theorem ggX9_liftBegins_X9_roundBegins : GoodIn wsX9_liftBegins wsX9_roundBegins := goodIn_r _ [28, 1, 2, 21, 22, 23, 6, 24, 3, 4, 5, 7, 29, 30, 31, 32, 33, 34, 35, 36, 37, 38, 39, 40, 41, 42, 43, 44, 45, 46, 47, 48, 49, 50, 51, 52, 53, 54, 55, 56, 57, 58, 59, 60, 61, 62, 63, 64, 65, 66, 67, 68, 69, 70, 71, 72] (by decide +kernel) (by decide +kernel)
set_option maxRecDepth 20000 in
theorem gX9_liftBegins_X9_roundBegins : GoodIn wsX9_liftBegins (wsV RX9 128 RX9 yX9_roundBegins wsX9_roundBegins) := goodIn_app (goodIn_of _ (by decide +kernel)) ggX9_liftBegins_X9_roundBegins
theorem dX9_liftBegins_0 : decode cX9_liftBegins 0 = .ok (.aload_n 0, 1) := by decide +kernel
theorem dX9_liftBegins_1 : decode cX9_liftBegins 1 = .ok (.getfield 32, 3) := by decide +kernel
theorem dX9_liftBegins_4 : decode cX9_liftBegins 4 = .ok (.iconst 1, 1) := by decide +kernel
theorem dX9_liftBegins_5 : decode cX9_liftBegins 5 = .ok (.iconst 0, 1) := by decide +kernel
theorem dX9_liftBegins_6 : decode cX9_liftBegins 6 = .ok (.iastore, 1) := by decide +kernel
theorem dX9_liftBegins_7 : decode cX9_liftBegins 7 = .ok (.iconst 0, 1) := by decide +kernel
theorem dX9_liftBegins_8 : decode cX9_liftBegins 8 = .ok (.istore_n 1, 1) := by decide +kernel
theorem dX9_liftBegins_9 : decode cX9_liftBegins 9 = .ok (.iload_n 1, 1) := by decide +kernel
theorem dX9_liftBegins_10 : decode cX9_liftBegins 10 = .ok (.aload_n 0, 1) := by decide +kernel
theorem dX9_liftBegins_11 : decode cX9_liftBegins 11 = .ok (.getfield 84, 3) := by decide +kernel
theorem dX9_liftBegins_14 : decode cX9_liftBegins 14 = .ok (.if_icmp .ge 67, 3) := by decide +kernel
theorem dX9_liftBegins_17 : decode cX9_liftBegins 17 = .ok (.aload_n 0, 1) := by decide +kernel
theorem dX9_liftBegins_18 : decode cX9_liftBegins 18 = .ok (.iload_n 1, 1) := by decide +kernel
theorem dX9_liftBegins_19 : decode cX9_liftBegins 19 = .ok (.iconst 0, 1) := by decide +kernel
theorem dX9_liftBegins_20 : decode cX9_liftBegins 20 = .ok (.aload_n 0, 1) := by decide +kernel
theorem dX9_liftBegins_21 : decode cX9_liftBegins 21 = .ok (.invokevirtual 113, 3) := by decide +kernel
theorem dX9_liftBegins_24 : decode cX9_liftBegins 24 = .ok (.ifCond .ne 11, 3) := by decide +kernel
theorem dX9_liftBegins_27 : decode cX9_liftBegins 27 = .ok (.aload_n 0, 1) := by decide +kernel
theorem dX9_liftBegins_28 : decode cX9_liftBegins 28 = .ok (.iload_n 1, 1) := by decide +kernel
theorem dX9_liftBegins_29 : decode cX9_liftBegins 29 = .ok (.invokevirtual 121, 3) := by decide +kernel
theorem dX9_liftBegins_32 : decode cX9_liftBegins 32 = .ok (.ifCond .eq 7, 3) := by decide +kernel
theorem dX9_liftBegins_35 : decode cX9_liftBegins 35 = .ok (.iconst 0, 1) := by decide +kernel
theorem dX9_liftBegins_36 : decode cX9_liftBegins 36 = .ok (.goto 15, 3) := by decide +kernel
theorem dX9_liftBegins_39 : decode cX9_liftBegins 39 = .ok (.aload_n 0, 1) := by decide +kernel
theorem dX9_liftBegins_40 : decode cX9_liftBegins 40 = .ok (.iload_n 1, 1) := by decide +kernel
theorem dX9_liftBegins_41 : decode cX9_liftBegins 41 = .ok (.aload_n 0, 1) := by decide +kernel
theorem dX9_liftBegins_42 : decode cX9_liftBegins 42 = .ok (.getfield 32, 3) := by decide +kernel
theorem dX9_liftBegins_45 : decode cX9_liftBegins 45 = .ok (.iconst 0, 1) := by decide +kernel
theorem dX9_liftBegins_46 : decode cX9_liftBegins 46 = .ok (.iaload, 1) := by decide +kernel
theorem dX9_liftBegins_47 : decode cX9_liftBegins 47 = .ok (.iconst 0, 1) := by decide +kernel
theorem dX9_liftBegins_48 : decode cX9_liftBegins 48 = .ok (.invokevirtual 125, 3) := by decide +kernel
theorem dX9_liftBegins_51 : decode cX9_liftBegins 51 = .ok (.invokevirtual 109, 3) := by decide +kernel
theorem dX9_liftBegins_54 : decode cX9_liftBegins 54 = .ok (.aload_n 0, 1) := by decide +kernel
theorem dX9_liftBegins_55 : decode cX9_liftBegins 55 = .ok (.iload_n 1, 1) := by decide +kernel
theorem dX9_liftBegins_56 : decode cX9_liftBegins 56 = .ok (.iconst 2, 1) := by decide +kernel
theorem dX9_liftBegins_57 : decode cX9_liftBegins 57 = .ok (.iconst 0, 1) := by decide +kernel
theorem dX9_liftBegins_58 : decode cX9_liftBegins 58 = .ok (.invokevirtual 109, 3) := by decide +kernel
theorem dX9_liftBegins_61 : decode cX9_liftBegins 61 = .ok (.aload_n 0, 1) := by decide +kernel
theorem dX9_liftBegins_62 : decode cX9_liftBegins 62 = .ok (.iload_n 1, 1) := by decide +kernel
theorem dX9_liftBegins_63 : decode cX9_liftBegins 63 = .ok (.iconst 3, 1) := by decide +kernel
theorem dX9_liftBegins_64 : decode cX9_liftBegins 64 = .ok (.iconst 0, 1) := by decide +kernel
theorem dX9_liftBegins_65 : decode cX9_liftBegins 65 = .ok (.invokevirtual 109, 3) := by decide +kernel
theorem dX9_liftBegins_68 : decode cX9_liftBegins 68 = .ok (.aload_n 0, 1) := by decide +kernel
theorem dX9_liftBegins_69 : decode cX9_liftBegins 69 = .ok (.iload_n 1, 1) := by decide +kernel
theorem dX9_liftBegins_70 : decode cX9_liftBegins 70 = .ok (.iconst 4, 1) := by decide +kernel
theorem dX9_liftBegins_71 : decode cX9_liftBegins 71 = .ok (.iconst 0, 1) := by decide +kernel
theorem dX9_liftBegins_72 : decode cX9_liftBegins 72 = .ok (.invokevirtual 109, 3) := by decide +kernel
theorem dX9_liftBegins_75 : decode cX9_liftBegins 75 = .ok (.iinc 1 1, 3) := by decide +kernel
theorem dX9_liftBegins_78 : decode cX9_liftBegins 78 = .ok (.goto (-69), 3) := by decide +kernel
theorem dX9_liftBegins_81 : decode cX9_liftBegins 81 = .ok (.aload_n 0, 1) := by decide +kernel
theorem dX9_liftBegins_82 : decode cX9_liftBegins 82 = .ok (.invokevirtual 128, 3) := by decide +kernel
theorem dX9_liftBegins_85 : decode cX9_liftBegins 85 = .ok (.return_, 1) := by decide +kernel
set_option maxRecDepth 20000 in
theorem ggX9_meetBegins_X9_liftBegins : GoodIn wsX9_meetBegins wsX9_liftBegins := goodIn_r _ [8, 1, 9, 10, 11, 12, 7, 13, 14, 15, 16, 17, 18, 19, 20, 21, 22, 23, 24, 25, 26, 27, 28, 29, 30, 31, 32, 33, 34, 35, 36, 37, 38, 39, 40, 41, 42, 43, 44, 45, 46, 47, 48, 49, 50, 51, 52, 53, 54, 55, 56, 57, 58, 59, 60, 61, 62, 63, 64, 65, 66, 67, 68, 69, 70, 71, 72, 73, 74, 75, 76, 77, 78] (by decide +kernel) (by decide +kernel)
set_option maxRecDepth 20000 in
theorem gX9_meetBegins_X9_liftBegins : GoodIn wsX9_meetBegins (wsV RX9 137 RX9 yX9_liftBegins wsX9_liftBegins) := goodIn_app (goodIn_of _ (by decide +kernel)) ggX9_meetBegins_X9_liftBegins
theorem dX9_meetBegins_0 : decode cX9_meetBegins 0 = .ok (.iconst 0, 1) := by decide +kernel
theorem dX9_meetBegins_1 : decode cX9_meetBegins 1 = .ok (.istore_n 1, 1) := by decide +kernel
theorem dX9_meetBegins_2 : decode cX9_meetBegins 2 = .ok (.iload_n 1, 1) := by decide +kernel
theorem dX9_meetBegins_3 : decode cX9_meetBegins 3 = .ok (.aload_n 0, 1) := by decide +kernel
theorem dX9_meetBegins_4 : decode cX9_meetBegins 4 = .ok (.getfield 32, 3) := by decide +kernel
theorem dX9_meetBegins_7 : decode cX9_meetBegins 7 = .ok (.arraylength, 1) := by decide +kernel
theorem dX9_meetBegins_8 : decode cX9_meetBegins 8 = .ok (.if_icmp .ge 16, 3) := by decide +kernel
theorem dX9_meetBegins_11 : decode cX9_meetBegins 11 = .ok (.aload_n 0, 1) := by decide +kernel
theorem dX9_meetBegins_12 : decode cX9_meetBegins 12 = .ok (.getfield 32, 3) := by decide +kernel
theorem dX9_meetBegins_15 : decode cX9_meetBegins 15 = .ok (.iload_n 1, 1) := by decide +kernel
theorem dX9_meetBegins_16 : decode cX9_meetBegins 16 = .ok (.iconst 0, 1) := by decide +kernel
theorem dX9_meetBegins_17 : decode cX9_meetBegins 17 = .ok (.iastore, 1) := by decide +kernel
theorem dX9_meetBegins_18 : decode cX9_meetBegins 18 = .ok (.iinc 1 1, 3) := by decide +kernel
theorem dX9_meetBegins_21 : decode cX9_meetBegins 21 = .ok (.goto (-19), 3) := by decide +kernel
theorem dX9_meetBegins_24 : decode cX9_meetBegins 24 = .ok (.aload_n 0, 1) := by decide +kernel
theorem dX9_meetBegins_25 : decode cX9_meetBegins 25 = .ok (.iconst 0, 1) := by decide +kernel
theorem dX9_meetBegins_26 : decode cX9_meetBegins 26 = .ok (.putfield 131, 3) := by decide +kernel
theorem dX9_meetBegins_29 : decode cX9_meetBegins 29 = .ok (.aload_n 0, 1) := by decide +kernel
theorem dX9_meetBegins_30 : decode cX9_meetBegins 30 = .ok (.iconst 0, 1) := by decide +kernel
theorem dX9_meetBegins_31 : decode cX9_meetBegins 31 = .ok (.putfield 134, 3) := by decide +kernel
theorem dX9_meetBegins_34 : decode cX9_meetBegins 34 = .ok (.aload_n 0, 1) := by decide +kernel
theorem dX9_meetBegins_35 : decode cX9_meetBegins 35 = .ok (.invokevirtual 137, 3) := by decide +kernel
theorem dX9_meetBegins_38 : decode cX9_meetBegins 38 = .ok (.return_, 1) := by decide +kernel
set_option maxRecDepth 20000 in
theorem ggX9_isStill_X9_of : GoodIn wsX9_isStill wsX9_of := goodIn_r _ [5, 6, 15, 16, 17, 18, 19, 20, 21, 22, 23, 24, 25, 26, 27, 28, 29, 30, 31, 32, 33, 34, 35, 36, 37, 38, 39, 40, 41, 42, 43, 44, 45, 46, 47, 48, 49, 50, 51, 52, 53, 54] (by decide +kernel) (by decide +kernel)
set_option maxRecDepth 20000 in
theorem gX9_isStill_X9_of : GoodIn wsX9_isStill (wsV RX9 106 RX9 yX9_of wsX9_of) := goodIn_app (goodIn_of _ (by decide +kernel)) ggX9_isStill_X9_of
set_option maxRecDepth 20000 in
theorem ggX9_isStill_X9_isOut : GoodIn wsX9_isStill wsX9_isOut := goodIn_r _ [10, 1, 2, 3, 4, 5, 6, 15, 16, 17, 18, 19, 20, 21, 22, 23, 24, 25, 26, 27, 28, 29, 30, 31, 32, 33, 34, 35, 36, 37, 38, 39, 40, 41, 42, 43, 44, 45, 46, 47, 48, 49, 50, 51, 52, 53, 54] (by decide +kernel) (by decide +kernel)
set_option maxRecDepth 20000 in
theorem gX9_isStill_X9_isOut : GoodIn wsX9_isStill (wsV RX9 121 RX9 yX9_isOut wsX9_isOut) := goodIn_app (goodIn_of _ (by decide +kernel)) ggX9_isStill_X9_isOut
set_option maxRecDepth 20000 in
theorem ggX9_isStill_X9_isOver : GoodIn wsX9_isStill wsX9_isOver := goodIn_r _ [14, 6, 15, 16, 17, 18, 19, 20, 21, 22, 23, 24, 25, 26, 27, 28, 29, 30, 31, 32, 33, 34, 35, 36, 37, 38, 39, 40, 41, 42, 43, 44, 45, 46, 47, 48, 49, 50, 51, 52, 53, 54] (by decide +kernel) (by decide +kernel)
set_option maxRecDepth 20000 in
theorem gX9_isStill_X9_isOver : GoodIn wsX9_isStill (wsV RX9 113 RX9 yX9_isOver wsX9_isOver) := goodIn_app (goodIn_of _ (by decide +kernel)) ggX9_isStill_X9_isOver
theorem dX9_isStill_0 : decode cX9_isStill 0 = .ok (.aload_n 0, 1) := by decide +kernel
theorem dX9_isStill_1 : decode cX9_isStill 1 = .ok (.iload_n 1, 1) := by decide +kernel
theorem dX9_isStill_2 : decode cX9_isStill 2 = .ok (.iconst 0, 1) := by decide +kernel
theorem dX9_isStill_3 : decode cX9_isStill 3 = .ok (.invokevirtual 106, 3) := by decide +kernel
theorem dX9_isStill_6 : decode cX9_isStill 6 = .ok (.ifCond .le 31, 3) := by decide +kernel
theorem dX9_isStill_9 : decode cX9_isStill 9 = .ok (.aload_n 0, 1) := by decide +kernel
theorem dX9_isStill_10 : decode cX9_isStill 10 = .ok (.iload_n 1, 1) := by decide +kernel
theorem dX9_isStill_11 : decode cX9_isStill 11 = .ok (.iconst 1, 1) := by decide +kernel
theorem dX9_isStill_12 : decode cX9_isStill 12 = .ok (.invokevirtual 106, 3) := by decide +kernel
theorem dX9_isStill_15 : decode cX9_isStill 15 = .ok (.ifCond .ne 22, 3) := by decide +kernel
theorem dX9_isStill_18 : decode cX9_isStill 18 = .ok (.aload_n 0, 1) := by decide +kernel
theorem dX9_isStill_19 : decode cX9_isStill 19 = .ok (.iload_n 1, 1) := by decide +kernel
theorem dX9_isStill_20 : decode cX9_isStill 20 = .ok (.invokevirtual 121, 3) := by decide +kernel
theorem dX9_isStill_23 : decode cX9_isStill 23 = .ok (.ifCond .ne 14, 3) := by decide +kernel
theorem dX9_isStill_26 : decode cX9_isStill 26 = .ok (.aload_n 0, 1) := by decide +kernel
theorem dX9_isStill_27 : decode cX9_isStill 27 = .ok (.invokevirtual 113, 3) := by decide +kernel
theorem dX9_isStill_30 : decode cX9_isStill 30 = .ok (.ifCond .ne 7, 3) := by decide +kernel
theorem dX9_isStill_33 : decode cX9_isStill 33 = .ok (.iconst 1, 1) := by decide +kernel
theorem dX9_isStill_34 : decode cX9_isStill 34 = .ok (.goto 4, 3) := by decide +kernel
theorem dX9_isStill_37 : decode cX9_isStill 37 = .ok (.iconst 0, 1) := by decide +kernel
theorem dX9_isStill_38 : decode cX9_isStill 38 = .ok (.ireturn, 1) := by decide +kernel
set_option maxRecDepth 20000 in
theorem ggX9_isCalledAhead_X9_of : GoodIn wsX9_isCalledAhead wsX9_of := goodIn_r _ [6, 7, 8, 9, 10, 11, 12, 13, 14, 15, 16, 17, 18, 19, 20, 21, 22, 23, 24, 25, 26, 27, 28, 29, 30, 31, 32, 33, 34, 35, 36, 37, 38, 39, 40, 41, 42, 43, 44, 45, 46, 47] (by decide +kernel) (by decide +kernel)
set_option maxRecDepth 20000 in
theorem gX9_isCalledAhead_X9_of : GoodIn wsX9_isCalledAhead (wsV RX9 106 RX9 yX9_of wsX9_of) := goodIn_app (goodIn_of _ (by decide +kernel)) ggX9_isCalledAhead_X9_of
theorem dX9_isCalledAhead_0 : decode cX9_isCalledAhead 0 = .ok (.aload_n 0, 1) := by decide +kernel
theorem dX9_isCalledAhead_1 : decode cX9_isCalledAhead 1 = .ok (.iload_n 1, 1) := by decide +kernel
theorem dX9_isCalledAhead_2 : decode cX9_isCalledAhead 2 = .ok (.iconst 0, 1) := by decide +kernel
theorem dX9_isCalledAhead_3 : decode cX9_isCalledAhead 3 = .ok (.invokevirtual 106, 3) := by decide +kernel
theorem dX9_isCalledAhead_6 : decode cX9_isCalledAhead 6 = .ok (.aload_n 0, 1) := by decide +kernel
theorem dX9_isCalledAhead_7 : decode cX9_isCalledAhead 7 = .ok (.iload_n 2, 1) := by decide +kernel
theorem dX9_isCalledAhead_8 : decode cX9_isCalledAhead 8 = .ok (.iconst 0, 1) := by decide +kernel
theorem dX9_isCalledAhead_9 : decode cX9_isCalledAhead 9 = .ok (.invokevirtual 106, 3) := by decide +kernel
theorem dX9_isCalledAhead_12 : decode cX9_isCalledAhead 12 = .ok (.if_icmp .lt 33, 3) := by decide +kernel
theorem dX9_isCalledAhead_15 : decode cX9_isCalledAhead 15 = .ok (.aload_n 0, 1) := by decide +kernel
theorem dX9_isCalledAhead_16 : decode cX9_isCalledAhead 16 = .ok (.iload_n 1, 1) := by decide +kernel
theorem dX9_isCalledAhead_17 : decode cX9_isCalledAhead 17 = .ok (.iconst 0, 1) := by decide +kernel
theorem dX9_isCalledAhead_18 : decode cX9_isCalledAhead 18 = .ok (.invokevirtual 106, 3) := by decide +kernel
theorem dX9_isCalledAhead_21 : decode cX9_isCalledAhead 21 = .ok (.aload_n 0, 1) := by decide +kernel
theorem dX9_isCalledAhead_22 : decode cX9_isCalledAhead 22 = .ok (.iload_n 2, 1) := by decide +kernel
theorem dX9_isCalledAhead_23 : decode cX9_isCalledAhead 23 = .ok (.iconst 0, 1) := by decide +kernel
theorem dX9_isCalledAhead_24 : decode cX9_isCalledAhead 24 = .ok (.invokevirtual 106, 3) := by decide +kernel
theorem dX9_isCalledAhead_27 : decode cX9_isCalledAhead 27 = .ok (.if_icmp .ne 22, 3) := by decide +kernel
theorem dX9_isCalledAhead_30 : decode cX9_isCalledAhead 30 = .ok (.aload_n 0, 1) := by decide +kernel
theorem dX9_isCalledAhead_31 : decode cX9_isCalledAhead 31 = .ok (.getfield 17, 3) := by decide +kernel
theorem dX9_isCalledAhead_34 : decode cX9_isCalledAhead 34 = .ok (.iload_n 1, 1) := by decide +kernel
theorem dX9_isCalledAhead_35 : decode cX9_isCalledAhead 35 = .ok (.iaload, 1) := by decide +kernel
theorem dX9_isCalledAhead_36 : decode cX9_isCalledAhead 36 = .ok (.aload_n 0, 1) := by decide +kernel
theorem dX9_isCalledAhead_37 : decode cX9_isCalledAhead 37 = .ok (.getfield 17, 3) := by decide +kernel
theorem dX9_isCalledAhead_40 : decode cX9_isCalledAhead 40 = .ok (.iload_n 2, 1) := by decide +kernel
theorem dX9_isCalledAhead_41 : decode cX9_isCalledAhead 41 = .ok (.iaload, 1) := by decide +kernel
theorem dX9_isCalledAhead_42 : decode cX9_isCalledAhead 42 = .ok (.if_icmp .ge 7, 3) := by decide +kernel
theorem dX9_isCalledAhead_45 : decode cX9_isCalledAhead 45 = .ok (.iconst 1, 1) := by decide +kernel
theorem dX9_isCalledAhead_46 : decode cX9_isCalledAhead 46 = .ok (.goto 4, 3) := by decide +kernel
theorem dX9_isCalledAhead_49 : decode cX9_isCalledAhead 49 = .ok (.iconst 0, 1) := by decide +kernel
theorem dX9_isCalledAhead_50 : decode cX9_isCalledAhead 50 = .ok (.ireturn, 1) := by decide +kernel
set_option maxRecDepth 20000 in
theorem ggX9_calledNow_X9_isStill : GoodIn wsX9_calledNow wsX9_isStill := goodIn_r _ [6, 7, 8, 9, 5, 10, 11, 12, 13, 14, 15, 16, 17, 18, 19, 25, 26, 27, 28, 29, 30, 31, 32, 33, 34, 35, 36, 37, 38, 39, 40, 41, 42, 43, 44, 45, 46, 47, 48, 49, 50, 51, 52, 53, 54, 55, 56, 57, 58, 59, 60, 61, 62, 63, 64] (by decide +kernel) (by decide +kernel)
set_option maxRecDepth 20000 in
theorem gX9_calledNow_X9_isStill : GoodIn wsX9_calledNow (wsV RX9 140 RX9 yX9_isStill wsX9_isStill) := goodIn_app (goodIn_of _ (by decide +kernel)) ggX9_calledNow_X9_isStill
set_option maxRecDepth 20000 in
theorem ggX9_calledNow_X9_isCalledAhead : GoodIn wsX9_calledNow wsX9_isCalledAhead := goodIn_r _ [23, 24, 7, 8, 9, 5, 10, 11, 25, 26, 27, 28, 29, 30, 31, 32, 33, 34, 35, 36, 37, 38, 39, 40, 41, 42, 43, 44, 45, 46, 47, 48, 49, 50, 51, 52, 53, 54, 55, 56, 57, 58, 59, 60, 61, 62, 63, 64] (by decide +kernel) (by decide +kernel)
set_option maxRecDepth 20000 in
theorem gX9_calledNow_X9_isCalledAhead : GoodIn wsX9_calledNow (wsV RX9 143 RX9 yX9_isCalledAhead wsX9_isCalledAhead) := goodIn_app (goodIn_of _ (by decide +kernel)) ggX9_calledNow_X9_isCalledAhead
theorem dX9_calledNow_0 : decode cX9_calledNow 0 = .ok (.iconst (-1), 1) := by decide +kernel
theorem dX9_calledNow_1 : decode cX9_calledNow 1 = .ok (.istore_n 1, 1) := by decide +kernel
theorem dX9_calledNow_2 : decode cX9_calledNow 2 = .ok (.iconst 0, 1) := by decide +kernel
theorem dX9_calledNow_3 : decode cX9_calledNow 3 = .ok (.istore_n 2, 1) := by decide +kernel
theorem dX9_calledNow_4 : decode cX9_calledNow 4 = .ok (.iload_n 2, 1) := by decide +kernel
theorem dX9_calledNow_5 : decode cX9_calledNow 5 = .ok (.aload_n 0, 1) := by decide +kernel
theorem dX9_calledNow_6 : decode cX9_calledNow 6 = .ok (.getfield 84, 3) := by decide +kernel
theorem dX9_calledNow_9 : decode cX9_calledNow 9 = .ok (.if_icmp .ge 33, 3) := by decide +kernel
theorem dX9_calledNow_12 : decode cX9_calledNow 12 = .ok (.aload_n 0, 1) := by decide +kernel
theorem dX9_calledNow_13 : decode cX9_calledNow 13 = .ok (.iload_n 2, 1) := by decide +kernel
theorem dX9_calledNow_14 : decode cX9_calledNow 14 = .ok (.invokevirtual 140, 3) := by decide +kernel
theorem dX9_calledNow_17 : decode cX9_calledNow 17 = .ok (.ifCond .eq 19, 3) := by decide +kernel
theorem dX9_calledNow_20 : decode cX9_calledNow 20 = .ok (.iload_n 1, 1) := by decide +kernel
theorem dX9_calledNow_21 : decode cX9_calledNow 21 = .ok (.iconst (-1), 1) := by decide +kernel
theorem dX9_calledNow_22 : decode cX9_calledNow 22 = .ok (.if_icmp .eq 12, 3) := by decide +kernel
theorem dX9_calledNow_25 : decode cX9_calledNow 25 = .ok (.aload_n 0, 1) := by decide +kernel
theorem dX9_calledNow_26 : decode cX9_calledNow 26 = .ok (.iload_n 2, 1) := by decide +kernel
theorem dX9_calledNow_27 : decode cX9_calledNow 27 = .ok (.iload_n 1, 1) := by decide +kernel
theorem dX9_calledNow_28 : decode cX9_calledNow 28 = .ok (.invokevirtual 143, 3) := by decide +kernel
theorem dX9_calledNow_31 : decode cX9_calledNow 31 = .ok (.ifCond .eq 5, 3) := by decide +kernel
theorem dX9_calledNow_34 : decode cX9_calledNow 34 = .ok (.iload_n 2, 1) := by decide +kernel
theorem dX9_calledNow_35 : decode cX9_calledNow 35 = .ok (.istore_n 1, 1) := by decide +kernel
theorem dX9_calledNow_36 : decode cX9_calledNow 36 = .ok (.iinc 2 1, 3) := by decide +kernel
theorem dX9_calledNow_39 : decode cX9_calledNow 39 = .ok (.goto (-35), 3) := by decide +kernel
theorem dX9_calledNow_42 : decode cX9_calledNow 42 = .ok (.iload_n 1, 1) := by decide +kernel
theorem dX9_calledNow_43 : decode cX9_calledNow 43 = .ok (.ireturn, 1) := by decide +kernel
set_option maxRecDepth 20000 in
theorem ggX9_liftEnds_X9_of : GoodIn wsX9_liftEnds wsX9_of := goodIn_r _ [7, 2, 37, 38, 39, 40, 41, 42, 43, 44, 45, 46, 47, 48, 49, 50, 51, 52, 53, 54, 55, 56, 57, 58, 59, 60, 61, 62, 63, 64, 65, 66, 67, 68, 69, 70, 71, 72, 73, 74, 75, 76] (by decide +kernel) (by decide +kernel)
set_option maxRecDepth 20000 in
theorem gX9_liftEnds_X9_of : GoodIn wsX9_liftEnds (wsV RX9 106 RX9 yX9_of wsX9_of) := goodIn_app (goodIn_of _ (by decide +kernel)) ggX9_liftEnds_X9_of
set_option maxRecDepth 20000 in
theorem ggX9_liftEnds_X9_sets : GoodIn wsX9_liftEnds wsX9_sets := goodIn_r _ [11, 2, 37, 38, 39, 40, 41, 42, 43, 44, 45, 46, 47, 48, 49, 50, 51, 52, 53, 54, 55, 56, 57, 58, 59, 60, 61, 62, 63, 64, 65, 66, 67, 68, 69, 70, 71, 72, 73, 74, 75, 76] (by decide +kernel) (by decide +kernel)
set_option maxRecDepth 20000 in
theorem gX9_liftEnds_X9_sets : GoodIn wsX9_liftEnds (wsV RX9 109 RX9 yX9_sets wsX9_sets) := goodIn_app (goodIn_of _ (by decide +kernel)) ggX9_liftEnds_X9_sets
set_option maxRecDepth 20000 in
theorem ggX9_liftEnds_X9_liftBegins : GoodIn wsX9_liftEnds wsX9_liftBegins := goodIn_r _ [15, 2, 1, 16, 17, 18, 6, 19, 20, 21, 22, 23, 3, 4, 5, 7, 24, 25, 26, 27, 28, 8, 9, 10, 11, 29, 30, 31, 32, 33, 34, 35, 36, 37, 38, 39, 40, 41, 42, 43, 44, 45, 46, 47, 48, 49, 50, 51, 52, 53, 54, 55, 56, 57, 58, 59, 60, 61, 62, 63, 64, 65, 66, 67, 68, 69, 70, 71, 72, 73, 74, 75, 76] (by decide +kernel) (by decide +kernel)
set_option maxRecDepth 20000 in
theorem gX9_liftEnds_X9_liftBegins : GoodIn wsX9_liftEnds (wsV RX9 137 RX9 yX9_liftBegins wsX9_liftBegins) := goodIn_app (goodIn_of _ (by decide +kernel)) ggX9_liftEnds_X9_liftBegins
theorem dX9_liftEnds_0 : decode cX9_liftEnds 0 = .ok (.iconst 0, 1) := by decide +kernel
theorem dX9_liftEnds_1 : decode cX9_liftEnds 1 = .ok (.istore_n 1, 1) := by decide +kernel
theorem dX9_liftEnds_2 : decode cX9_liftEnds 2 = .ok (.iload_n 1, 1) := by decide +kernel
theorem dX9_liftEnds_3 : decode cX9_liftEnds 3 = .ok (.aload_n 0, 1) := by decide +kernel
theorem dX9_liftEnds_4 : decode cX9_liftEnds 4 = .ok (.getfield 84, 3) := by decide +kernel
theorem dX9_liftEnds_7 : decode cX9_liftEnds 7 = .ok (.if_icmp .ge 34, 3) := by decide +kernel
theorem dX9_liftEnds_10 : decode cX9_liftEnds 10 = .ok (.aload_n 0, 1) := by decide +kernel
theorem dX9_liftEnds_11 : decode cX9_liftEnds 11 = .ok (.iload_n 1, 1) := by decide +kernel
theorem dX9_liftEnds_12 : decode cX9_liftEnds 12 = .ok (.bipush 7, 2) := by decide +kernel
theorem dX9_liftEnds_14 : decode cX9_liftEnds 14 = .ok (.aload_n 0, 1) := by decide +kernel
theorem dX9_liftEnds_15 : decode cX9_liftEnds 15 = .ok (.getfield 32, 3) := by decide +kernel
theorem dX9_liftEnds_18 : decode cX9_liftEnds 18 = .ok (.iconst 0, 1) := by decide +kernel
theorem dX9_liftEnds_19 : decode cX9_liftEnds 19 = .ok (.iaload, 1) := by decide +kernel
theorem dX9_liftEnds_20 : decode cX9_liftEnds 20 = .ok (.iadd, 1) := by decide +kernel
theorem dX9_liftEnds_21 : decode cX9_liftEnds 21 = .ok (.invokevirtual 106, 3) := by decide +kernel
theorem dX9_liftEnds_24 : decode cX9_liftEnds 24 = .ok (.ifCond .ne 11, 3) := by decide +kernel
theorem dX9_liftEnds_27 : decode cX9_liftEnds 27 = .ok (.aload_n 0, 1) := by decide +kernel
theorem dX9_liftEnds_28 : decode cX9_liftEnds 28 = .ok (.iload_n 1, 1) := by decide +kernel
theorem dX9_liftEnds_29 : decode cX9_liftEnds 29 = .ok (.bipush 6, 2) := by decide +kernel
theorem dX9_liftEnds_31 : decode cX9_liftEnds 31 = .ok (.iconst 1, 1) := by decide +kernel
theorem dX9_liftEnds_32 : decode cX9_liftEnds 32 = .ok (.invokevirtual 109, 3) := by decide +kernel
theorem dX9_liftEnds_35 : decode cX9_liftEnds 35 = .ok (.iinc 1 1, 3) := by decide +kernel
theorem dX9_liftEnds_38 : decode cX9_liftEnds 38 = .ok (.goto (-36), 3) := by decide +kernel
theorem dX9_liftEnds_41 : decode cX9_liftEnds 41 = .ok (.aload_n 0, 1) := by decide +kernel
theorem dX9_liftEnds_42 : decode cX9_liftEnds 42 = .ok (.getfield 32, 3) := by decide +kernel
theorem dX9_liftEnds_45 : decode cX9_liftEnds 45 = .ok (.iconst 0, 1) := by decide +kernel
theorem dX9_liftEnds_46 : decode cX9_liftEnds 46 = .ok (.dup2, 1) := by decide +kernel
theorem dX9_liftEnds_47 : decode cX9_liftEnds 47 = .ok (.iaload, 1) := by decide +kernel
theorem dX9_liftEnds_48 : decode cX9_liftEnds 48 = .ok (.iconst 1, 1) := by decide +kernel
theorem dX9_liftEnds_49 : decode cX9_liftEnds 49 = .ok (.iadd, 1) := by decide +kernel
theorem dX9_liftEnds_50 : decode cX9_liftEnds 50 = .ok (.iastore, 1) := by decide +kernel
theorem dX9_liftEnds_51 : decode cX9_liftEnds 51 = .ok (.aload_n 0, 1) := by decide +kernel
theorem dX9_liftEnds_52 : decode cX9_liftEnds 52 = .ok (.invokevirtual 137, 3) := by decide +kernel
theorem dX9_liftEnds_55 : decode cX9_liftEnds 55 = .ok (.return_, 1) := by decide +kernel
set_option maxRecDepth 20000 in
theorem ggX9_goesOn_X9_isOver : GoodIn wsX9_goesOn wsX9_isOver := goodIn_r _ [7, 2, 54, 55, 56, 57, 58, 59, 60, 61, 62, 63, 64, 65, 66, 67, 68, 69, 70, 71, 72, 73, 74, 75, 76, 77, 78, 79, 80, 81, 82, 83, 84, 85, 86, 87, 88, 89, 90, 91, 92, 93] (by decide +kernel) (by decide +kernel)
set_option maxRecDepth 20000 in
theorem gX9_goesOn_X9_isOver : GoodIn wsX9_goesOn (wsV RX9 113 RX9 yX9_isOver wsX9_isOver) := goodIn_app (goodIn_of _ (by decide +kernel)) ggX9_goesOn_X9_isOver
set_option maxRecDepth 20000 in
theorem ggX9_goesOn_X9_calledNow : GoodIn wsX9_goesOn wsX9_calledNow := goodIn_r _ [11, 1, 12, 13, 14, 6, 15, 16, 17, 18, 19, 2, 20, 21, 22, 23, 3, 4, 5, 7, 24, 25, 26, 27, 28, 54, 55, 56, 57, 58, 59, 60, 61, 62, 63, 64, 65, 66, 67, 68, 69, 70, 71, 72, 73, 74, 75, 76, 77, 78, 79, 80, 81, 82, 83, 84, 85, 86, 87, 88, 89, 90, 91, 92, 93] (by decide +kernel) (by decide +kernel)
set_option maxRecDepth 20000 in
theorem gX9_goesOn_X9_calledNow : GoodIn wsX9_goesOn (wsV RX9 147 RX9 yX9_calledNow wsX9_calledNow) := goodIn_app (goodIn_of _ (by decide +kernel)) ggX9_goesOn_X9_calledNow
set_option maxRecDepth 20000 in
theorem ggX9_goesOn_X9_liftEnds : GoodIn wsX9_goesOn wsX9_liftEnds := goodIn_r _ [32, 1, 2, 16, 17, 18, 6, 19, 33, 34, 35, 36, 37, 38, 39, 40, 3, 4, 5, 7, 20, 21, 22, 23, 41, 42, 43, 44, 45, 46, 47, 48, 49, 50, 51, 52, 53, 54, 55, 56, 57, 58, 59, 60, 61, 62, 63, 64, 65, 66, 67, 68, 69, 70, 71, 72, 73, 74, 75, 76, 77, 78, 79, 80, 81, 82, 83, 84, 85, 86, 87, 88, 89, 90, 91, 92, 93] (by decide +kernel) (by decide +kernel)
set_option maxRecDepth 20000 in
theorem gX9_goesOn_X9_liftEnds : GoodIn wsX9_goesOn (wsV RX9 150 RX9 yX9_liftEnds wsX9_liftEnds) := goodIn_app (goodIn_of _ (by decide +kernel)) ggX9_goesOn_X9_liftEnds
set_option maxRecDepth 20000 in
theorem ggX9_goesOn_X9_roundBegins : GoodIn wsX9_goesOn wsX9_roundBegins := goodIn_r _ [49, 2, 1, 33, 34, 35, 6, 36, 3, 4, 5, 7, 50, 51, 52, 53, 54, 55, 56, 57, 58, 59, 60, 61, 62, 63, 64, 65, 66, 67, 68, 69, 70, 71, 72, 73, 74, 75, 76, 77, 78, 79, 80, 81, 82, 83, 84, 85, 86, 87, 88, 89, 90, 91, 92, 93] (by decide +kernel) (by decide +kernel)
set_option maxRecDepth 20000 in
theorem gX9_goesOn_X9_roundBegins : GoodIn wsX9_goesOn (wsV RX9 128 RX9 yX9_roundBegins wsX9_roundBegins) := goodIn_app (goodIn_of _ (by decide +kernel)) ggX9_goesOn_X9_roundBegins
theorem dX9_goesOn_0 : decode cX9_goesOn 0 = .ok (.aload_n 0, 1) := by decide +kernel
theorem dX9_goesOn_1 : decode cX9_goesOn 1 = .ok (.getfield 84, 3) := by decide +kernel
theorem dX9_goesOn_4 : decode cX9_goesOn 4 = .ok (.ifCond .le 52, 3) := by decide +kernel
theorem dX9_goesOn_7 : decode cX9_goesOn 7 = .ok (.aload_n 0, 1) := by decide +kernel
theorem dX9_goesOn_8 : decode cX9_goesOn 8 = .ok (.invokevirtual 113, 3) := by decide +kernel
theorem dX9_goesOn_11 : decode cX9_goesOn 11 = .ok (.ifCond .ne 45, 3) := by decide +kernel
theorem dX9_goesOn_14 : decode cX9_goesOn 14 = .ok (.aload_n 0, 1) := by decide +kernel
theorem dX9_goesOn_15 : decode cX9_goesOn 15 = .ok (.invokevirtual 147, 3) := by decide +kernel
theorem dX9_goesOn_18 : decode cX9_goesOn 18 = .ok (.iconst (-1), 1) := by decide +kernel
theorem dX9_goesOn_19 : decode cX9_goesOn 19 = .ok (.if_icmp .ne 37, 3) := by decide +kernel
theorem dX9_goesOn_22 : decode cX9_goesOn 22 = .ok (.aload_n 0, 1) := by decide +kernel
theorem dX9_goesOn_23 : decode cX9_goesOn 23 = .ok (.getfield 32, 3) := by decide +kernel
theorem dX9_goesOn_26 : decode cX9_goesOn 26 = .ok (.iconst 1, 1) := by decide +kernel
theorem dX9_goesOn_27 : decode cX9_goesOn 27 = .ok (.iaload, 1) := by decide +kernel
theorem dX9_goesOn_28 : decode cX9_goesOn 28 = .ok (.iconst 2, 1) := by decide +kernel
theorem dX9_goesOn_29 : decode cX9_goesOn 29 = .ok (.if_icmp .ne 10, 3) := by decide +kernel
theorem dX9_goesOn_32 : decode cX9_goesOn 32 = .ok (.aload_n 0, 1) := by decide +kernel
theorem dX9_goesOn_33 : decode cX9_goesOn 33 = .ok (.invokevirtual 150, 3) := by decide +kernel
theorem dX9_goesOn_36 : decode cX9_goesOn 36 = .ok (.goto (-36), 3) := by decide +kernel
theorem dX9_goesOn_39 : decode cX9_goesOn 39 = .ok (.aload_n 0, 1) := by decide +kernel
theorem dX9_goesOn_40 : decode cX9_goesOn 40 = .ok (.getfield 32, 3) := by decide +kernel
theorem dX9_goesOn_43 : decode cX9_goesOn 43 = .ok (.iconst 1, 1) := by decide +kernel
theorem dX9_goesOn_44 : decode cX9_goesOn 44 = .ok (.dup2, 1) := by decide +kernel
theorem dX9_goesOn_45 : decode cX9_goesOn 45 = .ok (.iaload, 1) := by decide +kernel
theorem dX9_goesOn_46 : decode cX9_goesOn 46 = .ok (.iconst 1, 1) := by decide +kernel
theorem dX9_goesOn_47 : decode cX9_goesOn 47 = .ok (.iadd, 1) := by decide +kernel
theorem dX9_goesOn_48 : decode cX9_goesOn 48 = .ok (.iastore, 1) := by decide +kernel
theorem dX9_goesOn_49 : decode cX9_goesOn 49 = .ok (.aload_n 0, 1) := by decide +kernel
theorem dX9_goesOn_50 : decode cX9_goesOn 50 = .ok (.invokevirtual 128, 3) := by decide +kernel
theorem dX9_goesOn_53 : decode cX9_goesOn 53 = .ok (.goto (-53), 3) := by decide +kernel
theorem dX9_goesOn_56 : decode cX9_goesOn 56 = .ok (.return_, 1) := by decide +kernel
set_option maxRecDepth 20000 in
theorem ggX9_asksThen_X9_planOf : GoodIn wsX9_asksThen wsX9_planOf := goodIn_r _ [5, 6, 7, 8, 9, 10, 11, 12, 13, 14, 15, 16, 17, 18, 19, 20, 21, 22, 23, 24, 25, 26, 27, 28, 29, 30, 31, 32, 33, 34, 35, 36, 37, 38, 39, 40, 41, 42, 43, 44, 45, 46] (by decide +kernel) (by decide +kernel)
set_option maxRecDepth 20000 in
theorem gX9_asksThen_X9_planOf : GoodIn wsX9_asksThen (wsV RX9 125 RX9 yX9_planOf wsX9_planOf) := goodIn_app (goodIn_of _ (by decide +kernel)) ggX9_asksThen_X9_planOf
theorem dX9_asksThen_0 : decode cX9_asksThen 0 = .ok (.iload 4, 2) := by decide +kernel
theorem dX9_asksThen_2 : decode cX9_asksThen 2 = .ok (.aload_n 0, 1) := by decide +kernel
theorem dX9_asksThen_3 : decode cX9_asksThen 3 = .ok (.iload_n 1, 1) := by decide +kernel
theorem dX9_asksThen_4 : decode cX9_asksThen 4 = .ok (.iload_n 2, 1) := by decide +kernel
theorem dX9_asksThen_5 : decode cX9_asksThen 5 = .ok (.iload 5, 2) := by decide +kernel
theorem dX9_asksThen_7 : decode cX9_asksThen 7 = .ok (.ifCond .eq 7, 3) := by decide +kernel
theorem dX9_asksThen_10 : decode cX9_asksThen 10 = .ok (.iconst 1, 1) := by decide +kernel
theorem dX9_asksThen_11 : decode cX9_asksThen 11 = .ok (.goto 4, 3) := by decide +kernel
theorem dX9_asksThen_14 : decode cX9_asksThen 14 = .ok (.iconst 2, 1) := by decide +kernel
theorem dX9_asksThen_15 : decode cX9_asksThen 15 = .ok (.invokevirtual 125, 3) := by decide +kernel
theorem dX9_asksThen_18 : decode cX9_asksThen 18 = .ok (.iadd, 1) := by decide +kernel
theorem dX9_asksThen_19 : decode cX9_asksThen 19 = .ok (.istore 6, 2) := by decide +kernel
theorem dX9_asksThen_21 : decode cX9_asksThen 21 = .ok (.iload_n 3, 1) := by decide +kernel
theorem dX9_asksThen_22 : decode cX9_asksThen 22 = .ok (.iconst 2, 1) := by decide +kernel
theorem dX9_asksThen_23 : decode cX9_asksThen 23 = .ok (.if_icmp .eq 10, 3) := by decide +kernel
theorem dX9_asksThen_26 : decode cX9_asksThen 26 = .ok (.iload 6, 2) := by decide +kernel
theorem dX9_asksThen_28 : decode cX9_asksThen 28 = .ok (.bipush 40, 2) := by decide +kernel
theorem dX9_asksThen_30 : decode cX9_asksThen 30 = .ok (.if_icmp .le 7, 3) := by decide +kernel
theorem dX9_asksThen_33 : decode cX9_asksThen 33 = .ok (.iconst 0, 1) := by decide +kernel
theorem dX9_asksThen_34 : decode cX9_asksThen 34 = .ok (.goto 5, 3) := by decide +kernel
theorem dX9_asksThen_37 : decode cX9_asksThen 37 = .ok (.iload 6, 2) := by decide +kernel
theorem dX9_asksThen_39 : decode cX9_asksThen 39 = .ok (.ireturn, 1) := by decide +kernel
set_option maxRecDepth 20000 in
theorem ggX9_doesTry_X9_of : GoodIn wsX9_doesTry wsX9_of := goodIn_r _ [14, 1, 73, 74, 75, 76, 77, 78, 79, 80, 81, 82, 83, 84, 85, 86, 87, 88, 89, 90, 91, 92, 93, 94, 95, 96, 97, 98, 99, 100, 101, 102, 103, 104, 105, 106, 107, 108, 109, 110, 111, 112] (by decide +kernel) (by decide +kernel)
set_option maxRecDepth 20000 in
theorem gX9_doesTry_X9_of : GoodIn wsX9_doesTry (wsV RX9 106 RX9 yX9_of wsX9_of) := goodIn_app (goodIn_of _ (by decide +kernel)) ggX9_doesTry_X9_of
set_option maxRecDepth 20000 in
theorem ggX9_doesTry_X9_asksThen : GoodIn wsX9_doesTry wsX9_asksThen := goodIn_r _ [18, 19, 20, 21, 13, 22, 23, 73, 74, 75, 76, 77, 78, 79, 80, 81, 82, 83, 84, 85, 86, 87, 88, 89, 90, 91, 92, 93, 94, 95, 96, 97, 98, 99, 100, 101, 102, 103, 104, 105, 106, 107, 108, 109, 110, 111, 112] (by decide +kernel) (by decide +kernel)
set_option maxRecDepth 20000 in
theorem gX9_doesTry_X9_asksThen : GoodIn wsX9_doesTry (wsV RX9 153 RX9 yX9_asksThen wsX9_asksThen) := goodIn_app (goodIn_of _ (by decide +kernel)) ggX9_doesTry_X9_asksThen
set_option maxRecDepth 20000 in
theorem ggX9_doesTry_X9_sets : GoodIn wsX9_doesTry wsX9_sets := goodIn_r _ [27, 1, 73, 74, 75, 76, 77, 78, 79, 80, 81, 82, 83, 84, 85, 86, 87, 88, 89, 90, 91, 92, 93, 94, 95, 96, 97, 98, 99, 100, 101, 102, 103, 104, 105, 106, 107, 108, 109, 110, 111, 112] (by decide +kernel) (by decide +kernel)
set_option maxRecDepth 20000 in
theorem gX9_doesTry_X9_sets : GoodIn wsX9_doesTry (wsV RX9 109 RX9 yX9_sets wsX9_sets) := goodIn_app (goodIn_of _ (by decide +kernel)) ggX9_doesTry_X9_sets
set_option maxRecDepth 20000 in
theorem ggX9_doesTry_X9_flag : GoodIn wsX9_doesTry wsX9_flag := goodIn_r _ [30] (by decide +kernel) (by decide +kernel)
set_option maxRecDepth 20000 in
theorem gX9_doesTry_X9_flag : GoodIn wsX9_doesTry (va_wsS RX9 160 yX9_flag wsX9_flag) := goodIn_app (goodIn_of _ (by decide +kernel)) ggX9_doesTry_X9_flag
set_option maxRecDepth 20000 in
theorem ggX9_doesTry_X9_goesOn : GoodIn wsX9_doesTry wsX9_goesOn := goodIn_r _ [34, 35, 1, 36, 37, 38, 13, 39, 40, 41, 42, 43, 44, 45, 46, 47, 10, 11, 12, 14, 48, 49, 50, 51, 52, 53, 54, 55, 56, 57, 58, 59, 60, 24, 25, 26, 27, 61, 62, 63, 64, 19, 20, 21, 22, 23, 65, 66, 67, 68, 69, 70, 71, 72, 73, 74, 75, 76, 77, 78, 79, 80, 81, 82, 83, 84, 85, 86, 87, 88, 89, 90, 91, 92, 93, 94, 95, 96, 97, 98, 99, 100, 101, 102, 103, 104, 105, 106, 107, 108, 109, 110, 111, 112] (by decide +kernel) (by decide +kernel)
set_option maxRecDepth 20000 in
theorem gX9_doesTry_X9_goesOn : GoodIn wsX9_doesTry (wsV RX9 164 RX9 yX9_goesOn wsX9_goesOn) := goodIn_app (goodIn_of _ (by decide +kernel)) ggX9_doesTry_X9_goesOn
theorem dX9_doesTry_0 : decode cX9_doesTry 0 = .ok (.aload_n 0, 1) := by decide +kernel
theorem dX9_doesTry_1 : decode cX9_doesTry 1 = .ok (.getfield 32, 3) := by decide +kernel
theorem dX9_doesTry_4 : decode cX9_doesTry 4 = .ok (.iconst 0, 1) := by decide +kernel
theorem dX9_doesTry_5 : decode cX9_doesTry 5 = .ok (.iaload, 1) := by decide +kernel
theorem dX9_doesTry_6 : decode cX9_doesTry 6 = .ok (.istore_n 3, 1) := by decide +kernel
theorem dX9_doesTry_7 : decode cX9_doesTry 7 = .ok (.aload_n 0, 1) := by decide +kernel
theorem dX9_doesTry_8 : decode cX9_doesTry 8 = .ok (.iload_n 1, 1) := by decide +kernel
theorem dX9_doesTry_9 : decode cX9_doesTry 9 = .ok (.iconst 0, 1) := by decide +kernel
theorem dX9_doesTry_10 : decode cX9_doesTry 10 = .ok (.invokevirtual 106, 3) := by decide +kernel
theorem dX9_doesTry_13 : decode cX9_doesTry 13 = .ok (.istore 4, 2) := by decide +kernel
theorem dX9_doesTry_15 : decode cX9_doesTry 15 = .ok (.aload_n 0, 1) := by decide +kernel
theorem dX9_doesTry_16 : decode cX9_doesTry 16 = .ok (.aload_n 0, 1) := by decide +kernel
theorem dX9_doesTry_17 : decode cX9_doesTry 17 = .ok (.iload_n 1, 1) := by decide +kernel
theorem dX9_doesTry_18 : decode cX9_doesTry 18 = .ok (.iload_n 3, 1) := by decide +kernel
theorem dX9_doesTry_19 : decode cX9_doesTry 19 = .ok (.aload_n 0, 1) := by decide +kernel
theorem dX9_doesTry_20 : decode cX9_doesTry 20 = .ok (.getfield 32, 3) := by decide +kernel
theorem dX9_doesTry_23 : decode cX9_doesTry 23 = .ok (.iconst 1, 1) := by decide +kernel
theorem dX9_doesTry_24 : decode cX9_doesTry 24 = .ok (.iaload, 1) := by decide +kernel
theorem dX9_doesTry_25 : decode cX9_doesTry 25 = .ok (.iload 4, 2) := by decide +kernel
theorem dX9_doesTry_27 : decode cX9_doesTry 27 = .ok (.iload_n 2, 1) := by decide +kernel
theorem dX9_doesTry_28 : decode cX9_doesTry 28 = .ok (.invokevirtual 153, 3) := by decide +kernel
theorem dX9_doesTry_31 : decode cX9_doesTry 31 = .ok (.putfield 157, 3) := by decide +kernel
theorem dX9_doesTry_34 : decode cX9_doesTry 34 = .ok (.aload_n 0, 1) := by decide +kernel
theorem dX9_doesTry_35 : decode cX9_doesTry 35 = .ok (.getfield 32, 3) := by decide +kernel
theorem dX9_doesTry_38 : decode cX9_doesTry 38 = .ok (.iconst 2, 1) := by decide +kernel
theorem dX9_doesTry_39 : decode cX9_doesTry 39 = .ok (.aload_n 0, 1) := by decide +kernel
theorem dX9_doesTry_40 : decode cX9_doesTry 40 = .ok (.getfield 32, 3) := by decide +kernel
theorem dX9_doesTry_43 : decode cX9_doesTry 43 = .ok (.iconst 2, 1) := by decide +kernel
theorem dX9_doesTry_44 : decode cX9_doesTry 44 = .ok (.iaload, 1) := by decide +kernel
theorem dX9_doesTry_45 : decode cX9_doesTry 45 = .ok (.iload 4, 2) := by decide +kernel
theorem dX9_doesTry_47 : decode cX9_doesTry 47 = .ok (.invokestatic 100, 3) := by decide +kernel
theorem dX9_doesTry_50 : decode cX9_doesTry 50 = .ok (.iastore, 1) := by decide +kernel
theorem dX9_doesTry_51 : decode cX9_doesTry 51 = .ok (.aload_n 0, 1) := by decide +kernel
theorem dX9_doesTry_52 : decode cX9_doesTry 52 = .ok (.iload_n 1, 1) := by decide +kernel
theorem dX9_doesTry_53 : decode cX9_doesTry 53 = .ok (.iconst 1, 1) := by decide +kernel
theorem dX9_doesTry_54 : decode cX9_doesTry 54 = .ok (.iconst 1, 1) := by decide +kernel
theorem dX9_doesTry_55 : decode cX9_doesTry 55 = .ok (.invokevirtual 109, 3) := by decide +kernel
theorem dX9_doesTry_58 : decode cX9_doesTry 58 = .ok (.aload_n 0, 1) := by decide +kernel
theorem dX9_doesTry_59 : decode cX9_doesTry 59 = .ok (.iload_n 1, 1) := by decide +kernel
theorem dX9_doesTry_60 : decode cX9_doesTry 60 = .ok (.iconst 2, 1) := by decide +kernel
theorem dX9_doesTry_61 : decode cX9_doesTry 61 = .ok (.iload 4, 2) := by decide +kernel
theorem dX9_doesTry_63 : decode cX9_doesTry 63 = .ok (.invokevirtual 109, 3) := by decide +kernel
theorem dX9_doesTry_66 : decode cX9_doesTry 66 = .ok (.aload_n 0, 1) := by decide +kernel
theorem dX9_doesTry_67 : decode cX9_doesTry 67 = .ok (.iload_n 1, 1) := by decide +kernel
theorem dX9_doesTry_68 : decode cX9_doesTry 68 = .ok (.iconst 3, 1) := by decide +kernel
theorem dX9_doesTry_69 : decode cX9_doesTry 69 = .ok (.iload_n 2, 1) := by decide +kernel
theorem dX9_doesTry_70 : decode cX9_doesTry 70 = .ok (.invokestatic 160, 3) := by decide +kernel
theorem dX9_doesTry_73 : decode cX9_doesTry 73 = .ok (.invokevirtual 109, 3) := by decide +kernel
theorem dX9_doesTry_76 : decode cX9_doesTry 76 = .ok (.aload_n 0, 1) := by decide +kernel
theorem dX9_doesTry_77 : decode cX9_doesTry 77 = .ok (.iload_n 1, 1) := by decide +kernel
theorem dX9_doesTry_78 : decode cX9_doesTry 78 = .ok (.iconst 0, 1) := by decide +kernel
theorem dX9_doesTry_79 : decode cX9_doesTry 79 = .ok (.aload_n 0, 1) := by decide +kernel
theorem dX9_doesTry_80 : decode cX9_doesTry 80 = .ok (.getfield 157, 3) := by decide +kernel
theorem dX9_doesTry_83 : decode cX9_doesTry 83 = .ok (.invokevirtual 109, 3) := by decide +kernel
theorem dX9_doesTry_86 : decode cX9_doesTry 86 = .ok (.iload_n 2, 1) := by decide +kernel
theorem dX9_doesTry_87 : decode cX9_doesTry 87 = .ok (.ifCond .eq 29, 3) := by decide +kernel
theorem dX9_doesTry_90 : decode cX9_doesTry 90 = .ok (.aload_n 0, 1) := by decide +kernel
theorem dX9_doesTry_91 : decode cX9_doesTry 91 = .ok (.iload_n 1, 1) := by decide +kernel
theorem dX9_doesTry_92 : decode cX9_doesTry 92 = .ok (.bipush 7, 2) := by decide +kernel
theorem dX9_doesTry_94 : decode cX9_doesTry 94 = .ok (.iload_n 3, 1) := by decide +kernel
theorem dX9_doesTry_95 : decode cX9_doesTry 95 = .ok (.iadd, 1) := by decide +kernel
theorem dX9_doesTry_96 : decode cX9_doesTry 96 = .ok (.iload 4, 2) := by decide +kernel
theorem dX9_doesTry_98 : decode cX9_doesTry 98 = .ok (.aload_n 0, 1) := by decide +kernel
theorem dX9_doesTry_99 : decode cX9_doesTry 99 = .ok (.iload_n 1, 1) := by decide +kernel
theorem dX9_doesTry_100 : decode cX9_doesTry 100 = .ok (.bipush 7, 2) := by decide +kernel
theorem dX9_doesTry_102 : decode cX9_doesTry 102 = .ok (.iload_n 3, 1) := by decide +kernel
theorem dX9_doesTry_103 : decode cX9_doesTry 103 = .ok (.iadd, 1) := by decide +kernel
theorem dX9_doesTry_104 : decode cX9_doesTry 104 = .ok (.invokevirtual 106, 3) := by decide +kernel
theorem dX9_doesTry_107 : decode cX9_doesTry 107 = .ok (.invokestatic 100, 3) := by decide +kernel
theorem dX9_doesTry_110 : decode cX9_doesTry 110 = .ok (.invokevirtual 109, 3) := by decide +kernel
theorem dX9_doesTry_113 : decode cX9_doesTry 113 = .ok (.goto 17, 3) := by decide +kernel
theorem dX9_doesTry_116 : decode cX9_doesTry 116 = .ok (.aload_n 0, 1) := by decide +kernel
theorem dX9_doesTry_117 : decode cX9_doesTry 117 = .ok (.iload_n 1, 1) := by decide +kernel
theorem dX9_doesTry_118 : decode cX9_doesTry 118 = .ok (.iconst 4, 1) := by decide +kernel
theorem dX9_doesTry_119 : decode cX9_doesTry 119 = .ok (.aload_n 0, 1) := by decide +kernel
theorem dX9_doesTry_120 : decode cX9_doesTry 120 = .ok (.iload_n 1, 1) := by decide +kernel
theorem dX9_doesTry_121 : decode cX9_doesTry 121 = .ok (.iconst 4, 1) := by decide +kernel
theorem dX9_doesTry_122 : decode cX9_doesTry 122 = .ok (.invokevirtual 106, 3) := by decide +kernel
theorem dX9_doesTry_125 : decode cX9_doesTry 125 = .ok (.iconst 1, 1) := by decide +kernel
theorem dX9_doesTry_126 : decode cX9_doesTry 126 = .ok (.iadd, 1) := by decide +kernel
theorem dX9_doesTry_127 : decode cX9_doesTry 127 = .ok (.invokevirtual 109, 3) := by decide +kernel
theorem dX9_doesTry_130 : decode cX9_doesTry 130 = .ok (.aload_n 0, 1) := by decide +kernel
theorem dX9_doesTry_131 : decode cX9_doesTry 131 = .ok (.getfield 38, 3) := by decide +kernel
theorem dX9_doesTry_134 : decode cX9_doesTry 134 = .ok (.iconst 4, 1) := by decide +kernel
theorem dX9_doesTry_135 : decode cX9_doesTry 135 = .ok (.aload_n 0, 1) := by decide +kernel
theorem dX9_doesTry_136 : decode cX9_doesTry 136 = .ok (.getfield 131, 3) := by decide +kernel
theorem dX9_doesTry_139 : decode cX9_doesTry 139 = .ok (.imul, 1) := by decide +kernel
theorem dX9_doesTry_140 : decode cX9_doesTry 140 = .ok (.iload_n 1, 1) := by decide +kernel
theorem dX9_doesTry_141 : decode cX9_doesTry 141 = .ok (.iastore, 1) := by decide +kernel
theorem dX9_doesTry_142 : decode cX9_doesTry 142 = .ok (.aload_n 0, 1) := by decide +kernel
theorem dX9_doesTry_143 : decode cX9_doesTry 143 = .ok (.getfield 38, 3) := by decide +kernel
theorem dX9_doesTry_146 : decode cX9_doesTry 146 = .ok (.iconst 4, 1) := by decide +kernel
theorem dX9_doesTry_147 : decode cX9_doesTry 147 = .ok (.aload_n 0, 1) := by decide +kernel
theorem dX9_doesTry_148 : decode cX9_doesTry 148 = .ok (.getfield 131, 3) := by decide +kernel
theorem dX9_doesTry_151 : decode cX9_doesTry 151 = .ok (.imul, 1) := by decide +kernel
theorem dX9_doesTry_152 : decode cX9_doesTry 152 = .ok (.iconst 1, 1) := by decide +kernel
theorem dX9_doesTry_153 : decode cX9_doesTry 153 = .ok (.iadd, 1) := by decide +kernel
theorem dX9_doesTry_154 : decode cX9_doesTry 154 = .ok (.iload_n 3, 1) := by decide +kernel
theorem dX9_doesTry_155 : decode cX9_doesTry 155 = .ok (.iastore, 1) := by decide +kernel
theorem dX9_doesTry_156 : decode cX9_doesTry 156 = .ok (.aload_n 0, 1) := by decide +kernel
theorem dX9_doesTry_157 : decode cX9_doesTry 157 = .ok (.getfield 38, 3) := by decide +kernel
theorem dX9_doesTry_160 : decode cX9_doesTry 160 = .ok (.iconst 4, 1) := by decide +kernel
theorem dX9_doesTry_161 : decode cX9_doesTry 161 = .ok (.aload_n 0, 1) := by decide +kernel
theorem dX9_doesTry_162 : decode cX9_doesTry 162 = .ok (.getfield 131, 3) := by decide +kernel
theorem dX9_doesTry_165 : decode cX9_doesTry 165 = .ok (.imul, 1) := by decide +kernel
theorem dX9_doesTry_166 : decode cX9_doesTry 166 = .ok (.iconst 2, 1) := by decide +kernel
theorem dX9_doesTry_167 : decode cX9_doesTry 167 = .ok (.iadd, 1) := by decide +kernel
theorem dX9_doesTry_168 : decode cX9_doesTry 168 = .ok (.iload 4, 2) := by decide +kernel
theorem dX9_doesTry_170 : decode cX9_doesTry 170 = .ok (.iastore, 1) := by decide +kernel
theorem dX9_doesTry_171 : decode cX9_doesTry 171 = .ok (.aload_n 0, 1) := by decide +kernel
theorem dX9_doesTry_172 : decode cX9_doesTry 172 = .ok (.getfield 38, 3) := by decide +kernel
theorem dX9_doesTry_175 : decode cX9_doesTry 175 = .ok (.iconst 4, 1) := by decide +kernel
theorem dX9_doesTry_176 : decode cX9_doesTry 176 = .ok (.aload_n 0, 1) := by decide +kernel
theorem dX9_doesTry_177 : decode cX9_doesTry 177 = .ok (.getfield 131, 3) := by decide +kernel
theorem dX9_doesTry_180 : decode cX9_doesTry 180 = .ok (.imul, 1) := by decide +kernel
theorem dX9_doesTry_181 : decode cX9_doesTry 181 = .ok (.iconst 3, 1) := by decide +kernel
theorem dX9_doesTry_182 : decode cX9_doesTry 182 = .ok (.iadd, 1) := by decide +kernel
theorem dX9_doesTry_183 : decode cX9_doesTry 183 = .ok (.iload_n 2, 1) := by decide +kernel
theorem dX9_doesTry_184 : decode cX9_doesTry 184 = .ok (.invokestatic 160, 3) := by decide +kernel
theorem dX9_doesTry_187 : decode cX9_doesTry 187 = .ok (.iastore, 1) := by decide +kernel
theorem dX9_doesTry_188 : decode cX9_doesTry 188 = .ok (.aload_n 0, 1) := by decide +kernel
theorem dX9_doesTry_189 : decode cX9_doesTry 189 = .ok (.dup, 1) := by decide +kernel
theorem dX9_doesTry_190 : decode cX9_doesTry 190 = .ok (.getfield 131, 3) := by decide +kernel
theorem dX9_doesTry_193 : decode cX9_doesTry 193 = .ok (.iconst 1, 1) := by decide +kernel
theorem dX9_doesTry_194 : decode cX9_doesTry 194 = .ok (.iadd, 1) := by decide +kernel
theorem dX9_doesTry_195 : decode cX9_doesTry 195 = .ok (.putfield 131, 3) := by decide +kernel
theorem dX9_doesTry_198 : decode cX9_doesTry 198 = .ok (.aload_n 0, 1) := by decide +kernel
theorem dX9_doesTry_199 : decode cX9_doesTry 199 = .ok (.dup, 1) := by decide +kernel
theorem dX9_doesTry_200 : decode cX9_doesTry 200 = .ok (.getfield 134, 3) := by decide +kernel
theorem dX9_doesTry_203 : decode cX9_doesTry 203 = .ok (.iload_n 2, 1) := by decide +kernel
theorem dX9_doesTry_204 : decode cX9_doesTry 204 = .ok (.invokestatic 160, 3) := by decide +kernel
theorem dX9_doesTry_207 : decode cX9_doesTry 207 = .ok (.iadd, 1) := by decide +kernel
theorem dX9_doesTry_208 : decode cX9_doesTry 208 = .ok (.putfield 134, 3) := by decide +kernel
theorem dX9_doesTry_211 : decode cX9_doesTry 211 = .ok (.aload_n 0, 1) := by decide +kernel
theorem dX9_doesTry_212 : decode cX9_doesTry 212 = .ok (.invokevirtual 164, 3) := by decide +kernel
theorem dX9_doesTry_215 : decode cX9_doesTry 215 = .ok (.return_, 1) := by decide +kernel
set_option maxRecDepth 20000 in
theorem ggX9_leastOf_X9_of : GoodIn wsX9_leastOf wsX9_of := goodIn_r _ [10, 1, 19, 20, 21, 22, 23, 24, 25, 26, 27, 28, 29, 30, 31, 32, 33, 34, 35, 36, 37, 38, 39, 40, 41, 42, 43, 44, 45, 46, 47, 48, 49, 50, 51, 52, 53, 54, 55, 56, 57, 58] (by decide +kernel) (by decide +kernel)
set_option maxRecDepth 20000 in
theorem gX9_leastOf_X9_of : GoodIn wsX9_leastOf (wsV RX9 106 RX9 yX9_of wsX9_of) := goodIn_app (goodIn_of _ (by decide +kernel)) ggX9_leastOf_X9_of
set_option maxRecDepth 20000 in
theorem ggX9_leastOf_X9_isOut : GoodIn wsX9_leastOf wsX9_isOut := goodIn_r _ [14, 6, 7, 8, 9, 10, 1, 19, 20, 21, 22, 23, 24, 25, 26, 27, 28, 29, 30, 31, 32, 33, 34, 35, 36, 37, 38, 39, 40, 41, 42, 43, 44, 45, 46, 47, 48, 49, 50, 51, 52, 53, 54, 55, 56, 57, 58] (by decide +kernel) (by decide +kernel)
set_option maxRecDepth 20000 in
theorem gX9_leastOf_X9_isOut : GoodIn wsX9_leastOf (wsV RX9 121 RX9 yX9_isOut wsX9_isOut) := goodIn_app (goodIn_of _ (by decide +kernel)) ggX9_leastOf_X9_isOut
set_option maxRecDepth 20000 in
theorem ggX9_leastOf_X9_isOver : GoodIn wsX9_leastOf wsX9_isOver := goodIn_r _ [18, 1, 19, 20, 21, 22, 23, 24, 25, 26, 27, 28, 29, 30, 31, 32, 33, 34, 35, 36, 37, 38, 39, 40, 41, 42, 43, 44, 45, 46, 47, 48, 49, 50, 51, 52, 53, 54, 55, 56, 57, 58] (by decide +kernel) (by decide +kernel)
set_option maxRecDepth 20000 in
theorem gX9_leastOf_X9_isOver : GoodIn wsX9_leastOf (wsV RX9 113 RX9 yX9_isOver wsX9_isOver) := goodIn_app (goodIn_of _ (by decide +kernel)) ggX9_leastOf_X9_isOver
theorem dX9_leastOf_0 : decode cX9_leastOf 0 = .ok (.aload_n 0, 1) := by decide +kernel
theorem dX9_leastOf_1 : decode cX9_leastOf 1 = .ok (.iload_n 1, 1) := by decide +kernel
theorem dX9_leastOf_2 : decode cX9_leastOf 2 = .ok (.iconst 0, 1) := by decide +kernel
theorem dX9_leastOf_3 : decode cX9_leastOf 3 = .ok (.invokevirtual 106, 3) := by decide +kernel
theorem dX9_leastOf_6 : decode cX9_leastOf 6 = .ok (.ifCond .eq 18, 3) := by decide +kernel
theorem dX9_leastOf_9 : decode cX9_leastOf 9 = .ok (.aload_n 0, 1) := by decide +kernel
theorem dX9_leastOf_10 : decode cX9_leastOf 10 = .ok (.iload_n 1, 1) := by decide +kernel
theorem dX9_leastOf_11 : decode cX9_leastOf 11 = .ok (.invokevirtual 121, 3) := by decide +kernel
theorem dX9_leastOf_14 : decode cX9_leastOf 14 = .ok (.ifCond .ne 10, 3) := by decide +kernel
theorem dX9_leastOf_17 : decode cX9_leastOf 17 = .ok (.aload_n 0, 1) := by decide +kernel
theorem dX9_leastOf_18 : decode cX9_leastOf 18 = .ok (.invokevirtual 113, 3) := by decide +kernel
theorem dX9_leastOf_21 : decode cX9_leastOf 21 = .ok (.ifCond .eq 5, 3) := by decide +kernel
theorem dX9_leastOf_24 : decode cX9_leastOf 24 = .ok (.iconst 0, 1) := by decide +kernel
theorem dX9_leastOf_25 : decode cX9_leastOf 25 = .ok (.ireturn, 1) := by decide +kernel
theorem dX9_leastOf_26 : decode cX9_leastOf 26 = .ok (.aload_n 0, 1) := by decide +kernel
theorem dX9_leastOf_27 : decode cX9_leastOf 27 = .ok (.iload_n 1, 1) := by decide +kernel
theorem dX9_leastOf_28 : decode cX9_leastOf 28 = .ok (.iconst 2, 1) := by decide +kernel
theorem dX9_leastOf_29 : decode cX9_leastOf 29 = .ok (.invokevirtual 106, 3) := by decide +kernel
theorem dX9_leastOf_32 : decode cX9_leastOf 32 = .ok (.ifCond .ne 7, 3) := by decide +kernel
theorem dX9_leastOf_35 : decode cX9_leastOf 35 = .ok (.iconst 1, 1) := by decide +kernel
theorem dX9_leastOf_36 : decode cX9_leastOf 36 = .ok (.goto 16, 3) := by decide +kernel
theorem dX9_leastOf_39 : decode cX9_leastOf 39 = .ok (.aload_n 0, 1) := by decide +kernel
theorem dX9_leastOf_40 : decode cX9_leastOf 40 = .ok (.iload_n 1, 1) := by decide +kernel
theorem dX9_leastOf_41 : decode cX9_leastOf 41 = .ok (.iconst 2, 1) := by decide +kernel
theorem dX9_leastOf_42 : decode cX9_leastOf 42 = .ok (.invokevirtual 106, 3) := by decide +kernel
theorem dX9_leastOf_45 : decode cX9_leastOf 45 = .ok (.aload_n 0, 1) := by decide +kernel
theorem dX9_leastOf_46 : decode cX9_leastOf 46 = .ok (.iload_n 1, 1) := by decide +kernel
theorem dX9_leastOf_47 : decode cX9_leastOf 47 = .ok (.iconst 3, 1) := by decide +kernel
theorem dX9_leastOf_48 : decode cX9_leastOf 48 = .ok (.invokevirtual 106, 3) := by decide +kernel
theorem dX9_leastOf_51 : decode cX9_leastOf 51 = .ok (.iadd, 1) := by decide +kernel
theorem dX9_leastOf_52 : decode cX9_leastOf 52 = .ok (.istore_n 2, 1) := by decide +kernel
theorem dX9_leastOf_53 : decode cX9_leastOf 53 = .ok (.aload_n 0, 1) := by decide +kernel
theorem dX9_leastOf_54 : decode cX9_leastOf 54 = .ok (.iload_n 1, 1) := by decide +kernel
theorem dX9_leastOf_55 : decode cX9_leastOf 55 = .ok (.iconst 1, 1) := by decide +kernel
theorem dX9_leastOf_56 : decode cX9_leastOf 56 = .ok (.invokevirtual 106, 3) := by decide +kernel
theorem dX9_leastOf_59 : decode cX9_leastOf 59 = .ok (.ifCond .ne 16, 3) := by decide +kernel
theorem dX9_leastOf_62 : decode cX9_leastOf 62 = .ok (.iload_n 2, 1) := by decide +kernel
theorem dX9_leastOf_63 : decode cX9_leastOf 63 = .ok (.aload_n 0, 1) := by decide +kernel
theorem dX9_leastOf_64 : decode cX9_leastOf 64 = .ok (.getfield 32, 3) := by decide +kernel
theorem dX9_leastOf_67 : decode cX9_leastOf 67 = .ok (.iconst 2, 1) := by decide +kernel
theorem dX9_leastOf_68 : decode cX9_leastOf 68 = .ok (.iaload, 1) := by decide +kernel
theorem dX9_leastOf_69 : decode cX9_leastOf 69 = .ok (.invokestatic 100, 3) := by decide +kernel
theorem dX9_leastOf_72 : decode cX9_leastOf 72 = .ok (.goto 4, 3) := by decide +kernel
theorem dX9_leastOf_75 : decode cX9_leastOf 75 = .ok (.iload_n 2, 1) := by decide +kernel
theorem dX9_leastOf_76 : decode cX9_leastOf 76 = .ok (.ireturn, 1) := by decide +kernel
set_option maxRecDepth 20000 in
theorem ggX9_sumOf_X9_isOut : GoodIn wsX9_sumOf wsX9_isOut := goodIn_r _ [5, 6, 7, 8, 4, 9, 10, 11, 12, 13, 14, 15, 16, 17, 18, 19, 20, 21, 22, 23, 24, 25, 26, 27, 28, 29, 30, 31, 32, 33, 34, 35, 36, 37, 38, 39, 40, 41, 42, 43, 44, 45, 46, 47, 48, 49, 50] (by decide +kernel) (by decide +kernel)
set_option maxRecDepth 20000 in
theorem gX9_sumOf_X9_isOut : GoodIn wsX9_sumOf (wsV RX9 121 RX9 yX9_isOut wsX9_isOut) := goodIn_app (goodIn_of _ (by decide +kernel)) ggX9_sumOf_X9_isOut
set_option maxRecDepth 20000 in
theorem ggX9_sumOf_X9_of : GoodIn wsX9_sumOf wsX9_of := goodIn_r _ [9, 10, 11, 12, 13, 14, 15, 16, 17, 18, 19, 20, 21, 22, 23, 24, 25, 26, 27, 28, 29, 30, 31, 32, 33, 34, 35, 36, 37, 38, 39, 40, 41, 42, 43, 44, 45, 46, 47, 48, 49, 50] (by decide +kernel) (by decide +kernel)
set_option maxRecDepth 20000 in
theorem gX9_sumOf_X9_of : GoodIn wsX9_sumOf (wsV RX9 106 RX9 yX9_of wsX9_of) := goodIn_app (goodIn_of _ (by decide +kernel)) ggX9_sumOf_X9_of
theorem dX9_sumOf_0 : decode cX9_sumOf 0 = .ok (.aload_n 0, 1) := by decide +kernel
theorem dX9_sumOf_1 : decode cX9_sumOf 1 = .ok (.iload_n 1, 1) := by decide +kernel
theorem dX9_sumOf_2 : decode cX9_sumOf 2 = .ok (.invokevirtual 121, 3) := by decide +kernel
theorem dX9_sumOf_5 : decode cX9_sumOf 5 = .ok (.ifCond .eq 7, 3) := by decide +kernel
theorem dX9_sumOf_8 : decode cX9_sumOf 8 = .ok (.iconst 0, 1) := by decide +kernel
theorem dX9_sumOf_9 : decode cX9_sumOf 9 = .ok (.goto 26, 3) := by decide +kernel
theorem dX9_sumOf_12 : decode cX9_sumOf 12 = .ok (.aload_n 0, 1) := by decide +kernel
theorem dX9_sumOf_13 : decode cX9_sumOf 13 = .ok (.iload_n 1, 1) := by decide +kernel
theorem dX9_sumOf_14 : decode cX9_sumOf 14 = .ok (.bipush 7, 2) := by decide +kernel
theorem dX9_sumOf_16 : decode cX9_sumOf 16 = .ok (.invokevirtual 106, 3) := by decide +kernel
theorem dX9_sumOf_19 : decode cX9_sumOf 19 = .ok (.aload_n 0, 1) := by decide +kernel
theorem dX9_sumOf_20 : decode cX9_sumOf 20 = .ok (.iload_n 1, 1) := by decide +kernel
theorem dX9_sumOf_21 : decode cX9_sumOf 21 = .ok (.bipush 8, 2) := by decide +kernel
theorem dX9_sumOf_23 : decode cX9_sumOf 23 = .ok (.invokevirtual 106, 3) := by decide +kernel
theorem dX9_sumOf_26 : decode cX9_sumOf 26 = .ok (.iadd, 1) := by decide +kernel
theorem dX9_sumOf_27 : decode cX9_sumOf 27 = .ok (.aload_n 0, 1) := by decide +kernel
theorem dX9_sumOf_28 : decode cX9_sumOf 28 = .ok (.iload_n 1, 1) := by decide +kernel
theorem dX9_sumOf_29 : decode cX9_sumOf 29 = .ok (.bipush 9, 2) := by decide +kernel
theorem dX9_sumOf_31 : decode cX9_sumOf 31 = .ok (.invokevirtual 106, 3) := by decide +kernel
theorem dX9_sumOf_34 : decode cX9_sumOf 34 = .ok (.iadd, 1) := by decide +kernel
theorem dX9_sumOf_35 : decode cX9_sumOf 35 = .ok (.ireturn, 1) := by decide +kernel
theorem dX9_isLighter_0 : decode cX9_isLighter 0 = .ok (.aload_n 0, 1) := by decide +kernel
theorem dX9_isLighter_1 : decode cX9_isLighter 1 = .ok (.getfield 13, 3) := by decide +kernel
theorem dX9_isLighter_4 : decode cX9_isLighter 4 = .ok (.iload_n 1, 1) := by decide +kernel
theorem dX9_isLighter_5 : decode cX9_isLighter 5 = .ok (.iaload, 1) := by decide +kernel
theorem dX9_isLighter_6 : decode cX9_isLighter 6 = .ok (.aload_n 0, 1) := by decide +kernel
theorem dX9_isLighter_7 : decode cX9_isLighter 7 = .ok (.getfield 13, 3) := by decide +kernel
theorem dX9_isLighter_10 : decode cX9_isLighter 10 = .ok (.iload_n 2, 1) := by decide +kernel
theorem dX9_isLighter_11 : decode cX9_isLighter 11 = .ok (.iaload, 1) := by decide +kernel
theorem dX9_isLighter_12 : decode cX9_isLighter 12 = .ok (.if_icmp .lt 33, 3) := by decide +kernel
theorem dX9_isLighter_15 : decode cX9_isLighter 15 = .ok (.aload_n 0, 1) := by decide +kernel
theorem dX9_isLighter_16 : decode cX9_isLighter 16 = .ok (.getfield 13, 3) := by decide +kernel
theorem dX9_isLighter_19 : decode cX9_isLighter 19 = .ok (.iload_n 1, 1) := by decide +kernel
theorem dX9_isLighter_20 : decode cX9_isLighter 20 = .ok (.iaload, 1) := by decide +kernel
theorem dX9_isLighter_21 : decode cX9_isLighter 21 = .ok (.aload_n 0, 1) := by decide +kernel
theorem dX9_isLighter_22 : decode cX9_isLighter 22 = .ok (.getfield 13, 3) := by decide +kernel
theorem dX9_isLighter_25 : decode cX9_isLighter 25 = .ok (.iload_n 2, 1) := by decide +kernel
theorem dX9_isLighter_26 : decode cX9_isLighter 26 = .ok (.iaload, 1) := by decide +kernel
theorem dX9_isLighter_27 : decode cX9_isLighter 27 = .ok (.if_icmp .ne 22, 3) := by decide +kernel
theorem dX9_isLighter_30 : decode cX9_isLighter 30 = .ok (.aload_n 0, 1) := by decide +kernel
theorem dX9_isLighter_31 : decode cX9_isLighter 31 = .ok (.getfield 17, 3) := by decide +kernel
theorem dX9_isLighter_34 : decode cX9_isLighter 34 = .ok (.iload_n 1, 1) := by decide +kernel
theorem dX9_isLighter_35 : decode cX9_isLighter 35 = .ok (.iaload, 1) := by decide +kernel
theorem dX9_isLighter_36 : decode cX9_isLighter 36 = .ok (.aload_n 0, 1) := by decide +kernel
theorem dX9_isLighter_37 : decode cX9_isLighter 37 = .ok (.getfield 17, 3) := by decide +kernel
theorem dX9_isLighter_40 : decode cX9_isLighter 40 = .ok (.iload_n 2, 1) := by decide +kernel
theorem dX9_isLighter_41 : decode cX9_isLighter 41 = .ok (.iaload, 1) := by decide +kernel
theorem dX9_isLighter_42 : decode cX9_isLighter 42 = .ok (.if_icmp .ge 7, 3) := by decide +kernel
theorem dX9_isLighter_45 : decode cX9_isLighter 45 = .ok (.iconst 1, 1) := by decide +kernel
theorem dX9_isLighter_46 : decode cX9_isLighter 46 = .ok (.goto 4, 3) := by decide +kernel
theorem dX9_isLighter_49 : decode cX9_isLighter 49 = .ok (.iconst 0, 1) := by decide +kernel
theorem dX9_isLighter_50 : decode cX9_isLighter 50 = .ok (.ireturn, 1) := by decide +kernel
set_option maxRecDepth 20000 in
theorem ggX9_isAhead_X9_isOut : GoodIn wsX9_isAhead wsX9_isOut := goodIn_r _ [5, 6, 7, 8, 4, 9, 10, 21, 22, 23, 24, 25, 26, 27, 28, 29, 30, 31, 32, 33, 34, 35, 36, 37, 38, 39, 40, 41, 42, 43, 44, 45, 46, 47, 48, 49, 50, 51, 52, 53, 54, 55, 56, 57, 58, 59, 60] (by decide +kernel) (by decide +kernel)
set_option maxRecDepth 20000 in
theorem gX9_isAhead_X9_isOut : GoodIn wsX9_isAhead (wsV RX9 121 RX9 yX9_isOut wsX9_isOut) := goodIn_app (goodIn_of _ (by decide +kernel)) ggX9_isAhead_X9_isOut
set_option maxRecDepth 20000 in
theorem ggX9_isAhead_X9_sumOf : GoodIn wsX9_isAhead wsX9_sumOf := goodIn_r _ [14, 1, 2, 3, 4, 5, 6, 7, 8, 9, 10, 21, 22, 23, 24, 25, 26, 27, 28, 29, 30, 31, 32, 33, 34, 35, 36, 37, 38, 39, 40, 41, 42, 43, 44, 45, 46, 47, 48, 49, 50, 51, 52, 53, 54, 55, 56, 57, 58, 59, 60] (by decide +kernel) (by decide +kernel)
set_option maxRecDepth 20000 in
theorem gX9_isAhead_X9_sumOf : GoodIn wsX9_isAhead (wsV RX9 167 RX9 yX9_sumOf wsX9_sumOf) := goodIn_app (goodIn_of _ (by decide +kernel)) ggX9_isAhead_X9_sumOf
set_option maxRecDepth 20000 in
theorem ggX9_isAhead_X9_isLighter : GoodIn wsX9_isAhead wsX9_isLighter := goodIn_r _ [18, 19, 20, 21, 22, 23, 24, 25, 26, 27, 28, 29, 30, 31, 32, 33, 34, 35, 36, 37, 38, 39, 40, 41, 42, 43, 44, 45, 46, 47, 48, 49, 50, 51, 52, 53, 54, 55, 56, 57, 58, 59, 60] (by decide +kernel) (by decide +kernel)
set_option maxRecDepth 20000 in
theorem gX9_isAhead_X9_isLighter : GoodIn wsX9_isAhead (wsV RX9 171 RX9 yX9_isLighter wsX9_isLighter) := goodIn_app (goodIn_of _ (by decide +kernel)) ggX9_isAhead_X9_isLighter
theorem dX9_isAhead_0 : decode cX9_isAhead 0 = .ok (.aload_n 0, 1) := by decide +kernel
theorem dX9_isAhead_1 : decode cX9_isAhead 1 = .ok (.iload_n 1, 1) := by decide +kernel
theorem dX9_isAhead_2 : decode cX9_isAhead 2 = .ok (.invokevirtual 121, 3) := by decide +kernel
theorem dX9_isAhead_5 : decode cX9_isAhead 5 = .ok (.aload_n 0, 1) := by decide +kernel
theorem dX9_isAhead_6 : decode cX9_isAhead 6 = .ok (.iload_n 2, 1) := by decide +kernel
theorem dX9_isAhead_7 : decode cX9_isAhead 7 = .ok (.invokevirtual 121, 3) := by decide +kernel
theorem dX9_isAhead_10 : decode cX9_isAhead 10 = .ok (.if_icmp .eq 9, 3) := by decide +kernel
theorem dX9_isAhead_13 : decode cX9_isAhead 13 = .ok (.aload_n 0, 1) := by decide +kernel
theorem dX9_isAhead_14 : decode cX9_isAhead 14 = .ok (.iload_n 2, 1) := by decide +kernel
theorem dX9_isAhead_15 : decode cX9_isAhead 15 = .ok (.invokevirtual 121, 3) := by decide +kernel
theorem dX9_isAhead_18 : decode cX9_isAhead 18 = .ok (.ireturn, 1) := by decide +kernel
theorem dX9_isAhead_19 : decode cX9_isAhead 19 = .ok (.aload_n 0, 1) := by decide +kernel
theorem dX9_isAhead_20 : decode cX9_isAhead 20 = .ok (.iload_n 1, 1) := by decide +kernel
theorem dX9_isAhead_21 : decode cX9_isAhead 21 = .ok (.invokevirtual 167, 3) := by decide +kernel
theorem dX9_isAhead_24 : decode cX9_isAhead 24 = .ok (.aload_n 0, 1) := by decide +kernel
theorem dX9_isAhead_25 : decode cX9_isAhead 25 = .ok (.iload_n 2, 1) := by decide +kernel
theorem dX9_isAhead_26 : decode cX9_isAhead 26 = .ok (.invokevirtual 167, 3) := by decide +kernel
theorem dX9_isAhead_29 : decode cX9_isAhead 29 = .ok (.if_icmp .gt 25, 3) := by decide +kernel
theorem dX9_isAhead_32 : decode cX9_isAhead 32 = .ok (.aload_n 0, 1) := by decide +kernel
theorem dX9_isAhead_33 : decode cX9_isAhead 33 = .ok (.iload_n 1, 1) := by decide +kernel
theorem dX9_isAhead_34 : decode cX9_isAhead 34 = .ok (.invokevirtual 167, 3) := by decide +kernel
theorem dX9_isAhead_37 : decode cX9_isAhead 37 = .ok (.aload_n 0, 1) := by decide +kernel
theorem dX9_isAhead_38 : decode cX9_isAhead 38 = .ok (.iload_n 2, 1) := by decide +kernel
theorem dX9_isAhead_39 : decode cX9_isAhead 39 = .ok (.invokevirtual 167, 3) := by decide +kernel
theorem dX9_isAhead_42 : decode cX9_isAhead 42 = .ok (.if_icmp .ne 16, 3) := by decide +kernel
theorem dX9_isAhead_45 : decode cX9_isAhead 45 = .ok (.aload_n 0, 1) := by decide +kernel
theorem dX9_isAhead_46 : decode cX9_isAhead 46 = .ok (.iload_n 1, 1) := by decide +kernel
theorem dX9_isAhead_47 : decode cX9_isAhead 47 = .ok (.iload_n 2, 1) := by decide +kernel
theorem dX9_isAhead_48 : decode cX9_isAhead 48 = .ok (.invokevirtual 171, 3) := by decide +kernel
theorem dX9_isAhead_51 : decode cX9_isAhead 51 = .ok (.ifCond .eq 7, 3) := by decide +kernel
theorem dX9_isAhead_54 : decode cX9_isAhead 54 = .ok (.iconst 1, 1) := by decide +kernel
theorem dX9_isAhead_55 : decode cX9_isAhead 55 = .ok (.goto 4, 3) := by decide +kernel
theorem dX9_isAhead_58 : decode cX9_isAhead 58 = .ok (.iconst 0, 1) := by decide +kernel
theorem dX9_isAhead_59 : decode cX9_isAhead 59 = .ok (.ireturn, 1) := by decide +kernel
set_option maxRecDepth 20000 in
theorem ggX9_aheadOf_X9_isAhead : GoodIn wsX9_aheadOf wsX9_isAhead := goodIn_r _ [6, 7, 8, 9, 5, 10, 11, 12, 13, 14, 15, 16, 17, 18, 19, 20, 21, 22, 23, 24, 25, 29, 30, 31, 32, 33, 34, 35, 36, 37, 38, 39, 40, 41, 42, 43, 44, 45, 46, 47, 48, 49, 50, 51, 52, 53, 54, 55, 56, 57, 58, 59, 60, 61, 62, 63, 64, 65, 66, 67, 68] (by decide +kernel) (by decide +kernel)
set_option maxRecDepth 20000 in
theorem gX9_aheadOf_X9_isAhead : GoodIn wsX9_aheadOf (wsV RX9 174 RX9 yX9_isAhead wsX9_isAhead) := goodIn_app (goodIn_of _ (by decide +kernel)) ggX9_aheadOf_X9_isAhead
set_option maxRecDepth 20000 in
theorem ggX9_aheadOf_X9_flag : GoodIn wsX9_aheadOf wsX9_flag := goodIn_r _ [28] (by decide +kernel) (by decide +kernel)
set_option maxRecDepth 20000 in
theorem gX9_aheadOf_X9_flag : GoodIn wsX9_aheadOf (va_wsS RX9 160 yX9_flag wsX9_flag) := goodIn_app (goodIn_of _ (by decide +kernel)) ggX9_aheadOf_X9_flag
theorem dX9_aheadOf_0 : decode cX9_aheadOf 0 = .ok (.iconst 0, 1) := by decide +kernel
theorem dX9_aheadOf_1 : decode cX9_aheadOf 1 = .ok (.istore_n 2, 1) := by decide +kernel
theorem dX9_aheadOf_2 : decode cX9_aheadOf 2 = .ok (.iconst 0, 1) := by decide +kernel
theorem dX9_aheadOf_3 : decode cX9_aheadOf 3 = .ok (.istore_n 3, 1) := by decide +kernel
theorem dX9_aheadOf_4 : decode cX9_aheadOf 4 = .ok (.iload_n 3, 1) := by decide +kernel
theorem dX9_aheadOf_5 : decode cX9_aheadOf 5 = .ok (.aload_n 0, 1) := by decide +kernel
theorem dX9_aheadOf_6 : decode cX9_aheadOf 6 = .ok (.getfield 84, 3) := by decide +kernel
theorem dX9_aheadOf_9 : decode cX9_aheadOf 9 = .ok (.if_icmp .ge 34, 3) := by decide +kernel
theorem dX9_aheadOf_12 : decode cX9_aheadOf 12 = .ok (.iload_n 2, 1) := by decide +kernel
theorem dX9_aheadOf_13 : decode cX9_aheadOf 13 = .ok (.iload_n 3, 1) := by decide +kernel
theorem dX9_aheadOf_14 : decode cX9_aheadOf 14 = .ok (.iload_n 1, 1) := by decide +kernel
theorem dX9_aheadOf_15 : decode cX9_aheadOf 15 = .ok (.if_icmp .eq 16, 3) := by decide +kernel
theorem dX9_aheadOf_18 : decode cX9_aheadOf 18 = .ok (.aload_n 0, 1) := by decide +kernel
theorem dX9_aheadOf_19 : decode cX9_aheadOf 19 = .ok (.iload_n 3, 1) := by decide +kernel
theorem dX9_aheadOf_20 : decode cX9_aheadOf 20 = .ok (.iload_n 1, 1) := by decide +kernel
theorem dX9_aheadOf_21 : decode cX9_aheadOf 21 = .ok (.invokevirtual 174, 3) := by decide +kernel
theorem dX9_aheadOf_24 : decode cX9_aheadOf 24 = .ok (.ifCond .eq 7, 3) := by decide +kernel
theorem dX9_aheadOf_27 : decode cX9_aheadOf 27 = .ok (.iconst 1, 1) := by decide +kernel
theorem dX9_aheadOf_28 : decode cX9_aheadOf 28 = .ok (.goto 4, 3) := by decide +kernel
theorem dX9_aheadOf_31 : decode cX9_aheadOf 31 = .ok (.iconst 0, 1) := by decide +kernel
theorem dX9_aheadOf_32 : decode cX9_aheadOf 32 = .ok (.invokestatic 160, 3) := by decide +kernel
theorem dX9_aheadOf_35 : decode cX9_aheadOf 35 = .ok (.iadd, 1) := by decide +kernel
theorem dX9_aheadOf_36 : decode cX9_aheadOf 36 = .ok (.istore_n 2, 1) := by decide +kernel
theorem dX9_aheadOf_37 : decode cX9_aheadOf 37 = .ok (.iinc 3 1, 3) := by decide +kernel
theorem dX9_aheadOf_40 : decode cX9_aheadOf 40 = .ok (.goto (-36), 3) := by decide +kernel
theorem dX9_aheadOf_43 : decode cX9_aheadOf 43 = .ok (.iload_n 2, 1) := by decide +kernel
theorem dX9_aheadOf_44 : decode cX9_aheadOf 44 = .ok (.ireturn, 1) := by decide +kernel
set_option maxRecDepth 20000 in
theorem ggX9_entersPlaces_X9_aheadOf : GoodIn wsX9_entersPlaces wsX9_aheadOf := goodIn_r _ [7, 2, 8, 9, 10, 6, 11, 12, 13, 14, 15, 16, 17, 18, 19, 20, 21, 22, 23, 24, 25, 26, 27, 28, 29, 30, 31, 32, 33, 39, 40, 41, 42, 43, 44, 45, 46, 47, 48, 49, 50, 51, 52, 53, 54, 55, 56, 57, 58, 59, 60, 61, 62, 63, 64, 65, 66, 67, 68, 69, 70, 71, 72, 73, 74, 75, 76, 77, 78] (by decide +kernel) (by decide +kernel)
set_option maxRecDepth 20000 in
theorem gX9_entersPlaces_X9_aheadOf : GoodIn wsX9_entersPlaces (wsV RX9 177 RX9 yX9_aheadOf wsX9_aheadOf) := goodIn_app (goodIn_of _ (by decide +kernel)) ggX9_entersPlaces_X9_aheadOf
set_option maxRecDepth 20000 in
theorem ggX9_entersPlaces_X9_notes : GoodIn wsX9_entersPlaces wsX9_notes := goodIn_r _ [37, 38, 1, 39, 40, 41, 42, 43, 44, 45, 46, 47, 48, 49, 50, 51, 52, 53, 54, 55, 56, 57, 58, 59, 60, 61, 62, 63, 64, 65, 66, 67, 68, 69, 70, 71, 72, 73, 74, 75, 76, 77, 78] (by decide +kernel) (by decide +kernel)
set_option maxRecDepth 20000 in
theorem gX9_entersPlaces_X9_notes : GoodIn wsX9_entersPlaces (wsV RX9 180 RX9 yX9_notes wsX9_notes) := goodIn_app (goodIn_of _ (by decide +kernel)) ggX9_entersPlaces_X9_notes
theorem dX9_entersPlaces_0 : decode cX9_entersPlaces 0 = .ok (.aload_n 0, 1) := by decide +kernel
theorem dX9_entersPlaces_1 : decode cX9_entersPlaces 1 = .ok (.iconst 0, 1) := by decide +kernel
theorem dX9_entersPlaces_2 : decode cX9_entersPlaces 2 = .ok (.putfield 81, 3) := by decide +kernel
theorem dX9_entersPlaces_5 : decode cX9_entersPlaces 5 = .ok (.iconst 0, 1) := by decide +kernel
theorem dX9_entersPlaces_6 : decode cX9_entersPlaces 6 = .ok (.istore_n 1, 1) := by decide +kernel
theorem dX9_entersPlaces_7 : decode cX9_entersPlaces 7 = .ok (.iload_n 1, 1) := by decide +kernel
theorem dX9_entersPlaces_8 : decode cX9_entersPlaces 8 = .ok (.aload_n 0, 1) := by decide +kernel
theorem dX9_entersPlaces_9 : decode cX9_entersPlaces 9 = .ok (.getfield 84, 3) := by decide +kernel
theorem dX9_entersPlaces_12 : decode cX9_entersPlaces 12 = .ok (.if_icmp .ge 40, 3) := by decide +kernel
theorem dX9_entersPlaces_15 : decode cX9_entersPlaces 15 = .ok (.iconst 0, 1) := by decide +kernel
theorem dX9_entersPlaces_16 : decode cX9_entersPlaces 16 = .ok (.istore_n 2, 1) := by decide +kernel
theorem dX9_entersPlaces_17 : decode cX9_entersPlaces 17 = .ok (.iload_n 2, 1) := by decide +kernel
theorem dX9_entersPlaces_18 : decode cX9_entersPlaces 18 = .ok (.aload_n 0, 1) := by decide +kernel
theorem dX9_entersPlaces_19 : decode cX9_entersPlaces 19 = .ok (.getfield 84, 3) := by decide +kernel
theorem dX9_entersPlaces_22 : decode cX9_entersPlaces 22 = .ok (.if_icmp .ge 24, 3) := by decide +kernel
theorem dX9_entersPlaces_25 : decode cX9_entersPlaces 25 = .ok (.aload_n 0, 1) := by decide +kernel
theorem dX9_entersPlaces_26 : decode cX9_entersPlaces 26 = .ok (.iload_n 2, 1) := by decide +kernel
theorem dX9_entersPlaces_27 : decode cX9_entersPlaces 27 = .ok (.invokevirtual 177, 3) := by decide +kernel
theorem dX9_entersPlaces_30 : decode cX9_entersPlaces 30 = .ok (.iload_n 1, 1) := by decide +kernel
theorem dX9_entersPlaces_31 : decode cX9_entersPlaces 31 = .ok (.if_icmp .ne 9, 3) := by decide +kernel
theorem dX9_entersPlaces_34 : decode cX9_entersPlaces 34 = .ok (.aload_n 0, 1) := by decide +kernel
theorem dX9_entersPlaces_35 : decode cX9_entersPlaces 35 = .ok (.iload_n 2, 1) := by decide +kernel
theorem dX9_entersPlaces_36 : decode cX9_entersPlaces 36 = .ok (.i2l, 1) := by decide +kernel
theorem dX9_entersPlaces_37 : decode cX9_entersPlaces 37 = .ok (.invokevirtual 180, 3) := by decide +kernel
theorem dX9_entersPlaces_40 : decode cX9_entersPlaces 40 = .ok (.iinc 2 1, 3) := by decide +kernel
theorem dX9_entersPlaces_43 : decode cX9_entersPlaces 43 = .ok (.goto (-26), 3) := by decide +kernel
theorem dX9_entersPlaces_46 : decode cX9_entersPlaces 46 = .ok (.iinc 1 1, 3) := by decide +kernel
theorem dX9_entersPlaces_49 : decode cX9_entersPlaces 49 = .ok (.goto (-42), 3) := by decide +kernel
theorem dX9_entersPlaces_52 : decode cX9_entersPlaces 52 = .ok (.return_, 1) := by decide +kernel
theorem dX9_sign_0 : decode cX9_sign 0 = .ok (.aload_n 0, 1) := by decide +kernel
theorem dX9_sign_1 : decode cX9_sign 1 = .ok (.iconst 0, 1) := by decide +kernel
theorem dX9_sign_2 : decode cX9_sign 2 = .ok (.putfield 77, 3) := by decide +kernel
theorem dX9_sign_5 : decode cX9_sign 5 = .ok (.aload_n 0, 1) := by decide +kernel
theorem dX9_sign_6 : decode cX9_sign 6 = .ok (.getfield 184, 3) := by decide +kernel
theorem dX9_sign_9 : decode cX9_sign 9 = .ok (.sipush 236, 3) := by decide +kernel
theorem dX9_sign_12 : decode cX9_sign 12 = .ok (.if_icmp .le 5, 3) := by decide +kernel
theorem dX9_sign_15 : decode cX9_sign 15 = .ok (.iconst (-1), 1) := by decide +kernel
theorem dX9_sign_16 : decode cX9_sign 16 = .ok (.ireturn, 1) := by decide +kernel
theorem dX9_sign_17 : decode cX9_sign 17 = .ok (.iconst 0, 1) := by decide +kernel
theorem dX9_sign_18 : decode cX9_sign 18 = .ok (.istore_n 2, 1) := by decide +kernel
theorem dX9_sign_19 : decode cX9_sign 19 = .ok (.iload_n 2, 1) := by decide +kernel
theorem dX9_sign_20 : decode cX9_sign 20 = .ok (.iconst 4, 1) := by decide +kernel
theorem dX9_sign_21 : decode cX9_sign 21 = .ok (.if_icmp .ge 33, 3) := by decide +kernel
theorem dX9_sign_24 : decode cX9_sign 24 = .ok (.aload_n 0, 1) := by decide +kernel
theorem dX9_sign_25 : decode cX9_sign 25 = .ok (.getfield 41, 3) := by decide +kernel
theorem dX9_sign_28 : decode cX9_sign 28 = .ok (.aload_n 0, 1) := by decide +kernel
theorem dX9_sign_29 : decode cX9_sign 29 = .ok (.getfield 184, 3) := by decide +kernel
theorem dX9_sign_32 : decode cX9_sign 32 = .ok (.iload_n 2, 1) := by decide +kernel
theorem dX9_sign_33 : decode cX9_sign 33 = .ok (.iadd, 1) := by decide +kernel
theorem dX9_sign_34 : decode cX9_sign 34 = .ok (.iload_n 1, 1) := by decide +kernel
theorem dX9_sign_35 : decode cX9_sign 35 = .ok (.bipush 24, 2) := by decide +kernel
theorem dX9_sign_37 : decode cX9_sign 37 = .ok (.bipush 8, 2) := by decide +kernel
theorem dX9_sign_39 : decode cX9_sign 39 = .ok (.iload_n 2, 1) := by decide +kernel
theorem dX9_sign_40 : decode cX9_sign 40 = .ok (.imul, 1) := by decide +kernel
theorem dX9_sign_41 : decode cX9_sign 41 = .ok (.isub, 1) := by decide +kernel
theorem dX9_sign_42 : decode cX9_sign 42 = .ok (.ishr, 1) := by decide +kernel
theorem dX9_sign_43 : decode cX9_sign 43 = .ok (.sipush 255, 3) := by decide +kernel
theorem dX9_sign_46 : decode cX9_sign 46 = .ok (.iand, 1) := by decide +kernel
theorem dX9_sign_47 : decode cX9_sign 47 = .ok (.iastore, 1) := by decide +kernel
theorem dX9_sign_48 : decode cX9_sign 48 = .ok (.iinc 2 1, 3) := by decide +kernel
theorem dX9_sign_51 : decode cX9_sign 51 = .ok (.goto (-32), 3) := by decide +kernel
theorem dX9_sign_54 : decode cX9_sign 54 = .ok (.aload_n 0, 1) := by decide +kernel
theorem dX9_sign_55 : decode cX9_sign 55 = .ok (.dup, 1) := by decide +kernel
theorem dX9_sign_56 : decode cX9_sign 56 = .ok (.getfield 184, 3) := by decide +kernel
theorem dX9_sign_59 : decode cX9_sign 59 = .ok (.iconst 4, 1) := by decide +kernel
theorem dX9_sign_60 : decode cX9_sign 60 = .ok (.iadd, 1) := by decide +kernel
theorem dX9_sign_61 : decode cX9_sign 61 = .ok (.putfield 184, 3) := by decide +kernel
theorem dX9_sign_64 : decode cX9_sign 64 = .ok (.aload_n 0, 1) := by decide +kernel
theorem dX9_sign_65 : decode cX9_sign 65 = .ok (.getfield 184, 3) := by decide +kernel
theorem dX9_sign_68 : decode cX9_sign 68 = .ok (.ireturn, 1) := by decide +kernel
set_option maxRecDepth 20000 in
theorem ggX9_end_X9_in : GoodIn wsX9_end wsX9_in := goodIn_r _ [6] (by decide +kernel) (by decide +kernel)
set_option maxRecDepth 20000 in
theorem gX9_end_X9_in : GoodIn wsX9_end (va_wsS RX9 87 yX9_in wsX9_in) := goodIn_app (goodIn_of _ (by decide +kernel)) ggX9_end_X9_in
theorem dX9_end_0 : decode cX9_end 0 = .ok (.aload_n 0, 1) := by decide +kernel
theorem dX9_end_1 : decode cX9_end 1 = .ok (.iconst 0, 1) := by decide +kernel
theorem dX9_end_2 : decode cX9_end 2 = .ok (.putfield 77, 3) := by decide +kernel
theorem dX9_end_5 : decode cX9_end 5 = .ok (.iload_n 1, 1) := by decide +kernel
theorem dX9_end_6 : decode cX9_end 6 = .ok (.i2l, 1) := by decide +kernel
theorem dX9_end_7 : decode cX9_end 7 = .ok (.lconst 0, 1) := by decide +kernel
theorem dX9_end_8 : decode cX9_end 8 = .ok (.aload_n 0, 1) := by decide +kernel
theorem dX9_end_9 : decode cX9_end 9 = .ok (.getfield 184, 3) := by decide +kernel
theorem dX9_end_12 : decode cX9_end 12 = .ok (.i2l, 1) := by decide +kernel
theorem dX9_end_13 : decode cX9_end 13 = .ok (.invokestatic 87, 3) := by decide +kernel
theorem dX9_end_16 : decode cX9_end 16 = .ok (.ifCond .ne 5, 3) := by decide +kernel
theorem dX9_end_19 : decode cX9_end 19 = .ok (.iconst 0, 1) := by decide +kernel
theorem dX9_end_20 : decode cX9_end 20 = .ok (.ireturn, 1) := by decide +kernel
theorem dX9_end_21 : decode cX9_end 21 = .ok (.aload_n 0, 1) := by decide +kernel
theorem dX9_end_22 : decode cX9_end 22 = .ok (.iload_n 1, 1) := by decide +kernel
theorem dX9_end_23 : decode cX9_end 23 = .ok (.putfield 184, 3) := by decide +kernel
theorem dX9_end_26 : decode cX9_end 26 = .ok (.iconst 1, 1) := by decide +kernel
theorem dX9_end_27 : decode cX9_end 27 = .ok (.ireturn, 1) := by decide +kernel
theorem dX9_takes_0 : decode cX9_takes 0 = .ok (.aload_n 0, 1) := by decide +kernel
theorem dX9_takes_1 : decode cX9_takes 1 = .ok (.getfield 187, 3) := by decide +kernel
theorem dX9_takes_4 : decode cX9_takes 4 = .ok (.aload_n 0, 1) := by decide +kernel
theorem dX9_takes_5 : decode cX9_takes 5 = .ok (.getfield 190, 3) := by decide +kernel
theorem dX9_takes_8 : decode cX9_takes 8 = .ok (.if_icmp .ge 16, 3) := by decide +kernel
theorem dX9_takes_11 : decode cX9_takes 11 = .ok (.aload_n 0, 1) := by decide +kernel
theorem dX9_takes_12 : decode cX9_takes 12 = .ok (.getfield 41, 3) := by decide +kernel
theorem dX9_takes_15 : decode cX9_takes 15 = .ok (.aload_n 0, 1) := by decide +kernel
theorem dX9_takes_16 : decode cX9_takes 16 = .ok (.getfield 187, 3) := by decide +kernel
theorem dX9_takes_19 : decode cX9_takes 19 = .ok (.iaload, 1) := by decide +kernel
theorem dX9_takes_20 : decode cX9_takes 20 = .ok (.iload_n 1, 1) := by decide +kernel
theorem dX9_takes_21 : decode cX9_takes 21 = .ok (.if_icmp .eq 5, 3) := by decide +kernel
theorem dX9_takes_24 : decode cX9_takes 24 = .ok (.iconst 0, 1) := by decide +kernel
theorem dX9_takes_25 : decode cX9_takes 25 = .ok (.ireturn, 1) := by decide +kernel
theorem dX9_takes_26 : decode cX9_takes 26 = .ok (.aload_n 0, 1) := by decide +kernel
theorem dX9_takes_27 : decode cX9_takes 27 = .ok (.dup, 1) := by decide +kernel
theorem dX9_takes_28 : decode cX9_takes 28 = .ok (.getfield 187, 3) := by decide +kernel
theorem dX9_takes_31 : decode cX9_takes 31 = .ok (.iconst 1, 1) := by decide +kernel
theorem dX9_takes_32 : decode cX9_takes 32 = .ok (.iadd, 1) := by decide +kernel
theorem dX9_takes_33 : decode cX9_takes 33 = .ok (.putfield 187, 3) := by decide +kernel
theorem dX9_takes_36 : decode cX9_takes 36 = .ok (.iconst 1, 1) := by decide +kernel
theorem dX9_takes_37 : decode cX9_takes 37 = .ok (.ireturn, 1) := by decide +kernel
set_option maxRecDepth 20000 in
theorem ggX9_isDigit_X9_in : GoodIn wsX9_isDigit wsX9_in := goodIn_r _ [9] (by decide +kernel) (by decide +kernel)
set_option maxRecDepth 20000 in
theorem gX9_isDigit_X9_in : GoodIn wsX9_isDigit (va_wsS RX9 87 yX9_in wsX9_in) := goodIn_app (goodIn_of _ (by decide +kernel)) ggX9_isDigit_X9_in
theorem dX9_isDigit_0 : decode cX9_isDigit 0 = .ok (.aload_n 0, 1) := by decide +kernel
theorem dX9_isDigit_1 : decode cX9_isDigit 1 = .ok (.getfield 187, 3) := by decide +kernel
theorem dX9_isDigit_4 : decode cX9_isDigit 4 = .ok (.aload_n 0, 1) := by decide +kernel
theorem dX9_isDigit_5 : decode cX9_isDigit 5 = .ok (.getfield 190, 3) := by decide +kernel
theorem dX9_isDigit_8 : decode cX9_isDigit 8 = .ok (.if_icmp .ge 29, 3) := by decide +kernel
theorem dX9_isDigit_11 : decode cX9_isDigit 11 = .ok (.aload_n 0, 1) := by decide +kernel
theorem dX9_isDigit_12 : decode cX9_isDigit 12 = .ok (.getfield 41, 3) := by decide +kernel
theorem dX9_isDigit_15 : decode cX9_isDigit 15 = .ok (.aload_n 0, 1) := by decide +kernel
theorem dX9_isDigit_16 : decode cX9_isDigit 16 = .ok (.getfield 187, 3) := by decide +kernel
theorem dX9_isDigit_19 : decode cX9_isDigit 19 = .ok (.iaload, 1) := by decide +kernel
theorem dX9_isDigit_20 : decode cX9_isDigit 20 = .ok (.i2l, 1) := by decide +kernel
theorem dX9_isDigit_21 : decode cX9_isDigit 21 = .ok (.ldc2_w 193, 3) := by decide +kernel
theorem dX9_isDigit_24 : decode cX9_isDigit 24 = .ok (.ldc2_w 195, 3) := by decide +kernel
theorem dX9_isDigit_27 : decode cX9_isDigit 27 = .ok (.invokestatic 87, 3) := by decide +kernel
theorem dX9_isDigit_30 : decode cX9_isDigit 30 = .ok (.ifCond .eq 7, 3) := by decide +kernel
theorem dX9_isDigit_33 : decode cX9_isDigit 33 = .ok (.iconst 1, 1) := by decide +kernel
theorem dX9_isDigit_34 : decode cX9_isDigit 34 = .ok (.goto 4, 3) := by decide +kernel
theorem dX9_isDigit_37 : decode cX9_isDigit 37 = .ok (.iconst 0, 1) := by decide +kernel
theorem dX9_isDigit_38 : decode cX9_isDigit 38 = .ok (.ireturn, 1) := by decide +kernel
set_option maxRecDepth 20000 in
theorem ggX9_readsNumber_X9_isDigit : GoodIn wsX9_readsNumber wsX9_isDigit := goodIn_r _ [8, 3, 9, 2, 10, 11, 12, 13, 7, 14, 15, 16, 17, 18, 19, 20, 21, 22, 23, 24, 25, 26, 27, 28, 29, 30, 31, 32, 33, 34, 35, 36, 37, 38, 39, 40, 41, 42, 43, 44, 45, 46, 47, 48, 49, 50, 51, 52, 53, 54] (by decide +kernel) (by decide +kernel)
set_option maxRecDepth 20000 in
theorem gX9_readsNumber_X9_isDigit : GoodIn wsX9_readsNumber (wsV RX9 197 RX9 yX9_isDigit wsX9_isDigit) := goodIn_app (goodIn_of _ (by decide +kernel)) ggX9_readsNumber_X9_isDigit
set_option maxRecDepth 20000 in
theorem ggX9_readsNumber_X9_in : GoodIn wsX9_readsNumber wsX9_in := goodIn_r _ [14] (by decide +kernel) (by decide +kernel)
set_option maxRecDepth 20000 in
theorem gX9_readsNumber_X9_in : GoodIn wsX9_readsNumber (va_wsS RX9 87 yX9_in wsX9_in) := goodIn_app (goodIn_of _ (by decide +kernel)) ggX9_readsNumber_X9_in
theorem dX9_readsNumber_0 : decode cX9_readsNumber 0 = .ok (.aload_n 0, 1) := by decide +kernel
theorem dX9_readsNumber_1 : decode cX9_readsNumber 1 = .ok (.invokevirtual 197, 3) := by decide +kernel
theorem dX9_readsNumber_4 : decode cX9_readsNumber 4 = .ok (.ifCond .ne 5, 3) := by decide +kernel
theorem dX9_readsNumber_7 : decode cX9_readsNumber 7 = .ok (.iconst 0, 1) := by decide +kernel
theorem dX9_readsNumber_8 : decode cX9_readsNumber 8 = .ok (.ireturn, 1) := by decide +kernel
theorem dX9_readsNumber_9 : decode cX9_readsNumber 9 = .ok (.aload_n 0, 1) := by decide +kernel
theorem dX9_readsNumber_10 : decode cX9_readsNumber 10 = .ok (.iconst 0, 1) := by decide +kernel
theorem dX9_readsNumber_11 : decode cX9_readsNumber 11 = .ok (.putfield 200, 3) := by decide +kernel
theorem dX9_readsNumber_14 : decode cX9_readsNumber 14 = .ok (.iconst 0, 1) := by decide +kernel
theorem dX9_readsNumber_15 : decode cX9_readsNumber 15 = .ok (.istore_n 3, 1) := by decide +kernel
theorem dX9_readsNumber_16 : decode cX9_readsNumber 16 = .ok (.aload_n 0, 1) := by decide +kernel
theorem dX9_readsNumber_17 : decode cX9_readsNumber 17 = .ok (.invokevirtual 197, 3) := by decide +kernel
theorem dX9_readsNumber_20 : decode cX9_readsNumber 20 = .ok (.ifCond .eq 59, 3) := by decide +kernel
theorem dX9_readsNumber_23 : decode cX9_readsNumber 23 = .ok (.iload_n 3, 1) := by decide +kernel
theorem dX9_readsNumber_24 : decode cX9_readsNumber 24 = .ok (.iconst 4, 1) := by decide +kernel
theorem dX9_readsNumber_25 : decode cX9_readsNumber 25 = .ok (.if_icmp .ge 54, 3) := by decide +kernel
theorem dX9_readsNumber_28 : decode cX9_readsNumber 28 = .ok (.iload_n 3, 1) := by decide +kernel
theorem dX9_readsNumber_29 : decode cX9_readsNumber 29 = .ok (.ifCond .eq 10, 3) := by decide +kernel
