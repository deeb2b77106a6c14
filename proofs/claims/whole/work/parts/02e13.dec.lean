theorem dX9_isStill_11 : decode cX9_isStill 11 = .ok (.iconst 1, 1) := by decide +kernel
theorem dX9_isStill_12 : decode cX9_isStill 12 = .ok (.invokevirtual 106, 3) := by decide +kernel
theorem dX9_isStill_15 : decode cX9_isStill 15 = .ok (.ifCond .ne 22, 3) := by decide +kernel
theorem dX9_isStill_18 : decode cX9_isStill 18 = .ok (.aload_n 0, 1) := by decide +kernel
theorem dX9_isStill_19 : decode cX9_isStill 19 = .ok (.iload_n 1, 1) := by decide +kernel
theorem dX9_isStill_20 : decode cX9_isStill 20 = .ok (.invokevirtual 121, 3) := by decide +kernel
theorem dX9_isStill_23 : decode cX9_isStill 23 = .ok (.ifCond .ne 14, 3) := by decide +kernel
theorem dX9_isStill_26 : decode cX9_isStill 26 = .ok (.aload_n 0, 1) := by decide +kernel
theorem dX9_isStill_27 : decode cX9_isStill 27 = .ok (.invokevirtual 113, 3) := by decide +kernel
theorem dX9_isStill_30 : decode cX9_isStill 30 = .ok (.ifCond .ne 7, 3) := by decide +kernel
theorem dX9_isStill_33 : decode cX9_isStill 33 = .ok (.iconst 1, 1) := by decide +kernel
theorem dX9_isStill_34 : decode cX9_isStill 34 = .ok (.goto 4, 3) := by decide +kernel
theorem dX9_isStill_37 : decode cX9_isStill 37 = .ok (.iconst 0, 1) := by decide +kernel
theorem dX9_isStill_38 : decode cX9_isStill 38 = .ok (.ireturn, 1) := by decide +kernel
set_option maxRecDepth 20000 in
theorem ggX9_isCalledAhead_X9_of : GoodIn wsX9_isCalledAhead wsX9_of := goodIn_r _ [6, 7, 8, 9, 10, 11, 12, 13, 14, 15, 16, 17, 18, 19, 20, 21, 22, 23, 24, 25, 26, 27, 28, 29, 30, 31, 32, 33, 34, 35, 36, 37, 38, 39, 40, 41, 42, 43, 44, 45, 46, 47] (by decide +kernel) (by decide +kernel)
set_option maxRecDepth 20000 in
theorem gX9_isCalledAhead_X9_of : GoodIn wsX9_isCalledAhead (wsV RX9 106 RX9 yX9_of wsX9_of) := goodIn_app (goodIn_of _ (by decide +kernel)) ggX9_isCalledAhead_X9_of
theorem dX9_isCalledAhead_0 : decode cX9_isCalledAhead 0 = .ok (.aload_n 0, 1) := by decide +kernel
theorem dX9_isCalledAhead_1 : decode cX9_isCalledAhead 1 = .ok (.iload_n 1, 1) := by decide +kernel
theorem dX9_isCalledAhead_2 : decode cX9_isCalledAhead 2 = .ok (.iconst 0, 1) := by decide +kernel
theorem dX9_isCalledAhead_3 : decode cX9_isCalledAhead 3 = .ok (.invokevirtual 106, 3) := by decide +kernel
theorem dX9_isCalledAhead_6 : decode cX9_isCalledAhead 6 = .ok (.aload_n 0, 1) := by decide +kernel
theorem dX9_isCalledAhead_7 : decode cX9_isCalledAhead 7 = .ok (.iload_n 2, 1) := by decide +kernel
theorem dX9_isCalledAhead_8 : decode cX9_isCalledAhead 8 = .ok (.iconst 0, 1) := by decide +kernel
theorem dX9_isCalledAhead_9 : decode cX9_isCalledAhead 9 = .ok (.invokevirtual 106, 3) := by decide +kernel
theorem dX9_isCalledAhead_12 : decode cX9_isCalledAhead 12 = .ok (.if_icmp .lt 33, 3) := by decide +kernel
theorem dX9_isCalledAhead_15 : decode cX9_isCalledAhead 15 = .ok (.aload_n 0, 1) := by decide +kernel
theorem dX9_isCalledAhead_16 : decode cX9_isCalledAhead 16 = .ok (.iload_n 1, 1) := by decide +kernel
theorem dX9_isCalledAhead_17 : decode cX9_isCalledAhead 17 = .ok (.iconst 0, 1) := by decide +kernel
theorem dX9_isCalledAhead_18 : decode cX9_isCalledAhead 18 = .ok (.invokevirtual 106, 3) := by decide +kernel
theorem dX9_isCalledAhead_21 : decode cX9_isCalledAhead 21 = .ok (.aload_n 0, 1) := by decide +kernel
theorem dX9_isCalledAhead_22 : decode cX9_isCalledAhead 22 = .ok (.iload_n 2, 1) := by decide +kernel
theorem dX9_isCalledAhead_23 : decode cX9_isCalledAhead 23 = .ok (.iconst 0, 1) := by decide +kernel
theorem dX9_isCalledAhead_24 : decode cX9_isCalledAhead 24 = .ok (.invokevirtual 106, 3) := by decide +kernel
theorem dX9_isCalledAhead_27 : decode cX9_isCalledAhead 27 = .ok (.if_icmp .ne 22, 3) := by decide +kernel
theorem dX9_isCalledAhead_30 : decode cX9_isCalledAhead 30 = .ok (.aload_n 0, 1) := by decide +kernel
theorem dX9_isCalledAhead_31 : decode cX9_isCalledAhead 31 = .ok (.getfield 17, 3) := by decide +kernel
theorem dX9_isCalledAhead_34 : decode cX9_isCalledAhead 34 = .ok (.iload_n 1, 1) := by decide +kernel
theorem dX9_isCalledAhead_35 : decode cX9_isCalledAhead 35 = .ok (.iaload, 1) := by decide +kernel
theorem dX9_isCalledAhead_36 : decode cX9_isCalledAhead 36 = .ok (.aload_n 0, 1) := by decide +kernel
theorem dX9_isCalledAhead_37 : decode cX9_isCalledAhead 37 = .ok (.getfield 17, 3) := by decide +kernel
theorem dX9_isCalledAhead_40 : decode cX9_isCalledAhead 40 = .ok (.iload_n 2, 1) := by decide +kernel
theorem dX9_isCalledAhead_41 : decode cX9_isCalledAhead 41 = .ok (.iaload, 1) := by decide +kernel
theorem dX9_isCalledAhead_42 : decode cX9_isCalledAhead 42 = .ok (.if_icmp .ge 7, 3) := by decide +kernel
theorem dX9_isCalledAhead_45 : decode cX9_isCalledAhead 45 = .ok (.iconst 1, 1) := by decide +kernel
theorem dX9_isCalledAhead_46 : decode cX9_isCalledAhead 46 = .ok (.goto 4, 3) := by decide +kernel
theorem dX9_isCalledAhead_49 : decode cX9_isCalledAhead 49 = .ok (.iconst 0, 1) := by decide +kernel
theorem dX9_isCalledAhead_50 : decode cX9_isCalledAhead 50 = .ok (.ireturn, 1) := by decide +kernel
set_option maxRecDepth 20000 in
theorem ggX9_calledNow_X9_isStill : GoodIn wsX9_calledNow wsX9_isStill := goodIn_r _ [6, 7, 8, 9, 5, 10, 11, 12, 13, 14, 15, 16, 17, 18, 19, 25, 26, 27, 28, 29, 30, 31, 32, 33, 34, 35, 36, 37, 38, 39, 40, 41, 42, 43, 44, 45, 46, 47, 48, 49, 50, 51, 52, 53, 54, 55, 56, 57, 58, 59, 60, 61, 62, 63, 64] (by decide +kernel) (by decide +kernel)
set_option maxRecDepth 20000 in
theorem gX9_calledNow_X9_isStill : GoodIn wsX9_calledNow (wsV RX9 140 RX9 yX9_isStill wsX9_isStill) := goodIn_app (goodIn_of _ (by decide +kernel)) ggX9_calledNow_X9_isStill
set_option maxRecDepth 20000 in
theorem ggX9_calledNow_X9_isCalledAhead : GoodIn wsX9_calledNow wsX9_isCalledAhead := goodIn_r _ [23, 24, 7, 8, 9, 5, 10, 11, 25, 26, 27, 28, 29, 30, 31, 32, 33, 34, 35, 36, 37, 38, 39, 40, 41, 42, 43, 44, 45, 46, 47, 48, 49, 50, 51, 52, 53, 54, 55, 56, 57, 58, 59, 60, 61, 62, 63, 64] (by decide +kernel) (by decide +kernel)
set_option maxRecDepth 20000 in
theorem gX9_calledNow_X9_isCalledAhead : GoodIn wsX9_calledNow (wsV RX9 143 RX9 yX9_isCalledAhead wsX9_isCalledAhead) := goodIn_app (goodIn_of _ (by decide +kernel)) ggX9_calledNow_X9_isCalledAhead
theorem dX9_calledNow_0 : decode cX9_calledNow 0 = .ok (.iconst (-1), 1) := by decide +kernel
theorem dX9_calledNow_1 : decode cX9_calledNow 1 = .ok (.istore_n 1, 1) := by decide +kernel
theorem dX9_calledNow_2 : decode cX9_calledNow 2 = .ok (.iconst 0, 1) := by decide +kernel
theorem dX9_calledNow_3 : decode cX9_calledNow 3 = .ok (.istore_n 2, 1) := by decide +kernel
theorem dX9_calledNow_4 : decode cX9_calledNow 4 = .ok (.iload_n 2, 1) := by decide +kernel
theorem dX9_calledNow_5 : decode cX9_calledNow 5 = .ok (.aload_n 0, 1) := by decide +kernel
theorem dX9_calledNow_6 : decode cX9_calledNow 6 = .ok (.getfield 84, 3) := by decide +kernel
theorem dX9_calledNow_9 : decode cX9_calledNow 9 = .ok (.if_icmp .ge 33, 3) := by decide +kernel
theorem dX9_calledNow_12 : decode cX9_calledNow 12 = .ok (.aload_n 0, 1) := by decide +kernel
theorem dX9_calledNow_13 : decode cX9_calledNow 13 = .ok (.iload_n 2, 1) := by decide +kernel
theorem dX9_calledNow_14 : decode cX9_calledNow 14 = .ok (.invokevirtual 140, 3) := by decide +kernel
theorem dX9_calledNow_17 : decode cX9_calledNow 17 = .ok (.ifCond .eq 19, 3) := by decide +kernel
theorem dX9_calledNow_20 : decode cX9_calledNow 20 = .ok (.iload_n 1, 1) := by decide +kernel
theorem dX9_calledNow_21 : decode cX9_calledNow 21 = .ok (.iconst (-1), 1) := by decide +kernel
theorem dX9_calledNow_22 : decode cX9_calledNow 22 = .ok (.if_icmp .eq 12, 3) := by decide +kernel
theorem dX9_calledNow_25 : decode cX9_calledNow 25 = .ok (.aload_n 0, 1) := by decide +kernel
theorem dX9_calledNow_26 : decode cX9_calledNow 26 = .ok (.iload_n 2, 1) := by decide +kernel
theorem dX9_calledNow_27 : decode cX9_calledNow 27 = .ok (.iload_n 1, 1) := by decide +kernel
theorem dX9_calledNow_28 : decode cX9_calledNow 28 = .ok (.invokevirtual 143, 3) := by decide +kernel
theorem dX9_calledNow_31 : decode cX9_calledNow 31 = .ok (.ifCond .eq 5, 3) := by decide +kernel
theorem dX9_calledNow_34 : decode cX9_calledNow 34 = .ok (.iload_n 2, 1) := by decide +kernel
theorem dX9_calledNow_35 : decode cX9_calledNow 35 = .ok (.istore_n 1, 1) := by decide +kernel
theorem dX9_calledNow_36 : decode cX9_calledNow 36 = .ok (.iinc 2 1, 3) := by decide +kernel
theorem dX9_calledNow_39 : decode cX9_calledNow 39 = .ok (.goto (-35), 3) := by decide +kernel
theorem dX9_calledNow_42 : decode cX9_calledNow 42 = .ok (.iload_n 1, 1) := by decide +kernel
theorem dX9_calledNow_43 : decode cX9_calledNow 43 = .ok (.ireturn, 1) := by decide +kernel
set_option maxRecDepth 20000 in
theorem ggX9_liftEnds_X9_of : GoodIn wsX9_liftEnds wsX9_of := goodIn_r _ [7, 2, 37, 38, 39, 40, 41, 42, 43, 44, 45, 46, 47, 48, 49, 50, 51, 52, 53, 54, 55, 56, 57, 58, 59, 60, 61, 62, 63, 64, 65, 66, 67, 68, 69, 70, 71, 72, 73, 74, 75, 76] (by decide +kernel) (by decide +kernel)
set_option maxRecDepth 20000 in
theorem gX9_liftEnds_X9_of : GoodIn wsX9_liftEnds (wsV RX9 106 RX9 yX9_of wsX9_of) := goodIn_app (goodIn_of _ (by decide +kernel)) ggX9_liftEnds_X9_of
set_option maxRecDepth 20000 in
theorem ggX9_liftEnds_X9_sets : GoodIn wsX9_liftEnds wsX9_sets := goodIn_r _ [11, 2, 37, 38, 39, 40, 41, 42, 43, 44, 45, 46, 47, 48, 49, 50, 51, 52, 53, 54, 55, 56, 57, 58, 59, 60, 61, 62, 63, 64, 65, 66, 67, 68, 69, 70, 71, 72, 73, 74, 75, 76] (by decide +kernel) (by decide +kernel)
set_option maxRecDepth 20000 in
theorem gX9_liftEnds_X9_sets : GoodIn wsX9_liftEnds (wsV RX9 109 RX9 yX9_sets wsX9_sets) := goodIn_app (goodIn_of _ (by decide +kernel)) ggX9_liftEnds_X9_sets
set_option maxRecDepth 20000 in
theorem ggX9_liftEnds_X9_liftBegins : GoodIn wsX9_liftEnds wsX9_liftBegins := goodIn_r _ [15, 2, 1, 16, 17, 18, 6, 19, 20, 21, 22, 23, 3, 4, 5, 7, 24, 25, 26, 27, 28, 8, 9, 10, 11, 29, 30, 31, 32, 33, 34, 35, 36, 37, 38, 39, 40, 41, 42, 43, 44, 45, 46, 47, 48, 49, 50, 51, 52, 53, 54, 55, 56, 57, 58, 59, 60, 61, 62, 63, 64, 65, 66, 67, 68, 69, 70, 71, 72, 73, 74, 75, 76] (by decide +kernel) (by decide +kernel)
set_option maxRecDepth 20000 in
theorem gX9_liftEnds_X9_liftBegins : GoodIn wsX9_liftEnds (wsV RX9 137 RX9 yX9_liftBegins wsX9_liftBegins) := goodIn_app (goodIn_of _ (by decide +kernel)) ggX9_liftEnds_X9_liftBegins
theorem dX9_liftEnds_0 : decode cX9_liftEnds 0 = .ok (.iconst 0, 1) := by decide +kernel
theorem dX9_liftEnds_1 : decode cX9_liftEnds 1 = .ok (.istore_n 1, 1) := by decide +kernel
theorem dX9_liftEnds_2 : decode cX9_liftEnds 2 = .ok (.iload_n 1, 1) := by decide +kernel
theorem dX9_liftEnds_3 : decode cX9_liftEnds 3 = .ok (.aload_n 0, 1) := by decide +kernel
theorem dX9_liftEnds_4 : decode cX9_liftEnds 4 = .ok (.getfield 84, 3) := by decide +kernel
theorem dX9_liftEnds_7 : decode cX9_liftEnds 7 = .ok (.if_icmp .ge 34, 3) := by decide +kernel
theorem dX9_liftEnds_10 : decode cX9_liftEnds 10 = .ok (.aload_n 0, 1) := by decide +kernel
theorem dX9_liftEnds_11 : decode cX9_liftEnds 11 = .ok (.iload_n 1, 1) := by decide +kernel
theorem dX9_liftEnds_12 : decode cX9_liftEnds 12 = .ok (.bipush 7, 2) := by decide +kernel
theorem dX9_liftEnds_14 : decode cX9_liftEnds 14 = .ok (.aload_n 0, 1) := by decide +kernel
theorem dX9_liftEnds_15 : decode cX9_liftEnds 15 = .ok (.getfield 32, 3) := by decide +kernel
theorem dX9_liftEnds_18 : decode cX9_liftEnds 18 = .ok (.iconst 0, 1) := by decide +kernel
theorem dX9_liftEnds_19 : decode cX9_liftEnds 19 = .ok (.iaload, 1) := by decide +kernel
theorem dX9_liftEnds_20 : decode cX9_liftEnds 20 = .ok (.iadd, 1) := by decide +kernel
theorem dX9_liftEnds_21 : decode cX9_liftEnds 21 = .ok (.invokevirtual 106, 3) := by decide +kernel
theorem dX9_liftEnds_24 : decode cX9_liftEnds 24 = .ok (.ifCond .ne 11, 3) := by decide +kernel
theorem dX9_liftEnds_27 : decode cX9_liftEnds 27 = .ok (.aload_n 0, 1) := by decide +kernel
theorem dX9_liftEnds_28 : decode cX9_liftEnds 28 = .ok (.iload_n 1, 1) := by decide +kernel
theorem dX9_liftEnds_29 : decode cX9_liftEnds 29 = .ok (.bipush 6, 2) := by decide +kernel
theorem dX9_liftEnds_31 : decode cX9_liftEnds 31 = .ok (.iconst 1, 1) := by decide +kernel
theorem dX9_liftEnds_32 : decode cX9_liftEnds 32 = .ok (.invokevirtual 109, 3) := by decide +kernel
theorem dX9_liftEnds_35 : decode cX9_liftEnds 35 = .ok (.iinc 1 1, 3) := by decide +kernel
theorem dX9_liftEnds_38 : decode cX9_liftEnds 38 = .ok (.goto (-36), 3) := by decide +kernel
theorem dX9_liftEnds_41 : decode cX9_liftEnds 41 = .ok (.aload_n 0, 1) := by decide +kernel
theorem dX9_liftEnds_42 : decode cX9_liftEnds 42 = .ok (.getfield 32, 3) := by decide +kernel
theorem dX9_liftEnds_45 : decode cX9_liftEnds 45 = .ok (.iconst 0, 1) := by decide +kernel
theorem dX9_liftEnds_46 : decode cX9_liftEnds 46 = .ok (.dup2, 1) := by decide +kernel
theorem dX9_liftEnds_47 : decode cX9_liftEnds 47 = .ok (.iaload, 1) := by decide +kernel
theorem dX9_liftEnds_48 : decode cX9_liftEnds 48 = .ok (.iconst 1, 1) := by decide +kernel
theorem dX9_liftEnds_49 : decode cX9_liftEnds 49 = .ok (.iadd, 1) := by decide +kernel
theorem dX9_liftEnds_50 : decode cX9_liftEnds 50 = .ok (.iastore, 1) := by decide +kernel
theorem dX9_liftEnds_51 : decode cX9_liftEnds 51 = .ok (.aload_n 0, 1) := by decide +kernel
theorem dX9_liftEnds_52 : decode cX9_liftEnds 52 = .ok (.invokevirtual 137, 3) := by decide +kernel
theorem dX9_liftEnds_55 : decode cX9_liftEnds 55 = .ok (.return_, 1) := by decide +kernel
set_option maxRecDepth 20000 in
theorem ggX9_goesOn_X9_isOver : GoodIn wsX9_goesOn wsX9_isOver := goodIn_r _ [7, 2, 54, 55, 56, 57, 58, 59, 60, 61, 62, 63, 64, 65, 66, 67, 68, 69, 70, 71, 72, 73, 74, 75, 76, 77, 78, 79, 80, 81, 82, 83, 84, 85, 86, 87, 88, 89, 90, 91, 92, 93] (by decide +kernel) (by decide +kernel)
set_option maxRecDepth 20000 in
theorem gX9_goesOn_X9_isOver : GoodIn wsX9_goesOn (wsV RX9 113 RX9 yX9_isOver wsX9_isOver) := goodIn_app (goodIn_of _ (by decide +kernel)) ggX9_goesOn_X9_isOver
set_option maxRecDepth 20000 in
theorem ggX9_goesOn_X9_calledNow : GoodIn wsX9_goesOn wsX9_calledNow := goodIn_r _ [11, 1, 12, 13, 14, 6, 15, 16, 17, 18, 19, 2, 20, 21, 22, 23, 3, 4, 5, 7, 24, 25, 26, 27, 28, 54, 55, 56, 57, 58, 59, 60, 61, 62, 63, 64, 65, 66, 67, 68, 69, 70, 71, 72, 73, 74, 75, 76, 77, 78, 79, 80, 81, 82, 83, 84, 85, 86, 87, 88, 89, 90, 91, 92, 93] (by decide +kernel) (by decide +kernel)
set_option maxRecDepth 20000 in
theorem gX9_goesOn_X9_calledNow : GoodIn wsX9_goesOn (wsV RX9 147 RX9 yX9_calledNow wsX9_calledNow) := goodIn_app (goodIn_of _ (by decide +kernel)) ggX9_goesOn_X9_calledNow
set_option maxRecDepth 20000 in
theorem ggX9_goesOn_X9_liftEnds : GoodIn wsX9_goesOn wsX9_liftEnds := goodIn_r _ [32, 1, 2, 16, 17, 18, 6, 19, 33, 34, 35, 36, 37, 38, 39, 40, 3, 4, 5, 7, 20, 21, 22, 23, 41, 42, 43, 44, 45, 46, 47, 48, 49, 50, 51, 52, 53, 54, 55, 56, 57, 58, 59, 60, 61, 62, 63, 64, 65, 66, 67, 68, 69, 70, 71, 72, 73, 74, 75, 76, 77, 78, 79, 80, 81, 82, 83, 84, 85, 86, 87, 88, 89, 90, 91, 92, 93] (by decide +kernel) (by decide +kernel)
set_option maxRecDepth 20000 in
theorem gX9_goesOn_X9_liftEnds : GoodIn wsX9_goesOn (wsV RX9 150 RX9 yX9_liftEnds wsX9_liftEnds) := goodIn_app (goodIn_of _ (by decide +kernel)) ggX9_goesOn_X9_liftEnds
set_option maxRecDepth 20000 in
theorem ggX9_goesOn_X9_roundBegins : GoodIn wsX9_goesOn wsX9_roundBegins := goodIn_r _ [49, 2, 1, 33, 34, 35, 6, 36, 3, 4, 5, 7, 50, 51, 52, 53, 54, 55, 56, 57, 58, 59, 60, 61, 62, 63, 64, 65, 66, 67, 68, 69, 70, 71, 72, 73, 74, 75, 76, 77, 78, 79, 80, 81, 82, 83, 84, 85, 86, 87, 88, 89, 90, 91, 92, 93] (by decide +kernel) (by decide +kernel)
set_option maxRecDepth 20000 in
theorem gX9_goesOn_X9_roundBegins : GoodIn wsX9_goesOn (wsV RX9 128 RX9 yX9_roundBegins wsX9_roundBegins) := goodIn_app (goodIn_of _ (by decide +kernel)) ggX9_goesOn_X9_roundBegins
theorem dX9_goesOn_0 : decode cX9_goesOn 0 = .ok (.aload_n 0, 1) := by decide +kernel
theorem dX9_goesOn_1 : decode cX9_goesOn 1 = .ok (.getfield 84, 3) := by decide +kernel
theorem dX9_goesOn_4 : decode cX9_goesOn 4 = .ok (.ifCond .le 52, 3) := by decide +kernel
theorem dX9_goesOn_7 : decode cX9_goesOn 7 = .ok (.aload_n 0, 1) := by decide +kernel
theorem dX9_goesOn_8 : decode cX9_goesOn 8 = .ok (.invokevirtual 113, 3) := by decide +kernel
theorem dX9_goesOn_11 : decode cX9_goesOn 11 = .ok (.ifCond .ne 45, 3) := by decide +kernel
theorem dX9_goesOn_14 : decode cX9_goesOn 14 = .ok (.aload_n 0, 1) := by decide +kernel
theorem dX9_goesOn_15 : decode cX9_goesOn 15 = .ok (.invokevirtual 147, 3) := by decide +kernel
theorem dX9_goesOn_18 : decode cX9_goesOn 18 = .ok (.iconst (-1), 1) := by decide +kernel
theorem dX9_goesOn_19 : decode cX9_goesOn 19 = .ok (.if_icmp .ne 37, 3) := by decide +kernel
theorem dX9_goesOn_22 : decode cX9_goesOn 22 = .ok (.aload_n 0, 1) := by decide +kernel
theorem dX9_goesOn_23 : decode cX9_goesOn 23 = .ok (.getfield 32, 3) := by decide +kernel
theorem dX9_goesOn_26 : decode cX9_goesOn 26 = .ok (.iconst 1, 1) := by decide +kernel
theorem dX9_goesOn_27 : decode cX9_goesOn 27 = .ok (.iaload, 1) := by decide +kernel
theorem dX9_goesOn_28 : decode cX9_goesOn 28 = .ok (.iconst 2, 1) := by decide +kernel
theorem dX9_goesOn_29 : decode cX9_goesOn 29 = .ok (.if_icmp .ne 10, 3) := by decide +kernel
theorem dX9_goesOn_32 : decode cX9_goesOn 32 = .ok (.aload_n 0, 1) := by decide +kernel
theorem dX9_goesOn_33 : decode cX9_goesOn 33 = .ok (.invokevirtual 150, 3) := by decide +kernel
theorem dX9_goesOn_36 : decode cX9_goesOn 36 = .ok (.goto (-36), 3) := by decide +kernel
theorem dX9_goesOn_39 : decode cX9_goesOn 39 = .ok (.aload_n 0, 1) := by decide +kernel
theorem dX9_goesOn_40 : decode cX9_goesOn 40 = .ok (.getfield 32, 3) := by decide +kernel
theorem dX9_goesOn_43 : decode cX9_goesOn 43 = .ok (.iconst 1, 1) := by decide +kernel
theorem dX9_goesOn_44 : decode cX9_goesOn 44 = .ok (.dup2, 1) := by decide +kernel
theorem dX9_goesOn_45 : decode cX9_goesOn 45 = .ok (.iaload, 1) := by decide +kernel
theorem dX9_goesOn_46 : decode cX9_goesOn 46 = .ok (.iconst 1, 1) := by decide +kernel
theorem dX9_goesOn_47 : decode cX9_goesOn 47 = .ok (.iadd, 1) := by decide +kernel
theorem dX9_goesOn_48 : decode cX9_goesOn 48 = .ok (.iastore, 1) := by decide +kernel
theorem dX9_goesOn_49 : decode cX9_goesOn 49 = .ok (.aload_n 0, 1) := by decide +kernel
theorem dX9_goesOn_50 : decode cX9_goesOn 50 = .ok (.invokevirtual 128, 3) := by decide +kernel
theorem dX9_goesOn_53 : decode cX9_goesOn 53 = .ok (.goto (-53), 3) := by decide +kernel
theorem dX9_goesOn_56 : decode cX9_goesOn 56 = .ok (.return_, 1) := by decide +kernel
set_option maxRecDepth 20000 in
theorem ggX9_asksThen_X9_planOf : GoodIn wsX9_asksThen wsX9_planOf := goodIn_r _ [5, 6, 7, 8, 9, 10, 11, 12, 13, 14, 15, 16, 17, 18, 19, 20, 21, 22, 23, 24, 25, 26, 27, 28, 29, 30, 31, 32, 33, 34, 35, 36, 37, 38, 39, 40, 41, 42, 43, 44, 45, 46] (by decide +kernel) (by decide +kernel)
set_option maxRecDepth 20000 in
theorem gX9_asksThen_X9_planOf : GoodIn wsX9_asksThen (wsV RX9 125 RX9 yX9_planOf wsX9_planOf) := goodIn_app (goodIn_of _ (by decide +kernel)) ggX9_asksThen_X9_planOf
theorem dX9_asksThen_0 : decode cX9_asksThen 0 = .ok (.iload 4, 2) := by decide +kernel
theorem dX9_asksThen_2 : decode cX9_asksThen 2 = .ok (.aload_n 0, 1) := by decide +kernel
theorem dX9_asksThen_3 : decode cX9_asksThen 3 = .ok (.iload_n 1, 1) := by decide +kernel
theorem dX9_asksThen_4 : decode cX9_asksThen 4 = .ok (.iload_n 2, 1) := by decide +kernel
theorem dX9_asksThen_5 : decode cX9_asksThen 5 = .ok (.iload 5, 2) := by decide +kernel
theorem dX9_asksThen_7 : decode cX9_asksThen 7 = .ok (.ifCond .eq 7, 3) := by decide +kernel
theorem dX9_asksThen_10 : decode cX9_asksThen 10 = .ok (.iconst 1, 1) := by decide +kernel
theorem dX9_asksThen_11 : decode cX9_asksThen 11 = .ok (.goto 4, 3) := by decide +kernel
theorem dX9_asksThen_14 : decode cX9_asksThen 14 = .ok (.iconst 2, 1) := by decide +kernel
theorem dX9_asksThen_15 : decode cX9_asksThen 15 = .ok (.invokevirtual 125, 3) := by decide +kernel
theorem dX9_asksThen_18 : decode cX9_asksThen 18 = .ok (.iadd, 1) := by decide +kernel
theorem dX9_asksThen_19 : decode cX9_asksThen 19 = .ok (.istore 6, 2) := by decide +kernel
theorem dX9_asksThen_21 : decode cX9_asksThen 21 = .ok (.iload_n 3, 1) := by decide +kernel
theorem dX9_asksThen_22 : decode cX9_asksThen 22 = .ok (.iconst 2, 1) := by decide +kernel
theorem dX9_asksThen_23 : decode cX9_asksThen 23 = .ok (.if_icmp .eq 10, 3) := by decide +kernel
theorem dX9_asksThen_26 : decode cX9_asksThen 26 = .ok (.iload 6, 2) := by decide +kernel
theorem dX9_asksThen_28 : decode cX9_asksThen 28 = .ok (.bipush 40, 2) := by decide +kernel
theorem dX9_asksThen_30 : decode cX9_asksThen 30 = .ok (.if_icmp .le 7, 3) := by decide +kernel
theorem dX9_asksThen_33 : decode cX9_asksThen 33 = .ok (.iconst 0, 1) := by decide +kernel
theorem dX9_asksThen_34 : decode cX9_asksThen 34 = .ok (.goto 5, 3) := by decide +kernel
theorem dX9_asksThen_37 : decode cX9_asksThen 37 = .ok (.iload 6, 2) := by decide +kernel
theorem dX9_asksThen_39 : decode cX9_asksThen 39 = .ok (.ireturn, 1) := by decide +kernel
set_option maxRecDepth 20000 in
theorem ggX9_doesTry_X9_of : GoodIn wsX9_doesTry wsX9_of := goodIn_r _ [14, 1, 73, 74, 75, 76, 77, 78, 79, 80, 81, 82, 83, 84, 85, 86, 87, 88, 89, 90, 91, 92, 93, 94, 95, 96, 97, 98, 99, 100, 101, 102, 103, 104, 105, 106, 107, 108, 109, 110, 111, 112] (by decide +kernel) (by decide +kernel)
set_option maxRecDepth 20000 in
theorem gX9_doesTry_X9_of : GoodIn wsX9_doesTry (wsV RX9 106 RX9 yX9_of wsX9_of) := goodIn_app (goodIn_of _ (by decide +kernel)) ggX9_doesTry_X9_of
set_option maxRecDepth 20000 in
theorem ggX9_doesTry_X9_asksThen : GoodIn wsX9_doesTry wsX9_asksThen := goodIn_r _ [18, 19, 20, 21, 13, 22, 23, 73, 74, 75, 76, 77, 78, 79, 80, 81, 82, 83, 84, 85, 86, 87, 88, 89, 90, 91, 92, 93, 94, 95, 96, 97, 98, 99, 100, 101, 102, 103, 104, 105, 106, 107, 108, 109, 110, 111, 112] (by decide +kernel) (by decide +kernel)
set_option maxRecDepth 20000 in
theorem gX9_doesTry_X9_asksThen : GoodIn wsX9_doesTry (wsV RX9 153 RX9 yX9_asksThen wsX9_asksThen) := goodIn_app (goodIn_of _ (by decide +kernel)) ggX9_doesTry_X9_asksThen
set_option maxRecDepth 20000 in
theorem ggX9_doesTry_X9_sets : GoodIn wsX9_doesTry wsX9_sets := goodIn_r _ [27, 1, 73, 74, 75, 76, 77, 78, 79, 80, 81, 82, 83, 84, 85, 86, 87, 88, 89, 90, 91, 92, 93, 94, 95, 96, 97, 98, 99, 100, 101, 102, 103, 104, 105, 106, 107, 108, 109, 110, 111, 112] (by decide +kernel) (by decide +kernel)
