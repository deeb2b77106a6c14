theorem dX9_isBetter_19 : decode cX9_isBetter 19 = .ok (.if_icmp .ge 7, 3) := by decide +kernel
theorem dX9_isBetter_22 : decode cX9_isBetter 22 = .ok (.iconst 1, 1) := by decide +kernel
theorem dX9_isBetter_23 : decode cX9_isBetter 23 = .ok (.goto 4, 3) := by decide +kernel
theorem dX9_isBetter_26 : decode cX9_isBetter 26 = .ok (.iconst 0, 1) := by decide +kernel
theorem dX9_isBetter_27 : decode cX9_isBetter 27 = .ok (.ireturn, 1) := by decide +kernel
set_option maxRecDepth 20000 in
theorem ggX9_duelChoosesLast_X9_duelLast : GoodIn wsX9_duelChoosesLast wsX9_duelLast := goodIn_r _ [6, 1, 7, 8, 9, 5, 10, 11, 12, 13, 14, 15, 16, 17, 18, 19, 20, 21, 22, 23, 24, 25, 26, 27, 28, 29, 30, 31, 32, 33, 34, 35, 36, 37, 38, 39, 40, 41, 42, 43, 44, 45, 46, 47, 48, 49, 50, 51, 52, 53, 54, 55, 59, 60, 61, 62, 63, 64, 65, 66, 67, 68, 69, 70, 71, 72, 73, 74, 75, 76, 77, 78, 79, 80, 81, 82, 83, 84, 85, 86, 87, 88, 89, 90, 91, 92, 93, 94, 95, 96, 97, 98] (by decide +kernel) (by decide +kernel)
set_option maxRecDepth 20000 in
theorem gX9_duelChoosesLast_X9_duelLast : GoodIn wsX9_duelChoosesLast (wsV RX9 381 RX9 yX9_duelLast wsX9_duelLast) := goodIn_app (goodIn_of _ (by decide +kernel)) ggX9_duelChoosesLast_X9_duelLast
set_option maxRecDepth 20000 in
theorem ggX9_duelChoosesLast_X9_isBetter : GoodIn wsX9_duelChoosesLast wsX9_isBetter := goodIn_r _ [58] (by decide +kernel) (by decide +kernel)
set_option maxRecDepth 20000 in
theorem gX9_duelChoosesLast_X9_isBetter : GoodIn wsX9_duelChoosesLast (va_wsS RX9 384 yX9_isBetter wsX9_isBetter) := goodIn_app (goodIn_of _ (by decide +kernel)) ggX9_duelChoosesLast_X9_isBetter
theorem dX9_duelChoosesLast_0 : decode cX9_duelChoosesLast 0 = .ok (.aload_n 0, 1) := by decide +kernel
theorem dX9_duelChoosesLast_1 : decode cX9_duelChoosesLast 1 = .ok (.iload_n 1, 1) := by decide +kernel
theorem dX9_duelChoosesLast_2 : decode cX9_duelChoosesLast 2 = .ok (.iload_n 2, 1) := by decide +kernel
theorem dX9_duelChoosesLast_3 : decode cX9_duelChoosesLast 3 = .ok (.iload 4, 2) := by decide +kernel
theorem dX9_duelChoosesLast_5 : decode cX9_duelChoosesLast 5 = .ok (.invokevirtual 381, 3) := by decide +kernel
theorem dX9_duelChoosesLast_8 : decode cX9_duelChoosesLast 8 = .ok (.istore 5, 2) := by decide +kernel
theorem dX9_duelChoosesLast_10 : decode cX9_duelChoosesLast 10 = .ok (.iload_n 2, 1) := by decide +kernel
theorem dX9_duelChoosesLast_11 : decode cX9_duelChoosesLast 11 = .ok (.iconst 1, 1) := by decide +kernel
theorem dX9_duelChoosesLast_12 : decode cX9_duelChoosesLast 12 = .ok (.iadd, 1) := by decide +kernel
theorem dX9_duelChoosesLast_13 : decode cX9_duelChoosesLast 13 = .ok (.istore 6, 2) := by decide +kernel
theorem dX9_duelChoosesLast_15 : decode cX9_duelChoosesLast 15 = .ok (.iload 6, 2) := by decide +kernel
theorem dX9_duelChoosesLast_17 : decode cX9_duelChoosesLast 17 = .ok (.bipush 40, 2) := by decide +kernel
theorem dX9_duelChoosesLast_19 : decode cX9_duelChoosesLast 19 = .ok (.if_icmp .gt 56, 3) := by decide +kernel
theorem dX9_duelChoosesLast_22 : decode cX9_duelChoosesLast 22 = .ok (.iload_n 3, 1) := by decide +kernel
theorem dX9_duelChoosesLast_23 : decode cX9_duelChoosesLast 23 = .ok (.ifCond .le 52, 3) := by decide +kernel
theorem dX9_duelChoosesLast_26 : decode cX9_duelChoosesLast 26 = .ok (.aload_n 0, 1) := by decide +kernel
theorem dX9_duelChoosesLast_27 : decode cX9_duelChoosesLast 27 = .ok (.iload_n 1, 1) := by decide +kernel
theorem dX9_duelChoosesLast_28 : decode cX9_duelChoosesLast 28 = .ok (.iload 6, 2) := by decide +kernel
theorem dX9_duelChoosesLast_30 : decode cX9_duelChoosesLast 30 = .ok (.iload 4, 2) := by decide +kernel
theorem dX9_duelChoosesLast_32 : decode cX9_duelChoosesLast 32 = .ok (.invokevirtual 381, 3) := by decide +kernel
theorem dX9_duelChoosesLast_35 : decode cX9_duelChoosesLast 35 = .ok (.istore 7, 2) := by decide +kernel
theorem dX9_duelChoosesLast_37 : decode cX9_duelChoosesLast 37 = .ok (.iload_n 1, 1) := by decide +kernel
theorem dX9_duelChoosesLast_38 : decode cX9_duelChoosesLast 38 = .ok (.aload_n 0, 1) := by decide +kernel
theorem dX9_duelChoosesLast_39 : decode cX9_duelChoosesLast 39 = .ok (.getfield 365, 3) := by decide +kernel
theorem dX9_duelChoosesLast_42 : decode cX9_duelChoosesLast 42 = .ok (.if_icmp .ne 7, 3) := by decide +kernel
theorem dX9_duelChoosesLast_45 : decode cX9_duelChoosesLast 45 = .ok (.iconst 1, 1) := by decide +kernel
theorem dX9_duelChoosesLast_46 : decode cX9_duelChoosesLast 46 = .ok (.goto 4, 3) := by decide +kernel
theorem dX9_duelChoosesLast_49 : decode cX9_duelChoosesLast 49 = .ok (.iconst 0, 1) := by decide +kernel
theorem dX9_duelChoosesLast_50 : decode cX9_duelChoosesLast 50 = .ok (.iload 7, 2) := by decide +kernel
theorem dX9_duelChoosesLast_52 : decode cX9_duelChoosesLast 52 = .ok (.iload 5, 2) := by decide +kernel
theorem dX9_duelChoosesLast_54 : decode cX9_duelChoosesLast 54 = .ok (.invokestatic 384, 3) := by decide +kernel
theorem dX9_duelChoosesLast_57 : decode cX9_duelChoosesLast 57 = .ok (.ifCond .eq 8, 3) := by decide +kernel
theorem dX9_duelChoosesLast_60 : decode cX9_duelChoosesLast 60 = .ok (.iload 7, 2) := by decide +kernel
theorem dX9_duelChoosesLast_62 : decode cX9_duelChoosesLast 62 = .ok (.goto 5, 3) := by decide +kernel
theorem dX9_duelChoosesLast_65 : decode cX9_duelChoosesLast 65 = .ok (.iload 5, 2) := by decide +kernel
theorem dX9_duelChoosesLast_67 : decode cX9_duelChoosesLast 67 = .ok (.istore 5, 2) := by decide +kernel
theorem dX9_duelChoosesLast_69 : decode cX9_duelChoosesLast 69 = .ok (.iinc 6 1, 3) := by decide +kernel
theorem dX9_duelChoosesLast_72 : decode cX9_duelChoosesLast 72 = .ok (.goto (-57), 3) := by decide +kernel
theorem dX9_duelChoosesLast_75 : decode cX9_duelChoosesLast 75 = .ok (.iload 5, 2) := by decide +kernel
theorem dX9_duelChoosesLast_77 : decode cX9_duelChoosesLast 77 = .ok (.ireturn, 1) := by decide +kernel
theorem dX9_duelCell_0 : decode cX9_duelCell 0 = .ok (.bipush 41, 2) := by decide +kernel
theorem dX9_duelCell_2 : decode cX9_duelCell 2 = .ok (.bipush 41, 2) := by decide +kernel
theorem dX9_duelCell_4 : decode cX9_duelCell 4 = .ok (.iconst 3, 1) := by decide +kernel
theorem dX9_duelCell_5 : decode cX9_duelCell 5 = .ok (.iload_n 2, 1) := by decide +kernel
theorem dX9_duelCell_6 : decode cX9_duelCell 6 = .ok (.imul, 1) := by decide +kernel
theorem dX9_duelCell_7 : decode cX9_duelCell 7 = .ok (.iload_n 3, 1) := by decide +kernel
theorem dX9_duelCell_8 : decode cX9_duelCell 8 = .ok (.iadd, 1) := by decide +kernel
theorem dX9_duelCell_9 : decode cX9_duelCell 9 = .ok (.imul, 1) := by decide +kernel
theorem dX9_duelCell_10 : decode cX9_duelCell 10 = .ok (.iload_n 0, 1) := by decide +kernel
theorem dX9_duelCell_11 : decode cX9_duelCell 11 = .ok (.iadd, 1) := by decide +kernel
theorem dX9_duelCell_12 : decode cX9_duelCell 12 = .ok (.imul, 1) := by decide +kernel
theorem dX9_duelCell_13 : decode cX9_duelCell 13 = .ok (.iload_n 1, 1) := by decide +kernel
theorem dX9_duelCell_14 : decode cX9_duelCell 14 = .ok (.iadd, 1) := by decide +kernel
theorem dX9_duelCell_15 : decode cX9_duelCell 15 = .ok (.ireturn, 1) := by decide +kernel
theorem dX9_isOneCalled_0 : decode cX9_isOneCalled 0 = .ok (.iload_n 1, 1) := by decide +kernel
theorem dX9_isOneCalled_1 : decode cX9_isOneCalled 1 = .ok (.iload_n 2, 1) := by decide +kernel
theorem dX9_isOneCalled_2 : decode cX9_isOneCalled 2 = .ok (.if_icmp .lt 29, 3) := by decide +kernel
theorem dX9_isOneCalled_5 : decode cX9_isOneCalled 5 = .ok (.iload_n 1, 1) := by decide +kernel
theorem dX9_isOneCalled_6 : decode cX9_isOneCalled 6 = .ok (.iload_n 2, 1) := by decide +kernel
theorem dX9_isOneCalled_7 : decode cX9_isOneCalled 7 = .ok (.if_icmp .ne 28, 3) := by decide +kernel
theorem dX9_isOneCalled_10 : decode cX9_isOneCalled 10 = .ok (.aload_n 0, 1) := by decide +kernel
theorem dX9_isOneCalled_11 : decode cX9_isOneCalled 11 = .ok (.getfield 17, 3) := by decide +kernel
theorem dX9_isOneCalled_14 : decode cX9_isOneCalled 14 = .ok (.aload_n 0, 1) := by decide +kernel
theorem dX9_isOneCalled_15 : decode cX9_isOneCalled 15 = .ok (.getfield 365, 3) := by decide +kernel
theorem dX9_isOneCalled_18 : decode cX9_isOneCalled 18 = .ok (.iaload, 1) := by decide +kernel
theorem dX9_isOneCalled_19 : decode cX9_isOneCalled 19 = .ok (.aload_n 0, 1) := by decide +kernel
theorem dX9_isOneCalled_20 : decode cX9_isOneCalled 20 = .ok (.getfield 17, 3) := by decide +kernel
theorem dX9_isOneCalled_23 : decode cX9_isOneCalled 23 = .ok (.aload_n 0, 1) := by decide +kernel
theorem dX9_isOneCalled_24 : decode cX9_isOneCalled 24 = .ok (.getfield 368, 3) := by decide +kernel
theorem dX9_isOneCalled_27 : decode cX9_isOneCalled 27 = .ok (.iaload, 1) := by decide +kernel
theorem dX9_isOneCalled_28 : decode cX9_isOneCalled 28 = .ok (.if_icmp .ge 7, 3) := by decide +kernel
theorem dX9_isOneCalled_31 : decode cX9_isOneCalled 31 = .ok (.iconst 1, 1) := by decide +kernel
theorem dX9_isOneCalled_32 : decode cX9_isOneCalled 32 = .ok (.goto 4, 3) := by decide +kernel
theorem dX9_isOneCalled_35 : decode cX9_isOneCalled 35 = .ok (.iconst 0, 1) := by decide +kernel
theorem dX9_isOneCalled_36 : decode cX9_isOneCalled 36 = .ok (.ireturn, 1) := by decide +kernel
set_option maxRecDepth 20000 in
theorem ggX9_duelLays_X9_isOneCalled : GoodIn wsX9_duelLays wsX9_isOneCalled := goodIn_r _ [9, 10, 1, 2, 72, 73, 74, 75, 76, 77, 78, 79, 80, 81, 82, 83, 84, 85, 86, 87, 88, 89, 90, 91, 92, 93, 94, 95, 96, 97, 98, 99, 100, 101, 102, 103, 104, 105, 106, 107, 108, 109, 110, 111] (by decide +kernel) (by decide +kernel)
set_option maxRecDepth 20000 in
theorem gX9_duelLays_X9_isOneCalled : GoodIn wsX9_duelLays (wsV RX9 388 RX9 yX9_isOneCalled wsX9_isOneCalled) := goodIn_app (goodIn_of _ (by decide +kernel)) ggX9_duelLays_X9_isOneCalled
set_option maxRecDepth 20000 in
theorem ggX9_duelLays_X9_duelBest : GoodIn wsX9_duelLays wsX9_duelBest := goodIn_r _ [14, 15, 16, 17, 18, 19, 20, 21, 8, 22, 23, 72, 73, 74, 75, 76, 77, 78, 79, 80, 81, 82, 83, 84, 85, 86, 87, 88, 89, 90, 91, 92, 93, 94, 95, 96, 97, 98, 99, 100, 101, 102, 103, 104, 105, 106, 107, 108, 109, 110, 111] (by decide +kernel) (by decide +kernel)
set_option maxRecDepth 20000 in
theorem gX9_duelLays_X9_duelBest : GoodIn wsX9_duelLays (wsV RX9 371 RX9 yX9_duelBest wsX9_duelBest) := goodIn_app (goodIn_of _ (by decide +kernel)) ggX9_duelLays_X9_duelBest
set_option maxRecDepth 20000 in
theorem ggX9_duelLays_X9_duelChoosesLast : GoodIn wsX9_duelLays wsX9_duelChoosesLast := goodIn_r _ [27, 1, 28, 29, 30, 8, 31, 11, 12, 13, 14, 15, 16, 17, 18, 19, 20, 21, 22, 23, 32, 33, 34, 35, 36, 2, 37, 38, 39, 40, 41, 42, 43, 44, 45, 10, 46, 47, 48, 49, 50, 51, 52, 53, 54, 55, 56, 57, 58, 59, 60, 61, 62, 63, 64, 65, 66, 67, 68, 72, 73, 74, 75, 76, 77, 78, 79, 80, 81, 82, 83, 84, 85, 86, 87, 88, 89, 90, 91, 92, 93, 94, 95, 96, 97, 98, 99, 100, 101, 102, 103, 104, 105, 106, 107, 108, 109, 110, 111] (by decide +kernel) (by decide +kernel)
set_option maxRecDepth 20000 in
theorem gX9_duelLays_X9_duelChoosesLast : GoodIn wsX9_duelLays (wsV RX9 391 RX9 yX9_duelChoosesLast wsX9_duelChoosesLast) := goodIn_app (goodIn_of _ (by decide +kernel)) ggX9_duelLays_X9_duelChoosesLast
set_option maxRecDepth 20000 in
theorem ggX9_duelLays_X9_duelTry : GoodIn wsX9_duelLays wsX9_duelTry := goodIn_r _ [49, 19, 20, 21, 8, 22, 23, 50, 51, 52, 53, 54, 15, 16, 17, 18, 55, 56, 57, 58, 59, 60, 61, 62, 63, 64, 65, 72, 73, 74, 75, 76, 77, 78, 79, 80, 81, 82, 83, 84, 85, 86, 87, 88, 89, 90, 91, 92, 93, 94, 95, 96, 97, 98, 99, 100, 101, 102, 103, 104, 105, 106, 107, 108, 109, 110, 111] (by decide +kernel) (by decide +kernel)
set_option maxRecDepth 20000 in
theorem gX9_duelLays_X9_duelTry : GoodIn wsX9_duelLays (wsV RX9 378 RX9 yX9_duelTry wsX9_duelTry) := goodIn_app (goodIn_of _ (by decide +kernel)) ggX9_duelLays_X9_duelTry
set_option maxRecDepth 20000 in
theorem ggX9_duelLays_X9_duelCell : GoodIn wsX9_duelLays wsX9_duelCell := goodIn_r _ [71] (by decide +kernel) (by decide +kernel)
set_option maxRecDepth 20000 in
theorem gX9_duelLays_X9_duelCell : GoodIn wsX9_duelLays (va_wsS RX9 394 yX9_duelCell wsX9_duelCell) := goodIn_app (goodIn_of _ (by decide +kernel)) ggX9_duelLays_X9_duelCell
set_option maxRecDepth 20000 in
theorem ggX9_duelLays_X9_isBetter : GoodIn wsX9_duelLays wsX9_isBetter := goodIn_r _ [68] (by decide +kernel) (by decide +kernel)
set_option maxRecDepth 20000 in
theorem gX9_duelLays_X9_isBetter : GoodIn wsX9_duelLays (va_wsS RX9 384 yX9_isBetter wsX9_isBetter) := goodIn_app (goodIn_of _ (by decide +kernel)) ggX9_duelLays_X9_isBetter
theorem dX9_duelLays_0 : decode cX9_duelLays 0 = .ok (.aload_n 0, 1) := by decide +kernel
theorem dX9_duelLays_1 : decode cX9_duelLays 1 = .ok (.iload_n 1, 1) := by decide +kernel
theorem dX9_duelLays_2 : decode cX9_duelLays 2 = .ok (.iload_n 2, 1) := by decide +kernel
theorem dX9_duelLays_3 : decode cX9_duelLays 3 = .ok (.invokevirtual 388, 3) := by decide +kernel
theorem dX9_duelLays_6 : decode cX9_duelLays 6 = .ok (.istore 5, 2) := by decide +kernel
theorem dX9_duelLays_8 : decode cX9_duelLays 8 = .ok (.iload 5, 2) := by decide +kernel
theorem dX9_duelLays_10 : decode cX9_duelLays 10 = .ok (.ifCond .eq 10, 3) := by decide +kernel
theorem dX9_duelLays_13 : decode cX9_duelLays 13 = .ok (.aload_n 0, 1) := by decide +kernel
theorem dX9_duelLays_14 : decode cX9_duelLays 14 = .ok (.getfield 365, 3) := by decide +kernel
theorem dX9_duelLays_17 : decode cX9_duelLays 17 = .ok (.goto 7, 3) := by decide +kernel
theorem dX9_duelLays_20 : decode cX9_duelLays 20 = .ok (.aload_n 0, 1) := by decide +kernel
theorem dX9_duelLays_21 : decode cX9_duelLays 21 = .ok (.getfield 368, 3) := by decide +kernel
theorem dX9_duelLays_24 : decode cX9_duelLays 24 = .ok (.istore 6, 2) := by decide +kernel
theorem dX9_duelLays_26 : decode cX9_duelLays 26 = .ok (.iload 5, 2) := by decide +kernel
theorem dX9_duelLays_28 : decode cX9_duelLays 28 = .ok (.ifCond .eq 7, 3) := by decide +kernel
theorem dX9_duelLays_31 : decode cX9_duelLays 31 = .ok (.iload_n 1, 1) := by decide +kernel
theorem dX9_duelLays_32 : decode cX9_duelLays 32 = .ok (.goto 4, 3) := by decide +kernel
theorem dX9_duelLays_35 : decode cX9_duelLays 35 = .ok (.iload_n 2, 1) := by decide +kernel
theorem dX9_duelLays_36 : decode cX9_duelLays 36 = .ok (.istore 7, 2) := by decide +kernel
theorem dX9_duelLays_38 : decode cX9_duelLays 38 = .ok (.iload 5, 2) := by decide +kernel
theorem dX9_duelLays_40 : decode cX9_duelLays 40 = .ok (.ifCond .eq 8, 3) := by decide +kernel
theorem dX9_duelLays_43 : decode cX9_duelLays 43 = .ok (.iload 4, 2) := by decide +kernel
theorem dX9_duelLays_45 : decode cX9_duelLays 45 = .ok (.goto 4, 3) := by decide +kernel
theorem dX9_duelLays_48 : decode cX9_duelLays 48 = .ok (.iload_n 3, 1) := by decide +kernel
theorem dX9_duelLays_49 : decode cX9_duelLays 49 = .ok (.istore 8, 2) := by decide +kernel
theorem dX9_duelLays_51 : decode cX9_duelLays 51 = .ok (.iload 5, 2) := by decide +kernel
theorem dX9_duelLays_53 : decode cX9_duelLays 53 = .ok (.ifCond .eq 7, 3) := by decide +kernel
theorem dX9_duelLays_56 : decode cX9_duelLays 56 = .ok (.iload_n 2, 1) := by decide +kernel
theorem dX9_duelLays_57 : decode cX9_duelLays 57 = .ok (.goto 4, 3) := by decide +kernel
theorem dX9_duelLays_60 : decode cX9_duelLays 60 = .ok (.iload_n 1, 1) := by decide +kernel
theorem dX9_duelLays_61 : decode cX9_duelLays 61 = .ok (.istore 9, 2) := by decide +kernel
theorem dX9_duelLays_63 : decode cX9_duelLays 63 = .ok (.aload_n 0, 1) := by decide +kernel
theorem dX9_duelLays_64 : decode cX9_duelLays 64 = .ok (.iload 5, 2) := by decide +kernel
theorem dX9_duelLays_66 : decode cX9_duelLays 66 = .ok (.ifCond .eq 10, 3) := by decide +kernel
theorem dX9_duelLays_69 : decode cX9_duelLays 69 = .ok (.aload_n 0, 1) := by decide +kernel
theorem dX9_duelLays_70 : decode cX9_duelLays 70 = .ok (.getfield 368, 3) := by decide +kernel
theorem dX9_duelLays_73 : decode cX9_duelLays 73 = .ok (.goto 7, 3) := by decide +kernel
theorem dX9_duelLays_76 : decode cX9_duelLays 76 = .ok (.aload_n 0, 1) := by decide +kernel
theorem dX9_duelLays_77 : decode cX9_duelLays 77 = .ok (.getfield 365, 3) := by decide +kernel
theorem dX9_duelLays_80 : decode cX9_duelLays 80 = .ok (.iload 9, 2) := by decide +kernel
theorem dX9_duelLays_82 : decode cX9_duelLays 82 = .ok (.iload 8, 2) := by decide +kernel
theorem dX9_duelLays_84 : decode cX9_duelLays 84 = .ok (.aload_n 0, 1) := by decide +kernel
theorem dX9_duelLays_85 : decode cX9_duelLays 85 = .ok (.iload 6, 2) := by decide +kernel
theorem dX9_duelLays_87 : decode cX9_duelLays 87 = .ok (.iload 7, 2) := by decide +kernel
theorem dX9_duelLays_89 : decode cX9_duelLays 89 = .ok (.iconst 1, 1) := by decide +kernel
theorem dX9_duelLays_90 : decode cX9_duelLays 90 = .ok (.invokevirtual 371, 3) := by decide +kernel
theorem dX9_duelLays_93 : decode cX9_duelLays 93 = .ok (.invokevirtual 391, 3) := by decide +kernel
theorem dX9_duelLays_96 : decode cX9_duelLays 96 = .ok (.istore 10, 2) := by decide +kernel
theorem dX9_duelLays_98 : decode cX9_duelLays 98 = .ok (.aload_n 0, 1) := by decide +kernel
theorem dX9_duelLays_99 : decode cX9_duelLays 99 = .ok (.iload 5, 2) := by decide +kernel
theorem dX9_duelLays_101 : decode cX9_duelLays 101 = .ok (.ifCond .eq 10, 3) := by decide +kernel
theorem dX9_duelLays_104 : decode cX9_duelLays 104 = .ok (.aload_n 0, 1) := by decide +kernel
theorem dX9_duelLays_105 : decode cX9_duelLays 105 = .ok (.getfield 368, 3) := by decide +kernel
theorem dX9_duelLays_108 : decode cX9_duelLays 108 = .ok (.goto 7, 3) := by decide +kernel
theorem dX9_duelLays_111 : decode cX9_duelLays 111 = .ok (.aload_n 0, 1) := by decide +kernel
theorem dX9_duelLays_112 : decode cX9_duelLays 112 = .ok (.getfield 365, 3) := by decide +kernel
theorem dX9_duelLays_115 : decode cX9_duelLays 115 = .ok (.iload 9, 2) := by decide +kernel
theorem dX9_duelLays_117 : decode cX9_duelLays 117 = .ok (.iload 8, 2) := by decide +kernel
theorem dX9_duelLays_119 : decode cX9_duelLays 119 = .ok (.aload_n 0, 1) := by decide +kernel
theorem dX9_duelLays_120 : decode cX9_duelLays 120 = .ok (.iload 6, 2) := by decide +kernel
theorem dX9_duelLays_122 : decode cX9_duelLays 122 = .ok (.iload 7, 2) := by decide +kernel
theorem dX9_duelLays_124 : decode cX9_duelLays 124 = .ok (.iconst 0, 1) := by decide +kernel
theorem dX9_duelLays_125 : decode cX9_duelLays 125 = .ok (.invokevirtual 371, 3) := by decide +kernel
theorem dX9_duelLays_128 : decode cX9_duelLays 128 = .ok (.invokevirtual 391, 3) := by decide +kernel
theorem dX9_duelLays_131 : decode cX9_duelLays 131 = .ok (.istore 11, 2) := by decide +kernel
theorem dX9_duelLays_133 : decode cX9_duelLays 133 = .ok (.aload_n 0, 1) := by decide +kernel
theorem dX9_duelLays_134 : decode cX9_duelLays 134 = .ok (.iload 6, 2) := by decide +kernel
theorem dX9_duelLays_136 : decode cX9_duelLays 136 = .ok (.iload 7, 2) := by decide +kernel
theorem dX9_duelLays_138 : decode cX9_duelLays 138 = .ok (.iload 10, 2) := by decide +kernel
theorem dX9_duelLays_140 : decode cX9_duelLays 140 = .ok (.iload 11, 2) := by decide +kernel
theorem dX9_duelLays_142 : decode cX9_duelLays 142 = .ok (.invokevirtual 378, 3) := by decide +kernel
theorem dX9_duelLays_145 : decode cX9_duelLays 145 = .ok (.istore 12, 2) := by decide +kernel
theorem dX9_duelLays_147 : decode cX9_duelLays 147 = .ok (.iconst 0, 1) := by decide +kernel
theorem dX9_duelLays_148 : decode cX9_duelLays 148 = .ok (.istore 13, 2) := by decide +kernel
theorem dX9_duelLays_150 : decode cX9_duelLays 150 = .ok (.iload 7, 2) := by decide +kernel
theorem dX9_duelLays_152 : decode cX9_duelLays 152 = .ok (.iconst 1, 1) := by decide +kernel
theorem dX9_duelLays_153 : decode cX9_duelLays 153 = .ok (.iadd, 1) := by decide +kernel
theorem dX9_duelLays_154 : decode cX9_duelLays 154 = .ok (.istore 14, 2) := by decide +kernel
theorem dX9_duelLays_156 : decode cX9_duelLays 156 = .ok (.iload 14, 2) := by decide +kernel
theorem dX9_duelLays_158 : decode cX9_duelLays 158 = .ok (.bipush 40, 2) := by decide +kernel
theorem dX9_duelLays_160 : decode cX9_duelLays 160 = .ok (.if_icmp .gt 88, 3) := by decide +kernel
theorem dX9_duelLays_163 : decode cX9_duelLays 163 = .ok (.iload 5, 2) := by decide +kernel
theorem dX9_duelLays_165 : decode cX9_duelLays 165 = .ok (.ifCond .eq 7, 3) := by decide +kernel
theorem dX9_duelLays_168 : decode cX9_duelLays 168 = .ok (.iload_n 3, 1) := by decide +kernel
theorem dX9_duelLays_169 : decode cX9_duelLays 169 = .ok (.goto 5, 3) := by decide +kernel
theorem dX9_duelLays_172 : decode cX9_duelLays 172 = .ok (.iload 4, 2) := by decide +kernel
theorem dX9_duelLays_174 : decode cX9_duelLays 174 = .ok (.ifCond .le 74, 3) := by decide +kernel
theorem dX9_duelLays_177 : decode cX9_duelLays 177 = .ok (.iload 5, 2) := by decide +kernel
theorem dX9_duelLays_179 : decode cX9_duelLays 179 = .ok (.ifCond .eq 22, 3) := by decide +kernel
theorem dX9_duelLays_182 : decode cX9_duelLays 182 = .ok (.aload_n 0, 1) := by decide +kernel
theorem dX9_duelLays_183 : decode cX9_duelLays 183 = .ok (.getfield 71, 3) := by decide +kernel
theorem dX9_duelLays_186 : decode cX9_duelLays 186 = .ok (.iload 14, 2) := by decide +kernel
theorem dX9_duelLays_188 : decode cX9_duelLays 188 = .ok (.iload_n 2, 1) := by decide +kernel
theorem dX9_duelLays_189 : decode cX9_duelLays 189 = .ok (.iload_n 3, 1) := by decide +kernel
theorem dX9_duelLays_190 : decode cX9_duelLays 190 = .ok (.iconst 1, 1) := by decide +kernel
theorem dX9_duelLays_191 : decode cX9_duelLays 191 = .ok (.isub, 1) := by decide +kernel
theorem dX9_duelLays_192 : decode cX9_duelLays 192 = .ok (.iload 4, 2) := by decide +kernel
theorem dX9_duelLays_194 : decode cX9_duelLays 194 = .ok (.invokestatic 394, 3) := by decide +kernel
theorem dX9_duelLays_197 : decode cX9_duelLays 197 = .ok (.iaload, 1) := by decide +kernel
theorem dX9_duelLays_198 : decode cX9_duelLays 198 = .ok (.goto 19, 3) := by decide +kernel
theorem dX9_duelLays_201 : decode cX9_duelLays 201 = .ok (.aload_n 0, 1) := by decide +kernel
theorem dX9_duelLays_202 : decode cX9_duelLays 202 = .ok (.getfield 71, 3) := by decide +kernel
theorem dX9_duelLays_205 : decode cX9_duelLays 205 = .ok (.iload_n 1, 1) := by decide +kernel
theorem dX9_duelLays_206 : decode cX9_duelLays 206 = .ok (.iload 14, 2) := by decide +kernel
theorem dX9_duelLays_208 : decode cX9_duelLays 208 = .ok (.iload_n 3, 1) := by decide +kernel
theorem dX9_duelLays_209 : decode cX9_duelLays 209 = .ok (.iload 4, 2) := by decide +kernel
theorem dX9_duelLays_211 : decode cX9_duelLays 211 = .ok (.iconst 1, 1) := by decide +kernel
theorem dX9_duelLays_212 : decode cX9_duelLays 212 = .ok (.isub, 1) := by decide +kernel
theorem dX9_duelLays_213 : decode cX9_duelLays 213 = .ok (.invokestatic 394, 3) := by decide +kernel
theorem dX9_duelLays_216 : decode cX9_duelLays 216 = .ok (.iaload, 1) := by decide +kernel
theorem dX9_duelLays_217 : decode cX9_duelLays 217 = .ok (.istore 15, 2) := by decide +kernel
theorem dX9_duelLays_219 : decode cX9_duelLays 219 = .ok (.iload 5, 2) := by decide +kernel
theorem dX9_duelLays_221 : decode cX9_duelLays 221 = .ok (.iload 15, 2) := by decide +kernel
theorem dX9_duelLays_223 : decode cX9_duelLays 223 = .ok (.iload 12, 2) := by decide +kernel
theorem dX9_duelLays_225 : decode cX9_duelLays 225 = .ok (.invokestatic 384, 3) := by decide +kernel
theorem dX9_duelLays_228 : decode cX9_duelLays 228 = .ok (.ifCond .ne 6, 3) := by decide +kernel
theorem dX9_duelLays_231 : decode cX9_duelLays 231 = .ok (.goto 11, 3) := by decide +kernel
theorem dX9_duelLays_234 : decode cX9_duelLays 234 = .ok (.iload 15, 2) := by decide +kernel
theorem dX9_duelLays_236 : decode cX9_duelLays 236 = .ok (.istore 12, 2) := by decide +kernel
theorem dX9_duelLays_238 : decode cX9_duelLays 238 = .ok (.iload 14, 2) := by decide +kernel
theorem dX9_duelLays_240 : decode cX9_duelLays 240 = .ok (.istore 13, 2) := by decide +kernel
theorem dX9_duelLays_242 : decode cX9_duelLays 242 = .ok (.iinc 14 1, 3) := by decide +kernel
theorem dX9_duelLays_245 : decode cX9_duelLays 245 = .ok (.goto (-89), 3) := by decide +kernel
theorem dX9_duelLays_248 : decode cX9_duelLays 248 = .ok (.aload_n 0, 1) := by decide +kernel
theorem dX9_duelLays_249 : decode cX9_duelLays 249 = .ok (.getfield 71, 3) := by decide +kernel
theorem dX9_duelLays_252 : decode cX9_duelLays 252 = .ok (.iload_n 1, 1) := by decide +kernel
theorem dX9_duelLays_253 : decode cX9_duelLays 253 = .ok (.iload_n 2, 1) := by decide +kernel
theorem dX9_duelLays_254 : decode cX9_duelLays 254 = .ok (.iload_n 3, 1) := by decide +kernel
theorem dX9_duelLays_255 : decode cX9_duelLays 255 = .ok (.iload 4, 2) := by decide +kernel
theorem dX9_duelLays_257 : decode cX9_duelLays 257 = .ok (.invokestatic 394, 3) := by decide +kernel
theorem dX9_duelLays_260 : decode cX9_duelLays 260 = .ok (.iload 12, 2) := by decide +kernel
theorem dX9_duelLays_262 : decode cX9_duelLays 262 = .ok (.iastore, 1) := by decide +kernel
theorem dX9_duelLays_263 : decode cX9_duelLays 263 = .ok (.aload_n 0, 1) := by decide +kernel
theorem dX9_duelLays_264 : decode cX9_duelLays 264 = .ok (.getfield 74, 3) := by decide +kernel
theorem dX9_duelLays_267 : decode cX9_duelLays 267 = .ok (.iload_n 1, 1) := by decide +kernel
theorem dX9_duelLays_268 : decode cX9_duelLays 268 = .ok (.iload_n 2, 1) := by decide +kernel
theorem dX9_duelLays_269 : decode cX9_duelLays 269 = .ok (.iload_n 3, 1) := by decide +kernel
theorem dX9_duelLays_270 : decode cX9_duelLays 270 = .ok (.iload 4, 2) := by decide +kernel
theorem dX9_duelLays_272 : decode cX9_duelLays 272 = .ok (.invokestatic 394, 3) := by decide +kernel
theorem dX9_duelLays_275 : decode cX9_duelLays 275 = .ok (.iload 13, 2) := by decide +kernel
theorem dX9_duelLays_277 : decode cX9_duelLays 277 = .ok (.iastore, 1) := by decide +kernel
theorem dX9_duelLays_278 : decode cX9_duelLays 278 = .ok (.return_, 1) := by decide +kernel
set_option maxRecDepth 20000 in
theorem ggX9_duelAt_X9_of : GoodIn wsX9_duelAt wsX9_of := goodIn_r _ [8, 9, 79, 80, 81, 82, 83, 84, 85, 86, 87, 88, 89, 90, 91, 92, 93, 94, 95, 96, 97, 98, 99, 100, 101, 102, 103, 104, 105, 106, 107, 108, 109, 110, 111, 112, 113, 114, 115, 116, 117, 118] (by decide +kernel) (by decide +kernel)
set_option maxRecDepth 20000 in
theorem gX9_duelAt_X9_of : GoodIn wsX9_duelAt (wsV RX9 106 RX9 yX9_of wsX9_of) := goodIn_app (goodIn_of _ (by decide +kernel)) ggX9_duelAt_X9_of
set_option maxRecDepth 20000 in
theorem ggX9_duelAt_X9_in : GoodIn wsX9_duelAt wsX9_in := goodIn_r _ [12] (by decide +kernel) (by decide +kernel)
set_option maxRecDepth 20000 in
theorem gX9_duelAt_X9_in : GoodIn wsX9_duelAt (va_wsS RX9 87 yX9_in wsX9_in) := goodIn_app (goodIn_of _ (by decide +kernel)) ggX9_duelAt_X9_in
