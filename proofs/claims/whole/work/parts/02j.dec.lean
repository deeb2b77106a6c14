theorem dX9_order_2 : decode cX9_order 2 = .ok (.putfield 77, 3) := by decide +kernel
theorem dX9_order_5 : decode cX9_order 5 = .ok (.aload_n 0, 1) := by decide +kernel
theorem dX9_order_6 : decode cX9_order 6 = .ok (.iconst 0, 1) := by decide +kernel
theorem dX9_order_7 : decode cX9_order 7 = .ok (.putfield 81, 3) := by decide +kernel
theorem dX9_order_10 : decode cX9_order 10 = .ok (.iconst 0, 1) := by decide +kernel
theorem dX9_order_11 : decode cX9_order 11 = .ok (.istore_n 1, 1) := by decide +kernel
theorem dX9_order_12 : decode cX9_order 12 = .ok (.iload_n 1, 1) := by decide +kernel
theorem dX9_order_13 : decode cX9_order 13 = .ok (.aload_n 0, 1) := by decide +kernel
theorem dX9_order_14 : decode cX9_order 14 = .ok (.getfield 84, 3) := by decide +kernel
theorem dX9_order_17 : decode cX9_order 17 = .ok (.if_icmp .ge 48, 3) := by decide +kernel
theorem dX9_order_20 : decode cX9_order 20 = .ok (.iconst 0, 1) := by decide +kernel
theorem dX9_order_21 : decode cX9_order 21 = .ok (.istore_n 2, 1) := by decide +kernel
theorem dX9_order_22 : decode cX9_order 22 = .ok (.iload_n 2, 1) := by decide +kernel
theorem dX9_order_23 : decode cX9_order 23 = .ok (.aload_n 0, 1) := by decide +kernel
theorem dX9_order_24 : decode cX9_order 24 = .ok (.getfield 84, 3) := by decide +kernel
theorem dX9_order_27 : decode cX9_order 27 = .ok (.if_icmp .ge 32, 3) := by decide +kernel
theorem dX9_order_30 : decode cX9_order 30 = .ok (.aload_n 0, 1) := by decide +kernel
theorem dX9_order_31 : decode cX9_order 31 = .ok (.iload_n 2, 1) := by decide +kernel
theorem dX9_order_32 : decode cX9_order 32 = .ok (.invokevirtual 140, 3) := by decide +kernel
theorem dX9_order_35 : decode cX9_order 35 = .ok (.ifCond .eq 18, 3) := by decide +kernel
theorem dX9_order_38 : decode cX9_order 38 = .ok (.aload_n 0, 1) := by decide +kernel
theorem dX9_order_39 : decode cX9_order 39 = .ok (.iload_n 2, 1) := by decide +kernel
theorem dX9_order_40 : decode cX9_order 40 = .ok (.invokevirtual 252, 3) := by decide +kernel
theorem dX9_order_43 : decode cX9_order 43 = .ok (.iload_n 1, 1) := by decide +kernel
theorem dX9_order_44 : decode cX9_order 44 = .ok (.if_icmp .ne 9, 3) := by decide +kernel
theorem dX9_order_47 : decode cX9_order 47 = .ok (.aload_n 0, 1) := by decide +kernel
theorem dX9_order_48 : decode cX9_order 48 = .ok (.iload_n 2, 1) := by decide +kernel
theorem dX9_order_49 : decode cX9_order 49 = .ok (.i2l, 1) := by decide +kernel
theorem dX9_order_50 : decode cX9_order 50 = .ok (.invokevirtual 180, 3) := by decide +kernel
theorem dX9_order_53 : decode cX9_order 53 = .ok (.iinc 2 1, 3) := by decide +kernel
theorem dX9_order_56 : decode cX9_order 56 = .ok (.goto (-34), 3) := by decide +kernel
theorem dX9_order_59 : decode cX9_order 59 = .ok (.iinc 1 1, 3) := by decide +kernel
theorem dX9_order_62 : decode cX9_order 62 = .ok (.goto (-50), 3) := by decide +kernel
theorem dX9_order_65 : decode cX9_order 65 = .ok (.aload_n 0, 1) := by decide +kernel
theorem dX9_order_66 : decode cX9_order 66 = .ok (.getfield 81, 3) := by decide +kernel
theorem dX9_order_69 : decode cX9_order 69 = .ok (.ireturn, 1) := by decide +kernel
set_option maxRecDepth 20000 in
theorem ggX9_asks_X9_isLifter : GoodIn wsX9_asks wsX9_isLifter := goodIn_r _ [7, 8, 9, 10, 6, 11, 41, 42, 43, 44, 45, 46, 47, 48, 49, 50, 51, 52, 53, 54, 55, 56, 57, 58, 59, 60, 61, 62, 63, 64, 65, 66, 67, 68, 69, 70, 71, 72, 73, 74, 75, 76, 77, 78, 79, 80] (by decide +kernel) (by decide +kernel)
set_option maxRecDepth 20000 in
theorem gX9_asks_X9_isLifter : GoodIn wsX9_asks (wsV RX9 233 RX9 yX9_isLifter wsX9_isLifter) := goodIn_app (goodIn_of _ (by decide +kernel)) ggX9_asks_X9_isLifter
set_option maxRecDepth 20000 in
theorem ggX9_asks_X9_in : GoodIn wsX9_asks wsX9_in := goodIn_r _ [11] (by decide +kernel) (by decide +kernel)
set_option maxRecDepth 20000 in
theorem gX9_asks_X9_in : GoodIn wsX9_asks (va_wsS RX9 87 yX9_in wsX9_in) := goodIn_app (goodIn_of _ (by decide +kernel)) ggX9_asks_X9_in
set_option maxRecDepth 20000 in
theorem ggX9_asks_X9_isStill : GoodIn wsX9_asks wsX9_isStill := goodIn_r _ [15, 16, 17, 18, 6, 19, 20, 21, 22, 23, 24, 25, 26, 27, 28, 41, 42, 43, 44, 45, 46, 47, 48, 49, 50, 51, 52, 53, 54, 55, 56, 57, 58, 59, 60, 61, 62, 63, 64, 65, 66, 67, 68, 69, 70, 71, 72, 73, 74, 75, 76, 77, 78, 79, 80] (by decide +kernel) (by decide +kernel)
set_option maxRecDepth 20000 in
theorem gX9_asks_X9_isStill : GoodIn wsX9_asks (wsV RX9 140 RX9 yX9_isStill wsX9_isStill) := goodIn_app (goodIn_of _ (by decide +kernel)) ggX9_asks_X9_isStill
set_option maxRecDepth 20000 in
theorem ggX9_asks_X9_of : GoodIn wsX9_asks wsX9_of := goodIn_r _ [19, 20, 41, 42, 43, 44, 45, 46, 47, 48, 49, 50, 51, 52, 53, 54, 55, 56, 57, 58, 59, 60, 61, 62, 63, 64, 65, 66, 67, 68, 69, 70, 71, 72, 73, 74, 75, 76, 77, 78, 79, 80] (by decide +kernel) (by decide +kernel)
set_option maxRecDepth 20000 in
theorem gX9_asks_X9_of : GoodIn wsX9_asks (wsV RX9 106 RX9 yX9_of wsX9_of) := goodIn_app (goodIn_of _ (by decide +kernel)) ggX9_asks_X9_of
set_option maxRecDepth 20000 in
theorem ggX9_asks_X9_leastOf : GoodIn wsX9_asks wsX9_leastOf := goodIn_r _ [32, 20, 33, 34, 35, 36, 16, 17, 18, 6, 19, 21, 22, 23, 24, 25, 26, 27, 28, 41, 42, 43, 44, 45, 46, 47, 48, 49, 50, 51, 52, 53, 54, 55, 56, 57, 58, 59, 60, 61, 62, 63, 64, 65, 66, 67, 68, 69, 70, 71, 72, 73, 74, 75, 76, 77, 78, 79, 80] (by decide +kernel) (by decide +kernel)
set_option maxRecDepth 20000 in
theorem gX9_asks_X9_leastOf : GoodIn wsX9_asks (wsV RX9 249 RX9 yX9_leastOf wsX9_leastOf) := goodIn_app (goodIn_of _ (by decide +kernel)) ggX9_asks_X9_leastOf
set_option maxRecDepth 20000 in
theorem ggX9_asks_X9_sets : GoodIn wsX9_asks wsX9_sets := goodIn_r _ [40, 20, 41, 42, 43, 44, 45, 46, 47, 48, 49, 50, 51, 52, 53, 54, 55, 56, 57, 58, 59, 60, 61, 62, 63, 64, 65, 66, 67, 68, 69, 70, 71, 72, 73, 74, 75, 76, 77, 78, 79, 80] (by decide +kernel) (by decide +kernel)
set_option maxRecDepth 20000 in
theorem gX9_asks_X9_sets : GoodIn wsX9_asks (wsV RX9 109 RX9 yX9_sets wsX9_sets) := goodIn_app (goodIn_of _ (by decide +kernel)) ggX9_asks_X9_sets
theorem dX9_asks_0 : decode cX9_asks 0 = .ok (.aload_n 0, 1) := by decide +kernel
theorem dX9_asks_1 : decode cX9_asks 1 = .ok (.iconst 0, 1) := by decide +kernel
theorem dX9_asks_2 : decode cX9_asks 2 = .ok (.putfield 77, 3) := by decide +kernel
theorem dX9_asks_5 : decode cX9_asks 5 = .ok (.aload_n 0, 1) := by decide +kernel
theorem dX9_asks_6 : decode cX9_asks 6 = .ok (.iload_n 1, 1) := by decide +kernel
theorem dX9_asks_7 : decode cX9_asks 7 = .ok (.invokevirtual 233, 3) := by decide +kernel
theorem dX9_asks_10 : decode cX9_asks 10 = .ok (.ifCond .eq 15, 3) := by decide +kernel
theorem dX9_asks_13 : decode cX9_asks 13 = .ok (.iload_n 2, 1) := by decide +kernel
theorem dX9_asks_14 : decode cX9_asks 14 = .ok (.i2l, 1) := by decide +kernel
theorem dX9_asks_15 : decode cX9_asks 15 = .ok (.lconst 1, 1) := by decide +kernel
theorem dX9_asks_16 : decode cX9_asks 16 = .ok (.ldc2_w 239, 3) := by decide +kernel
theorem dX9_asks_19 : decode cX9_asks 19 = .ok (.invokestatic 87, 3) := by decide +kernel
theorem dX9_asks_22 : decode cX9_asks 22 = .ok (.ifCond .ne 5, 3) := by decide +kernel
theorem dX9_asks_25 : decode cX9_asks 25 = .ok (.iconst (-1), 1) := by decide +kernel
theorem dX9_asks_26 : decode cX9_asks 26 = .ok (.ireturn, 1) := by decide +kernel
theorem dX9_asks_27 : decode cX9_asks 27 = .ok (.aload_n 0, 1) := by decide +kernel
theorem dX9_asks_28 : decode cX9_asks 28 = .ok (.iload_n 1, 1) := by decide +kernel
theorem dX9_asks_29 : decode cX9_asks 29 = .ok (.invokevirtual 140, 3) := by decide +kernel
theorem dX9_asks_32 : decode cX9_asks 32 = .ok (.ifCond .ne 6, 3) := by decide +kernel
theorem dX9_asks_35 : decode cX9_asks 35 = .ok (.bipush (-2), 2) := by decide +kernel
theorem dX9_asks_37 : decode cX9_asks 37 = .ok (.ireturn, 1) := by decide +kernel
theorem dX9_asks_38 : decode cX9_asks 38 = .ok (.aload_n 0, 1) := by decide +kernel
theorem dX9_asks_39 : decode cX9_asks 39 = .ok (.iload_n 1, 1) := by decide +kernel
theorem dX9_asks_40 : decode cX9_asks 40 = .ok (.iconst 5, 1) := by decide +kernel
theorem dX9_asks_41 : decode cX9_asks 41 = .ok (.invokevirtual 106, 3) := by decide +kernel
theorem dX9_asks_44 : decode cX9_asks 44 = .ok (.ifCond .ne 6, 3) := by decide +kernel
theorem dX9_asks_47 : decode cX9_asks 47 = .ok (.bipush (-3), 2) := by decide +kernel
theorem dX9_asks_49 : decode cX9_asks 49 = .ok (.ireturn, 1) := by decide +kernel
theorem dX9_asks_50 : decode cX9_asks 50 = .ok (.iload_n 2, 1) := by decide +kernel
theorem dX9_asks_51 : decode cX9_asks 51 = .ok (.aload_n 0, 1) := by decide +kernel
theorem dX9_asks_52 : decode cX9_asks 52 = .ok (.iload_n 1, 1) := by decide +kernel
theorem dX9_asks_53 : decode cX9_asks 53 = .ok (.invokevirtual 249, 3) := by decide +kernel
theorem dX9_asks_56 : decode cX9_asks 56 = .ok (.if_icmp .lt 13, 3) := by decide +kernel
theorem dX9_asks_59 : decode cX9_asks 59 = .ok (.iload_n 2, 1) := by decide +kernel
theorem dX9_asks_60 : decode cX9_asks 60 = .ok (.aload_n 0, 1) := by decide +kernel
theorem dX9_asks_61 : decode cX9_asks 61 = .ok (.iload_n 1, 1) := by decide +kernel
theorem dX9_asks_62 : decode cX9_asks 62 = .ok (.iconst 0, 1) := by decide +kernel
theorem dX9_asks_63 : decode cX9_asks 63 = .ok (.invokevirtual 106, 3) := by decide +kernel
theorem dX9_asks_66 : decode cX9_asks 66 = .ok (.if_icmp .ne 6, 3) := by decide +kernel
theorem dX9_asks_69 : decode cX9_asks 69 = .ok (.bipush (-4), 2) := by decide +kernel
theorem dX9_asks_71 : decode cX9_asks 71 = .ok (.ireturn, 1) := by decide +kernel
theorem dX9_asks_72 : decode cX9_asks 72 = .ok (.aload_n 0, 1) := by decide +kernel
theorem dX9_asks_73 : decode cX9_asks 73 = .ok (.iload_n 1, 1) := by decide +kernel
theorem dX9_asks_74 : decode cX9_asks 74 = .ok (.iconst 0, 1) := by decide +kernel
theorem dX9_asks_75 : decode cX9_asks 75 = .ok (.iload_n 2, 1) := by decide +kernel
theorem dX9_asks_76 : decode cX9_asks 76 = .ok (.invokevirtual 109, 3) := by decide +kernel
theorem dX9_asks_79 : decode cX9_asks 79 = .ok (.aload_n 0, 1) := by decide +kernel
theorem dX9_asks_80 : decode cX9_asks 80 = .ok (.iload_n 1, 1) := by decide +kernel
theorem dX9_asks_81 : decode cX9_asks 81 = .ok (.iconst 5, 1) := by decide +kernel
theorem dX9_asks_82 : decode cX9_asks 82 = .ok (.aload_n 0, 1) := by decide +kernel
theorem dX9_asks_83 : decode cX9_asks 83 = .ok (.iload_n 1, 1) := by decide +kernel
theorem dX9_asks_84 : decode cX9_asks 84 = .ok (.iconst 5, 1) := by decide +kernel
theorem dX9_asks_85 : decode cX9_asks 85 = .ok (.invokevirtual 106, 3) := by decide +kernel
theorem dX9_asks_88 : decode cX9_asks 88 = .ok (.iconst 1, 1) := by decide +kernel
theorem dX9_asks_89 : decode cX9_asks 89 = .ok (.isub, 1) := by decide +kernel
theorem dX9_asks_90 : decode cX9_asks 90 = .ok (.invokevirtual 109, 3) := by decide +kernel
theorem dX9_asks_93 : decode cX9_asks 93 = .ok (.aload_n 0, 1) := by decide +kernel
theorem dX9_asks_94 : decode cX9_asks 94 = .ok (.iload_n 1, 1) := by decide +kernel
theorem dX9_asks_95 : decode cX9_asks 95 = .ok (.iconst 5, 1) := by decide +kernel
theorem dX9_asks_96 : decode cX9_asks 96 = .ok (.invokevirtual 106, 3) := by decide +kernel
theorem dX9_asks_99 : decode cX9_asks 99 = .ok (.ireturn, 1) := by decide +kernel
set_option maxRecDepth 20000 in
theorem ggX9_tries_X9_calledNow : GoodIn wsX9_tries wsX9_calledNow := goodIn_r _ [8, 9, 10, 11, 12, 7, 13, 14, 15, 16, 17, 18, 19, 20, 21, 22, 23, 24, 25, 26, 27, 28, 29, 30, 31, 84, 85, 86, 87, 88, 89, 90, 91, 92, 93, 94, 95, 96, 97, 98, 99, 100, 101, 102, 103, 104, 105, 106, 107, 108, 109, 110, 111, 112, 113, 114, 115, 116, 117, 118, 119, 120, 121, 122, 123] (by decide +kernel) (by decide +kernel)
set_option maxRecDepth 20000 in
theorem gX9_tries_X9_calledNow : GoodIn wsX9_tries (wsV RX9 147 RX9 yX9_calledNow wsX9_calledNow) := goodIn_app (goodIn_of _ (by decide +kernel)) ggX9_tries_X9_calledNow
set_option maxRecDepth 20000 in
theorem ggX9_tries_X9_of : GoodIn wsX9_tries wsX9_of := goodIn_r _ [17, 18, 84, 85, 86, 87, 88, 89, 90, 91, 92, 93, 94, 95, 96, 97, 98, 99, 100, 101, 102, 103, 104, 105, 106, 107, 108, 109, 110, 111, 112, 113, 114, 115, 116, 117, 118, 119, 120, 121, 122, 123] (by decide +kernel) (by decide +kernel)
set_option maxRecDepth 20000 in
theorem gX9_tries_X9_of : GoodIn wsX9_tries (wsV RX9 106 RX9 yX9_of wsX9_of) := goodIn_app (goodIn_of _ (by decide +kernel)) ggX9_tries_X9_of
set_option maxRecDepth 20000 in
theorem ggX9_tries_X9_doesTry : GoodIn wsX9_tries wsX9_doesTry := goodIn_r _ [35, 18, 3, 36, 37, 38, 39, 40, 41, 42, 14, 15, 16, 7, 17, 43, 44, 45, 46, 47, 48, 49, 50, 51, 52, 53, 54, 55, 56, 57, 58, 59, 60, 61, 62, 9, 23, 24, 25, 26, 4, 5, 6, 8, 10, 11, 12, 13, 19, 20, 21, 22, 27, 28, 29, 30, 31, 63, 64, 65, 66, 67, 68, 69, 70, 71, 72, 73, 74, 75, 76, 77, 78, 84, 85, 86, 87, 88, 89, 90, 91, 92, 93, 94, 95, 96, 97, 98, 99, 100, 101, 102, 103, 104, 105, 106, 107, 108, 109, 110, 111, 112, 113, 114, 115, 116, 117, 118, 119, 120, 121, 122, 123] (by decide +kernel) (by decide +kernel)
set_option maxRecDepth 20000 in
theorem gX9_tries_X9_doesTry : GoodIn wsX9_tries (wsV RX9 255 RX9 yX9_doesTry wsX9_doesTry) := goodIn_app (goodIn_of _ (by decide +kernel)) ggX9_tries_X9_doesTry
set_option maxRecDepth 20000 in
theorem ggX9_tries_X9_notes : GoodIn wsX9_tries wsX9_notes := goodIn_r _ [82, 83, 2, 84, 85, 86, 87, 88, 89, 90, 91, 92, 93, 94, 95, 96, 97, 98, 99, 100, 101, 102, 103, 104, 105, 106, 107, 108, 109, 110, 111, 112, 113, 114, 115, 116, 117, 118, 119, 120, 121, 122, 123] (by decide +kernel) (by decide +kernel)
set_option maxRecDepth 20000 in
theorem gX9_tries_X9_notes : GoodIn wsX9_tries (wsV RX9 180 RX9 yX9_notes wsX9_notes) := goodIn_app (goodIn_of _ (by decide +kernel)) ggX9_tries_X9_notes
theorem dX9_tries_0 : decode cX9_tries 0 = .ok (.aload_n 0, 1) := by decide +kernel
theorem dX9_tries_1 : decode cX9_tries 1 = .ok (.iconst 0, 1) := by decide +kernel
theorem dX9_tries_2 : decode cX9_tries 2 = .ok (.putfield 77, 3) := by decide +kernel
theorem dX9_tries_5 : decode cX9_tries 5 = .ok (.aload_n 0, 1) := by decide +kernel
theorem dX9_tries_6 : decode cX9_tries 6 = .ok (.invokevirtual 147, 3) := by decide +kernel
theorem dX9_tries_9 : decode cX9_tries 9 = .ok (.istore_n 2, 1) := by decide +kernel
theorem dX9_tries_10 : decode cX9_tries 10 = .ok (.iload_n 2, 1) := by decide +kernel
theorem dX9_tries_11 : decode cX9_tries 11 = .ok (.iconst (-1), 1) := by decide +kernel
theorem dX9_tries_12 : decode cX9_tries 12 = .ok (.if_icmp .ne 6, 3) := by decide +kernel
theorem dX9_tries_15 : decode cX9_tries 15 = .ok (.bipush (-2), 2) := by decide +kernel
theorem dX9_tries_17 : decode cX9_tries 17 = .ok (.ireturn, 1) := by decide +kernel
theorem dX9_tries_18 : decode cX9_tries 18 = .ok (.aload_n 0, 1) := by decide +kernel
theorem dX9_tries_19 : decode cX9_tries 19 = .ok (.iload_n 2, 1) := by decide +kernel
theorem dX9_tries_20 : decode cX9_tries 20 = .ok (.iconst 0, 1) := by decide +kernel
theorem dX9_tries_21 : decode cX9_tries 21 = .ok (.invokevirtual 106, 3) := by decide +kernel
theorem dX9_tries_24 : decode cX9_tries 24 = .ok (.istore_n 3, 1) := by decide +kernel
theorem dX9_tries_25 : decode cX9_tries 25 = .ok (.aload_n 0, 1) := by decide +kernel
theorem dX9_tries_26 : decode cX9_tries 26 = .ok (.iload_n 2, 1) := by decide +kernel
theorem dX9_tries_27 : decode cX9_tries 27 = .ok (.iload_n 1, 1) := by decide +kernel
theorem dX9_tries_28 : decode cX9_tries 28 = .ok (.invokevirtual 255, 3) := by decide +kernel
theorem dX9_tries_31 : decode cX9_tries 31 = .ok (.aload_n 0, 1) := by decide +kernel
theorem dX9_tries_32 : decode cX9_tries 32 = .ok (.iconst 0, 1) := by decide +kernel
theorem dX9_tries_33 : decode cX9_tries 33 = .ok (.putfield 81, 3) := by decide +kernel
theorem dX9_tries_36 : decode cX9_tries 36 = .ok (.aload_n 0, 1) := by decide +kernel
theorem dX9_tries_37 : decode cX9_tries 37 = .ok (.iload_n 3, 1) := by decide +kernel
theorem dX9_tries_38 : decode cX9_tries 38 = .ok (.i2l, 1) := by decide +kernel
theorem dX9_tries_39 : decode cX9_tries 39 = .ok (.invokevirtual 180, 3) := by decide +kernel
theorem dX9_tries_42 : decode cX9_tries 42 = .ok (.aload_n 0, 1) := by decide +kernel
theorem dX9_tries_43 : decode cX9_tries 43 = .ok (.aload_n 0, 1) := by decide +kernel
theorem dX9_tries_44 : decode cX9_tries 44 = .ok (.getfield 157, 3) := by decide +kernel
theorem dX9_tries_47 : decode cX9_tries 47 = .ok (.i2l, 1) := by decide +kernel
theorem dX9_tries_48 : decode cX9_tries 48 = .ok (.invokevirtual 180, 3) := by decide +kernel
theorem dX9_tries_51 : decode cX9_tries 51 = .ok (.iload_n 2, 1) := by decide +kernel
theorem dX9_tries_52 : decode cX9_tries 52 = .ok (.ireturn, 1) := by decide +kernel
set_option maxRecDepth 20000 in
theorem ggX9_tried_X9_in : GoodIn wsX9_tried wsX9_in := goodIn_r _ [8] (by decide +kernel) (by decide +kernel)
set_option maxRecDepth 20000 in
theorem gX9_tried_X9_in : GoodIn wsX9_tried (va_wsS RX9 87 yX9_in wsX9_in) := goodIn_app (goodIn_of _ (by decide +kernel)) ggX9_tried_X9_in
theorem dX9_tried_0 : decode cX9_tried 0 = .ok (.aload_n 0, 1) := by decide +kernel
theorem dX9_tried_1 : decode cX9_tried 1 = .ok (.iconst 0, 1) := by decide +kernel
theorem dX9_tried_2 : decode cX9_tried 2 = .ok (.putfield 77, 3) := by decide +kernel
theorem dX9_tried_5 : decode cX9_tried 5 = .ok (.iload_n 1, 1) := by decide +kernel
theorem dX9_tried_6 : decode cX9_tried 6 = .ok (.i2l, 1) := by decide +kernel
theorem dX9_tried_7 : decode cX9_tried 7 = .ok (.lconst 0, 1) := by decide +kernel
theorem dX9_tried_8 : decode cX9_tried 8 = .ok (.aload_n 0, 1) := by decide +kernel
theorem dX9_tried_9 : decode cX9_tried 9 = .ok (.getfield 131, 3) := by decide +kernel
theorem dX9_tried_12 : decode cX9_tried 12 = .ok (.iconst 1, 1) := by decide +kernel
theorem dX9_tried_13 : decode cX9_tried 13 = .ok (.isub, 1) := by decide +kernel
theorem dX9_tried_14 : decode cX9_tried 14 = .ok (.i2l, 1) := by decide +kernel
theorem dX9_tried_15 : decode cX9_tried 15 = .ok (.invokestatic 87, 3) := by decide +kernel
theorem dX9_tried_18 : decode cX9_tried 18 = .ok (.ifCond .eq 28, 3) := by decide +kernel
theorem dX9_tried_21 : decode cX9_tried 21 = .ok (.iload_n 2, 1) := by decide +kernel
theorem dX9_tried_22 : decode cX9_tried 22 = .ok (.i2l, 1) := by decide +kernel
theorem dX9_tried_23 : decode cX9_tried 23 = .ok (.lconst 0, 1) := by decide +kernel
theorem dX9_tried_24 : decode cX9_tried 24 = .ok (.ldc2_w 259, 3) := by decide +kernel
theorem dX9_tried_27 : decode cX9_tried 27 = .ok (.invokestatic 87, 3) := by decide +kernel
theorem dX9_tried_30 : decode cX9_tried 30 = .ok (.ifCond .eq 16, 3) := by decide +kernel
theorem dX9_tried_33 : decode cX9_tried 33 = .ok (.aload_n 0, 1) := by decide +kernel
theorem dX9_tried_34 : decode cX9_tried 34 = .ok (.getfield 38, 3) := by decide +kernel
theorem dX9_tried_37 : decode cX9_tried 37 = .ok (.iconst 4, 1) := by decide +kernel
theorem dX9_tried_38 : decode cX9_tried 38 = .ok (.iload_n 1, 1) := by decide +kernel
theorem dX9_tried_39 : decode cX9_tried 39 = .ok (.imul, 1) := by decide +kernel
theorem dX9_tried_40 : decode cX9_tried 40 = .ok (.iload_n 2, 1) := by decide +kernel
theorem dX9_tried_41 : decode cX9_tried 41 = .ok (.iadd, 1) := by decide +kernel
theorem dX9_tried_42 : decode cX9_tried 42 = .ok (.iaload, 1) := by decide +kernel
theorem dX9_tried_43 : decode cX9_tried 43 = .ok (.goto 4, 3) := by decide +kernel
theorem dX9_tried_46 : decode cX9_tried 46 = .ok (.iconst (-1), 1) := by decide +kernel
theorem dX9_tried_47 : decode cX9_tried 47 = .ok (.ireturn, 1) := by decide +kernel
set_option maxRecDepth 20000 in
theorem ggX9_place_X9_isLifter : GoodIn wsX9_place wsX9_isLifter := goodIn_r _ [6, 7, 8, 9, 5, 10, 51, 52, 53, 54, 55, 56, 57, 58, 59, 60, 61, 62, 63, 64, 65, 66, 67, 68, 69, 70, 71, 72, 73, 74, 75, 76, 77, 78, 79, 80, 81, 82, 83, 84, 85, 86, 87, 88, 89, 90] (by decide +kernel) (by decide +kernel)
set_option maxRecDepth 20000 in
theorem gX9_place_X9_isLifter : GoodIn wsX9_place (wsV RX9 233 RX9 yX9_isLifter wsX9_isLifter) := goodIn_app (goodIn_of _ (by decide +kernel)) ggX9_place_X9_isLifter
set_option maxRecDepth 20000 in
theorem ggX9_place_X9_entersPlaces : GoodIn wsX9_place wsX9_entersPlaces := goodIn_r _ [14, 15, 7, 16, 17, 18, 5, 19, 20, 21, 22, 23, 24, 25, 26, 27, 28, 29, 30, 31, 32, 33, 34, 35, 36, 37, 38, 39, 40, 41, 42, 43, 44, 45, 46, 47, 48, 49, 50, 51, 52, 53, 54, 55, 56, 57, 58, 59, 60, 61, 62, 63, 64, 65, 66, 67, 68, 69, 70, 71, 72, 73, 74, 75, 76, 77, 78, 79, 80, 81, 82, 83, 84, 85, 86, 87, 88, 89, 90] (by decide +kernel) (by decide +kernel)
set_option maxRecDepth 20000 in
theorem gX9_place_X9_entersPlaces : GoodIn wsX9_place (wsV RX9 261 RX9 yX9_entersPlaces wsX9_entersPlaces) := goodIn_app (goodIn_of _ (by decide +kernel)) ggX9_place_X9_entersPlaces
set_option maxRecDepth 20000 in
theorem ggX9_place_X9_aheadOf : GoodIn wsX9_place wsX9_aheadOf := goodIn_r _ [19, 7, 20, 21, 22, 5, 23, 24, 25, 26, 27, 28, 29, 30, 31, 32, 33, 34, 35, 36, 37, 38, 39, 40, 41, 42, 43, 44, 45, 51, 52, 53, 54, 55, 56, 57, 58, 59, 60, 61, 62, 63, 64, 65, 66, 67, 68, 69, 70, 71, 72, 73, 74, 75, 76, 77, 78, 79, 80, 81, 82, 83, 84, 85, 86, 87, 88, 89, 90] (by decide +kernel) (by decide +kernel)
set_option maxRecDepth 20000 in
theorem gX9_place_X9_aheadOf : GoodIn wsX9_place (wsV RX9 177 RX9 yX9_aheadOf wsX9_aheadOf) := goodIn_app (goodIn_of _ (by decide +kernel)) ggX9_place_X9_aheadOf
theorem dX9_place_0 : decode cX9_place 0 = .ok (.aload_n 0, 1) := by decide +kernel
theorem dX9_place_1 : decode cX9_place 1 = .ok (.iconst 0, 1) := by decide +kernel
theorem dX9_place_2 : decode cX9_place 2 = .ok (.putfield 77, 3) := by decide +kernel
theorem dX9_place_5 : decode cX9_place 5 = .ok (.aload_n 0, 1) := by decide +kernel
theorem dX9_place_6 : decode cX9_place 6 = .ok (.iload_n 1, 1) := by decide +kernel
theorem dX9_place_7 : decode cX9_place 7 = .ok (.invokevirtual 233, 3) := by decide +kernel
theorem dX9_place_10 : decode cX9_place 10 = .ok (.ifCond .ne 5, 3) := by decide +kernel
theorem dX9_place_13 : decode cX9_place 13 = .ok (.iconst (-1), 1) := by decide +kernel
theorem dX9_place_14 : decode cX9_place 14 = .ok (.ireturn, 1) := by decide +kernel
theorem dX9_place_15 : decode cX9_place 15 = .ok (.aload_n 0, 1) := by decide +kernel
theorem dX9_place_16 : decode cX9_place 16 = .ok (.invokevirtual 261, 3) := by decide +kernel
theorem dX9_place_19 : decode cX9_place 19 = .ok (.aload_n 0, 1) := by decide +kernel
theorem dX9_place_20 : decode cX9_place 20 = .ok (.iload_n 1, 1) := by decide +kernel
theorem dX9_place_21 : decode cX9_place 21 = .ok (.invokevirtual 177, 3) := by decide +kernel
theorem dX9_place_24 : decode cX9_place 24 = .ok (.ireturn, 1) := by decide +kernel
set_option maxRecDepth 20000 in
theorem ggX9_slot_X9_isLifter : GoodIn wsX9_slot wsX9_isLifter := goodIn_r _ [6, 7, 8, 9, 5, 10, 52, 53, 54, 55, 56, 57, 58, 59, 60, 61, 62, 63, 64, 65, 66, 67, 68, 69, 70, 71, 72, 73, 74, 75, 76, 77, 78, 79, 80, 81, 82, 83, 84, 85, 86, 87, 88, 89, 90, 91] (by decide +kernel) (by decide +kernel)
set_option maxRecDepth 20000 in
theorem gX9_slot_X9_isLifter : GoodIn wsX9_slot (wsV RX9 233 RX9 yX9_isLifter wsX9_isLifter) := goodIn_app (goodIn_of _ (by decide +kernel)) ggX9_slot_X9_isLifter
set_option maxRecDepth 20000 in
theorem ggX9_slot_X9_isStill : GoodIn wsX9_slot wsX9_isStill := goodIn_r _ [14, 15, 16, 17, 5, 18, 19, 20, 21, 22, 23, 24, 25, 26, 27, 52, 53, 54, 55, 56, 57, 58, 59, 60, 61, 62, 63, 64, 65, 66, 67, 68, 69, 70, 71, 72, 73, 74, 75, 76, 77, 78, 79, 80, 81, 82, 83, 84, 85, 86, 87, 88, 89, 90, 91] (by decide +kernel) (by decide +kernel)
set_option maxRecDepth 20000 in
theorem gX9_slot_X9_isStill : GoodIn wsX9_slot (wsV RX9 140 RX9 yX9_isStill wsX9_isStill) := goodIn_app (goodIn_of _ (by decide +kernel)) ggX9_slot_X9_isStill
set_option maxRecDepth 20000 in
theorem ggX9_slot_X9_of : GoodIn wsX9_slot wsX9_of := goodIn_r _ [18, 19, 52, 53, 54, 55, 56, 57, 58, 59, 60, 61, 62, 63, 64, 65, 66, 67, 68, 69, 70, 71, 72, 73, 74, 75, 76, 77, 78, 79, 80, 81, 82, 83, 84, 85, 86, 87, 88, 89, 90, 91] (by decide +kernel) (by decide +kernel)
set_option maxRecDepth 20000 in
theorem gX9_slot_X9_of : GoodIn wsX9_slot (wsV RX9 106 RX9 yX9_of wsX9_of) := goodIn_app (goodIn_of _ (by decide +kernel)) ggX9_slot_X9_of
set_option maxRecDepth 20000 in
theorem ggX9_slot_X9_leastOf : GoodIn wsX9_slot wsX9_leastOf := goodIn_r _ [31, 19, 32, 33, 34, 35, 15, 16, 17, 5, 18, 20, 21, 22, 23, 24, 25, 26, 27, 52, 53, 54, 55, 56, 57, 58, 59, 60, 61, 62, 63, 64, 65, 66, 67, 68, 69, 70, 71, 72, 73, 74, 75, 76, 77, 78, 79, 80, 81, 82, 83, 84, 85, 86, 87, 88, 89, 90, 91] (by decide +kernel) (by decide +kernel)
set_option maxRecDepth 20000 in
theorem gX9_slot_X9_leastOf : GoodIn wsX9_slot (wsV RX9 249 RX9 yX9_leastOf wsX9_leastOf) := goodIn_app (goodIn_of _ (by decide +kernel)) ggX9_slot_X9_leastOf
set_option maxRecDepth 20000 in
theorem ggX9_slot_X9_sets : GoodIn wsX9_slot wsX9_sets := goodIn_r _ [39, 19, 52, 53, 54, 55, 56, 57, 58, 59, 60, 61, 62, 63, 64, 65, 66, 67, 68, 69, 70, 71, 72, 73, 74, 75, 76, 77, 78, 79, 80, 81, 82, 83, 84, 85, 86, 87, 88, 89, 90, 91] (by decide +kernel) (by decide +kernel)
set_option maxRecDepth 20000 in
theorem gX9_slot_X9_sets : GoodIn wsX9_slot (wsV RX9 109 RX9 yX9_sets wsX9_sets) := goodIn_app (goodIn_of _ (by decide +kernel)) ggX9_slot_X9_sets
set_option maxRecDepth 20000 in
theorem ggX9_slot_X9_calledAhead : GoodIn wsX9_slot wsX9_calledAhead := goodIn_r _ [43, 7, 11, 12, 13, 5, 14, 15, 16, 17, 18, 19, 20, 21, 22, 23, 24, 25, 26, 27, 44, 45, 46, 47, 48, 49, 50, 51, 52, 53, 54, 55, 56, 57, 58, 59, 60, 61, 62, 63, 64, 65, 66, 67, 68, 69, 70, 71, 72, 73, 74, 75, 76, 77, 78, 79, 80, 81, 82, 83, 84, 85, 86, 87, 88, 89, 90, 91] (by decide +kernel) (by decide +kernel)
set_option maxRecDepth 20000 in
theorem gX9_slot_X9_calledAhead : GoodIn wsX9_slot (wsV RX9 252 RX9 yX9_calledAhead wsX9_calledAhead) := goodIn_app (goodIn_of _ (by decide +kernel)) ggX9_slot_X9_calledAhead
theorem dX9_slot_0 : decode cX9_slot 0 = .ok (.aload_n 0, 1) := by decide +kernel
theorem dX9_slot_1 : decode cX9_slot 1 = .ok (.iconst 0, 1) := by decide +kernel
theorem dX9_slot_2 : decode cX9_slot 2 = .ok (.putfield 77, 3) := by decide +kernel
theorem dX9_slot_5 : decode cX9_slot 5 = .ok (.aload_n 0, 1) := by decide +kernel
theorem dX9_slot_6 : decode cX9_slot 6 = .ok (.iload_n 1, 1) := by decide +kernel
theorem dX9_slot_7 : decode cX9_slot 7 = .ok (.invokevirtual 233, 3) := by decide +kernel
theorem dX9_slot_10 : decode cX9_slot 10 = .ok (.ifCond .eq 7, 3) := by decide +kernel
theorem dX9_slot_13 : decode cX9_slot 13 = .ok (.iload_n 2, 1) := by decide +kernel
theorem dX9_slot_14 : decode cX9_slot 14 = .ok (.ifCond .ge 5, 3) := by decide +kernel
theorem dX9_slot_17 : decode cX9_slot 17 = .ok (.iconst (-1), 1) := by decide +kernel
theorem dX9_slot_18 : decode cX9_slot 18 = .ok (.ireturn, 1) := by decide +kernel
theorem dX9_slot_19 : decode cX9_slot 19 = .ok (.aload_n 0, 1) := by decide +kernel
theorem dX9_slot_20 : decode cX9_slot 20 = .ok (.iload_n 1, 1) := by decide +kernel
theorem dX9_slot_21 : decode cX9_slot 21 = .ok (.invokevirtual 140, 3) := by decide +kernel
theorem dX9_slot_24 : decode cX9_slot 24 = .ok (.ifCond .ne 6, 3) := by decide +kernel
theorem dX9_slot_27 : decode cX9_slot 27 = .ok (.bipush (-2), 2) := by decide +kernel
theorem dX9_slot_29 : decode cX9_slot 29 = .ok (.ireturn, 1) := by decide +kernel
theorem dX9_slot_30 : decode cX9_slot 30 = .ok (.aload_n 0, 1) := by decide +kernel
theorem dX9_slot_31 : decode cX9_slot 31 = .ok (.iload_n 1, 1) := by decide +kernel
theorem dX9_slot_32 : decode cX9_slot 32 = .ok (.iconst 0, 1) := by decide +kernel
theorem dX9_slot_33 : decode cX9_slot 33 = .ok (.invokevirtual 106, 3) := by decide +kernel
theorem dX9_slot_36 : decode cX9_slot 36 = .ok (.istore_n 3, 1) := by decide +kernel
theorem dX9_slot_37 : decode cX9_slot 37 = .ok (.bipush (-3), 2) := by decide +kernel
theorem dX9_slot_39 : decode cX9_slot 39 = .ok (.istore 4, 2) := by decide +kernel
theorem dX9_slot_41 : decode cX9_slot 41 = .ok (.bipush 40, 2) := by decide +kernel
theorem dX9_slot_43 : decode cX9_slot 43 = .ok (.istore 5, 2) := by decide +kernel
theorem dX9_slot_45 : decode cX9_slot 45 = .ok (.iload 5, 2) := by decide +kernel
theorem dX9_slot_47 : decode cX9_slot 47 = .ok (.aload_n 0, 1) := by decide +kernel
theorem dX9_slot_48 : decode cX9_slot 48 = .ok (.iload_n 1, 1) := by decide +kernel
theorem dX9_slot_49 : decode cX9_slot 49 = .ok (.invokevirtual 249, 3) := by decide +kernel
theorem dX9_slot_52 : decode cX9_slot 52 = .ok (.if_icmp .lt 35, 3) := by decide +kernel
theorem dX9_slot_55 : decode cX9_slot 55 = .ok (.aload_n 0, 1) := by decide +kernel
theorem dX9_slot_56 : decode cX9_slot 56 = .ok (.iload_n 1, 1) := by decide +kernel
theorem dX9_slot_57 : decode cX9_slot 57 = .ok (.iconst 0, 1) := by decide +kernel
theorem dX9_slot_58 : decode cX9_slot 58 = .ok (.iload 5, 2) := by decide +kernel
theorem dX9_slot_60 : decode cX9_slot 60 = .ok (.invokevirtual 109, 3) := by decide +kernel
theorem dX9_slot_63 : decode cX9_slot 63 = .ok (.aload_n 0, 1) := by decide +kernel
theorem dX9_slot_64 : decode cX9_slot 64 = .ok (.iload_n 1, 1) := by decide +kernel
theorem dX9_slot_65 : decode cX9_slot 65 = .ok (.invokevirtual 252, 3) := by decide +kernel
theorem dX9_slot_68 : decode cX9_slot 68 = .ok (.iload_n 2, 1) := by decide +kernel
theorem dX9_slot_69 : decode cX9_slot 69 = .ok (.if_icmp .ne 8, 3) := by decide +kernel
theorem dX9_slot_72 : decode cX9_slot 72 = .ok (.iload 5, 2) := by decide +kernel
theorem dX9_slot_74 : decode cX9_slot 74 = .ok (.goto 5, 3) := by decide +kernel
theorem dX9_slot_77 : decode cX9_slot 77 = .ok (.iload 4, 2) := by decide +kernel
theorem dX9_slot_79 : decode cX9_slot 79 = .ok (.istore 4, 2) := by decide +kernel
theorem dX9_slot_81 : decode cX9_slot 81 = .ok (.iinc 5 (-1), 3) := by decide +kernel
theorem dX9_slot_84 : decode cX9_slot 84 = .ok (.goto (-39), 3) := by decide +kernel
theorem dX9_slot_87 : decode cX9_slot 87 = .ok (.aload_n 0, 1) := by decide +kernel
theorem dX9_slot_88 : decode cX9_slot 88 = .ok (.iload_n 1, 1) := by decide +kernel
theorem dX9_slot_89 : decode cX9_slot 89 = .ok (.iconst 0, 1) := by decide +kernel
theorem dX9_slot_90 : decode cX9_slot 90 = .ok (.iload_n 3, 1) := by decide +kernel
theorem dX9_slot_91 : decode cX9_slot 91 = .ok (.invokevirtual 109, 3) := by decide +kernel
theorem dX9_slot_94 : decode cX9_slot 94 = .ok (.iload 4, 2) := by decide +kernel
theorem dX9_slot_96 : decode cX9_slot 96 = .ok (.ireturn, 1) := by decide +kernel
set_option maxRecDepth 20000 in
theorem ggX9_needs_X9_isLifter : GoodIn wsX9_needs wsX9_isLifter := goodIn_r _ [11, 12, 13, 14, 10, 15, 50, 51, 52, 53, 54, 55, 56, 57, 58, 59, 60, 61, 62, 63, 64, 65, 66, 67, 68, 69, 70, 71, 72, 73, 74, 75, 76, 77, 78, 79, 80, 81, 82, 83, 84, 85, 86, 87, 88, 89] (by decide +kernel) (by decide +kernel)
set_option maxRecDepth 20000 in
theorem gX9_needs_X9_isLifter : GoodIn wsX9_needs (wsV RX9 233 RX9 yX9_isLifter wsX9_isLifter) := goodIn_app (goodIn_of _ (by decide +kernel)) ggX9_needs_X9_isLifter
set_option maxRecDepth 20000 in
theorem ggX9_needs_X9_isAhead : GoodIn wsX9_needs wsX9_isAhead := goodIn_r _ [19, 20, 21, 22, 10, 23, 24, 25, 26, 27, 2, 28, 29, 30, 31, 32, 33, 34, 35, 36, 37, 50, 51, 52, 53, 54, 55, 56, 57, 58, 59, 60, 61, 62, 63, 64, 65, 66, 67, 68, 69, 70, 71, 72, 73, 74, 75, 76, 77, 78, 79, 80, 81, 82, 83, 84, 85, 86, 87, 88, 89] (by decide +kernel) (by decide +kernel)
set_option maxRecDepth 20000 in
theorem gX9_needs_X9_isAhead : GoodIn wsX9_needs (wsV RX9 174 RX9 yX9_isAhead wsX9_isAhead) := goodIn_app (goodIn_of _ (by decide +kernel)) ggX9_needs_X9_isAhead
set_option maxRecDepth 20000 in
theorem ggX9_needs_X9_leastOf : GoodIn wsX9_needs wsX9_leastOf := goodIn_r _ [41, 2, 3, 4, 5, 6, 24, 25, 26, 10, 27, 20, 21, 22, 23, 42, 43, 44, 45, 50, 51, 52, 53, 54, 55, 56, 57, 58, 59, 60, 61, 62, 63, 64, 65, 66, 67, 68, 69, 70, 71, 72, 73, 74, 75, 76, 77, 78, 79, 80, 81, 82, 83, 84, 85, 86, 87, 88, 89] (by decide +kernel) (by decide +kernel)
set_option maxRecDepth 20000 in
theorem gX9_needs_X9_leastOf : GoodIn wsX9_needs (wsV RX9 249 RX9 yX9_leastOf wsX9_leastOf) := goodIn_app (goodIn_of _ (by decide +kernel)) ggX9_needs_X9_leastOf
set_option maxRecDepth 20000 in
theorem ggX9_needs_X9_of : GoodIn wsX9_needs wsX9_of := goodIn_r _ [27, 2, 50, 51, 52, 53, 54, 55, 56, 57, 58, 59, 60, 61, 62, 63, 64, 65, 66, 67, 68, 69, 70, 71, 72, 73, 74, 75, 76, 77, 78, 79, 80, 81, 82, 83, 84, 85, 86, 87, 88, 89] (by decide +kernel) (by decide +kernel)
set_option maxRecDepth 20000 in
theorem gX9_needs_X9_of : GoodIn wsX9_needs (wsV RX9 106 RX9 yX9_of wsX9_of) := goodIn_app (goodIn_of _ (by decide +kernel)) ggX9_needs_X9_of
set_option maxRecDepth 20000 in
theorem ggX9_needs_X9_sets : GoodIn wsX9_needs wsX9_sets := goodIn_r _ [49, 2, 50, 51, 52, 53, 54, 55, 56, 57, 58, 59, 60, 61, 62, 63, 64, 65, 66, 67, 68, 69, 70, 71, 72, 73, 74, 75, 76, 77, 78, 79, 80, 81, 82, 83, 84, 85, 86, 87, 88, 89] (by decide +kernel) (by decide +kernel)
set_option maxRecDepth 20000 in
theorem gX9_needs_X9_sets : GoodIn wsX9_needs (wsV RX9 109 RX9 yX9_sets wsX9_sets) := goodIn_app (goodIn_of _ (by decide +kernel)) ggX9_needs_X9_sets
theorem dX9_needs_0 : decode cX9_needs 0 = .ok (.aload_n 0, 1) := by decide +kernel
theorem dX9_needs_1 : decode cX9_needs 1 = .ok (.iconst 0, 1) := by decide +kernel
theorem dX9_needs_2 : decode cX9_needs 2 = .ok (.putfield 77, 3) := by decide +kernel
theorem dX9_needs_5 : decode cX9_needs 5 = .ok (.aload_n 0, 1) := by decide +kernel
theorem dX9_needs_6 : decode cX9_needs 6 = .ok (.iload_n 1, 1) := by decide +kernel
theorem dX9_needs_7 : decode cX9_needs 7 = .ok (.invokevirtual 233, 3) := by decide +kernel
theorem dX9_needs_10 : decode cX9_needs 10 = .ok (.ifCond .eq 16, 3) := by decide +kernel
theorem dX9_needs_13 : decode cX9_needs 13 = .ok (.aload_n 0, 1) := by decide +kernel
theorem dX9_needs_14 : decode cX9_needs 14 = .ok (.iload_n 2, 1) := by decide +kernel
theorem dX9_needs_15 : decode cX9_needs 15 = .ok (.invokevirtual 233, 3) := by decide +kernel
theorem dX9_needs_18 : decode cX9_needs 18 = .ok (.ifCond .eq 8, 3) := by decide +kernel
theorem dX9_needs_21 : decode cX9_needs 21 = .ok (.iload_n 1, 1) := by decide +kernel
theorem dX9_needs_22 : decode cX9_needs 22 = .ok (.iload_n 2, 1) := by decide +kernel
theorem dX9_needs_23 : decode cX9_needs 23 = .ok (.if_icmp .ne 5, 3) := by decide +kernel
theorem dX9_needs_26 : decode cX9_needs 26 = .ok (.iconst (-1), 1) := by decide +kernel
theorem dX9_needs_27 : decode cX9_needs 27 = .ok (.ireturn, 1) := by decide +kernel
theorem dX9_needs_28 : decode cX9_needs 28 = .ok (.aload_n 0, 1) := by decide +kernel
theorem dX9_needs_29 : decode cX9_needs 29 = .ok (.iload_n 1, 1) := by decide +kernel
theorem dX9_needs_30 : decode cX9_needs 30 = .ok (.iload_n 2, 1) := by decide +kernel
theorem dX9_needs_31 : decode cX9_needs 31 = .ok (.invokevirtual 174, 3) := by decide +kernel
theorem dX9_needs_34 : decode cX9_needs 34 = .ok (.ifCond .eq 5, 3) := by decide +kernel
theorem dX9_needs_37 : decode cX9_needs 37 = .ok (.iconst 0, 1) := by decide +kernel
theorem dX9_needs_38 : decode cX9_needs 38 = .ok (.ireturn, 1) := by decide +kernel
theorem dX9_needs_39 : decode cX9_needs 39 = .ok (.aload_n 0, 1) := by decide +kernel
theorem dX9_needs_40 : decode cX9_needs 40 = .ok (.iload_n 1, 1) := by decide +kernel
theorem dX9_needs_41 : decode cX9_needs 41 = .ok (.invokevirtual 249, 3) := by decide +kernel
theorem dX9_needs_44 : decode cX9_needs 44 = .ok (.ifCond .ne 6, 3) := by decide +kernel
theorem dX9_needs_47 : decode cX9_needs 47 = .ok (.bipush (-2), 2) := by decide +kernel
theorem dX9_needs_49 : decode cX9_needs 49 = .ok (.ireturn, 1) := by decide +kernel
theorem dX9_needs_50 : decode cX9_needs 50 = .ok (.bipush 7, 2) := by decide +kernel
theorem dX9_needs_52 : decode cX9_needs 52 = .ok (.aload_n 0, 1) := by decide +kernel
theorem dX9_needs_53 : decode cX9_needs 53 = .ok (.getfield 32, 3) := by decide +kernel
theorem dX9_needs_56 : decode cX9_needs 56 = .ok (.iconst 0, 1) := by decide +kernel
theorem dX9_needs_57 : decode cX9_needs 57 = .ok (.iaload, 1) := by decide +kernel
theorem dX9_needs_58 : decode cX9_needs 58 = .ok (.iadd, 1) := by decide +kernel
theorem dX9_needs_59 : decode cX9_needs 59 = .ok (.istore_n 3, 1) := by decide +kernel
theorem dX9_needs_60 : decode cX9_needs 60 = .ok (.aload_n 0, 1) := by decide +kernel
theorem dX9_needs_61 : decode cX9_needs 61 = .ok (.iload_n 1, 1) := by decide +kernel
theorem dX9_needs_62 : decode cX9_needs 62 = .ok (.iload_n 3, 1) := by decide +kernel
theorem dX9_needs_63 : decode cX9_needs 63 = .ok (.invokevirtual 106, 3) := by decide +kernel
theorem dX9_needs_66 : decode cX9_needs 66 = .ok (.istore 4, 2) := by decide +kernel
theorem dX9_needs_68 : decode cX9_needs 68 = .ok (.bipush (-3), 2) := by decide +kernel
theorem dX9_needs_70 : decode cX9_needs 70 = .ok (.istore 5, 2) := by decide +kernel
theorem dX9_needs_72 : decode cX9_needs 72 = .ok (.bipush 40, 2) := by decide +kernel
theorem dX9_needs_74 : decode cX9_needs 74 = .ok (.istore 6, 2) := by decide +kernel
theorem dX9_needs_76 : decode cX9_needs 76 = .ok (.iload 6, 2) := by decide +kernel
theorem dX9_needs_78 : decode cX9_needs 78 = .ok (.aload_n 0, 1) := by decide +kernel
theorem dX9_needs_79 : decode cX9_needs 79 = .ok (.iload_n 1, 1) := by decide +kernel
theorem dX9_needs_80 : decode cX9_needs 80 = .ok (.invokevirtual 249, 3) := by decide +kernel
theorem dX9_needs_83 : decode cX9_needs 83 = .ok (.if_icmp .lt 40, 3) := by decide +kernel
theorem dX9_needs_86 : decode cX9_needs 86 = .ok (.aload_n 0, 1) := by decide +kernel
theorem dX9_needs_87 : decode cX9_needs 87 = .ok (.iload_n 1, 1) := by decide +kernel
theorem dX9_needs_88 : decode cX9_needs 88 = .ok (.iload_n 3, 1) := by decide +kernel
theorem dX9_needs_89 : decode cX9_needs 89 = .ok (.iload 4, 2) := by decide +kernel
theorem dX9_needs_91 : decode cX9_needs 91 = .ok (.iload 6, 2) := by decide +kernel
theorem dX9_needs_93 : decode cX9_needs 93 = .ok (.invokestatic 100, 3) := by decide +kernel
theorem dX9_needs_96 : decode cX9_needs 96 = .ok (.invokevirtual 109, 3) := by decide +kernel
theorem dX9_needs_99 : decode cX9_needs 99 = .ok (.aload_n 0, 1) := by decide +kernel
theorem dX9_needs_100 : decode cX9_needs 100 = .ok (.iload_n 1, 1) := by decide +kernel
theorem dX9_needs_101 : decode cX9_needs 101 = .ok (.iload_n 2, 1) := by decide +kernel
theorem dX9_needs_102 : decode cX9_needs 102 = .ok (.invokevirtual 174, 3) := by decide +kernel
theorem dX9_needs_105 : decode cX9_needs 105 = .ok (.ifCond .eq 8, 3) := by decide +kernel
theorem dX9_needs_108 : decode cX9_needs 108 = .ok (.iload 6, 2) := by decide +kernel
theorem dX9_needs_110 : decode cX9_needs 110 = .ok (.goto 5, 3) := by decide +kernel
theorem dX9_needs_113 : decode cX9_needs 113 = .ok (.iload 5, 2) := by decide +kernel
theorem dX9_needs_115 : decode cX9_needs 115 = .ok (.istore 5, 2) := by decide +kernel
theorem dX9_needs_117 : decode cX9_needs 117 = .ok (.iinc 6 (-1), 3) := by decide +kernel
theorem dX9_needs_120 : decode cX9_needs 120 = .ok (.goto (-44), 3) := by decide +kernel
theorem dX9_needs_123 : decode cX9_needs 123 = .ok (.aload_n 0, 1) := by decide +kernel
theorem dX9_needs_124 : decode cX9_needs 124 = .ok (.iload_n 1, 1) := by decide +kernel
theorem dX9_needs_125 : decode cX9_needs 125 = .ok (.iload_n 3, 1) := by decide +kernel
theorem dX9_needs_126 : decode cX9_needs 126 = .ok (.iload 4, 2) := by decide +kernel
theorem dX9_needs_128 : decode cX9_needs 128 = .ok (.invokevirtual 109, 3) := by decide +kernel
theorem dX9_needs_131 : decode cX9_needs 131 = .ok (.iload 5, 2) := by decide +kernel
theorem dX9_needs_133 : decode cX9_needs 133 = .ok (.ireturn, 1) := by decide +kernel
theorem dX9_aimsMass_0 : decode cX9_aimsMass 0 = .ok (.iconst 0, 1) := by decide +kernel
theorem dX9_aimsMass_1 : decode cX9_aimsMass 1 = .ok (.istore_n 1, 1) := by decide +kernel
theorem dX9_aimsMass_2 : decode cX9_aimsMass 2 = .ok (.iload_n 1, 1) := by decide +kernel
theorem dX9_aimsMass_3 : decode cX9_aimsMass 3 = .ok (.bipush 121, 2) := by decide +kernel
theorem dX9_aimsMass_5 : decode cX9_aimsMass 5 = .ok (.if_icmp .ge 20, 3) := by decide +kernel
theorem dX9_aimsMass_8 : decode cX9_aimsMass 8 = .ok (.aload_n 0, 1) := by decide +kernel
theorem dX9_aimsMass_9 : decode cX9_aimsMass 9 = .ok (.getfield 56, 3) := by decide +kernel
theorem dX9_aimsMass_12 : decode cX9_aimsMass 12 = .ok (.iload_n 1, 1) := by decide +kernel
theorem dX9_aimsMass_13 : decode cX9_aimsMass 13 = .ok (.sipush 1000, 3) := by decide +kernel
theorem dX9_aimsMass_16 : decode cX9_aimsMass 16 = .ok (.iload_n 1, 1) := by decide +kernel
theorem dX9_aimsMass_17 : decode cX9_aimsMass 17 = .ok (.imul, 1) := by decide +kernel
theorem dX9_aimsMass_18 : decode cX9_aimsMass 18 = .ok (.iastore, 1) := by decide +kernel
theorem dX9_aimsMass_19 : decode cX9_aimsMass 19 = .ok (.iinc 1 1, 3) := by decide +kernel
theorem dX9_aimsMass_22 : decode cX9_aimsMass 22 = .ok (.goto (-20), 3) := by decide +kernel
theorem dX9_aimsMass_25 : decode cX9_aimsMass 25 = .ok (.return_, 1) := by decide +kernel
theorem dX9_aimsReach_0 : decode cX9_aimsReach 0 = .ok (.iconst 0, 1) := by decide +kernel
theorem dX9_aimsReach_1 : decode cX9_aimsReach 1 = .ok (.istore_n 2, 1) := by decide +kernel
theorem dX9_aimsReach_2 : decode cX9_aimsReach 2 = .ok (.iload_n 2, 1) := by decide +kernel
theorem dX9_aimsReach_3 : decode cX9_aimsReach 3 = .ok (.bipush 121, 2) := by decide +kernel
theorem dX9_aimsReach_5 : decode cX9_aimsReach 5 = .ok (.if_icmp .ge 27, 3) := by decide +kernel
theorem dX9_aimsReach_8 : decode cX9_aimsReach 8 = .ok (.aload_n 0, 1) := by decide +kernel
theorem dX9_aimsReach_9 : decode cX9_aimsReach 9 = .ok (.getfield 56, 3) := by decide +kernel
theorem dX9_aimsReach_12 : decode cX9_aimsReach 12 = .ok (.iload_n 2, 1) := by decide +kernel
theorem dX9_aimsReach_13 : decode cX9_aimsReach 13 = .ok (.iload_n 2, 1) := by decide +kernel
theorem dX9_aimsReach_14 : decode cX9_aimsReach 14 = .ok (.iload_n 1, 1) := by decide +kernel
theorem dX9_aimsReach_15 : decode cX9_aimsReach 15 = .ok (.if_icmp .lt 9, 3) := by decide +kernel
theorem dX9_aimsReach_18 : decode cX9_aimsReach 18 = .ok (.ldc_w 264, 3) := by decide +kernel
theorem dX9_aimsReach_21 : decode cX9_aimsReach 21 = .ok (.goto 4, 3) := by decide +kernel
theorem dX9_aimsReach_24 : decode cX9_aimsReach 24 = .ok (.iconst 0, 1) := by decide +kernel
theorem dX9_aimsReach_25 : decode cX9_aimsReach 25 = .ok (.iastore, 1) := by decide +kernel
theorem dX9_aimsReach_26 : decode cX9_aimsReach 26 = .ok (.iinc 2 1, 3) := by decide +kernel
theorem dX9_aimsReach_29 : decode cX9_aimsReach 29 = .ok (.goto (-27), 3) := by decide +kernel
theorem dX9_aimsReach_32 : decode cX9_aimsReach 32 = .ok (.return_, 1) := by decide +kernel
theorem dX9_expected_0 : decode cX9_expected 0 = .ok (.iload_n 0, 1) := by decide +kernel
theorem dX9_expected_1 : decode cX9_expected 1 = .ok (.i2l, 1) := by decide +kernel
theorem dX9_expected_2 : decode cX9_expected 2 = .ok (.iload_n 1, 1) := by decide +kernel
theorem dX9_expected_3 : decode cX9_expected 3 = .ok (.i2l, 1) := by decide +kernel
theorem dX9_expected_4 : decode cX9_expected 4 = .ok (.lmul, 1) := by decide +kernel
theorem dX9_expected_5 : decode cX9_expected 5 = .ok (.sipush 1000, 3) := by decide +kernel
theorem dX9_expected_8 : decode cX9_expected 8 = .ok (.iload_n 0, 1) := by decide +kernel
theorem dX9_expected_9 : decode cX9_expected 9 = .ok (.isub, 1) := by decide +kernel
theorem dX9_expected_10 : decode cX9_expected 10 = .ok (.i2l, 1) := by decide +kernel
theorem dX9_expected_11 : decode cX9_expected 11 = .ok (.iload_n 2, 1) := by decide +kernel
theorem dX9_expected_12 : decode cX9_expected 12 = .ok (.i2l, 1) := by decide +kernel
theorem dX9_expected_13 : decode cX9_expected 13 = .ok (.lmul, 1) := by decide +kernel
theorem dX9_expected_14 : decode cX9_expected 14 = .ok (.ladd, 1) := by decide +kernel
theorem dX9_expected_15 : decode cX9_expected 15 = .ok (.ldc2_w 265, 3) := by decide +kernel
theorem dX9_expected_18 : decode cX9_expected 18 = .ok (.ldiv, 1) := by decide +kernel
theorem dX9_expected_19 : decode cX9_expected 19 = .ok (.l2i, 1) := by decide +kernel
theorem dX9_expected_20 : decode cX9_expected 20 = .ok (.ireturn, 1) := by decide +kernel
set_option maxRecDepth 20000 in
theorem ggX9_planned_X9_plannedBehind : GoodIn wsX9_planned wsX9_plannedBehind := goodIn_r _ [37, 38, 13, 14, 15, 8, 16, 17, 18, 19, 20, 0, 1, 2, 3, 4, 5, 6, 7, 9, 10, 11, 12, 21, 22, 23, 24, 25, 26, 27, 28, 29, 30, 31, 32, 33, 34, 35, 36, 39, 40, 41, 42, 43, 44, 45, 46, 47, 48, 49, 50, 51, 52, 53, 54, 55, 56, 57, 58, 59, 60, 61, 62, 63, 64, 65, 66, 67, 68, 69, 70, 71, 72, 73, 74, 75, 76, 77, 78] (by decide +kernel) (by decide +kernel)
set_option maxRecDepth 20000 in
theorem gX9_planned_X9_plannedBehind : GoodIn wsX9_planned (wsV RX9 267 RX9 yX9_plannedBehind wsX9_plannedBehind) := goodIn_app (goodIn_of _ (by decide +kernel)) ggX9_planned_X9_plannedBehind
set_option maxRecDepth 20000 in
theorem ggX9_planned_X9_asksThen : GoodIn wsX9_planned wsX9_asksThen := goodIn_r _ [12, 13, 14, 15, 8, 16, 17, 39, 40, 41, 42, 43, 44, 45, 46, 47, 48, 49, 50, 51, 52, 53, 54, 55, 56, 57, 58, 59, 60, 61, 62, 63, 64, 65, 66, 67, 68, 69, 70, 71, 72, 73, 74, 75, 76, 77, 78] (by decide +kernel) (by decide +kernel)
set_option maxRecDepth 20000 in
theorem gX9_planned_X9_asksThen : GoodIn wsX9_planned (wsV RX9 153 RX9 yX9_asksThen wsX9_asksThen) := goodIn_app (goodIn_of _ (by decide +kernel)) ggX9_planned_X9_asksThen
set_option maxRecDepth 20000 in
theorem ggX9_planned_X9_planned : GoodIn wsX9_planned wsX9_planned := goodIn_r _ [0, 1, 2, 3, 4, 5, 6, 7, 8, 9, 10, 11, 12, 13, 14, 15, 16, 17, 18, 19, 20, 21, 22, 23, 24, 25, 26, 27, 28, 29, 30, 31, 32, 33, 34, 35, 36, 37, 38, 39, 40, 41, 42, 43, 44, 45, 46, 47, 48, 49, 50, 51, 52, 53, 54, 55, 56, 57, 58, 59, 60, 61, 62, 63, 64, 65, 66, 67, 68, 69, 70, 71, 72, 73, 74, 75, 76, 77, 78] (by decide +kernel) (by decide +kernel)
set_option maxRecDepth 20000 in
theorem gX9_planned_X9_planned : GoodIn wsX9_planned (wsV RX9 270 RX9 yX9_planned wsX9_planned) := goodIn_app (goodIn_of _ (by decide +kernel)) ggX9_planned_X9_planned
set_option maxRecDepth 20000 in
theorem ggX9_planned_X9_oddsOf : GoodIn wsX9_planned wsX9_oddsOf := goodIn_r _ [24, 25, 1, 2, 3, 4, 26, 27, 28, 8, 29, 30, 31, 32, 39, 40, 41, 42, 43, 44, 45, 46, 47, 48, 49, 50, 51, 52, 53, 54, 55, 56, 57, 58, 59, 60, 61, 62, 63, 64, 65, 66, 67, 68, 69, 70, 71, 72, 73, 74, 75, 76, 77, 78] (by decide +kernel) (by decide +kernel)
set_option maxRecDepth 20000 in
theorem gX9_planned_X9_oddsOf : GoodIn wsX9_planned (wsV RX9 245 RX9 yX9_oddsOf wsX9_oddsOf) := goodIn_app (goodIn_of _ (by decide +kernel)) ggX9_planned_X9_oddsOf
set_option maxRecDepth 20000 in
theorem ggX9_planned_X9_expected : GoodIn wsX9_planned wsX9_expected := goodIn_r _ [35, 36] (by decide +kernel) (by decide +kernel)
set_option maxRecDepth 20000 in
theorem gX9_planned_X9_expected : GoodIn wsX9_planned (va_wsS RX9 274 yX9_expected wsX9_expected) := goodIn_app (goodIn_of _ (by decide +kernel)) ggX9_planned_X9_expected
theorem dX9_planned_0 : decode cX9_planned 0 = .ok (.iload 4, 2) := by decide +kernel
theorem dX9_planned_2 : decode cX9_planned 2 = .ok (.ifCond .eq 8, 3) := by decide +kernel
theorem dX9_planned_5 : decode cX9_planned 5 = .ok (.iload_n 3, 1) := by decide +kernel
theorem dX9_planned_6 : decode cX9_planned 6 = .ok (.iconst 3, 1) := by decide +kernel
theorem dX9_planned_7 : decode cX9_planned 7 = .ok (.if_icmp .ne 14, 3) := by decide +kernel
theorem dX9_planned_10 : decode cX9_planned 10 = .ok (.aload_n 0, 1) := by decide +kernel
theorem dX9_planned_11 : decode cX9_planned 11 = .ok (.iload_n 1, 1) := by decide +kernel
theorem dX9_planned_12 : decode cX9_planned 12 = .ok (.iload_n 2, 1) := by decide +kernel
theorem dX9_planned_13 : decode cX9_planned 13 = .ok (.iload 6, 2) := by decide +kernel
theorem dX9_planned_15 : decode cX9_planned 15 = .ok (.iload 7, 2) := by decide +kernel
theorem dX9_planned_17 : decode cX9_planned 17 = .ok (.invokevirtual 267, 3) := by decide +kernel
theorem dX9_planned_20 : decode cX9_planned 20 = .ok (.ireturn, 1) := by decide +kernel
theorem dX9_planned_21 : decode cX9_planned 21 = .ok (.aload_n 0, 1) := by decide +kernel
theorem dX9_planned_22 : decode cX9_planned 22 = .ok (.iload_n 1, 1) := by decide +kernel
theorem dX9_planned_23 : decode cX9_planned 23 = .ok (.iload_n 2, 1) := by decide +kernel
theorem dX9_planned_24 : decode cX9_planned 24 = .ok (.iload_n 3, 1) := by decide +kernel
theorem dX9_planned_25 : decode cX9_planned 25 = .ok (.iconst 1, 1) := by decide +kernel
theorem dX9_planned_26 : decode cX9_planned 26 = .ok (.iadd, 1) := by decide +kernel
theorem dX9_planned_27 : decode cX9_planned 27 = .ok (.aload_n 0, 1) := by decide +kernel
theorem dX9_planned_28 : decode cX9_planned 28 = .ok (.iload_n 1, 1) := by decide +kernel
theorem dX9_planned_29 : decode cX9_planned 29 = .ok (.iload_n 2, 1) := by decide +kernel
theorem dX9_planned_30 : decode cX9_planned 30 = .ok (.iload_n 3, 1) := by decide +kernel
theorem dX9_planned_31 : decode cX9_planned 31 = .ok (.iload 4, 2) := by decide +kernel
theorem dX9_planned_33 : decode cX9_planned 33 = .ok (.iconst 1, 1) := by decide +kernel
theorem dX9_planned_34 : decode cX9_planned 34 = .ok (.invokevirtual 153, 3) := by decide +kernel
theorem dX9_planned_37 : decode cX9_planned 37 = .ok (.iload 5, 2) := by decide +kernel
theorem dX9_planned_39 : decode cX9_planned 39 = .ok (.iload 6, 2) := by decide +kernel
theorem dX9_planned_41 : decode cX9_planned 41 = .ok (.iload 4, 2) := by decide +kernel
theorem dX9_planned_43 : decode cX9_planned 43 = .ok (.invokestatic 100, 3) := by decide +kernel
theorem dX9_planned_46 : decode cX9_planned 46 = .ok (.iload 7, 2) := by decide +kernel
theorem dX9_planned_48 : decode cX9_planned 48 = .ok (.invokevirtual 270, 3) := by decide +kernel
theorem dX9_planned_51 : decode cX9_planned 51 = .ok (.istore 8, 2) := by decide +kernel
theorem dX9_planned_53 : decode cX9_planned 53 = .ok (.aload_n 0, 1) := by decide +kernel
theorem dX9_planned_54 : decode cX9_planned 54 = .ok (.iload_n 1, 1) := by decide +kernel
theorem dX9_planned_55 : decode cX9_planned 55 = .ok (.iload_n 2, 1) := by decide +kernel
theorem dX9_planned_56 : decode cX9_planned 56 = .ok (.iload_n 3, 1) := by decide +kernel
theorem dX9_planned_57 : decode cX9_planned 57 = .ok (.iconst 1, 1) := by decide +kernel
theorem dX9_planned_58 : decode cX9_planned 58 = .ok (.iadd, 1) := by decide +kernel
theorem dX9_planned_59 : decode cX9_planned 59 = .ok (.aload_n 0, 1) := by decide +kernel
theorem dX9_planned_60 : decode cX9_planned 60 = .ok (.iload_n 1, 1) := by decide +kernel
theorem dX9_planned_61 : decode cX9_planned 61 = .ok (.iload_n 2, 1) := by decide +kernel
theorem dX9_planned_62 : decode cX9_planned 62 = .ok (.iload_n 3, 1) := by decide +kernel
theorem dX9_planned_63 : decode cX9_planned 63 = .ok (.iload 4, 2) := by decide +kernel
theorem dX9_planned_65 : decode cX9_planned 65 = .ok (.iconst 0, 1) := by decide +kernel
theorem dX9_planned_66 : decode cX9_planned 66 = .ok (.invokevirtual 153, 3) := by decide +kernel
theorem dX9_planned_69 : decode cX9_planned 69 = .ok (.iload 5, 2) := by decide +kernel
theorem dX9_planned_71 : decode cX9_planned 71 = .ok (.iconst 1, 1) := by decide +kernel
theorem dX9_planned_72 : decode cX9_planned 72 = .ok (.iadd, 1) := by decide +kernel
theorem dX9_planned_73 : decode cX9_planned 73 = .ok (.iload 6, 2) := by decide +kernel
theorem dX9_planned_75 : decode cX9_planned 75 = .ok (.iload 7, 2) := by decide +kernel
theorem dX9_planned_77 : decode cX9_planned 77 = .ok (.invokevirtual 270, 3) := by decide +kernel
theorem dX9_planned_80 : decode cX9_planned 80 = .ok (.istore 9, 2) := by decide +kernel
theorem dX9_planned_82 : decode cX9_planned 82 = .ok (.aload_n 0, 1) := by decide +kernel
theorem dX9_planned_83 : decode cX9_planned 83 = .ok (.iload_n 1, 1) := by decide +kernel
theorem dX9_planned_84 : decode cX9_planned 84 = .ok (.iload_n 2, 1) := by decide +kernel
theorem dX9_planned_85 : decode cX9_planned 85 = .ok (.iload 4, 2) := by decide +kernel
theorem dX9_planned_87 : decode cX9_planned 87 = .ok (.iload 5, 2) := by decide +kernel
theorem dX9_planned_89 : decode cX9_planned 89 = .ok (.invokevirtual 245, 3) := by decide +kernel
theorem dX9_planned_92 : decode cX9_planned 92 = .ok (.iload 8, 2) := by decide +kernel
theorem dX9_planned_94 : decode cX9_planned 94 = .ok (.iload 9, 2) := by decide +kernel
theorem dX9_planned_96 : decode cX9_planned 96 = .ok (.invokestatic 274, 3) := by decide +kernel
theorem dX9_planned_99 : decode cX9_planned 99 = .ok (.ireturn, 1) := by decide +kernel
set_option maxRecDepth 20000 in
theorem ggX9_plannedBehind_X9_planOf : GoodIn wsX9_plannedBehind wsX9_planOf := goodIn_r _ [6, 7, 39, 40, 41, 42, 43, 44, 45, 46, 47, 48, 49, 50, 51, 52, 53, 54, 55, 56, 57, 58, 59, 60, 61, 62, 63, 64, 65, 66, 67, 68, 69, 70, 71, 72, 73, 74, 75, 76, 77, 78] (by decide +kernel) (by decide +kernel)
set_option maxRecDepth 20000 in
theorem gX9_plannedBehind_X9_planOf : GoodIn wsX9_plannedBehind (wsV RX9 125 RX9 yX9_planOf wsX9_planOf) := goodIn_app (goodIn_of _ (by decide +kernel)) ggX9_plannedBehind_X9_planOf
set_option maxRecDepth 20000 in
theorem ggX9_plannedBehind_X9_planned : GoodIn wsX9_plannedBehind wsX9_planned := goodIn_r _ [11, 12, 13, 14, 15, 16, 17, 18, 5, 19, 20, 21, 22, 2, 3, 4, 6, 7, 8, 9, 10, 23, 24, 25, 26, 27, 28, 29, 30, 31, 32, 33, 34, 35, 36, 37, 38, 0, 1, 39, 40, 41, 42, 43, 44, 45, 46, 47, 48, 49, 50, 51, 52, 53, 54, 55, 56, 57, 58, 59, 60, 61, 62, 63, 64, 65, 66, 67, 68, 69, 70, 71, 72, 73, 74, 75, 76, 77, 78] (by decide +kernel) (by decide +kernel)
set_option maxRecDepth 20000 in
theorem gX9_plannedBehind_X9_planned : GoodIn wsX9_plannedBehind (wsV RX9 270 RX9 yX9_planned wsX9_planned) := goodIn_app (goodIn_of _ (by decide +kernel)) ggX9_plannedBehind_X9_planned
theorem dX9_plannedBehind_0 : decode cX9_plannedBehind 0 = .ok (.iload_n 3, 1) := by decide +kernel
theorem dX9_plannedBehind_1 : decode cX9_plannedBehind 1 = .ok (.ifCond .ne 10, 3) := by decide +kernel
theorem dX9_plannedBehind_4 : decode cX9_plannedBehind 4 = .ok (.aload_n 0, 1) := by decide +kernel
theorem dX9_plannedBehind_5 : decode cX9_plannedBehind 5 = .ok (.getfield 56, 3) := by decide +kernel
theorem dX9_plannedBehind_8 : decode cX9_plannedBehind 8 = .ok (.iconst 0, 1) := by decide +kernel
theorem dX9_plannedBehind_9 : decode cX9_plannedBehind 9 = .ok (.iaload, 1) := by decide +kernel
theorem dX9_plannedBehind_10 : decode cX9_plannedBehind 10 = .ok (.ireturn, 1) := by decide +kernel
theorem dX9_plannedBehind_11 : decode cX9_plannedBehind 11 = .ok (.iload_n 2, 1) := by decide +kernel
theorem dX9_plannedBehind_12 : decode cX9_plannedBehind 12 = .ok (.iconst 2, 1) := by decide +kernel
theorem dX9_plannedBehind_13 : decode cX9_plannedBehind 13 = .ok (.if_icmp .ne 15, 3) := by decide +kernel
theorem dX9_plannedBehind_16 : decode cX9_plannedBehind 16 = .ok (.aload_n 0, 1) := by decide +kernel
theorem dX9_plannedBehind_17 : decode cX9_plannedBehind 17 = .ok (.getfield 56, 3) := by decide +kernel
theorem dX9_plannedBehind_20 : decode cX9_plannedBehind 20 = .ok (.iload 4, 2) := by decide +kernel
theorem dX9_plannedBehind_22 : decode cX9_plannedBehind 22 = .ok (.iload_n 3, 1) := by decide +kernel
theorem dX9_plannedBehind_23 : decode cX9_plannedBehind 23 = .ok (.iadd, 1) := by decide +kernel
theorem dX9_plannedBehind_24 : decode cX9_plannedBehind 24 = .ok (.iaload, 1) := by decide +kernel
theorem dX9_plannedBehind_25 : decode cX9_plannedBehind 25 = .ok (.goto 27, 3) := by decide +kernel
theorem dX9_plannedBehind_28 : decode cX9_plannedBehind 28 = .ok (.aload_n 0, 1) := by decide +kernel
theorem dX9_plannedBehind_29 : decode cX9_plannedBehind 29 = .ok (.iload_n 1, 1) := by decide +kernel
theorem dX9_plannedBehind_30 : decode cX9_plannedBehind 30 = .ok (.iload_n 2, 1) := by decide +kernel
theorem dX9_plannedBehind_31 : decode cX9_plannedBehind 31 = .ok (.iconst 1, 1) := by decide +kernel
theorem dX9_plannedBehind_32 : decode cX9_plannedBehind 32 = .ok (.iadd, 1) := by decide +kernel
theorem dX9_plannedBehind_33 : decode cX9_plannedBehind 33 = .ok (.iconst 0, 1) := by decide +kernel
theorem dX9_plannedBehind_34 : decode cX9_plannedBehind 34 = .ok (.aload_n 0, 1) := by decide +kernel
theorem dX9_plannedBehind_35 : decode cX9_plannedBehind 35 = .ok (.iload_n 1, 1) := by decide +kernel
theorem dX9_plannedBehind_36 : decode cX9_plannedBehind 36 = .ok (.iload_n 2, 1) := by decide +kernel
theorem dX9_plannedBehind_37 : decode cX9_plannedBehind 37 = .ok (.iconst 1, 1) := by decide +kernel
theorem dX9_plannedBehind_38 : decode cX9_plannedBehind 38 = .ok (.iadd, 1) := by decide +kernel
theorem dX9_plannedBehind_39 : decode cX9_plannedBehind 39 = .ok (.iconst 0, 1) := by decide +kernel
theorem dX9_plannedBehind_40 : decode cX9_plannedBehind 40 = .ok (.invokevirtual 125, 3) := by decide +kernel
theorem dX9_plannedBehind_43 : decode cX9_plannedBehind 43 = .ok (.iconst 0, 1) := by decide +kernel
theorem dX9_plannedBehind_44 : decode cX9_plannedBehind 44 = .ok (.iconst 0, 1) := by decide +kernel
theorem dX9_plannedBehind_45 : decode cX9_plannedBehind 45 = .ok (.iload 4, 2) := by decide +kernel
theorem dX9_plannedBehind_47 : decode cX9_plannedBehind 47 = .ok (.iload_n 3, 1) := by decide +kernel
theorem dX9_plannedBehind_48 : decode cX9_plannedBehind 48 = .ok (.iadd, 1) := by decide +kernel
theorem dX9_plannedBehind_49 : decode cX9_plannedBehind 49 = .ok (.invokevirtual 270, 3) := by decide +kernel
theorem dX9_plannedBehind_52 : decode cX9_plannedBehind 52 = .ok (.ireturn, 1) := by decide +kernel
set_option maxRecDepth 20000 in
theorem ggX9_roundOf_X9_of : GoodIn wsX9_roundOf wsX9_of := goodIn_r _ [6, 1, 7, 8, 9, 10, 11, 12, 13, 14, 15, 16, 17, 18, 19, 20, 21, 22, 23, 24, 25, 26, 27, 28, 29, 30, 31, 32, 33, 34, 35, 36, 37, 38, 39, 40, 41, 42, 43, 44, 45, 46] (by decide +kernel) (by decide +kernel)
set_option maxRecDepth 20000 in
theorem gX9_roundOf_X9_of : GoodIn wsX9_roundOf (wsV RX9 106 RX9 yX9_of wsX9_of) := goodIn_app (goodIn_of _ (by decide +kernel)) ggX9_roundOf_X9_of
theorem dX9_roundOf_0 : decode cX9_roundOf 0 = .ok (.aload_n 0, 1) := by decide +kernel
theorem dX9_roundOf_1 : decode cX9_roundOf 1 = .ok (.getfield 32, 3) := by decide +kernel
theorem dX9_roundOf_4 : decode cX9_roundOf 4 = .ok (.iconst 1, 1) := by decide +kernel
theorem dX9_roundOf_5 : decode cX9_roundOf 5 = .ok (.iaload, 1) := by decide +kernel
theorem dX9_roundOf_6 : decode cX9_roundOf 6 = .ok (.aload_n 0, 1) := by decide +kernel
theorem dX9_roundOf_7 : decode cX9_roundOf 7 = .ok (.iload_n 1, 1) := by decide +kernel
theorem dX9_roundOf_8 : decode cX9_roundOf 8 = .ok (.iconst 1, 1) := by decide +kernel
theorem dX9_roundOf_9 : decode cX9_roundOf 9 = .ok (.invokevirtual 106, 3) := by decide +kernel
theorem dX9_roundOf_12 : decode cX9_roundOf 12 = .ok (.iadd, 1) := by decide +kernel
theorem dX9_roundOf_13 : decode cX9_roundOf 13 = .ok (.ireturn, 1) := by decide +kernel
set_option maxRecDepth 20000 in
theorem ggX9_sumAhead_X9_of : GoodIn wsX9_sumAhead wsX9_of := goodIn_r _ [6, 1, 7, 8, 9, 10, 11, 12, 13, 14, 15, 16, 17, 18, 19, 20, 21, 22, 23, 24, 25, 26, 27, 28, 29, 30, 31, 32, 33, 34, 35, 36, 37, 38, 39, 40, 41, 42, 43, 44, 45, 46] (by decide +kernel) (by decide +kernel)
set_option maxRecDepth 20000 in
theorem gX9_sumAhead_X9_of : GoodIn wsX9_sumAhead (wsV RX9 106 RX9 yX9_of wsX9_of) := goodIn_app (goodIn_of _ (by decide +kernel)) ggX9_sumAhead_X9_of
theorem dX9_sumAhead_0 : decode cX9_sumAhead 0 = .ok (.iconst 0, 1) := by decide +kernel
theorem dX9_sumAhead_1 : decode cX9_sumAhead 1 = .ok (.istore_n 2, 1) := by decide +kernel
theorem dX9_sumAhead_2 : decode cX9_sumAhead 2 = .ok (.iconst 0, 1) := by decide +kernel
theorem dX9_sumAhead_3 : decode cX9_sumAhead 3 = .ok (.istore_n 3, 1) := by decide +kernel
theorem dX9_sumAhead_4 : decode cX9_sumAhead 4 = .ok (.iload_n 3, 1) := by decide +kernel
theorem dX9_sumAhead_5 : decode cX9_sumAhead 5 = .ok (.aload_n 0, 1) := by decide +kernel
theorem dX9_sumAhead_6 : decode cX9_sumAhead 6 = .ok (.getfield 32, 3) := by decide +kernel
theorem dX9_sumAhead_9 : decode cX9_sumAhead 9 = .ok (.iconst 0, 1) := by decide +kernel
theorem dX9_sumAhead_10 : decode cX9_sumAhead 10 = .ok (.iaload, 1) := by decide +kernel
theorem dX9_sumAhead_11 : decode cX9_sumAhead 11 = .ok (.if_icmp .ge 21, 3) := by decide +kernel
theorem dX9_sumAhead_14 : decode cX9_sumAhead 14 = .ok (.iload_n 2, 1) := by decide +kernel
theorem dX9_sumAhead_15 : decode cX9_sumAhead 15 = .ok (.aload_n 0, 1) := by decide +kernel
theorem dX9_sumAhead_16 : decode cX9_sumAhead 16 = .ok (.iload_n 1, 1) := by decide +kernel
theorem dX9_sumAhead_17 : decode cX9_sumAhead 17 = .ok (.bipush 7, 2) := by decide +kernel
theorem dX9_sumAhead_19 : decode cX9_sumAhead 19 = .ok (.iload_n 3, 1) := by decide +kernel
theorem dX9_sumAhead_20 : decode cX9_sumAhead 20 = .ok (.iadd, 1) := by decide +kernel
theorem dX9_sumAhead_21 : decode cX9_sumAhead 21 = .ok (.invokevirtual 106, 3) := by decide +kernel
theorem dX9_sumAhead_24 : decode cX9_sumAhead 24 = .ok (.iadd, 1) := by decide +kernel
theorem dX9_sumAhead_25 : decode cX9_sumAhead 25 = .ok (.istore_n 2, 1) := by decide +kernel
theorem dX9_sumAhead_26 : decode cX9_sumAhead 26 = .ok (.iinc 3 1, 3) := by decide +kernel
theorem dX9_sumAhead_29 : decode cX9_sumAhead 29 = .ok (.goto (-25), 3) := by decide +kernel
theorem dX9_sumAhead_32 : decode cX9_sumAhead 32 = .ok (.iload_n 2, 1) := by decide +kernel
theorem dX9_sumAhead_33 : decode cX9_sumAhead 33 = .ok (.ireturn, 1) := by decide +kernel
set_option maxRecDepth 20000 in
theorem ggX9_planNow_X9_isOut : GoodIn wsX9_planNow wsX9_isOut := goodIn_r _ [7, 8, 9, 10, 6, 11, 2, 65, 66, 67, 68, 69, 70, 71, 72, 73, 74, 75, 76, 77, 78, 79, 80, 81, 82, 83, 84, 85, 86, 87, 88, 89, 90, 91, 92, 93, 94, 95, 96, 97, 98, 99, 100, 101, 102, 103, 104] (by decide +kernel) (by decide +kernel)
set_option maxRecDepth 20000 in
theorem gX9_planNow_X9_isOut : GoodIn wsX9_planNow (wsV RX9 121 RX9 yX9_isOut wsX9_isOut) := goodIn_app (goodIn_of _ (by decide +kernel)) ggX9_planNow_X9_isOut
set_option maxRecDepth 20000 in
theorem ggX9_planNow_X9_isOver : GoodIn wsX9_planNow wsX9_isOver := goodIn_r _ [15, 2, 65, 66, 67, 68, 69, 70, 71, 72, 73, 74, 75, 76, 77, 78, 79, 80, 81, 82, 83, 84, 85, 86, 87, 88, 89, 90, 91, 92, 93, 94, 95, 96, 97, 98, 99, 100, 101, 102, 103, 104] (by decide +kernel) (by decide +kernel)
set_option maxRecDepth 20000 in
theorem gX9_planNow_X9_isOver : GoodIn wsX9_planNow (wsV RX9 113 RX9 yX9_isOver wsX9_isOver) := goodIn_app (goodIn_of _ (by decide +kernel)) ggX9_planNow_X9_isOver
set_option maxRecDepth 20000 in
theorem ggX9_planNow_X9_sumOf : GoodIn wsX9_planNow wsX9_sumOf := goodIn_r _ [19, 3, 4, 5, 6, 7, 8, 9, 10, 11, 2, 65, 66, 67, 68, 69, 70, 71, 72, 73, 74, 75, 76, 77, 78, 79, 80, 81, 82, 83, 84, 85, 86, 87, 88, 89, 90, 91, 92, 93, 94, 95, 96, 97, 98, 99, 100, 101, 102, 103, 104] (by decide +kernel) (by decide +kernel)
set_option maxRecDepth 20000 in
theorem gX9_planNow_X9_sumOf : GoodIn wsX9_planNow (wsV RX9 167 RX9 yX9_sumOf wsX9_sumOf) := goodIn_app (goodIn_of _ (by decide +kernel)) ggX9_planNow_X9_sumOf
set_option maxRecDepth 20000 in
theorem ggX9_planNow_X9_roundOf : GoodIn wsX9_planNow wsX9_roundOf := goodIn_r _ [23, 2, 8, 9, 10, 6, 11, 65, 66, 67, 68, 69, 70, 71, 72, 73, 74, 75, 76, 77, 78, 79, 80, 81, 82, 83, 84, 85, 86, 87, 88, 89, 90, 91, 92, 93, 94, 95, 96, 97, 98, 99, 100, 101, 102, 103, 104] (by decide +kernel) (by decide +kernel)
set_option maxRecDepth 20000 in
theorem gX9_planNow_X9_roundOf : GoodIn wsX9_planNow (wsV RX9 277 RX9 yX9_roundOf wsX9_roundOf) := goodIn_app (goodIn_of _ (by decide +kernel)) ggX9_planNow_X9_roundOf
set_option maxRecDepth 20000 in
theorem ggX9_planNow_X9_of : GoodIn wsX9_planNow wsX9_of := goodIn_r _ [11, 2, 65, 66, 67, 68, 69, 70, 71, 72, 73, 74, 75, 76, 77, 78, 79, 80, 81, 82, 83, 84, 85, 86, 87, 88, 89, 90, 91, 92, 93, 94, 95, 96, 97, 98, 99, 100, 101, 102, 103, 104] (by decide +kernel) (by decide +kernel)
set_option maxRecDepth 20000 in
theorem gX9_planNow_X9_of : GoodIn wsX9_planNow (wsV RX9 106 RX9 yX9_of wsX9_of) := goodIn_app (goodIn_of _ (by decide +kernel)) ggX9_planNow_X9_of
set_option maxRecDepth 20000 in
theorem ggX9_planNow_X9_sumAhead : GoodIn wsX9_planNow wsX9_sumAhead := goodIn_r _ [27, 2, 8, 9, 10, 6, 11, 65, 66, 67, 68, 69, 70, 71, 72, 73, 74, 75, 76, 77, 78, 79, 80, 81, 82, 83, 84, 85, 86, 87, 88, 89, 90, 91, 92, 93, 94, 95, 96, 97, 98, 99, 100, 101, 102, 103, 104] (by decide +kernel) (by decide +kernel)
set_option maxRecDepth 20000 in
theorem gX9_planNow_X9_sumAhead : GoodIn wsX9_planNow (wsV RX9 280 RX9 yX9_sumAhead wsX9_sumAhead) := goodIn_app (goodIn_of _ (by decide +kernel)) ggX9_planNow_X9_sumAhead
set_option maxRecDepth 20000 in
theorem ggX9_planNow_X9_planned : GoodIn wsX9_planNow wsX9_planned := goodIn_r _ [31, 32, 33, 34, 35, 36, 37, 38, 6, 39, 40, 41, 42, 43, 44, 45, 46, 47, 28, 29, 30, 48, 49, 50, 51, 52, 53, 54, 55, 56, 57, 58, 59, 60, 61, 62, 63, 64, 1, 65, 66, 67, 68, 69, 70, 71, 72, 73, 74, 75, 76, 77, 78, 79, 80, 81, 82, 83, 84, 85, 86, 87, 88, 89, 90, 91, 92, 93, 94, 95, 96, 97, 98, 99, 100, 101, 102, 103, 104] (by decide +kernel) (by decide +kernel)
set_option maxRecDepth 20000 in
theorem gX9_planNow_X9_planned : GoodIn wsX9_planNow (wsV RX9 270 RX9 yX9_planned wsX9_planned) := goodIn_app (goodIn_of _ (by decide +kernel)) ggX9_planNow_X9_planned
theorem dX9_planNow_0 : decode cX9_planNow 0 = .ok (.aload_n 0, 1) := by decide +kernel
theorem dX9_planNow_1 : decode cX9_planNow 1 = .ok (.iload_n 1, 1) := by decide +kernel
theorem dX9_planNow_2 : decode cX9_planNow 2 = .ok (.invokevirtual 121, 3) := by decide +kernel
theorem dX9_planNow_5 : decode cX9_planNow 5 = .ok (.ifCond .ne 10, 3) := by decide +kernel
theorem dX9_planNow_8 : decode cX9_planNow 8 = .ok (.aload_n 0, 1) := by decide +kernel
theorem dX9_planNow_9 : decode cX9_planNow 9 = .ok (.invokevirtual 113, 3) := by decide +kernel
theorem dX9_planNow_12 : decode cX9_planNow 12 = .ok (.ifCond .eq 14, 3) := by decide +kernel
theorem dX9_planNow_15 : decode cX9_planNow 15 = .ok (.aload_n 0, 1) := by decide +kernel
theorem dX9_planNow_16 : decode cX9_planNow 16 = .ok (.getfield 56, 3) := by decide +kernel
theorem dX9_planNow_19 : decode cX9_planNow 19 = .ok (.aload_n 0, 1) := by decide +kernel
theorem dX9_planNow_20 : decode cX9_planNow 20 = .ok (.iload_n 1, 1) := by decide +kernel
theorem dX9_planNow_21 : decode cX9_planNow 21 = .ok (.invokevirtual 167, 3) := by decide +kernel
theorem dX9_planNow_24 : decode cX9_planNow 24 = .ok (.iaload, 1) := by decide +kernel
theorem dX9_planNow_25 : decode cX9_planNow 25 = .ok (.ireturn, 1) := by decide +kernel
theorem dX9_planNow_26 : decode cX9_planNow 26 = .ok (.aload_n 0, 1) := by decide +kernel
theorem dX9_planNow_27 : decode cX9_planNow 27 = .ok (.getfield 32, 3) := by decide +kernel
theorem dX9_planNow_30 : decode cX9_planNow 30 = .ok (.iconst 0, 1) := by decide +kernel
theorem dX9_planNow_31 : decode cX9_planNow 31 = .ok (.iaload, 1) := by decide +kernel
theorem dX9_planNow_32 : decode cX9_planNow 32 = .ok (.istore_n 2, 1) := by decide +kernel
theorem dX9_planNow_33 : decode cX9_planNow 33 = .ok (.aload_n 0, 1) := by decide +kernel
theorem dX9_planNow_34 : decode cX9_planNow 34 = .ok (.iload_n 1, 1) := by decide +kernel
theorem dX9_planNow_35 : decode cX9_planNow 35 = .ok (.iload_n 2, 1) := by decide +kernel
theorem dX9_planNow_36 : decode cX9_planNow 36 = .ok (.aload_n 0, 1) := by decide +kernel
theorem dX9_planNow_37 : decode cX9_planNow 37 = .ok (.iload_n 1, 1) := by decide +kernel
theorem dX9_planNow_38 : decode cX9_planNow 38 = .ok (.invokevirtual 277, 3) := by decide +kernel
theorem dX9_planNow_41 : decode cX9_planNow 41 = .ok (.aload_n 0, 1) := by decide +kernel
theorem dX9_planNow_42 : decode cX9_planNow 42 = .ok (.iload_n 1, 1) := by decide +kernel
theorem dX9_planNow_43 : decode cX9_planNow 43 = .ok (.iconst 0, 1) := by decide +kernel
theorem dX9_planNow_44 : decode cX9_planNow 44 = .ok (.invokevirtual 106, 3) := by decide +kernel
theorem dX9_planNow_47 : decode cX9_planNow 47 = .ok (.aload_n 0, 1) := by decide +kernel
theorem dX9_planNow_48 : decode cX9_planNow 48 = .ok (.iload_n 1, 1) := by decide +kernel
theorem dX9_planNow_49 : decode cX9_planNow 49 = .ok (.iconst 4, 1) := by decide +kernel
theorem dX9_planNow_50 : decode cX9_planNow 50 = .ok (.invokevirtual 106, 3) := by decide +kernel
theorem dX9_planNow_53 : decode cX9_planNow 53 = .ok (.aload_n 0, 1) := by decide +kernel
theorem dX9_planNow_54 : decode cX9_planNow 54 = .ok (.iload_n 1, 1) := by decide +kernel
theorem dX9_planNow_55 : decode cX9_planNow 55 = .ok (.bipush 7, 2) := by decide +kernel
theorem dX9_planNow_57 : decode cX9_planNow 57 = .ok (.iload_n 2, 1) := by decide +kernel
theorem dX9_planNow_58 : decode cX9_planNow 58 = .ok (.iadd, 1) := by decide +kernel
theorem dX9_planNow_59 : decode cX9_planNow 59 = .ok (.invokevirtual 106, 3) := by decide +kernel
theorem dX9_planNow_62 : decode cX9_planNow 62 = .ok (.aload_n 0, 1) := by decide +kernel
theorem dX9_planNow_63 : decode cX9_planNow 63 = .ok (.iload_n 1, 1) := by decide +kernel
theorem dX9_planNow_64 : decode cX9_planNow 64 = .ok (.invokevirtual 280, 3) := by decide +kernel
theorem dX9_planNow_67 : decode cX9_planNow 67 = .ok (.invokevirtual 270, 3) := by decide +kernel
theorem dX9_planNow_70 : decode cX9_planNow 70 = .ok (.ireturn, 1) := by decide +kernel
set_option maxRecDepth 20000 in
theorem ggX9_chanceOf_X9_aimsReach : GoodIn wsX9_chanceOf wsX9_aimsReach := goodIn_r _ [5, 6, 7, 74, 75, 76, 77, 78, 79, 80, 81, 82, 83, 84, 85, 86, 87, 88, 89, 90, 91, 92, 93, 94, 95, 96, 97, 98, 99, 100, 101, 102, 103, 104, 105, 106, 107, 108, 109, 110, 111, 112, 113] (by decide +kernel) (by decide +kernel)
set_option maxRecDepth 20000 in
theorem gX9_chanceOf_X9_aimsReach : GoodIn wsX9_chanceOf (wsV RX9 283 RX9 yX9_aimsReach wsX9_aimsReach) := goodIn_app (goodIn_of _ (by decide +kernel)) ggX9_chanceOf_X9_aimsReach
set_option maxRecDepth 20000 in
theorem ggX9_chanceOf_X9_planNow : GoodIn wsX9_chanceOf wsX9_planNow := goodIn_r _ [11, 6, 12, 13, 14, 15, 4, 16, 17, 18, 19, 20, 21, 22, 23, 24, 25, 26, 27, 28, 29, 30, 31, 32, 33, 34, 35, 36, 37, 38, 39, 40, 41, 42, 43, 44, 45, 46, 47, 48, 49, 50, 51, 52, 53, 54, 55, 56, 57, 58, 59, 60, 61, 62, 63, 64, 65, 66, 67, 68, 69, 70, 71, 72, 73, 74, 75, 76, 77, 78, 79, 80, 81, 82, 83, 84, 85, 86, 87, 88, 89, 90, 91, 92, 93, 94, 95, 96, 97, 98, 99, 100, 101, 102, 103, 104, 105, 106, 107, 108, 109, 110, 111, 112, 113] (by decide +kernel) (by decide +kernel)
set_option maxRecDepth 20000 in
theorem gX9_chanceOf_X9_planNow : GoodIn wsX9_chanceOf (wsV RX9 287 RX9 yX9_planNow wsX9_planNow) := goodIn_app (goodIn_of _ (by decide +kernel)) ggX9_chanceOf_X9_planNow
theorem dX9_chanceOf_0 : decode cX9_chanceOf 0 = .ok (.aload_n 0, 1) := by decide +kernel
theorem dX9_chanceOf_1 : decode cX9_chanceOf 1 = .ok (.iload_n 2, 1) := by decide +kernel
theorem dX9_chanceOf_2 : decode cX9_chanceOf 2 = .ok (.invokevirtual 283, 3) := by decide +kernel
theorem dX9_chanceOf_5 : decode cX9_chanceOf 5 = .ok (.aload_n 0, 1) := by decide +kernel
theorem dX9_chanceOf_6 : decode cX9_chanceOf 6 = .ok (.iload_n 1, 1) := by decide +kernel
theorem dX9_chanceOf_7 : decode cX9_chanceOf 7 = .ok (.invokevirtual 287, 3) := by decide +kernel
theorem dX9_chanceOf_10 : decode cX9_chanceOf 10 = .ok (.ireturn, 1) := by decide +kernel
set_option maxRecDepth 20000 in
theorem ggX9_beatBy_X9_isLighter : GoodIn wsX9_beatBy wsX9_isLighter := goodIn_r _ [7, 8, 9, 13, 14, 15, 16, 17, 18, 19, 20, 21, 22, 23, 24, 25, 26, 27, 28, 29, 30, 31, 32, 33, 34, 35, 36, 37, 38, 39, 40, 41, 42, 43, 44, 45, 46, 47, 48, 49, 50, 51, 52] (by decide +kernel) (by decide +kernel)
set_option maxRecDepth 20000 in
theorem gX9_beatBy_X9_isLighter : GoodIn wsX9_beatBy (wsV RX9 171 RX9 yX9_isLighter wsX9_isLighter) := goodIn_app (goodIn_of _ (by decide +kernel)) ggX9_beatBy_X9_isLighter
set_option maxRecDepth 20000 in
theorem ggX9_beatBy_X9_flag : GoodIn wsX9_beatBy wsX9_flag := goodIn_r _ [12] (by decide +kernel) (by decide +kernel)
set_option maxRecDepth 20000 in
theorem gX9_beatBy_X9_flag : GoodIn wsX9_beatBy (va_wsS RX9 160 yX9_flag wsX9_flag) := goodIn_app (goodIn_of _ (by decide +kernel)) ggX9_beatBy_X9_flag
theorem dX9_beatBy_0 : decode cX9_beatBy 0 = .ok (.iload_n 3, 1) := by decide +kernel
theorem dX9_beatBy_1 : decode cX9_beatBy 1 = .ok (.ifCond .ne 7, 3) := by decide +kernel
theorem dX9_beatBy_4 : decode cX9_beatBy 4 = .ok (.iconst 0, 1) := by decide +kernel
theorem dX9_beatBy_5 : decode cX9_beatBy 5 = .ok (.goto 23, 3) := by decide +kernel
theorem dX9_beatBy_8 : decode cX9_beatBy 8 = .ok (.ldc_w 264, 3) := by decide +kernel
theorem dX9_beatBy_11 : decode cX9_beatBy 11 = .ok (.aload_n 0, 1) := by decide +kernel
theorem dX9_beatBy_12 : decode cX9_beatBy 12 = .ok (.getfield 59, 3) := by decide +kernel
theorem dX9_beatBy_15 : decode cX9_beatBy 15 = .ok (.iload_n 3, 1) := by decide +kernel
theorem dX9_beatBy_16 : decode cX9_beatBy 16 = .ok (.aload_n 0, 1) := by decide +kernel
theorem dX9_beatBy_17 : decode cX9_beatBy 17 = .ok (.iload_n 1, 1) := by decide +kernel
theorem dX9_beatBy_18 : decode cX9_beatBy 18 = .ok (.iload_n 2, 1) := by decide +kernel
theorem dX9_beatBy_19 : decode cX9_beatBy 19 = .ok (.invokevirtual 171, 3) := by decide +kernel
theorem dX9_beatBy_22 : decode cX9_beatBy 22 = .ok (.invokestatic 160, 3) := by decide +kernel
theorem dX9_beatBy_25 : decode cX9_beatBy 25 = .ok (.iadd, 1) := by decide +kernel
theorem dX9_beatBy_26 : decode cX9_beatBy 26 = .ok (.iaload, 1) := by decide +kernel
theorem dX9_beatBy_27 : decode cX9_beatBy 27 = .ok (.isub, 1) := by decide +kernel
theorem dX9_beatBy_28 : decode cX9_beatBy 28 = .ok (.ireturn, 1) := by decide +kernel
set_option maxRecDepth 20000 in
theorem ggX9_laysChances_X9_chanceOf : GoodIn wsX9_laysChances wsX9_chanceOf := goodIn_r _ [6, 7, 8, 9, 5, 10, 11, 12, 13, 14, 15, 16, 17, 18, 19, 20, 21, 22, 23, 24, 25, 26, 27, 28, 29, 30, 31, 32, 33, 34, 35, 36, 37, 38, 39, 40, 41, 42, 43, 44, 45, 46, 47, 48, 49, 50, 51, 52, 53, 54, 55, 56, 57, 58, 59, 60, 61, 62, 63, 64, 65, 66, 67, 68, 69, 70, 71, 72, 73, 74, 75, 76, 77, 78, 79, 80, 81, 82, 83, 84, 85, 86, 87, 88, 89, 90, 91, 92, 93, 94, 95, 96, 97, 98, 99, 100, 101, 102, 103, 104, 105, 106, 107, 108, 109, 110, 111, 112, 113, 114, 115, 116, 117, 118] (by decide +kernel) (by decide +kernel)
set_option maxRecDepth 20000 in
theorem gX9_laysChances_X9_chanceOf : GoodIn wsX9_laysChances (wsV RX9 290 RX9 yX9_chanceOf wsX9_chanceOf) := goodIn_app (goodIn_of _ (by decide +kernel)) ggX9_laysChances_X9_chanceOf
theorem dX9_laysChances_0 : decode cX9_laysChances 0 = .ok (.iconst 0, 1) := by decide +kernel
theorem dX9_laysChances_1 : decode cX9_laysChances 1 = .ok (.istore_n 2, 1) := by decide +kernel
theorem dX9_laysChances_2 : decode cX9_laysChances 2 = .ok (.iload_n 2, 1) := by decide +kernel
theorem dX9_laysChances_3 : decode cX9_laysChances 3 = .ok (.bipush 121, 2) := by decide +kernel
theorem dX9_laysChances_5 : decode cX9_laysChances 5 = .ok (.if_icmp .gt 31, 3) := by decide +kernel
theorem dX9_laysChances_8 : decode cX9_laysChances 8 = .ok (.aload_n 0, 1) := by decide +kernel
theorem dX9_laysChances_9 : decode cX9_laysChances 9 = .ok (.getfield 59, 3) := by decide +kernel
theorem dX9_laysChances_12 : decode cX9_laysChances 12 = .ok (.iload_n 2, 1) := by decide +kernel
theorem dX9_laysChances_13 : decode cX9_laysChances 13 = .ok (.iload_n 2, 1) := by decide +kernel
theorem dX9_laysChances_14 : decode cX9_laysChances 14 = .ok (.bipush 121, 2) := by decide +kernel
theorem dX9_laysChances_16 : decode cX9_laysChances 16 = .ok (.if_icmp .ne 7, 3) := by decide +kernel
theorem dX9_laysChances_19 : decode cX9_laysChances 19 = .ok (.iconst 0, 1) := by decide +kernel
theorem dX9_laysChances_20 : decode cX9_laysChances 20 = .ok (.goto 9, 3) := by decide +kernel
theorem dX9_laysChances_23 : decode cX9_laysChances 23 = .ok (.aload_n 0, 1) := by decide +kernel
theorem dX9_laysChances_24 : decode cX9_laysChances 24 = .ok (.iload_n 1, 1) := by decide +kernel
theorem dX9_laysChances_25 : decode cX9_laysChances 25 = .ok (.iload_n 2, 1) := by decide +kernel
theorem dX9_laysChances_26 : decode cX9_laysChances 26 = .ok (.invokevirtual 290, 3) := by decide +kernel
theorem dX9_laysChances_29 : decode cX9_laysChances 29 = .ok (.iastore, 1) := by decide +kernel
theorem dX9_laysChances_30 : decode cX9_laysChances 30 = .ok (.iinc 2 1, 3) := by decide +kernel
theorem dX9_laysChances_33 : decode cX9_laysChances 33 = .ok (.goto (-31), 3) := by decide +kernel
theorem dX9_laysChances_36 : decode cX9_laysChances 36 = .ok (.return_, 1) := by decide +kernel
set_option maxRecDepth 20000 in
theorem ggX9_aimsBeat_X9_laysChances : GoodIn wsX9_aimsBeat wsX9_laysChances := goodIn_r _ [6, 7, 8, 9, 10, 5, 11, 12, 13, 14, 15, 1, 16, 17, 18, 19, 20, 21, 22, 23, 24, 25, 26, 27, 28, 29, 30, 31, 32, 33, 34, 35, 36, 37, 38, 39, 40, 41, 42, 43, 44, 45, 46, 47, 48, 49, 50, 51, 52, 53, 54, 55, 56, 57, 58, 59, 60, 61, 62, 63, 64, 65, 66, 67, 68, 69, 70, 71, 72, 73, 74, 75, 76, 77, 78, 79, 80, 81, 82, 96, 97, 98, 99, 100, 101, 102, 103, 104, 105, 106, 107, 108, 109, 110, 111, 112, 113, 114, 115, 116, 117, 118, 119, 120, 121, 122, 123, 124, 125, 126, 127, 128, 129, 130, 131, 132, 133, 134, 135] (by decide +kernel) (by decide +kernel)
set_option maxRecDepth 20000 in
theorem gX9_aimsBeat_X9_laysChances : GoodIn wsX9_aimsBeat (wsV RX9 293 RX9 yX9_laysChances wsX9_laysChances) := goodIn_app (goodIn_of _ (by decide +kernel)) ggX9_aimsBeat_X9_laysChances
set_option maxRecDepth 20000 in
theorem ggX9_aimsBeat_X9_beatBy : GoodIn wsX9_aimsBeat wsX9_beatBy := goodIn_r _ [86, 16, 7, 87, 88, 89, 5, 90, 91, 92, 93, 94, 95, 96, 97, 98, 99, 100, 101, 102, 103, 104, 105, 106, 107, 108, 109, 110, 111, 112, 113, 114, 115, 116, 117, 118, 119, 120, 121, 122, 123, 124, 125, 126, 127, 128, 129, 130, 131, 132, 133, 134, 135] (by decide +kernel) (by decide +kernel)
set_option maxRecDepth 20000 in
theorem gX9_aimsBeat_X9_beatBy : GoodIn wsX9_aimsBeat (wsV RX9 296 RX9 yX9_beatBy wsX9_beatBy) := goodIn_app (goodIn_of _ (by decide +kernel)) ggX9_aimsBeat_X9_beatBy
theorem dX9_aimsBeat_0 : decode cX9_aimsBeat 0 = .ok (.aload_n 0, 1) := by decide +kernel
theorem dX9_aimsBeat_1 : decode cX9_aimsBeat 1 = .ok (.iload_n 2, 1) := by decide +kernel
theorem dX9_aimsBeat_2 : decode cX9_aimsBeat 2 = .ok (.invokevirtual 293, 3) := by decide +kernel
theorem dX9_aimsBeat_5 : decode cX9_aimsBeat 5 = .ok (.iconst 0, 1) := by decide +kernel
theorem dX9_aimsBeat_6 : decode cX9_aimsBeat 6 = .ok (.istore_n 3, 1) := by decide +kernel
theorem dX9_aimsBeat_7 : decode cX9_aimsBeat 7 = .ok (.iload_n 3, 1) := by decide +kernel
theorem dX9_aimsBeat_8 : decode cX9_aimsBeat 8 = .ok (.bipush 121, 2) := by decide +kernel
theorem dX9_aimsBeat_10 : decode cX9_aimsBeat 10 = .ok (.if_icmp .ge 22, 3) := by decide +kernel
theorem dX9_aimsBeat_13 : decode cX9_aimsBeat 13 = .ok (.aload_n 0, 1) := by decide +kernel
theorem dX9_aimsBeat_14 : decode cX9_aimsBeat 14 = .ok (.getfield 56, 3) := by decide +kernel
theorem dX9_aimsBeat_17 : decode cX9_aimsBeat 17 = .ok (.iload_n 3, 1) := by decide +kernel
theorem dX9_aimsBeat_18 : decode cX9_aimsBeat 18 = .ok (.aload_n 0, 1) := by decide +kernel
theorem dX9_aimsBeat_19 : decode cX9_aimsBeat 19 = .ok (.iload_n 1, 1) := by decide +kernel
theorem dX9_aimsBeat_20 : decode cX9_aimsBeat 20 = .ok (.iload_n 2, 1) := by decide +kernel
theorem dX9_aimsBeat_21 : decode cX9_aimsBeat 21 = .ok (.iload_n 3, 1) := by decide +kernel
theorem dX9_aimsBeat_22 : decode cX9_aimsBeat 22 = .ok (.invokevirtual 296, 3) := by decide +kernel
theorem dX9_aimsBeat_25 : decode cX9_aimsBeat 25 = .ok (.iastore, 1) := by decide +kernel
theorem dX9_aimsBeat_26 : decode cX9_aimsBeat 26 = .ok (.iinc 3 1, 3) := by decide +kernel
theorem dX9_aimsBeat_29 : decode cX9_aimsBeat 29 = .ok (.goto (-22), 3) := by decide +kernel
theorem dX9_aimsBeat_32 : decode cX9_aimsBeat 32 = .ok (.return_, 1) := by decide +kernel
set_option maxRecDepth 20000 in
theorem ggX9_aimsWin_X9_laysChances : GoodIn wsX9_aimsWin wsX9_laysChances := goodIn_r _ [10, 11, 12, 13, 14, 9, 15, 16, 17, 18, 19, 5, 2, 20, 21, 22, 23, 24, 25, 26, 27, 28, 29, 30, 31, 32, 33, 34, 35, 36, 37, 38, 39, 40, 41, 42, 43, 44, 45, 46, 47, 48, 49, 50, 51, 52, 53, 54, 55, 56, 57, 58, 59, 60, 61, 62, 63, 64, 65, 66, 67, 68, 69, 70, 71, 72, 73, 74, 75, 76, 77, 78, 79, 80, 81, 82, 83, 84, 85, 99, 100, 101, 102, 103, 104, 105, 106, 107, 108, 109, 110, 111, 112, 113, 114, 115, 116, 117, 118, 119, 120, 121, 122, 123, 124, 125, 126, 127, 128, 129, 130, 131, 132, 133, 134, 135, 136, 137, 138] (by decide +kernel) (by decide +kernel)
set_option maxRecDepth 20000 in
theorem gX9_aimsWin_X9_laysChances : GoodIn wsX9_aimsWin (wsV RX9 293 RX9 yX9_laysChances wsX9_laysChances) := goodIn_app (goodIn_of _ (by decide +kernel)) ggX9_aimsWin_X9_laysChances
set_option maxRecDepth 20000 in
theorem ggX9_aimsWin_X9_beatBy : GoodIn wsX9_aimsWin wsX9_beatBy := goodIn_r _ [89, 2, 11, 90, 91, 92, 9, 93, 94, 95, 96, 97, 98, 99, 100, 101, 102, 103, 104, 105, 106, 107, 108, 109, 110, 111, 112, 113, 114, 115, 116, 117, 118, 119, 120, 121, 122, 123, 124, 125, 126, 127, 128, 129, 130, 131, 132, 133, 134, 135, 136, 137, 138] (by decide +kernel) (by decide +kernel)
set_option maxRecDepth 20000 in
theorem gX9_aimsWin_X9_beatBy : GoodIn wsX9_aimsWin (wsV RX9 296 RX9 yX9_beatBy wsX9_beatBy) := goodIn_app (goodIn_of _ (by decide +kernel)) ggX9_aimsWin_X9_beatBy
theorem dX9_aimsWin_0 : decode cX9_aimsWin 0 = .ok (.iconst 0, 1) := by decide +kernel
theorem dX9_aimsWin_1 : decode cX9_aimsWin 1 = .ok (.istore_n 2, 1) := by decide +kernel
theorem dX9_aimsWin_2 : decode cX9_aimsWin 2 = .ok (.iload_n 2, 1) := by decide +kernel
theorem dX9_aimsWin_3 : decode cX9_aimsWin 3 = .ok (.bipush 121, 2) := by decide +kernel
theorem dX9_aimsWin_5 : decode cX9_aimsWin 5 = .ok (.if_icmp .ge 26, 3) := by decide +kernel
theorem dX9_aimsWin_8 : decode cX9_aimsWin 8 = .ok (.aload_n 0, 1) := by decide +kernel
theorem dX9_aimsWin_9 : decode cX9_aimsWin 9 = .ok (.getfield 62, 3) := by decide +kernel
theorem dX9_aimsWin_12 : decode cX9_aimsWin 12 = .ok (.iload_n 2, 1) := by decide +kernel
theorem dX9_aimsWin_13 : decode cX9_aimsWin 13 = .ok (.iload_n 2, 1) := by decide +kernel
theorem dX9_aimsWin_14 : decode cX9_aimsWin 14 = .ok (.ifCond .ne 7, 3) := by decide +kernel
theorem dX9_aimsWin_17 : decode cX9_aimsWin 17 = .ok (.iconst 0, 1) := by decide +kernel
theorem dX9_aimsWin_18 : decode cX9_aimsWin 18 = .ok (.goto 6, 3) := by decide +kernel
theorem dX9_aimsWin_21 : decode cX9_aimsWin 21 = .ok (.ldc_w 264, 3) := by decide +kernel
theorem dX9_aimsWin_24 : decode cX9_aimsWin 24 = .ok (.iastore, 1) := by decide +kernel
theorem dX9_aimsWin_25 : decode cX9_aimsWin 25 = .ok (.iinc 2 1, 3) := by decide +kernel
theorem dX9_aimsWin_28 : decode cX9_aimsWin 28 = .ok (.goto (-26), 3) := by decide +kernel
theorem dX9_aimsWin_31 : decode cX9_aimsWin 31 = .ok (.iconst 0, 1) := by decide +kernel
theorem dX9_aimsWin_32 : decode cX9_aimsWin 32 = .ok (.istore_n 2, 1) := by decide +kernel
theorem dX9_aimsWin_33 : decode cX9_aimsWin 33 = .ok (.iload_n 2, 1) := by decide +kernel
theorem dX9_aimsWin_34 : decode cX9_aimsWin 34 = .ok (.aload_n 0, 1) := by decide +kernel
theorem dX9_aimsWin_35 : decode cX9_aimsWin 35 = .ok (.getfield 84, 3) := by decide +kernel
theorem dX9_aimsWin_38 : decode cX9_aimsWin 38 = .ok (.if_icmp .ge 63, 3) := by decide +kernel
theorem dX9_aimsWin_41 : decode cX9_aimsWin 41 = .ok (.iload_n 2, 1) := by decide +kernel
theorem dX9_aimsWin_42 : decode cX9_aimsWin 42 = .ok (.iload_n 1, 1) := by decide +kernel
theorem dX9_aimsWin_43 : decode cX9_aimsWin 43 = .ok (.if_icmp .ne 6, 3) := by decide +kernel
theorem dX9_aimsWin_46 : decode cX9_aimsWin 46 = .ok (.goto 49, 3) := by decide +kernel
theorem dX9_aimsWin_49 : decode cX9_aimsWin 49 = .ok (.aload_n 0, 1) := by decide +kernel
theorem dX9_aimsWin_50 : decode cX9_aimsWin 50 = .ok (.iload_n 2, 1) := by decide +kernel
theorem dX9_aimsWin_51 : decode cX9_aimsWin 51 = .ok (.invokevirtual 293, 3) := by decide +kernel
theorem dX9_aimsWin_54 : decode cX9_aimsWin 54 = .ok (.iconst 0, 1) := by decide +kernel
theorem dX9_aimsWin_55 : decode cX9_aimsWin 55 = .ok (.istore_n 3, 1) := by decide +kernel
theorem dX9_aimsWin_56 : decode cX9_aimsWin 56 = .ok (.iload_n 3, 1) := by decide +kernel
theorem dX9_aimsWin_57 : decode cX9_aimsWin 57 = .ok (.bipush 121, 2) := by decide +kernel
theorem dX9_aimsWin_59 : decode cX9_aimsWin 59 = .ok (.if_icmp .ge 36, 3) := by decide +kernel
theorem dX9_aimsWin_62 : decode cX9_aimsWin 62 = .ok (.aload_n 0, 1) := by decide +kernel
theorem dX9_aimsWin_63 : decode cX9_aimsWin 63 = .ok (.getfield 62, 3) := by decide +kernel
theorem dX9_aimsWin_66 : decode cX9_aimsWin 66 = .ok (.iload_n 3, 1) := by decide +kernel
theorem dX9_aimsWin_67 : decode cX9_aimsWin 67 = .ok (.aload_n 0, 1) := by decide +kernel
theorem dX9_aimsWin_68 : decode cX9_aimsWin 68 = .ok (.getfield 62, 3) := by decide +kernel
theorem dX9_aimsWin_71 : decode cX9_aimsWin 71 = .ok (.iload_n 3, 1) := by decide +kernel
theorem dX9_aimsWin_72 : decode cX9_aimsWin 72 = .ok (.iaload, 1) := by decide +kernel
theorem dX9_aimsWin_73 : decode cX9_aimsWin 73 = .ok (.i2l, 1) := by decide +kernel
theorem dX9_aimsWin_74 : decode cX9_aimsWin 74 = .ok (.aload_n 0, 1) := by decide +kernel
theorem dX9_aimsWin_75 : decode cX9_aimsWin 75 = .ok (.iload_n 1, 1) := by decide +kernel
theorem dX9_aimsWin_76 : decode cX9_aimsWin 76 = .ok (.iload_n 2, 1) := by decide +kernel
theorem dX9_aimsWin_77 : decode cX9_aimsWin 77 = .ok (.iload_n 3, 1) := by decide +kernel
theorem dX9_aimsWin_78 : decode cX9_aimsWin 78 = .ok (.invokevirtual 296, 3) := by decide +kernel
theorem dX9_aimsWin_81 : decode cX9_aimsWin 81 = .ok (.i2l, 1) := by decide +kernel
theorem dX9_aimsWin_82 : decode cX9_aimsWin 82 = .ok (.lmul, 1) := by decide +kernel
theorem dX9_aimsWin_83 : decode cX9_aimsWin 83 = .ok (.ldc2_w 299, 3) := by decide +kernel
theorem dX9_aimsWin_86 : decode cX9_aimsWin 86 = .ok (.ldiv, 1) := by decide +kernel
theorem dX9_aimsWin_87 : decode cX9_aimsWin 87 = .ok (.l2i, 1) := by decide +kernel
theorem dX9_aimsWin_88 : decode cX9_aimsWin 88 = .ok (.iastore, 1) := by decide +kernel
theorem dX9_aimsWin_89 : decode cX9_aimsWin 89 = .ok (.iinc 3 1, 3) := by decide +kernel
theorem dX9_aimsWin_92 : decode cX9_aimsWin 92 = .ok (.goto (-36), 3) := by decide +kernel
theorem dX9_aimsWin_95 : decode cX9_aimsWin 95 = .ok (.iinc 2 1, 3) := by decide +kernel
theorem dX9_aimsWin_98 : decode cX9_aimsWin 98 = .ok (.goto (-65), 3) := by decide +kernel
theorem dX9_aimsWin_101 : decode cX9_aimsWin 101 = .ok (.iconst 0, 1) := by decide +kernel
theorem dX9_aimsWin_102 : decode cX9_aimsWin 102 = .ok (.istore_n 2, 1) := by decide +kernel
theorem dX9_aimsWin_103 : decode cX9_aimsWin 103 = .ok (.iload_n 2, 1) := by decide +kernel
theorem dX9_aimsWin_104 : decode cX9_aimsWin 104 = .ok (.bipush 121, 2) := by decide +kernel
theorem dX9_aimsWin_106 : decode cX9_aimsWin 106 = .ok (.if_icmp .ge 21, 3) := by decide +kernel
theorem dX9_aimsWin_109 : decode cX9_aimsWin 109 = .ok (.aload_n 0, 1) := by decide +kernel
theorem dX9_aimsWin_110 : decode cX9_aimsWin 110 = .ok (.getfield 56, 3) := by decide +kernel
theorem dX9_aimsWin_113 : decode cX9_aimsWin 113 = .ok (.iload_n 2, 1) := by decide +kernel
theorem dX9_aimsWin_114 : decode cX9_aimsWin 114 = .ok (.aload_n 0, 1) := by decide +kernel
theorem dX9_aimsWin_115 : decode cX9_aimsWin 115 = .ok (.getfield 62, 3) := by decide +kernel
theorem dX9_aimsWin_118 : decode cX9_aimsWin 118 = .ok (.iload_n 2, 1) := by decide +kernel
theorem dX9_aimsWin_119 : decode cX9_aimsWin 119 = .ok (.iaload, 1) := by decide +kernel
theorem dX9_aimsWin_120 : decode cX9_aimsWin 120 = .ok (.iastore, 1) := by decide +kernel
theorem dX9_aimsWin_121 : decode cX9_aimsWin 121 = .ok (.iinc 2 1, 3) := by decide +kernel
theorem dX9_aimsWin_124 : decode cX9_aimsWin 124 = .ok (.goto (-21), 3) := by decide +kernel
theorem dX9_aimsWin_127 : decode cX9_aimsWin 127 = .ok (.return_, 1) := by decide +kernel
set_option maxRecDepth 20000 in
theorem ggX9_mass_X9_isLifter : GoodIn wsX9_mass wsX9_isLifter := goodIn_r _ [6, 7, 8, 9, 5, 10, 82, 83, 84, 85, 86, 87, 88, 89, 90, 91, 92, 93, 94, 95, 96, 97, 98, 99, 100, 101, 102, 103, 104, 105, 106, 107, 108, 109, 110, 111, 112, 113, 114, 115, 116, 117, 118, 119, 120, 121] (by decide +kernel) (by decide +kernel)
set_option maxRecDepth 20000 in
theorem gX9_mass_X9_isLifter : GoodIn wsX9_mass (wsV RX9 233 RX9 yX9_isLifter wsX9_isLifter) := goodIn_app (goodIn_of _ (by decide +kernel)) ggX9_mass_X9_isLifter
set_option maxRecDepth 20000 in
theorem ggX9_mass_X9_aimsMass : GoodIn wsX9_mass wsX9_aimsMass := goodIn_r _ [14, 15, 82, 83, 84, 85, 86, 87, 88, 89, 90, 91, 92, 93, 94, 95, 96, 97, 98, 99, 100, 101, 102, 103, 104, 105, 106, 107, 108, 109, 110, 111, 112, 113, 114, 115, 116, 117, 118, 119, 120, 121] (by decide +kernel) (by decide +kernel)
set_option maxRecDepth 20000 in
theorem gX9_mass_X9_aimsMass : GoodIn wsX9_mass (wsV RX9 301 RX9 yX9_aimsMass wsX9_aimsMass) := goodIn_app (goodIn_of _ (by decide +kernel)) ggX9_mass_X9_aimsMass
set_option maxRecDepth 20000 in
theorem ggX9_mass_X9_planNow : GoodIn wsX9_mass wsX9_planNow := goodIn_r _ [19, 15, 20, 21, 22, 23, 5, 24, 25, 26, 27, 28, 29, 30, 31, 32, 33, 34, 35, 36, 37, 38, 39, 40, 41, 42, 43, 44, 45, 46, 47, 48, 49, 50, 51, 52, 53, 54, 55, 56, 57, 58, 59, 60, 61, 62, 63, 64, 65, 66, 67, 68, 69, 70, 71, 72, 73, 74, 75, 76, 77, 78, 79, 80, 81, 82, 83, 84, 85, 86, 87, 88, 89, 90, 91, 92, 93, 94, 95, 96, 97, 98, 99, 100, 101, 102, 103, 104, 105, 106, 107, 108, 109, 110, 111, 112, 113, 114, 115, 116, 117, 118, 119, 120, 121] (by decide +kernel) (by decide +kernel)
set_option maxRecDepth 20000 in
theorem gX9_mass_X9_planNow : GoodIn wsX9_mass (wsV RX9 287 RX9 yX9_planNow wsX9_planNow) := goodIn_app (goodIn_of _ (by decide +kernel)) ggX9_mass_X9_planNow
theorem dX9_mass_0 : decode cX9_mass 0 = .ok (.aload_n 0, 1) := by decide +kernel
theorem dX9_mass_1 : decode cX9_mass 1 = .ok (.iconst 0, 1) := by decide +kernel
theorem dX9_mass_2 : decode cX9_mass 2 = .ok (.putfield 77, 3) := by decide +kernel
theorem dX9_mass_5 : decode cX9_mass 5 = .ok (.aload_n 0, 1) := by decide +kernel
theorem dX9_mass_6 : decode cX9_mass 6 = .ok (.iload_n 1, 1) := by decide +kernel
theorem dX9_mass_7 : decode cX9_mass 7 = .ok (.invokevirtual 233, 3) := by decide +kernel
theorem dX9_mass_10 : decode cX9_mass 10 = .ok (.ifCond .ne 5, 3) := by decide +kernel
theorem dX9_mass_13 : decode cX9_mass 13 = .ok (.iconst (-1), 1) := by decide +kernel
theorem dX9_mass_14 : decode cX9_mass 14 = .ok (.ireturn, 1) := by decide +kernel
theorem dX9_mass_15 : decode cX9_mass 15 = .ok (.aload_n 0, 1) := by decide +kernel
theorem dX9_mass_16 : decode cX9_mass 16 = .ok (.invokevirtual 301, 3) := by decide +kernel
theorem dX9_mass_19 : decode cX9_mass 19 = .ok (.aload_n 0, 1) := by decide +kernel
theorem dX9_mass_20 : decode cX9_mass 20 = .ok (.iload_n 1, 1) := by decide +kernel
theorem dX9_mass_21 : decode cX9_mass 21 = .ok (.invokevirtual 287, 3) := by decide +kernel
theorem dX9_mass_24 : decode cX9_mass 24 = .ok (.ireturn, 1) := by decide +kernel
set_option maxRecDepth 20000 in
theorem ggX9_isTotal_X9_in : GoodIn wsX9_isTotal wsX9_in := goodIn_r _ [5] (by decide +kernel) (by decide +kernel)
set_option maxRecDepth 20000 in
theorem gX9_isTotal_X9_in : GoodIn wsX9_isTotal (va_wsS RX9 87 yX9_in wsX9_in) := goodIn_app (goodIn_of _ (by decide +kernel)) ggX9_isTotal_X9_in
