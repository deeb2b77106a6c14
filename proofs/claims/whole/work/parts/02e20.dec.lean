set_option maxRecDepth 20000 in
theorem gX9_asks_X9_of : GoodIn wsX9_asks (wsV RX9 106 RX9 yX9_of wsX9_of) := goodIn_app (goodIn_of _ (by decide +kernel)) ggX9_asks_X9_of
set_option maxRecDepth 20000 in
theorem ggX9_asks_X9_leastOf : GoodIn wsX9_asks wsX9_leastOf := goodIn_r _ [32, 20, 33, 34, 35, 36, 16, 17, 18, 6, 19, 21, 22, 23, 24, 25, 26, 27, 28, 41, 42, 43, 44, 45, 46, 47, 48, 49, 50, 51, 52, 53, 54, 55, 56, 57, 58, 59, 60, 61, 62, 63, 64, 65, 66, 67, 68, 69, 70, 71, 72, 73, 74, 75, 76, 77, 78, 79, 80] (by decide +kernel) (by decide +kernel)
set_option maxRecDepth 20000 in
theorem gX9_asks_X9_leastOf : GoodIn wsX9_asks (wsV RX9 249 RX9 yX9_leastOf wsX9_leastOf) := goodIn_app (goodIn_of _ (by decide +kernel)) ggX9_asks_X9_leastOf
set_option maxRecDepth 20000 in
theorem ggX9_asks_X9_sets : GoodIn wsX9_asks wsX9_sets := goodIn_r _ [40, 20, 41, 42, 43, 44, 45, 46, 47, 48, 49, 50, 51, 52, 53, 54, 55, 56, 57, 58, 59, 60, 61, 62, 63, 64, 65, 66, 67, 68, 69, 70, 71, 72, 73, 74, 75, 76, 77, 78, 79, 80] (by decide +kernel) (by decide +kernel)
set_option maxRecDepth 20000 in
theorem gX9_asks_X9_sets : GoodIn wsX9_asks (wsV RX9 109 RX9 yX9_sets wsX9_sets) := goodIn_app (goodIn_of _ (by decide +kernel)) ggX9_asks_X9_sets
theorem dX9_asks_0 : decode cX9_asks 0 = .ok (.aload_n 0, 1) := by decide +kernel
theorem dX9_asks_1 : decode cX9_asks 1 = .ok (.iconst 0, 1) := by decide +kernel
theorem dX9_asks_2 : decode cX9_asks 2 = .ok (.putfield 77, 3) := by decide +kernel
theorem dX9_asks_5 : decode cX9_asks 5 = .ok (.aload_n 0, 1) := by decide +kernel
theorem dX9_asks_6 : decode cX9_asks 6 = .ok (.iload_n 1, 1) := by decide +kernel
theorem dX9_asks_7 : decode cX9_asks 7 = .ok (.invokevirtual 233, 3) := by decide +kernel
theorem dX9_asks_10 : decode cX9_asks 10 = .ok (.ifCond .eq 15, 3) := by decide +kernel
theorem dX9_asks_13 : decode cX9_asks 13 = .ok (.iload_n 2, 1) := by decide +kernel
theorem dX9_asks_14 : decode cX9_asks 14 = .ok (.i2l, 1) := by decide +kernel
theorem dX9_asks_15 : decode cX9_asks 15 = .ok (.lconst 1, 1) := by decide +kernel
theorem dX9_asks_16 : decode cX9_asks 16 = .ok (.ldc2_w 239, 3) := by decide +kernel
theorem dX9_asks_19 : decode cX9_asks 19 = .ok (.invokestatic 87, 3) := by decide +kernel
theorem dX9_asks_22 : decode cX9_asks 22 = .ok (.ifCond .ne 5, 3) := by decide +kernel
theorem dX9_asks_25 : decode cX9_asks 25 = .ok (.iconst (-1), 1) := by decide +kernel
theorem dX9_asks_26 : decode cX9_asks 26 = .ok (.ireturn, 1) := by decide +kernel
theorem dX9_asks_27 : decode cX9_asks 27 = .ok (.aload_n 0, 1) := by decide +kernel
theorem dX9_asks_28 : decode cX9_asks 28 = .ok (.iload_n 1, 1) := by decide +kernel
theorem dX9_asks_29 : decode cX9_asks 29 = .ok (.invokevirtual 140, 3) := by decide +kernel
theorem dX9_asks_32 : decode cX9_asks 32 = .ok (.ifCond .ne 6, 3) := by decide +kernel
theorem dX9_asks_35 : decode cX9_asks 35 = .ok (.bipush (-2), 2) := by decide +kernel
theorem dX9_asks_37 : decode cX9_asks 37 = .ok (.ireturn, 1) := by decide +kernel
theorem dX9_asks_38 : decode cX9_asks 38 = .ok (.aload_n 0, 1) := by decide +kernel
theorem dX9_asks_39 : decode cX9_asks 39 = .ok (.iload_n 1, 1) := by decide +kernel
theorem dX9_asks_40 : decode cX9_asks 40 = .ok (.iconst 5, 1) := by decide +kernel
theorem dX9_asks_41 : decode cX9_asks 41 = .ok (.invokevirtual 106, 3) := by decide +kernel
theorem dX9_asks_44 : decode cX9_asks 44 = .ok (.ifCond .ne 6, 3) := by decide +kernel
theorem dX9_asks_47 : decode cX9_asks 47 = .ok (.bipush (-3), 2) := by decide +kernel
theorem dX9_asks_49 : decode cX9_asks 49 = .ok (.ireturn, 1) := by decide +kernel
theorem dX9_asks_50 : decode cX9_asks 50 = .ok (.iload_n 2, 1) := by decide +kernel
theorem dX9_asks_51 : decode cX9_asks 51 = .ok (.aload_n 0, 1) := by decide +kernel
theorem dX9_asks_52 : decode cX9_asks 52 = .ok (.iload_n 1, 1) := by decide +kernel
theorem dX9_asks_53 : decode cX9_asks 53 = .ok (.invokevirtual 249, 3) := by decide +kernel
theorem dX9_asks_56 : decode cX9_asks 56 = .ok (.if_icmp .lt 13, 3) := by decide +kernel
theorem dX9_asks_59 : decode cX9_asks 59 = .ok (.iload_n 2, 1) := by decide +kernel
theorem dX9_asks_60 : decode cX9_asks 60 = .ok (.aload_n 0, 1) := by decide +kernel
theorem dX9_asks_61 : decode cX9_asks 61 = .ok (.iload_n 1, 1) := by decide +kernel
theorem dX9_asks_62 : decode cX9_asks 62 = .ok (.iconst 0, 1) := by decide +kernel
theorem dX9_asks_63 : decode cX9_asks 63 = .ok (.invokevirtual 106, 3) := by decide +kernel
theorem dX9_asks_66 : decode cX9_asks 66 = .ok (.if_icmp .ne 6, 3) := by decide +kernel
theorem dX9_asks_69 : decode cX9_asks 69 = .ok (.bipush (-4), 2) := by decide +kernel
theorem dX9_asks_71 : decode cX9_asks 71 = .ok (.ireturn, 1) := by decide +kernel
theorem dX9_asks_72 : decode cX9_asks 72 = .ok (.aload_n 0, 1) := by decide +kernel
theorem dX9_asks_73 : decode cX9_asks 73 = .ok (.iload_n 1, 1) := by decide +kernel
theorem dX9_asks_74 : decode cX9_asks 74 = .ok (.iconst 0, 1) := by decide +kernel
theorem dX9_asks_75 : decode cX9_asks 75 = .ok (.iload_n 2, 1) := by decide +kernel
theorem dX9_asks_76 : decode cX9_asks 76 = .ok (.invokevirtual 109, 3) := by decide +kernel
theorem dX9_asks_79 : decode cX9_asks 79 = .ok (.aload_n 0, 1) := by decide +kernel
theorem dX9_asks_80 : decode cX9_asks 80 = .ok (.iload_n 1, 1) := by decide +kernel
theorem dX9_asks_81 : decode cX9_asks 81 = .ok (.iconst 5, 1) := by decide +kernel
theorem dX9_asks_82 : decode cX9_asks 82 = .ok (.aload_n 0, 1) := by decide +kernel
theorem dX9_asks_83 : decode cX9_asks 83 = .ok (.iload_n 1, 1) := by decide +kernel
theorem dX9_asks_84 : decode cX9_asks 84 = .ok (.iconst 5, 1) := by decide +kernel
theorem dX9_asks_85 : decode cX9_asks 85 = .ok (.invokevirtual 106, 3) := by decide +kernel
theorem dX9_asks_88 : decode cX9_asks 88 = .ok (.iconst 1, 1) := by decide +kernel
theorem dX9_asks_89 : decode cX9_asks 89 = .ok (.isub, 1) := by decide +kernel
theorem dX9_asks_90 : decode cX9_asks 90 = .ok (.invokevirtual 109, 3) := by decide +kernel
theorem dX9_asks_93 : decode cX9_asks 93 = .ok (.aload_n 0, 1) := by decide +kernel
theorem dX9_asks_94 : decode cX9_asks 94 = .ok (.iload_n 1, 1) := by decide +kernel
theorem dX9_asks_95 : decode cX9_asks 95 = .ok (.iconst 5, 1) := by decide +kernel
theorem dX9_asks_96 : decode cX9_asks 96 = .ok (.invokevirtual 106, 3) := by decide +kernel
theorem dX9_asks_99 : decode cX9_asks 99 = .ok (.ireturn, 1) := by decide +kernel
set_option maxRecDepth 20000 in
theorem ggX9_tries_X9_calledNow : GoodIn wsX9_tries wsX9_calledNow := goodIn_r _ [8, 9, 10, 11, 12, 7, 13, 14, 15, 16, 17, 18, 19, 20, 21, 22, 23, 24, 25, 26, 27, 28, 29, 30, 31, 84, 85, 86, 87, 88, 89, 90, 91, 92, 93, 94, 95, 96, 97, 98, 99, 100, 101, 102, 103, 104, 105, 106, 107, 108, 109, 110, 111, 112, 113, 114, 115, 116, 117, 118, 119, 120, 121, 122, 123] (by decide +kernel) (by decide +kernel)
set_option maxRecDepth 20000 in
theorem gX9_tries_X9_calledNow : GoodIn wsX9_tries (wsV RX9 147 RX9 yX9_calledNow wsX9_calledNow) := goodIn_app (goodIn_of _ (by decide +kernel)) ggX9_tries_X9_calledNow
set_option maxRecDepth 20000 in
theorem ggX9_tries_X9_of : GoodIn wsX9_tries wsX9_of := goodIn_r _ [17, 18, 84, 85, 86, 87, 88, 89, 90, 91, 92, 93, 94, 95, 96, 97, 98, 99, 100, 101, 102, 103, 104, 105, 106, 107, 108, 109, 110, 111, 112, 113, 114, 115, 116, 117, 118, 119, 120, 121, 122, 123] (by decide +kernel) (by decide +kernel)
set_option maxRecDepth 20000 in
theorem gX9_tries_X9_of : GoodIn wsX9_tries (wsV RX9 106 RX9 yX9_of wsX9_of) := goodIn_app (goodIn_of _ (by decide +kernel)) ggX9_tries_X9_of
set_option maxRecDepth 20000 in
theorem ggX9_tries_X9_doesTry : GoodIn wsX9_tries wsX9_doesTry := goodIn_r _ [35, 18, 3, 36, 37, 38, 39, 40, 41, 42, 14, 15, 16, 7, 17, 43, 44, 45, 46, 47, 48, 49, 50, 51, 52, 53, 54, 55, 56, 57, 58, 59, 60, 61, 62, 9, 23, 24, 25, 26, 4, 5, 6, 8, 10, 11, 12, 13, 19, 20, 21, 22, 27, 28, 29, 30, 31, 63, 64, 65, 66, 67, 68, 69, 70, 71, 72, 73, 74, 75, 76, 77, 78, 84, 85, 86, 87, 88, 89, 90, 91, 92, 93, 94, 95, 96, 97, 98, 99, 100, 101, 102, 103, 104, 105, 106, 107, 108, 109, 110, 111, 112, 113, 114, 115, 116, 117, 118, 119, 120, 121, 122, 123] (by decide +kernel) (by decide +kernel)
set_option maxRecDepth 20000 in
theorem gX9_tries_X9_doesTry : GoodIn wsX9_tries (wsV RX9 255 RX9 yX9_doesTry wsX9_doesTry) := goodIn_app (goodIn_of _ (by decide +kernel)) ggX9_tries_X9_doesTry
set_option maxRecDepth 20000 in
theorem ggX9_tries_X9_notes : GoodIn wsX9_tries wsX9_notes := goodIn_r _ [82, 83, 2, 84, 85, 86, 87, 88, 89, 90, 91, 92, 93, 94, 95, 96, 97, 98, 99, 100, 101, 102, 103, 104, 105, 106, 107, 108, 109, 110, 111, 112, 113, 114, 115, 116, 117, 118, 119, 120, 121, 122, 123] (by decide +kernel) (by decide +kernel)
set_option maxRecDepth 20000 in
theorem gX9_tries_X9_notes : GoodIn wsX9_tries (wsV RX9 180 RX9 yX9_notes wsX9_notes) := goodIn_app (goodIn_of _ (by decide +kernel)) ggX9_tries_X9_notes
theorem dX9_tries_0 : decode cX9_tries 0 = .ok (.aload_n 0, 1) := by decide +kernel
theorem dX9_tries_1 : decode cX9_tries 1 = .ok (.iconst 0, 1) := by decide +kernel
theorem dX9_tries_2 : decode cX9_tries 2 = .ok (.putfield 77, 3) := by decide +kernel
theorem dX9_tries_5 : decode cX9_tries 5 = .ok (.aload_n 0, 1) := by decide +kernel
theorem dX9_tries_6 : decode cX9_tries 6 = .ok (.invokevirtual 147, 3) := by decide +kernel
theorem dX9_tries_9 : decode cX9_tries 9 = .ok (.istore_n 2, 1) := by decide +kernel
theorem dX9_tries_10 : decode cX9_tries 10 = .ok (.iload_n 2, 1) := by decide +kernel
theorem dX9_tries_11 : decode cX9_tries 11 = .ok (.iconst (-1), 1) := by decide +kernel
theorem dX9_tries_12 : decode cX9_tries 12 = .ok (.if_icmp .ne 6, 3) := by decide +kernel
theorem dX9_tries_15 : decode cX9_tries 15 = .ok (.bipush (-2), 2) := by decide +kernel
theorem dX9_tries_17 : decode cX9_tries 17 = .ok (.ireturn, 1) := by decide +kernel
theorem dX9_tries_18 : decode cX9_tries 18 = .ok (.aload_n 0, 1) := by decide +kernel
theorem dX9_tries_19 : decode cX9_tries 19 = .ok (.iload_n 2, 1) := by decide +kernel
theorem dX9_tries_20 : decode cX9_tries 20 = .ok (.iconst 0, 1) := by decide +kernel
theorem dX9_tries_21 : decode cX9_tries 21 = .ok (.invokevirtual 106, 3) := by decide +kernel
theorem dX9_tries_24 : decode cX9_tries 24 = .ok (.istore_n 3, 1) := by decide +kernel
theorem dX9_tries_25 : decode cX9_tries 25 = .ok (.aload_n 0, 1) := by decide +kernel
theorem dX9_tries_26 : decode cX9_tries 26 = .ok (.iload_n 2, 1) := by decide +kernel
theorem dX9_tries_27 : decode cX9_tries 27 = .ok (.iload_n 1, 1) := by decide +kernel
theorem dX9_tries_28 : decode cX9_tries 28 = .ok (.invokevirtual 255, 3) := by decide +kernel
theorem dX9_tries_31 : decode cX9_tries 31 = .ok (.aload_n 0, 1) := by decide +kernel
theorem dX9_tries_32 : decode cX9_tries 32 = .ok (.iconst 0, 1) := by decide +kernel
theorem dX9_tries_33 : decode cX9_tries 33 = .ok (.putfield 81, 3) := by decide +kernel
theorem dX9_tries_36 : decode cX9_tries 36 = .ok (.aload_n 0, 1) := by decide +kernel
theorem dX9_tries_37 : decode cX9_tries 37 = .ok (.iload_n 3, 1) := by decide +kernel
theorem dX9_tries_38 : decode cX9_tries 38 = .ok (.i2l, 1) := by decide +kernel
theorem dX9_tries_39 : decode cX9_tries 39 = .ok (.invokevirtual 180, 3) := by decide +kernel
theorem dX9_tries_42 : decode cX9_tries 42 = .ok (.aload_n 0, 1) := by decide +kernel
theorem dX9_tries_43 : decode cX9_tries 43 = .ok (.aload_n 0, 1) := by decide +kernel
theorem dX9_tries_44 : decode cX9_tries 44 = .ok (.getfield 157, 3) := by decide +kernel
theorem dX9_tries_47 : decode cX9_tries 47 = .ok (.i2l, 1) := by decide +kernel
theorem dX9_tries_48 : decode cX9_tries 48 = .ok (.invokevirtual 180, 3) := by decide +kernel
theorem dX9_tries_51 : decode cX9_tries 51 = .ok (.iload_n 2, 1) := by decide +kernel
theorem dX9_tries_52 : decode cX9_tries 52 = .ok (.ireturn, 1) := by decide +kernel
set_option maxRecDepth 20000 in
theorem ggX9_tried_X9_in : GoodIn wsX9_tried wsX9_in := goodIn_r _ [8] (by decide +kernel) (by decide +kernel)
set_option maxRecDepth 20000 in
theorem gX9_tried_X9_in : GoodIn wsX9_tried (va_wsS RX9 87 yX9_in wsX9_in) := goodIn_app (goodIn_of _ (by decide +kernel)) ggX9_tried_X9_in
theorem dX9_tried_0 : decode cX9_tried 0 = .ok (.aload_n 0, 1) := by decide +kernel
theorem dX9_tried_1 : decode cX9_tried 1 = .ok (.iconst 0, 1) := by decide +kernel
theorem dX9_tried_2 : decode cX9_tried 2 = .ok (.putfield 77, 3) := by decide +kernel
theorem dX9_tried_5 : decode cX9_tried 5 = .ok (.iload_n 1, 1) := by decide +kernel
theorem dX9_tried_6 : decode cX9_tried 6 = .ok (.i2l, 1) := by decide +kernel
theorem dX9_tried_7 : decode cX9_tried 7 = .ok (.lconst 0, 1) := by decide +kernel
theorem dX9_tried_8 : decode cX9_tried 8 = .ok (.aload_n 0, 1) := by decide +kernel
theorem dX9_tried_9 : decode cX9_tried 9 = .ok (.getfield 131, 3) := by decide +kernel
theorem dX9_tried_12 : decode cX9_tried 12 = .ok (.iconst 1, 1) := by decide +kernel
theorem dX9_tried_13 : decode cX9_tried 13 = .ok (.isub, 1) := by decide +kernel
theorem dX9_tried_14 : decode cX9_tried 14 = .ok (.i2l, 1) := by decide +kernel
theorem dX9_tried_15 : decode cX9_tried 15 = .ok (.invokestatic 87, 3) := by decide +kernel
theorem dX9_tried_18 : decode cX9_tried 18 = .ok (.ifCond .eq 28, 3) := by decide +kernel
theorem dX9_tried_21 : decode cX9_tried 21 = .ok (.iload_n 2, 1) := by decide +kernel
theorem dX9_tried_22 : decode cX9_tried 22 = .ok (.i2l, 1) := by decide +kernel
theorem dX9_tried_23 : decode cX9_tried 23 = .ok (.lconst 0, 1) := by decide +kernel
theorem dX9_tried_24 : decode cX9_tried 24 = .ok (.ldc2_w 259, 3) := by decide +kernel
theorem dX9_tried_27 : decode cX9_tried 27 = .ok (.invokestatic 87, 3) := by decide +kernel
theorem dX9_tried_30 : decode cX9_tried 30 = .ok (.ifCond .eq 16, 3) := by decide +kernel
theorem dX9_tried_33 : decode cX9_tried 33 = .ok (.aload_n 0, 1) := by decide +kernel
theorem dX9_tried_34 : decode cX9_tried 34 = .ok (.getfield 38, 3) := by decide +kernel
theorem dX9_tried_37 : decode cX9_tried 37 = .ok (.iconst 4, 1) := by decide +kernel
theorem dX9_tried_38 : decode cX9_tried 38 = .ok (.iload_n 1, 1) := by decide +kernel
theorem dX9_tried_39 : decode cX9_tried 39 = .ok (.imul, 1) := by decide +kernel
theorem dX9_tried_40 : decode cX9_tried 40 = .ok (.iload_n 2, 1) := by decide +kernel
theorem dX9_tried_41 : decode cX9_tried 41 = .ok (.iadd, 1) := by decide +kernel
theorem dX9_tried_42 : decode cX9_tried 42 = .ok (.iaload, 1) := by decide +kernel
theorem dX9_tried_43 : decode cX9_tried 43 = .ok (.goto 4, 3) := by decide +kernel
theorem dX9_tried_46 : decode cX9_tried 46 = .ok (.iconst (-1), 1) := by decide +kernel
theorem dX9_tried_47 : decode cX9_tried 47 = .ok (.ireturn, 1) := by decide +kernel
set_option maxRecDepth 20000 in
theorem ggX9_place_X9_isLifter : GoodIn wsX9_place wsX9_isLifter := goodIn_r _ [6, 7, 8, 9, 5, 10, 51, 52, 53, 54, 55, 56, 57, 58, 59, 60, 61, 62, 63, 64, 65, 66, 67, 68, 69, 70, 71, 72, 73, 74, 75, 76, 77, 78, 79, 80, 81, 82, 83, 84, 85, 86, 87, 88, 89, 90] (by decide +kernel) (by decide +kernel)
set_option maxRecDepth 20000 in
theorem gX9_place_X9_isLifter : GoodIn wsX9_place (wsV RX9 233 RX9 yX9_isLifter wsX9_isLifter) := goodIn_app (goodIn_of _ (by decide +kernel)) ggX9_place_X9_isLifter
set_option maxRecDepth 20000 in
theorem ggX9_place_X9_entersPlaces : GoodIn wsX9_place wsX9_entersPlaces := goodIn_r _ [14, 15, 7, 16, 17, 18, 5, 19, 20, 21, 22, 23, 24, 25, 26, 27, 28, 29, 30, 31, 32, 33, 34, 35, 36, 37, 38, 39, 40, 41, 42, 43, 44, 45, 46, 47, 48, 49, 50, 51, 52, 53, 54, 55, 56, 57, 58, 59, 60, 61, 62, 63, 64, 65, 66, 67, 68, 69, 70, 71, 72, 73, 74, 75, 76, 77, 78, 79, 80, 81, 82, 83, 84, 85, 86, 87, 88, 89, 90] (by decide +kernel) (by decide +kernel)
set_option maxRecDepth 20000 in
theorem gX9_place_X9_entersPlaces : GoodIn wsX9_place (wsV RX9 261 RX9 yX9_entersPlaces wsX9_entersPlaces) := goodIn_app (goodIn_of _ (by decide +kernel)) ggX9_place_X9_entersPlaces
set_option maxRecDepth 20000 in
theorem ggX9_place_X9_aheadOf : GoodIn wsX9_place wsX9_aheadOf := goodIn_r _ [19, 7, 20, 21, 22, 5, 23, 24, 25, 26, 27, 28, 29, 30, 31, 32, 33, 34, 35, 36, 37, 38, 39, 40, 41, 42, 43, 44, 45, 51, 52, 53, 54, 55, 56, 57, 58, 59, 60, 61, 62, 63, 64, 65, 66, 67, 68, 69, 70, 71, 72, 73, 74, 75, 76, 77, 78, 79, 80, 81, 82, 83, 84, 85, 86, 87, 88, 89, 90] (by decide +kernel) (by decide +kernel)
set_option maxRecDepth 20000 in
theorem gX9_place_X9_aheadOf : GoodIn wsX9_place (wsV RX9 177 RX9 yX9_aheadOf wsX9_aheadOf) := goodIn_app (goodIn_of _ (by decide +kernel)) ggX9_place_X9_aheadOf
theorem dX9_place_0 : decode cX9_place 0 = .ok (.aload_n 0, 1) := by decide +kernel
theorem dX9_place_1 : decode cX9_place 1 = .ok (.iconst 0, 1) := by decide +kernel
theorem dX9_place_2 : decode cX9_place 2 = .ok (.putfield 77, 3) := by decide +kernel
theorem dX9_place_5 : decode cX9_place 5 = .ok (.aload_n 0, 1) := by decide +kernel
theorem dX9_place_6 : decode cX9_place 6 = .ok (.iload_n 1, 1) := by decide +kernel
theorem dX9_place_7 : decode cX9_place 7 = .ok (.invokevirtual 233, 3) := by decide +kernel
theorem dX9_place_10 : decode cX9_place 10 = .ok (.ifCond .ne 5, 3) := by decide +kernel
theorem dX9_place_13 : decode cX9_place 13 = .ok (.iconst (-1), 1) := by decide +kernel
theorem dX9_place_14 : decode cX9_place 14 = .ok (.ireturn, 1) := by decide +kernel
theorem dX9_place_15 : decode cX9_place 15 = .ok (.aload_n 0, 1) := by decide +kernel
theorem dX9_place_16 : decode cX9_place 16 = .ok (.invokevirtual 261, 3) := by decide +kernel
theorem dX9_place_19 : decode cX9_place 19 = .ok (.aload_n 0, 1) := by decide +kernel
theorem dX9_place_20 : decode cX9_place 20 = .ok (.iload_n 1, 1) := by decide +kernel
theorem dX9_place_21 : decode cX9_place 21 = .ok (.invokevirtual 177, 3) := by decide +kernel
theorem dX9_place_24 : decode cX9_place 24 = .ok (.ireturn, 1) := by decide +kernel
set_option maxRecDepth 20000 in
theorem ggX9_slot_X9_isLifter : GoodIn wsX9_slot wsX9_isLifter := goodIn_r _ [6, 7, 8, 9, 5, 10, 52, 53, 54, 55, 56, 57, 58, 59, 60, 61, 62, 63, 64, 65, 66, 67, 68, 69, 70, 71, 72, 73, 74, 75, 76, 77, 78, 79, 80, 81, 82, 83, 84, 85, 86, 87, 88, 89, 90, 91] (by decide +kernel) (by decide +kernel)
set_option maxRecDepth 20000 in
theorem gX9_slot_X9_isLifter : GoodIn wsX9_slot (wsV RX9 233 RX9 yX9_isLifter wsX9_isLifter) := goodIn_app (goodIn_of _ (by decide +kernel)) ggX9_slot_X9_isLifter
set_option maxRecDepth 20000 in
theorem ggX9_slot_X9_isStill : GoodIn wsX9_slot wsX9_isStill := goodIn_r _ [14, 15, 16, 17, 5, 18, 19, 20, 21, 22, 23, 24, 25, 26, 27, 52, 53, 54, 55, 56, 57, 58, 59, 60, 61, 62, 63, 64, 65, 66, 67, 68, 69, 70, 71, 72, 73, 74, 75, 76, 77, 78, 79, 80, 81, 82, 83, 84, 85, 86, 87, 88, 89, 90, 91] (by decide +kernel) (by decide +kernel)
set_option maxRecDepth 20000 in
theorem gX9_slot_X9_isStill : GoodIn wsX9_slot (wsV RX9 140 RX9 yX9_isStill wsX9_isStill) := goodIn_app (goodIn_of _ (by decide +kernel)) ggX9_slot_X9_isStill
set_option maxRecDepth 20000 in
theorem ggX9_slot_X9_of : GoodIn wsX9_slot wsX9_of := goodIn_r _ [18, 19, 52, 53, 54, 55, 56, 57, 58, 59, 60, 61, 62, 63, 64, 65, 66, 67, 68, 69, 70, 71, 72, 73, 74, 75, 76, 77, 78, 79, 80, 81, 82, 83, 84, 85, 86, 87, 88, 89, 90, 91] (by decide +kernel) (by decide +kernel)
set_option maxRecDepth 20000 in
theorem gX9_slot_X9_of : GoodIn wsX9_slot (wsV RX9 106 RX9 yX9_of wsX9_of) := goodIn_app (goodIn_of _ (by decide +kernel)) ggX9_slot_X9_of
set_option maxRecDepth 20000 in
theorem ggX9_slot_X9_leastOf : GoodIn wsX9_slot wsX9_leastOf := goodIn_r _ [31, 19, 32, 33, 34, 35, 15, 16, 17, 5, 18, 20, 21, 22, 23, 24, 25, 26, 27, 52, 53, 54, 55, 56, 57, 58, 59, 60, 61, 62, 63, 64, 65, 66, 67, 68, 69, 70, 71, 72, 73, 74, 75, 76, 77, 78, 79, 80, 81, 82, 83, 84, 85, 86, 87, 88, 89, 90, 91] (by decide +kernel) (by decide +kernel)
