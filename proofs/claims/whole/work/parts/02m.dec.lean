theorem dX9_duelAt_105 : decode cX9_duelAt 105 = .ok (.goto (-39), 3) := by decide +kernel
theorem dX9_duelAt_108 : decode cX9_duelAt 108 = .ok (.iinc 6 1, 3) := by decide +kernel
theorem dX9_duelAt_111 : decode cX9_duelAt 111 = .ok (.goto (-76), 3) := by decide +kernel
theorem dX9_duelAt_114 : decode cX9_duelAt 114 = .ok (.iinc 5 1, 3) := by decide +kernel
theorem dX9_duelAt_117 : decode cX9_duelAt 117 = .ok (.goto (-93), 3) := by decide +kernel
theorem dX9_duelAt_120 : decode cX9_duelAt 120 = .ok (.aload_n 0, 1) := by decide +kernel
theorem dX9_duelAt_121 : decode cX9_duelAt 121 = .ok (.getfield 71, 3) := by decide +kernel
theorem dX9_duelAt_124 : decode cX9_duelAt 124 = .ok (.iload_n 3, 1) := by decide +kernel
theorem dX9_duelAt_125 : decode cX9_duelAt 125 = .ok (.iload 4, 2) := by decide +kernel
theorem dX9_duelAt_127 : decode cX9_duelAt 127 = .ok (.iload_n 1, 1) := by decide +kernel
theorem dX9_duelAt_128 : decode cX9_duelAt 128 = .ok (.iload_n 2, 1) := by decide +kernel
theorem dX9_duelAt_129 : decode cX9_duelAt 129 = .ok (.invokestatic 394, 3) := by decide +kernel
theorem dX9_duelAt_132 : decode cX9_duelAt 132 = .ok (.iaload, 1) := by decide +kernel
theorem dX9_duelAt_133 : decode cX9_duelAt 133 = .ok (.ireturn, 1) := by decide +kernel
set_option maxRecDepth 20000 in
theorem ggX9_whyNoDuel_X9_isStill : GoodIn wsX9_whyNoDuel wsX9_isStill := goodIn_r _ [6, 7, 8, 9, 5, 10, 1, 11, 12, 13, 14, 15, 16, 17, 18, 19, 20, 21, 22, 23, 24, 25, 26, 27, 28, 29, 30, 31, 32, 33, 34, 35, 36, 37, 38, 39, 40, 41, 42, 43, 44, 45, 46, 47, 48, 49, 50, 51, 52, 53, 54, 55, 56, 57, 58] (by decide +kernel) (by decide +kernel)
set_option maxRecDepth 20000 in
theorem gX9_whyNoDuel_X9_isStill : GoodIn wsX9_whyNoDuel (wsV RX9 140 RX9 yX9_isStill wsX9_isStill) := goodIn_app (goodIn_of _ (by decide +kernel)) ggX9_whyNoDuel_X9_isStill
theorem dX9_whyNoDuel_0 : decode cX9_whyNoDuel 0 = .ok (.aload_n 0, 1) := by decide +kernel
theorem dX9_whyNoDuel_1 : decode cX9_whyNoDuel 1 = .ok (.getfield 32, 3) := by decide +kernel
theorem dX9_whyNoDuel_4 : decode cX9_whyNoDuel 4 = .ok (.iconst 0, 1) := by decide +kernel
theorem dX9_whyNoDuel_5 : decode cX9_whyNoDuel 5 = .ok (.iaload, 1) := by decide +kernel
theorem dX9_whyNoDuel_6 : decode cX9_whyNoDuel 6 = .ok (.iconst 2, 1) := by decide +kernel
theorem dX9_whyNoDuel_7 : decode cX9_whyNoDuel 7 = .ok (.if_icmp .ne 13, 3) := by decide +kernel
theorem dX9_whyNoDuel_10 : decode cX9_whyNoDuel 10 = .ok (.aload_n 0, 1) := by decide +kernel
theorem dX9_whyNoDuel_11 : decode cX9_whyNoDuel 11 = .ok (.getfield 32, 3) := by decide +kernel
theorem dX9_whyNoDuel_14 : decode cX9_whyNoDuel 14 = .ok (.iconst 1, 1) := by decide +kernel
theorem dX9_whyNoDuel_15 : decode cX9_whyNoDuel 15 = .ok (.iaload, 1) := by decide +kernel
theorem dX9_whyNoDuel_16 : decode cX9_whyNoDuel 16 = .ok (.iconst 2, 1) := by decide +kernel
theorem dX9_whyNoDuel_17 : decode cX9_whyNoDuel 17 = .ok (.if_icmp .eq 6, 3) := by decide +kernel
theorem dX9_whyNoDuel_20 : decode cX9_whyNoDuel 20 = .ok (.bipush (-2), 2) := by decide +kernel
theorem dX9_whyNoDuel_22 : decode cX9_whyNoDuel 22 = .ok (.ireturn, 1) := by decide +kernel
theorem dX9_whyNoDuel_23 : decode cX9_whyNoDuel 23 = .ok (.aload_n 0, 1) := by decide +kernel
theorem dX9_whyNoDuel_24 : decode cX9_whyNoDuel 24 = .ok (.iload_n 1, 1) := by decide +kernel
theorem dX9_whyNoDuel_25 : decode cX9_whyNoDuel 25 = .ok (.invokevirtual 140, 3) := by decide +kernel
theorem dX9_whyNoDuel_28 : decode cX9_whyNoDuel 28 = .ok (.ifCond .eq 15, 3) := by decide +kernel
theorem dX9_whyNoDuel_31 : decode cX9_whyNoDuel 31 = .ok (.aload_n 0, 1) := by decide +kernel
theorem dX9_whyNoDuel_32 : decode cX9_whyNoDuel 32 = .ok (.iload_n 2, 1) := by decide +kernel
theorem dX9_whyNoDuel_33 : decode cX9_whyNoDuel 33 = .ok (.invokevirtual 140, 3) := by decide +kernel
theorem dX9_whyNoDuel_36 : decode cX9_whyNoDuel 36 = .ok (.ifCond .eq 7, 3) := by decide +kernel
theorem dX9_whyNoDuel_39 : decode cX9_whyNoDuel 39 = .ok (.iconst 0, 1) := by decide +kernel
theorem dX9_whyNoDuel_40 : decode cX9_whyNoDuel 40 = .ok (.goto 5, 3) := by decide +kernel
theorem dX9_whyNoDuel_43 : decode cX9_whyNoDuel 43 = .ok (.bipush (-3), 2) := by decide +kernel
theorem dX9_whyNoDuel_45 : decode cX9_whyNoDuel 45 = .ok (.ireturn, 1) := by decide +kernel
set_option maxRecDepth 20000 in
theorem ggX9_entersDuel_X9_of : GoodIn wsX9_entersDuel wsX9_of := goodIn_r _ [9, 10, 24, 25, 26, 27, 28, 29, 30, 31, 32, 33, 34, 35, 36, 37, 38, 39, 40, 41, 42, 43, 44, 45, 46, 47, 48, 49, 50, 51, 52, 53, 54, 55, 56, 57, 58, 59, 60, 61, 62, 63] (by decide +kernel) (by decide +kernel)
set_option maxRecDepth 20000 in
theorem gX9_entersDuel_X9_of : GoodIn wsX9_entersDuel (wsV RX9 106 RX9 yX9_of wsX9_of) := goodIn_app (goodIn_of _ (by decide +kernel)) ggX9_entersDuel_X9_of
set_option maxRecDepth 20000 in
theorem ggX9_entersDuel_X9_isOneCalled : GoodIn wsX9_entersDuel wsX9_isOneCalled := goodIn_r _ [14, 15, 1, 2, 24, 25, 26, 27, 28, 29, 30, 31, 32, 33, 34, 35, 36, 37, 38, 39, 40, 41, 42, 43, 44, 45, 46, 47, 48, 49, 50, 51, 52, 53, 54, 55, 56, 57, 58, 59, 60, 61, 62, 63] (by decide +kernel) (by decide +kernel)
set_option maxRecDepth 20000 in
theorem gX9_entersDuel_X9_isOneCalled : GoodIn wsX9_entersDuel (wsV RX9 388 RX9 yX9_isOneCalled wsX9_isOneCalled) := goodIn_app (goodIn_of _ (by decide +kernel)) ggX9_entersDuel_X9_isOneCalled
set_option maxRecDepth 20000 in
theorem ggX9_entersDuel_X9_notes : GoodIn wsX9_entersDuel wsX9_notes := goodIn_r _ [19, 20, 3, 24, 25, 26, 27, 28, 29, 30, 31, 32, 33, 34, 35, 36, 37, 38, 39, 40, 41, 42, 43, 44, 45, 46, 47, 48, 49, 50, 51, 52, 53, 54, 55, 56, 57, 58, 59, 60, 61, 62, 63] (by decide +kernel) (by decide +kernel)
set_option maxRecDepth 20000 in
theorem gX9_entersDuel_X9_notes : GoodIn wsX9_entersDuel (wsV RX9 180 RX9 yX9_notes wsX9_notes) := goodIn_app (goodIn_of _ (by decide +kernel)) ggX9_entersDuel_X9_notes
set_option maxRecDepth 20000 in
theorem ggX9_entersDuel_X9_duelCell : GoodIn wsX9_entersDuel wsX9_duelCell := goodIn_r _ [23] (by decide +kernel) (by decide +kernel)
set_option maxRecDepth 20000 in
theorem gX9_entersDuel_X9_duelCell : GoodIn wsX9_entersDuel (va_wsS RX9 394 yX9_duelCell wsX9_duelCell) := goodIn_app (goodIn_of _ (by decide +kernel)) ggX9_entersDuel_X9_duelCell
theorem dX9_entersDuel_0 : decode cX9_entersDuel 0 = .ok (.aload_n 0, 1) := by decide +kernel
theorem dX9_entersDuel_1 : decode cX9_entersDuel 1 = .ok (.aload_n 0, 1) := by decide +kernel
theorem dX9_entersDuel_2 : decode cX9_entersDuel 2 = .ok (.getfield 365, 3) := by decide +kernel
theorem dX9_entersDuel_5 : decode cX9_entersDuel 5 = .ok (.iconst 0, 1) := by decide +kernel
theorem dX9_entersDuel_6 : decode cX9_entersDuel 6 = .ok (.invokevirtual 106, 3) := by decide +kernel
theorem dX9_entersDuel_9 : decode cX9_entersDuel 9 = .ok (.istore_n 3, 1) := by decide +kernel
theorem dX9_entersDuel_10 : decode cX9_entersDuel 10 = .ok (.aload_n 0, 1) := by decide +kernel
theorem dX9_entersDuel_11 : decode cX9_entersDuel 11 = .ok (.aload_n 0, 1) := by decide +kernel
theorem dX9_entersDuel_12 : decode cX9_entersDuel 12 = .ok (.getfield 368, 3) := by decide +kernel
theorem dX9_entersDuel_15 : decode cX9_entersDuel 15 = .ok (.iconst 0, 1) := by decide +kernel
theorem dX9_entersDuel_16 : decode cX9_entersDuel 16 = .ok (.invokevirtual 106, 3) := by decide +kernel
theorem dX9_entersDuel_19 : decode cX9_entersDuel 19 = .ok (.istore 4, 2) := by decide +kernel
theorem dX9_entersDuel_21 : decode cX9_entersDuel 21 = .ok (.aload_n 0, 1) := by decide +kernel
theorem dX9_entersDuel_22 : decode cX9_entersDuel 22 = .ok (.iconst 0, 1) := by decide +kernel
theorem dX9_entersDuel_23 : decode cX9_entersDuel 23 = .ok (.putfield 81, 3) := by decide +kernel
theorem dX9_entersDuel_26 : decode cX9_entersDuel 26 = .ok (.aload_n 0, 1) := by decide +kernel
theorem dX9_entersDuel_27 : decode cX9_entersDuel 27 = .ok (.aload_n 0, 1) := by decide +kernel
theorem dX9_entersDuel_28 : decode cX9_entersDuel 28 = .ok (.iload_n 3, 1) := by decide +kernel
theorem dX9_entersDuel_29 : decode cX9_entersDuel 29 = .ok (.iload 4, 2) := by decide +kernel
theorem dX9_entersDuel_31 : decode cX9_entersDuel 31 = .ok (.invokevirtual 388, 3) := by decide +kernel
theorem dX9_entersDuel_34 : decode cX9_entersDuel 34 = .ok (.ifCond .eq 11, 3) := by decide +kernel
theorem dX9_entersDuel_37 : decode cX9_entersDuel 37 = .ok (.aload_n 0, 1) := by decide +kernel
theorem dX9_entersDuel_38 : decode cX9_entersDuel 38 = .ok (.getfield 365, 3) := by decide +kernel
theorem dX9_entersDuel_41 : decode cX9_entersDuel 41 = .ok (.i2l, 1) := by decide +kernel
theorem dX9_entersDuel_42 : decode cX9_entersDuel 42 = .ok (.goto 8, 3) := by decide +kernel
theorem dX9_entersDuel_45 : decode cX9_entersDuel 45 = .ok (.aload_n 0, 1) := by decide +kernel
theorem dX9_entersDuel_46 : decode cX9_entersDuel 46 = .ok (.getfield 368, 3) := by decide +kernel
theorem dX9_entersDuel_49 : decode cX9_entersDuel 49 = .ok (.i2l, 1) := by decide +kernel
theorem dX9_entersDuel_50 : decode cX9_entersDuel 50 = .ok (.invokevirtual 180, 3) := by decide +kernel
theorem dX9_entersDuel_53 : decode cX9_entersDuel 53 = .ok (.aload_n 0, 1) := by decide +kernel
theorem dX9_entersDuel_54 : decode cX9_entersDuel 54 = .ok (.aload_n 0, 1) := by decide +kernel
theorem dX9_entersDuel_55 : decode cX9_entersDuel 55 = .ok (.getfield 74, 3) := by decide +kernel
theorem dX9_entersDuel_58 : decode cX9_entersDuel 58 = .ok (.iload_n 3, 1) := by decide +kernel
theorem dX9_entersDuel_59 : decode cX9_entersDuel 59 = .ok (.iload 4, 2) := by decide +kernel
theorem dX9_entersDuel_61 : decode cX9_entersDuel 61 = .ok (.iload_n 1, 1) := by decide +kernel
theorem dX9_entersDuel_62 : decode cX9_entersDuel 62 = .ok (.iload_n 2, 1) := by decide +kernel
theorem dX9_entersDuel_63 : decode cX9_entersDuel 63 = .ok (.invokestatic 394, 3) := by decide +kernel
theorem dX9_entersDuel_66 : decode cX9_entersDuel 66 = .ok (.iaload, 1) := by decide +kernel
theorem dX9_entersDuel_67 : decode cX9_entersDuel 67 = .ok (.i2l, 1) := by decide +kernel
theorem dX9_entersDuel_68 : decode cX9_entersDuel 68 = .ok (.invokevirtual 180, 3) := by decide +kernel
theorem dX9_entersDuel_71 : decode cX9_entersDuel 71 = .ok (.return_, 1) := by decide +kernel
set_option maxRecDepth 20000 in
theorem ggX9_duel_X9_isLifter : GoodIn wsX9_duel wsX9_isLifter := goodIn_r _ [8, 9, 10, 11, 7, 12, 115, 116, 117, 118, 119, 120, 121, 122, 123, 124, 125, 126, 127, 128, 129, 130, 131, 132, 133, 134, 135, 136, 137, 138, 139, 140, 141, 142, 143, 144, 145, 146, 147, 148, 149, 150, 151, 152, 153, 154] (by decide +kernel) (by decide +kernel)
set_option maxRecDepth 20000 in
theorem gX9_duel_X9_isLifter : GoodIn wsX9_duel (wsV RX9 233 RX9 yX9_isLifter wsX9_isLifter) := goodIn_app (goodIn_of _ (by decide +kernel)) ggX9_duel_X9_isLifter
set_option maxRecDepth 20000 in
theorem ggX9_duel_X9_whyNoDuel : GoodIn wsX9_duel wsX9_whyNoDuel := goodIn_r _ [16, 17, 18, 19, 20, 7, 21, 22, 23, 24, 25, 26, 27, 28, 29, 30, 31, 32, 33, 115, 116, 117, 118, 119, 120, 121, 122, 123, 124, 125, 126, 127, 128, 129, 130, 131, 132, 133, 134, 135, 136, 137, 138, 139, 140, 141, 142, 143, 144, 145, 146, 147, 148, 149, 150, 151, 152, 153, 154] (by decide +kernel) (by decide +kernel)
set_option maxRecDepth 20000 in
theorem gX9_duel_X9_whyNoDuel : GoodIn wsX9_duel (wsV RX9 400 RX9 yX9_whyNoDuel wsX9_whyNoDuel) := goodIn_app (goodIn_of _ (by decide +kernel)) ggX9_duel_X9_whyNoDuel
set_option maxRecDepth 20000 in
theorem ggX9_duel_X9_duelAt : GoodIn wsX9_duel wsX9_duelAt := goodIn_r _ [37, 2, 3, 38, 22, 23, 24, 7, 25, 17, 10, 11, 12, 39, 40, 41, 42, 43, 44, 45, 46, 47, 48, 49, 50, 51, 52, 53, 54, 55, 56, 57, 58, 59, 60, 61, 62, 63, 64, 65, 66, 67, 68, 69, 70, 71, 72, 73, 74, 75, 76, 77, 78, 79, 80, 81, 82, 83, 84, 85, 86, 87, 88, 89, 90, 91, 92, 93, 94, 95, 96, 97, 98, 99, 100, 101, 102, 103, 104, 115, 116, 117, 118, 119, 120, 121, 122, 123, 124, 125, 126, 127, 128, 129, 130, 131, 132, 133, 134, 135, 136, 137, 138, 139, 140, 141, 142, 143, 144, 145, 146, 147, 148, 149, 150, 151, 152, 153, 154] (by decide +kernel) (by decide +kernel)
set_option maxRecDepth 20000 in
theorem gX9_duel_X9_duelAt : GoodIn wsX9_duel (wsV RX9 403 RX9 yX9_duelAt wsX9_duelAt) := goodIn_app (goodIn_of _ (by decide +kernel)) ggX9_duel_X9_duelAt
set_option maxRecDepth 20000 in
theorem ggX9_duel_X9_of : GoodIn wsX9_duel wsX9_of := goodIn_r _ [25, 17, 115, 116, 117, 118, 119, 120, 121, 122, 123, 124, 125, 126, 127, 128, 129, 130, 131, 132, 133, 134, 135, 136, 137, 138, 139, 140, 141, 142, 143, 144, 145, 146, 147, 148, 149, 150, 151, 152, 153, 154] (by decide +kernel) (by decide +kernel)
set_option maxRecDepth 20000 in
theorem gX9_duel_X9_of : GoodIn wsX9_duel (wsV RX9 106 RX9 yX9_of wsX9_of) := goodIn_app (goodIn_of _ (by decide +kernel)) ggX9_duel_X9_of
set_option maxRecDepth 20000 in
theorem ggX9_duel_X9_entersDuel : GoodIn wsX9_duel wsX9_entersDuel := goodIn_r _ [108, 2, 3, 109, 43, 22, 23, 24, 7, 25, 17, 44, 45, 46, 47, 48, 110, 111, 112, 113, 114, 102, 103, 104, 115, 116, 117, 118, 119, 120, 121, 122, 123, 124, 125, 126, 127, 128, 129, 130, 131, 132, 133, 134, 135, 136, 137, 138, 139, 140, 141, 142, 143, 144, 145, 146, 147, 148, 149, 150, 151, 152, 153, 154] (by decide +kernel) (by decide +kernel)
set_option maxRecDepth 20000 in
theorem gX9_duel_X9_entersDuel : GoodIn wsX9_duel (wsV RX9 406 RX9 yX9_entersDuel wsX9_entersDuel) := goodIn_app (goodIn_of _ (by decide +kernel)) ggX9_duel_X9_entersDuel
set_option maxRecDepth 20000 in
theorem ggX9_duel_X9_notes : GoodIn wsX9_duel wsX9_notes := goodIn_r _ [113, 114, 109, 115, 116, 117, 118, 119, 120, 121, 122, 123, 124, 125, 126, 127, 128, 129, 130, 131, 132, 133, 134, 135, 136, 137, 138, 139, 140, 141, 142, 143, 144, 145, 146, 147, 148, 149, 150, 151, 152, 153, 154] (by decide +kernel) (by decide +kernel)
set_option maxRecDepth 20000 in
theorem gX9_duel_X9_notes : GoodIn wsX9_duel (wsV RX9 180 RX9 yX9_notes wsX9_notes) := goodIn_app (goodIn_of _ (by decide +kernel)) ggX9_duel_X9_notes
theorem dX9_duel_0 : decode cX9_duel 0 = .ok (.aload_n 0, 1) := by decide +kernel
theorem dX9_duel_1 : decode cX9_duel 1 = .ok (.iconst 0, 1) := by decide +kernel
theorem dX9_duel_2 : decode cX9_duel 2 = .ok (.putfield 77, 3) := by decide +kernel
theorem dX9_duel_5 : decode cX9_duel 5 = .ok (.aload_n 0, 1) := by decide +kernel
theorem dX9_duel_6 : decode cX9_duel 6 = .ok (.iload_n 1, 1) := by decide +kernel
theorem dX9_duel_7 : decode cX9_duel 7 = .ok (.invokevirtual 233, 3) := by decide +kernel
theorem dX9_duel_10 : decode cX9_duel 10 = .ok (.ifCond .eq 16, 3) := by decide +kernel
theorem dX9_duel_13 : decode cX9_duel 13 = .ok (.aload_n 0, 1) := by decide +kernel
theorem dX9_duel_14 : decode cX9_duel 14 = .ok (.iload_n 2, 1) := by decide +kernel
theorem dX9_duel_15 : decode cX9_duel 15 = .ok (.invokevirtual 233, 3) := by decide +kernel
theorem dX9_duel_18 : decode cX9_duel 18 = .ok (.ifCond .eq 8, 3) := by decide +kernel
theorem dX9_duel_21 : decode cX9_duel 21 = .ok (.iload_n 1, 1) := by decide +kernel
theorem dX9_duel_22 : decode cX9_duel 22 = .ok (.iload_n 2, 1) := by decide +kernel
theorem dX9_duel_23 : decode cX9_duel 23 = .ok (.if_icmp .ne 5, 3) := by decide +kernel
theorem dX9_duel_26 : decode cX9_duel 26 = .ok (.iconst (-1), 1) := by decide +kernel
theorem dX9_duel_27 : decode cX9_duel 27 = .ok (.ireturn, 1) := by decide +kernel
theorem dX9_duel_28 : decode cX9_duel 28 = .ok (.aload_n 0, 1) := by decide +kernel
theorem dX9_duel_29 : decode cX9_duel 29 = .ok (.iload_n 1, 1) := by decide +kernel
theorem dX9_duel_30 : decode cX9_duel 30 = .ok (.iload_n 2, 1) := by decide +kernel
theorem dX9_duel_31 : decode cX9_duel 31 = .ok (.invokevirtual 400, 3) := by decide +kernel
theorem dX9_duel_34 : decode cX9_duel 34 = .ok (.istore_n 3, 1) := by decide +kernel
theorem dX9_duel_35 : decode cX9_duel 35 = .ok (.iload_n 3, 1) := by decide +kernel
theorem dX9_duel_36 : decode cX9_duel 36 = .ok (.ifCond .eq 5, 3) := by decide +kernel
theorem dX9_duel_39 : decode cX9_duel 39 = .ok (.iload_n 3, 1) := by decide +kernel
theorem dX9_duel_40 : decode cX9_duel 40 = .ok (.ireturn, 1) := by decide +kernel
theorem dX9_duel_41 : decode cX9_duel 41 = .ok (.aload_n 0, 1) := by decide +kernel
theorem dX9_duel_42 : decode cX9_duel 42 = .ok (.iload_n 1, 1) := by decide +kernel
theorem dX9_duel_43 : decode cX9_duel 43 = .ok (.putfield 365, 3) := by decide +kernel
theorem dX9_duel_46 : decode cX9_duel 46 = .ok (.aload_n 0, 1) := by decide +kernel
theorem dX9_duel_47 : decode cX9_duel 47 = .ok (.iload_n 2, 1) := by decide +kernel
theorem dX9_duel_48 : decode cX9_duel 48 = .ok (.putfield 368, 3) := by decide +kernel
theorem dX9_duel_51 : decode cX9_duel 51 = .ok (.aload_n 0, 1) := by decide +kernel
theorem dX9_duel_52 : decode cX9_duel 52 = .ok (.iconst 0, 1) := by decide +kernel
theorem dX9_duel_53 : decode cX9_duel 53 = .ok (.iconst 0, 1) := by decide +kernel
theorem dX9_duel_54 : decode cX9_duel 54 = .ok (.invokevirtual 403, 3) := by decide +kernel
theorem dX9_duel_57 : decode cX9_duel 57 = .ok (.istore 4, 2) := by decide +kernel
theorem dX9_duel_59 : decode cX9_duel 59 = .ok (.aload_n 0, 1) := by decide +kernel
theorem dX9_duel_60 : decode cX9_duel 60 = .ok (.aload_n 0, 1) := by decide +kernel
theorem dX9_duel_61 : decode cX9_duel 61 = .ok (.iload_n 1, 1) := by decide +kernel
theorem dX9_duel_62 : decode cX9_duel 62 = .ok (.iconst 5, 1) := by decide +kernel
theorem dX9_duel_63 : decode cX9_duel 63 = .ok (.invokevirtual 106, 3) := by decide +kernel
theorem dX9_duel_66 : decode cX9_duel 66 = .ok (.aload_n 0, 1) := by decide +kernel
theorem dX9_duel_67 : decode cX9_duel 67 = .ok (.iload_n 2, 1) := by decide +kernel
theorem dX9_duel_68 : decode cX9_duel 68 = .ok (.iconst 5, 1) := by decide +kernel
theorem dX9_duel_69 : decode cX9_duel 69 = .ok (.invokevirtual 106, 3) := by decide +kernel
theorem dX9_duel_72 : decode cX9_duel 72 = .ok (.invokevirtual 403, 3) := by decide +kernel
theorem dX9_duel_75 : decode cX9_duel 75 = .ok (.istore 5, 2) := by decide +kernel
theorem dX9_duel_77 : decode cX9_duel 77 = .ok (.aload_n 0, 1) := by decide +kernel
theorem dX9_duel_78 : decode cX9_duel 78 = .ok (.aload_n 0, 1) := by decide +kernel
theorem dX9_duel_79 : decode cX9_duel 79 = .ok (.iload_n 1, 1) := by decide +kernel
theorem dX9_duel_80 : decode cX9_duel 80 = .ok (.iconst 5, 1) := by decide +kernel
theorem dX9_duel_81 : decode cX9_duel 81 = .ok (.invokevirtual 106, 3) := by decide +kernel
theorem dX9_duel_84 : decode cX9_duel 84 = .ok (.aload_n 0, 1) := by decide +kernel
theorem dX9_duel_85 : decode cX9_duel 85 = .ok (.iload_n 2, 1) := by decide +kernel
theorem dX9_duel_86 : decode cX9_duel 86 = .ok (.iconst 5, 1) := by decide +kernel
theorem dX9_duel_87 : decode cX9_duel 87 = .ok (.invokevirtual 106, 3) := by decide +kernel
theorem dX9_duel_90 : decode cX9_duel 90 = .ok (.invokevirtual 406, 3) := by decide +kernel
theorem dX9_duel_93 : decode cX9_duel 93 = .ok (.aload_n 0, 1) := by decide +kernel
theorem dX9_duel_94 : decode cX9_duel 94 = .ok (.iload 4, 2) := by decide +kernel
theorem dX9_duel_96 : decode cX9_duel 96 = .ok (.i2l, 1) := by decide +kernel
theorem dX9_duel_97 : decode cX9_duel 97 = .ok (.invokevirtual 180, 3) := by decide +kernel
theorem dX9_duel_100 : decode cX9_duel 100 = .ok (.iload 5, 2) := by decide +kernel
theorem dX9_duel_102 : decode cX9_duel 102 = .ok (.ireturn, 1) := by decide +kernel
set_option maxRecDepth 20000 in
theorem ggX9_bluff_X9_isLifter : GoodIn wsX9_bluff wsX9_isLifter := goodIn_r _ [9, 10, 11, 12, 8, 13, 116, 117, 118, 119, 120, 121, 122, 123, 124, 125, 126, 127, 128, 129, 130, 131, 132, 133, 134, 135, 136, 137, 138, 139, 140, 141, 142, 143, 144, 145, 146, 147, 148, 149, 150, 151, 152, 153, 154, 155] (by decide +kernel) (by decide +kernel)
set_option maxRecDepth 20000 in
theorem gX9_bluff_X9_isLifter : GoodIn wsX9_bluff (wsV RX9 233 RX9 yX9_isLifter wsX9_isLifter) := goodIn_app (goodIn_of _ (by decide +kernel)) ggX9_bluff_X9_isLifter
set_option maxRecDepth 20000 in
theorem ggX9_bluff_X9_in : GoodIn wsX9_bluff wsX9_in := goodIn_r _ [13] (by decide +kernel) (by decide +kernel)
set_option maxRecDepth 20000 in
theorem gX9_bluff_X9_in : GoodIn wsX9_bluff (va_wsS RX9 87 yX9_in wsX9_in) := goodIn_app (goodIn_of _ (by decide +kernel)) ggX9_bluff_X9_in
set_option maxRecDepth 20000 in
theorem ggX9_bluff_X9_whyNoDuel : GoodIn wsX9_bluff wsX9_whyNoDuel := goodIn_r _ [17, 18, 19, 20, 21, 8, 22, 23, 24, 25, 26, 27, 28, 29, 30, 31, 32, 33, 34, 116, 117, 118, 119, 120, 121, 122, 123, 124, 125, 126, 127, 128, 129, 130, 131, 132, 133, 134, 135, 136, 137, 138, 139, 140, 141, 142, 143, 144, 145, 146, 147, 148, 149, 150, 151, 152, 153, 154, 155] (by decide +kernel) (by decide +kernel)
set_option maxRecDepth 20000 in
theorem gX9_bluff_X9_whyNoDuel : GoodIn wsX9_bluff (wsV RX9 400 RX9 yX9_whyNoDuel wsX9_whyNoDuel) := goodIn_app (goodIn_of _ (by decide +kernel)) ggX9_bluff_X9_whyNoDuel
set_option maxRecDepth 20000 in
theorem ggX9_bluff_X9_duelAt : GoodIn wsX9_bluff wsX9_duelAt := goodIn_r _ [38, 3, 4, 39, 23, 24, 25, 8, 26, 18, 11, 12, 13, 40, 41, 42, 43, 44, 45, 46, 47, 48, 49, 50, 51, 52, 53, 54, 55, 56, 57, 58, 59, 60, 61, 62, 63, 64, 65, 66, 67, 68, 69, 70, 71, 72, 73, 74, 75, 76, 77, 78, 79, 80, 81, 82, 83, 84, 85, 86, 87, 88, 89, 90, 91, 92, 93, 94, 95, 96, 97, 98, 99, 100, 101, 102, 103, 104, 105, 116, 117, 118, 119, 120, 121, 122, 123, 124, 125, 126, 127, 128, 129, 130, 131, 132, 133, 134, 135, 136, 137, 138, 139, 140, 141, 142, 143, 144, 145, 146, 147, 148, 149, 150, 151, 152, 153, 154, 155] (by decide +kernel) (by decide +kernel)
set_option maxRecDepth 20000 in
theorem gX9_bluff_X9_duelAt : GoodIn wsX9_bluff (wsV RX9 403 RX9 yX9_duelAt wsX9_duelAt) := goodIn_app (goodIn_of _ (by decide +kernel)) ggX9_bluff_X9_duelAt
set_option maxRecDepth 20000 in
theorem ggX9_bluff_X9_entersDuel : GoodIn wsX9_bluff wsX9_entersDuel := goodIn_r _ [109, 3, 4, 110, 44, 23, 24, 25, 8, 26, 18, 45, 46, 47, 48, 49, 111, 112, 113, 114, 115, 103, 104, 105, 116, 117, 118, 119, 120, 121, 122, 123, 124, 125, 126, 127, 128, 129, 130, 131, 132, 133, 134, 135, 136, 137, 138, 139, 140, 141, 142, 143, 144, 145, 146, 147, 148, 149, 150, 151, 152, 153, 154, 155] (by decide +kernel) (by decide +kernel)
set_option maxRecDepth 20000 in
theorem gX9_bluff_X9_entersDuel : GoodIn wsX9_bluff (wsV RX9 406 RX9 yX9_entersDuel wsX9_entersDuel) := goodIn_app (goodIn_of _ (by decide +kernel)) ggX9_bluff_X9_entersDuel
theorem dX9_bluff_0 : decode cX9_bluff 0 = .ok (.aload_n 0, 1) := by decide +kernel
theorem dX9_bluff_1 : decode cX9_bluff 1 = .ok (.iconst 0, 1) := by decide +kernel
theorem dX9_bluff_2 : decode cX9_bluff 2 = .ok (.putfield 77, 3) := by decide +kernel
theorem dX9_bluff_5 : decode cX9_bluff 5 = .ok (.aload_n 0, 1) := by decide +kernel
theorem dX9_bluff_6 : decode cX9_bluff 6 = .ok (.iload_n 1, 1) := by decide +kernel
theorem dX9_bluff_7 : decode cX9_bluff 7 = .ok (.invokevirtual 233, 3) := by decide +kernel
theorem dX9_bluff_10 : decode cX9_bluff 10 = .ok (.ifCond .eq 41, 3) := by decide +kernel
theorem dX9_bluff_13 : decode cX9_bluff 13 = .ok (.aload_n 0, 1) := by decide +kernel
theorem dX9_bluff_14 : decode cX9_bluff 14 = .ok (.iload_n 2, 1) := by decide +kernel
theorem dX9_bluff_15 : decode cX9_bluff 15 = .ok (.invokevirtual 233, 3) := by decide +kernel
theorem dX9_bluff_18 : decode cX9_bluff 18 = .ok (.ifCond .eq 33, 3) := by decide +kernel
theorem dX9_bluff_21 : decode cX9_bluff 21 = .ok (.iload_n 1, 1) := by decide +kernel
theorem dX9_bluff_22 : decode cX9_bluff 22 = .ok (.iload_n 2, 1) := by decide +kernel
theorem dX9_bluff_23 : decode cX9_bluff 23 = .ok (.if_icmp .eq 28, 3) := by decide +kernel
theorem dX9_bluff_26 : decode cX9_bluff 26 = .ok (.iload_n 3, 1) := by decide +kernel
theorem dX9_bluff_27 : decode cX9_bluff 27 = .ok (.i2l, 1) := by decide +kernel
theorem dX9_bluff_28 : decode cX9_bluff 28 = .ok (.lconst 0, 1) := by decide +kernel
theorem dX9_bluff_29 : decode cX9_bluff 29 = .ok (.ldc2_w 91, 3) := by decide +kernel
theorem dX9_bluff_32 : decode cX9_bluff 32 = .ok (.invokestatic 87, 3) := by decide +kernel
theorem dX9_bluff_35 : decode cX9_bluff 35 = .ok (.ifCond .eq 16, 3) := by decide +kernel
theorem dX9_bluff_38 : decode cX9_bluff 38 = .ok (.iload 4, 2) := by decide +kernel
theorem dX9_bluff_40 : decode cX9_bluff 40 = .ok (.i2l, 1) := by decide +kernel
theorem dX9_bluff_41 : decode cX9_bluff 41 = .ok (.lconst 0, 1) := by decide +kernel
theorem dX9_bluff_42 : decode cX9_bluff 42 = .ok (.ldc2_w 91, 3) := by decide +kernel
theorem dX9_bluff_45 : decode cX9_bluff 45 = .ok (.invokestatic 87, 3) := by decide +kernel
theorem dX9_bluff_48 : decode cX9_bluff 48 = .ok (.ifCond .ne 5, 3) := by decide +kernel
theorem dX9_bluff_51 : decode cX9_bluff 51 = .ok (.iconst (-1), 1) := by decide +kernel
theorem dX9_bluff_52 : decode cX9_bluff 52 = .ok (.ireturn, 1) := by decide +kernel
theorem dX9_bluff_53 : decode cX9_bluff 53 = .ok (.aload_n 0, 1) := by decide +kernel
theorem dX9_bluff_54 : decode cX9_bluff 54 = .ok (.iload_n 1, 1) := by decide +kernel
theorem dX9_bluff_55 : decode cX9_bluff 55 = .ok (.iload_n 2, 1) := by decide +kernel
theorem dX9_bluff_56 : decode cX9_bluff 56 = .ok (.invokevirtual 400, 3) := by decide +kernel
theorem dX9_bluff_59 : decode cX9_bluff 59 = .ok (.istore 5, 2) := by decide +kernel
theorem dX9_bluff_61 : decode cX9_bluff 61 = .ok (.iload 5, 2) := by decide +kernel
theorem dX9_bluff_63 : decode cX9_bluff 63 = .ok (.ifCond .eq 6, 3) := by decide +kernel
theorem dX9_bluff_66 : decode cX9_bluff 66 = .ok (.iload 5, 2) := by decide +kernel
theorem dX9_bluff_68 : decode cX9_bluff 68 = .ok (.ireturn, 1) := by decide +kernel
theorem dX9_bluff_69 : decode cX9_bluff 69 = .ok (.aload_n 0, 1) := by decide +kernel
theorem dX9_bluff_70 : decode cX9_bluff 70 = .ok (.iload_n 1, 1) := by decide +kernel
theorem dX9_bluff_71 : decode cX9_bluff 71 = .ok (.putfield 365, 3) := by decide +kernel
theorem dX9_bluff_74 : decode cX9_bluff 74 = .ok (.aload_n 0, 1) := by decide +kernel
theorem dX9_bluff_75 : decode cX9_bluff 75 = .ok (.iload_n 2, 1) := by decide +kernel
theorem dX9_bluff_76 : decode cX9_bluff 76 = .ok (.putfield 368, 3) := by decide +kernel
theorem dX9_bluff_79 : decode cX9_bluff 79 = .ok (.aload_n 0, 1) := by decide +kernel
theorem dX9_bluff_80 : decode cX9_bluff 80 = .ok (.iload_n 3, 1) := by decide +kernel
theorem dX9_bluff_81 : decode cX9_bluff 81 = .ok (.iload 4, 2) := by decide +kernel
theorem dX9_bluff_83 : decode cX9_bluff 83 = .ok (.invokevirtual 403, 3) := by decide +kernel
theorem dX9_bluff_86 : decode cX9_bluff 86 = .ok (.istore 6, 2) := by decide +kernel
theorem dX9_bluff_88 : decode cX9_bluff 88 = .ok (.aload_n 0, 1) := by decide +kernel
theorem dX9_bluff_89 : decode cX9_bluff 89 = .ok (.iload_n 3, 1) := by decide +kernel
theorem dX9_bluff_90 : decode cX9_bluff 90 = .ok (.iload 4, 2) := by decide +kernel
theorem dX9_bluff_92 : decode cX9_bluff 92 = .ok (.invokevirtual 406, 3) := by decide +kernel
theorem dX9_bluff_95 : decode cX9_bluff 95 = .ok (.iload 6, 2) := by decide +kernel
theorem dX9_bluff_97 : decode cX9_bluff 97 = .ok (.ireturn, 1) := by decide +kernel
theorem dX9_draw_0 : decode cX9_draw 0 = .ok (.aload_n 0, 1) := by decide +kernel
theorem dX9_draw_1 : decode cX9_draw 1 = .ok (.aload_n 0, 1) := by decide +kernel
theorem dX9_draw_2 : decode cX9_draw 2 = .ok (.getfield 409, 3) := by decide +kernel
theorem dX9_draw_5 : decode cX9_draw 5 = .ok (.ldc_w 412, 3) := by decide +kernel
theorem dX9_draw_8 : decode cX9_draw 8 = .ok (.imul, 1) := by decide +kernel
theorem dX9_draw_9 : decode cX9_draw 9 = .ok (.sipush 12345, 3) := by decide +kernel
theorem dX9_draw_12 : decode cX9_draw 12 = .ok (.iadd, 1) := by decide +kernel
theorem dX9_draw_13 : decode cX9_draw 13 = .ok (.putfield 409, 3) := by decide +kernel
theorem dX9_draw_16 : decode cX9_draw 16 = .ok (.aload_n 0, 1) := by decide +kernel
theorem dX9_draw_17 : decode cX9_draw 17 = .ok (.getfield 409, 3) := by decide +kernel
theorem dX9_draw_20 : decode cX9_draw 20 = .ok (.bipush 16, 2) := by decide +kernel
theorem dX9_draw_22 : decode cX9_draw 22 = .ok (.iushr, 1) := by decide +kernel
theorem dX9_draw_23 : decode cX9_draw 23 = .ok (.iload_n 1, 1) := by decide +kernel
theorem dX9_draw_24 : decode cX9_draw 24 = .ok (.irem, 1) := by decide +kernel
theorem dX9_draw_25 : decode cX9_draw 25 = .ok (.ireturn, 1) := by decide +kernel
set_option maxRecDepth 20000 in
theorem ggX9_playsOn_X9_calledNow : GoodIn wsX9_playsOn wsX9_calledNow := goodIn_r _ [6, 7, 8, 9, 10, 5, 11, 12, 13, 14, 15, 1, 16, 17, 18, 19, 20, 21, 22, 23, 24, 25, 26, 27, 28, 95, 96, 97, 98, 99, 100, 101, 102, 103, 104, 105, 106, 107, 108, 109, 110, 111, 112, 113, 114, 115, 116, 117, 118, 119, 120, 121, 122, 123, 124, 125, 126, 127, 128, 129, 130, 131, 132, 133, 134] (by decide +kernel) (by decide +kernel)
set_option maxRecDepth 20000 in
theorem gX9_playsOn_X9_calledNow : GoodIn wsX9_playsOn (wsV RX9 147 RX9 yX9_calledNow wsX9_calledNow) := goodIn_app (goodIn_of _ (by decide +kernel)) ggX9_playsOn_X9_calledNow
set_option maxRecDepth 20000 in
theorem ggX9_playsOn_X9_draw : GoodIn wsX9_playsOn wsX9_draw := goodIn_r _ [32, 33, 34, 95, 96, 97, 98, 99, 100, 101, 102, 103, 104, 105, 106, 107, 108, 109, 110, 111, 112, 113, 114, 115, 116, 117, 118, 119, 120, 121, 122, 123, 124, 125, 126, 127, 128, 129, 130, 131, 132, 133, 134] (by decide +kernel) (by decide +kernel)
set_option maxRecDepth 20000 in
theorem gX9_playsOn_X9_draw : GoodIn wsX9_playsOn (wsV RX9 413 RX9 yX9_draw wsX9_draw) := goodIn_app (goodIn_of _ (by decide +kernel)) ggX9_playsOn_X9_draw
set_option maxRecDepth 20000 in
theorem ggX9_playsOn_X9_of : GoodIn wsX9_playsOn wsX9_of := goodIn_r _ [15, 1, 95, 96, 97, 98, 99, 100, 101, 102, 103, 104, 105, 106, 107, 108, 109, 110, 111, 112, 113, 114, 115, 116, 117, 118, 119, 120, 121, 122, 123, 124, 125, 126, 127, 128, 129, 130, 131, 132, 133, 134] (by decide +kernel) (by decide +kernel)
set_option maxRecDepth 20000 in
theorem gX9_playsOn_X9_of : GoodIn wsX9_playsOn (wsV RX9 106 RX9 yX9_of wsX9_of) := goodIn_app (goodIn_of _ (by decide +kernel)) ggX9_playsOn_X9_of
set_option maxRecDepth 20000 in
theorem ggX9_playsOn_X9_oddsOf : GoodIn wsX9_playsOn wsX9_oddsOf := goodIn_r _ [38, 39, 40, 41, 42, 43, 44, 45, 46, 5, 47, 48, 49, 50, 95, 96, 97, 98, 99, 100, 101, 102, 103, 104, 105, 106, 107, 108, 109, 110, 111, 112, 113, 114, 115, 116, 117, 118, 119, 120, 121, 122, 123, 124, 125, 126, 127, 128, 129, 130, 131, 132, 133, 134] (by decide +kernel) (by decide +kernel)
set_option maxRecDepth 20000 in
theorem gX9_playsOn_X9_oddsOf : GoodIn wsX9_playsOn (wsV RX9 245 RX9 yX9_oddsOf wsX9_oddsOf) := goodIn_app (goodIn_of _ (by decide +kernel)) ggX9_playsOn_X9_oddsOf
set_option maxRecDepth 20000 in
theorem ggX9_playsOn_X9_doesTry : GoodIn wsX9_playsOn wsX9_doesTry := goodIn_r _ [54, 1, 55, 40, 41, 42, 43, 56, 57, 58, 12, 13, 14, 5, 15, 59, 60, 61, 62, 63, 64, 65, 66, 67, 68, 69, 70, 71, 72, 73, 74, 75, 76, 77, 78, 7, 20, 21, 22, 23, 2, 3, 4, 6, 8, 9, 10, 11, 16, 17, 18, 19, 24, 25, 26, 27, 28, 79, 80, 81, 82, 83, 84, 85, 86, 87, 88, 89, 90, 91, 92, 93, 94, 95, 96, 97, 98, 99, 100, 101, 102, 103, 104, 105, 106, 107, 108, 109, 110, 111, 112, 113, 114, 115, 116, 117, 118, 119, 120, 121, 122, 123, 124, 125, 126, 127, 128, 129, 130, 131, 132, 133, 134] (by decide +kernel) (by decide +kernel)
set_option maxRecDepth 20000 in
theorem gX9_playsOn_X9_doesTry : GoodIn wsX9_playsOn (wsV RX9 255 RX9 yX9_doesTry wsX9_doesTry) := goodIn_app (goodIn_of _ (by decide +kernel)) ggX9_playsOn_X9_doesTry
theorem dX9_playsOn_0 : decode cX9_playsOn 0 = .ok (.iconst 0, 1) := by decide +kernel
theorem dX9_playsOn_1 : decode cX9_playsOn 1 = .ok (.istore_n 1, 1) := by decide +kernel
theorem dX9_playsOn_2 : decode cX9_playsOn 2 = .ok (.aload_n 0, 1) := by decide +kernel
theorem dX9_playsOn_3 : decode cX9_playsOn 3 = .ok (.invokevirtual 147, 3) := by decide +kernel
theorem dX9_playsOn_6 : decode cX9_playsOn 6 = .ok (.istore_n 2, 1) := by decide +kernel
theorem dX9_playsOn_7 : decode cX9_playsOn 7 = .ok (.iload_n 2, 1) := by decide +kernel
theorem dX9_playsOn_8 : decode cX9_playsOn 8 = .ok (.iconst (-1), 1) := by decide +kernel
theorem dX9_playsOn_9 : decode cX9_playsOn 9 = .ok (.if_icmp .eq 57, 3) := by decide +kernel
theorem dX9_playsOn_12 : decode cX9_playsOn 12 = .ok (.aload_n 0, 1) := by decide +kernel
theorem dX9_playsOn_13 : decode cX9_playsOn 13 = .ok (.iload_n 2, 1) := by decide +kernel
theorem dX9_playsOn_14 : decode cX9_playsOn 14 = .ok (.aload_n 0, 1) := by decide +kernel
theorem dX9_playsOn_15 : decode cX9_playsOn 15 = .ok (.sipush 1000, 3) := by decide +kernel
theorem dX9_playsOn_18 : decode cX9_playsOn 18 = .ok (.invokevirtual 413, 3) := by decide +kernel
theorem dX9_playsOn_21 : decode cX9_playsOn 21 = .ok (.aload_n 0, 1) := by decide +kernel
theorem dX9_playsOn_22 : decode cX9_playsOn 22 = .ok (.iload_n 2, 1) := by decide +kernel
theorem dX9_playsOn_23 : decode cX9_playsOn 23 = .ok (.aload_n 0, 1) := by decide +kernel
theorem dX9_playsOn_24 : decode cX9_playsOn 24 = .ok (.getfield 32, 3) := by decide +kernel
theorem dX9_playsOn_27 : decode cX9_playsOn 27 = .ok (.iconst 0, 1) := by decide +kernel
theorem dX9_playsOn_28 : decode cX9_playsOn 28 = .ok (.iaload, 1) := by decide +kernel
theorem dX9_playsOn_29 : decode cX9_playsOn 29 = .ok (.aload_n 0, 1) := by decide +kernel
theorem dX9_playsOn_30 : decode cX9_playsOn 30 = .ok (.iload_n 2, 1) := by decide +kernel
theorem dX9_playsOn_31 : decode cX9_playsOn 31 = .ok (.iconst 0, 1) := by decide +kernel
theorem dX9_playsOn_32 : decode cX9_playsOn 32 = .ok (.invokevirtual 106, 3) := by decide +kernel
theorem dX9_playsOn_35 : decode cX9_playsOn 35 = .ok (.aload_n 0, 1) := by decide +kernel
theorem dX9_playsOn_36 : decode cX9_playsOn 36 = .ok (.iload_n 2, 1) := by decide +kernel
theorem dX9_playsOn_37 : decode cX9_playsOn 37 = .ok (.iconst 4, 1) := by decide +kernel
theorem dX9_playsOn_38 : decode cX9_playsOn 38 = .ok (.invokevirtual 106, 3) := by decide +kernel
theorem dX9_playsOn_41 : decode cX9_playsOn 41 = .ok (.invokevirtual 245, 3) := by decide +kernel
theorem dX9_playsOn_44 : decode cX9_playsOn 44 = .ok (.if_icmp .ge 7, 3) := by decide +kernel
theorem dX9_playsOn_47 : decode cX9_playsOn 47 = .ok (.iconst 1, 1) := by decide +kernel
theorem dX9_playsOn_48 : decode cX9_playsOn 48 = .ok (.goto 4, 3) := by decide +kernel
theorem dX9_playsOn_51 : decode cX9_playsOn 51 = .ok (.iconst 0, 1) := by decide +kernel
theorem dX9_playsOn_52 : decode cX9_playsOn 52 = .ok (.invokevirtual 255, 3) := by decide +kernel
theorem dX9_playsOn_55 : decode cX9_playsOn 55 = .ok (.iinc 1 1, 3) := by decide +kernel
theorem dX9_playsOn_58 : decode cX9_playsOn 58 = .ok (.aload_n 0, 1) := by decide +kernel
theorem dX9_playsOn_59 : decode cX9_playsOn 59 = .ok (.invokevirtual 147, 3) := by decide +kernel
theorem dX9_playsOn_62 : decode cX9_playsOn 62 = .ok (.istore_n 2, 1) := by decide +kernel
theorem dX9_playsOn_63 : decode cX9_playsOn 63 = .ok (.goto (-56), 3) := by decide +kernel
theorem dX9_playsOn_66 : decode cX9_playsOn 66 = .ok (.iload_n 1, 1) := by decide +kernel
theorem dX9_playsOn_67 : decode cX9_playsOn 67 = .ok (.ireturn, 1) := by decide +kernel
set_option maxRecDepth 20000 in
theorem ggX9_plays_X9_calledNow : GoodIn wsX9_plays wsX9_calledNow := goodIn_r _ [7, 8, 9, 10, 11, 6, 12, 13, 14, 15, 16, 17, 18, 19, 20, 21, 22, 23, 24, 25, 26, 27, 28, 29, 30, 127, 128, 129, 130, 131, 132, 133, 134, 135, 136, 137, 138, 139, 140, 141, 142, 143, 144, 145, 146, 147, 148, 149, 150, 151, 152, 153, 154, 155, 156, 157, 158, 159, 160, 161, 162, 163, 164, 165, 166] (by decide +kernel) (by decide +kernel)
set_option maxRecDepth 20000 in
theorem gX9_plays_X9_calledNow : GoodIn wsX9_plays (wsV RX9 147 RX9 yX9_calledNow wsX9_calledNow) := goodIn_app (goodIn_of _ (by decide +kernel)) ggX9_plays_X9_calledNow
set_option maxRecDepth 20000 in
theorem ggX9_plays_X9_playsOn : GoodIn wsX9_plays wsX9_playsOn := goodIn_r _ [34, 17, 3, 4, 5, 6, 7, 8, 9, 10, 11, 12, 13, 14, 15, 16, 18, 19, 20, 21, 22, 23, 24, 25, 26, 27, 28, 29, 30, 35, 36, 37, 38, 2, 39, 40, 41, 42, 43, 44, 45, 46, 47, 48, 49, 50, 51, 52, 53, 54, 55, 56, 57, 58, 59, 60, 61, 62, 63, 64, 65, 66, 67, 68, 69, 70, 71, 72, 73, 74, 75, 76, 77, 78, 79, 80, 81, 82, 83, 84, 85, 86, 87, 88, 89, 90, 91, 92, 93, 94, 95, 96, 97, 98, 99, 127, 128, 129, 130, 131, 132, 133, 134, 135, 136, 137, 138, 139, 140, 141, 142, 143, 144, 145, 146, 147, 148, 149, 150, 151, 152, 153, 154, 155, 156, 157, 158, 159, 160, 161, 162, 163, 164, 165, 166] (by decide +kernel) (by decide +kernel)
set_option maxRecDepth 20000 in
theorem gX9_plays_X9_playsOn : GoodIn wsX9_plays (wsV RX9 416 RX9 yX9_playsOn wsX9_playsOn) := goodIn_app (goodIn_of _ (by decide +kernel)) ggX9_plays_X9_playsOn
set_option maxRecDepth 20000 in
theorem ggX9_plays_X9_entersPlaces : GoodIn wsX9_plays wsX9_entersPlaces := goodIn_r _ [103, 104, 8, 105, 106, 107, 6, 108, 109, 110, 111, 112, 18, 19, 20, 21, 13, 14, 15, 16, 17, 113, 114, 115, 116, 117, 118, 119, 120, 121, 30, 77, 78, 79, 122, 123, 124, 125, 126, 127, 128, 129, 130, 131, 132, 133, 134, 135, 136, 137, 138, 139, 140, 141, 142, 143, 144, 145, 146, 147, 148, 149, 150, 151, 152, 153, 154, 155, 156, 157, 158, 159, 160, 161, 162, 163, 164, 165, 166] (by decide +kernel) (by decide +kernel)
set_option maxRecDepth 20000 in
theorem gX9_plays_X9_entersPlaces : GoodIn wsX9_plays (wsV RX9 261 RX9 yX9_entersPlaces wsX9_entersPlaces) := goodIn_app (goodIn_of _ (by decide +kernel)) ggX9_plays_X9_entersPlaces
theorem dX9_plays_0 : decode cX9_plays 0 = .ok (.aload_n 0, 1) := by decide +kernel
theorem dX9_plays_1 : decode cX9_plays 1 = .ok (.iconst 0, 1) := by decide +kernel
theorem dX9_plays_2 : decode cX9_plays 2 = .ok (.putfield 77, 3) := by decide +kernel
theorem dX9_plays_5 : decode cX9_plays 5 = .ok (.aload_n 0, 1) := by decide +kernel
theorem dX9_plays_6 : decode cX9_plays 6 = .ok (.invokevirtual 147, 3) := by decide +kernel
theorem dX9_plays_9 : decode cX9_plays 9 = .ok (.iconst (-1), 1) := by decide +kernel
theorem dX9_plays_10 : decode cX9_plays 10 = .ok (.if_icmp .ne 6, 3) := by decide +kernel
theorem dX9_plays_13 : decode cX9_plays 13 = .ok (.bipush (-2), 2) := by decide +kernel
theorem dX9_plays_15 : decode cX9_plays 15 = .ok (.ireturn, 1) := by decide +kernel
theorem dX9_plays_16 : decode cX9_plays 16 = .ok (.aload_n 0, 1) := by decide +kernel
theorem dX9_plays_17 : decode cX9_plays 17 = .ok (.iload_n 1, 1) := by decide +kernel
theorem dX9_plays_18 : decode cX9_plays 18 = .ok (.putfield 409, 3) := by decide +kernel
theorem dX9_plays_21 : decode cX9_plays 21 = .ok (.aload_n 0, 1) := by decide +kernel
theorem dX9_plays_22 : decode cX9_plays 22 = .ok (.invokevirtual 416, 3) := by decide +kernel
theorem dX9_plays_25 : decode cX9_plays 25 = .ok (.istore_n 2, 1) := by decide +kernel
theorem dX9_plays_26 : decode cX9_plays 26 = .ok (.aload_n 0, 1) := by decide +kernel
theorem dX9_plays_27 : decode cX9_plays 27 = .ok (.invokevirtual 261, 3) := by decide +kernel
theorem dX9_plays_30 : decode cX9_plays 30 = .ok (.iload_n 2, 1) := by decide +kernel
theorem dX9_plays_31 : decode cX9_plays 31 = .ok (.ireturn, 1) := by decide +kernel
set_option maxRecDepth 20000 in
theorem ggX9_often_X9_isLifter : GoodIn wsX9_often wsX9_isLifter := goodIn_r _ [13, 14, 15, 16, 12, 17, 132, 133, 134, 135, 136, 137, 138, 139, 140, 141, 142, 143, 144, 145, 146, 147, 148, 149, 150, 151, 152, 153, 154, 155, 156, 157, 158, 159, 160, 161, 162, 163, 164, 165, 166, 167, 168, 169, 170, 171] (by decide +kernel) (by decide +kernel)
set_option maxRecDepth 20000 in
theorem gX9_often_X9_isLifter : GoodIn wsX9_often (wsV RX9 233 RX9 yX9_isLifter wsX9_isLifter) := goodIn_app (goodIn_of _ (by decide +kernel)) ggX9_often_X9_isLifter
set_option maxRecDepth 20000 in
theorem ggX9_often_X9_in : GoodIn wsX9_often wsX9_in := goodIn_r _ [17] (by decide +kernel) (by decide +kernel)
set_option maxRecDepth 20000 in
theorem gX9_often_X9_in : GoodIn wsX9_often (va_wsS RX9 87 yX9_in wsX9_in) := goodIn_app (goodIn_of _ (by decide +kernel)) ggX9_often_X9_in
set_option maxRecDepth 20000 in
theorem ggX9_often_X9_playsOn : GoodIn wsX9_often wsX9_playsOn := goodIn_r _ [21, 5, 22, 23, 24, 12, 25, 14, 26, 27, 28, 29, 30, 31, 32, 33, 34, 35, 36, 37, 38, 39, 40, 41, 42, 43, 44, 45, 46, 47, 48, 49, 50, 7, 51, 52, 53, 54, 55, 56, 57, 58, 59, 60, 61, 62, 63, 64, 65, 66, 67, 68, 69, 70, 71, 72, 73, 3, 4, 74, 75, 76, 77, 78, 79, 80, 81, 82, 83, 84, 85, 86, 87, 88, 89, 90, 91, 92, 93, 94, 95, 96, 97, 98, 99, 100, 101, 102, 103, 104, 105, 106, 107, 108, 109, 132, 133, 134, 135, 136, 137, 138, 139, 140, 141, 142, 143, 144, 145, 146, 147, 148, 149, 150, 151, 152, 153, 154, 155, 156, 157, 158, 159, 160, 161, 162, 163, 164, 165, 166, 167, 168, 169, 170, 171] (by decide +kernel) (by decide +kernel)
set_option maxRecDepth 20000 in
theorem gX9_often_X9_playsOn : GoodIn wsX9_often (wsV RX9 416 RX9 yX9_playsOn wsX9_playsOn) := goodIn_app (goodIn_of _ (by decide +kernel)) ggX9_often_X9_playsOn
set_option maxRecDepth 20000 in
theorem ggX9_often_X9_isOut : GoodIn wsX9_often wsX9_isOut := goodIn_r _ [37, 30, 31, 32, 12, 33, 5, 132, 133, 134, 135, 136, 137, 138, 139, 140, 141, 142, 143, 144, 145, 146, 147, 148, 149, 150, 151, 152, 153, 154, 155, 156, 157, 158, 159, 160, 161, 162, 163, 164, 165, 166, 167, 168, 169, 170, 171] (by decide +kernel) (by decide +kernel)
set_option maxRecDepth 20000 in
theorem gX9_often_X9_isOut : GoodIn wsX9_often (wsV RX9 121 RX9 yX9_isOut wsX9_isOut) := goodIn_app (goodIn_of _ (by decide +kernel)) ggX9_often_X9_isOut
set_option maxRecDepth 20000 in
theorem ggX9_often_X9_aheadOf : GoodIn wsX9_often wsX9_aheadOf := goodIn_r _ [113, 14, 114, 115, 116, 12, 117, 34, 35, 36, 37, 30, 31, 32, 33, 5, 118, 119, 120, 121, 122, 123, 124, 125, 126, 46, 87, 88, 89, 132, 133, 134, 135, 136, 137, 138, 139, 140, 141, 142, 143, 144, 145, 146, 147, 148, 149, 150, 151, 152, 153, 154, 155, 156, 157, 158, 159, 160, 161, 162, 163, 164, 165, 166, 167, 168, 169, 170, 171] (by decide +kernel) (by decide +kernel)
set_option maxRecDepth 20000 in
theorem gX9_often_X9_aheadOf : GoodIn wsX9_often (wsV RX9 177 RX9 yX9_aheadOf wsX9_aheadOf) := goodIn_app (goodIn_of _ (by decide +kernel)) ggX9_often_X9_aheadOf
set_option maxRecDepth 20000 in
theorem ggX9_often_X9_flag : GoodIn wsX9_often wsX9_flag := goodIn_r _ [89] (by decide +kernel) (by decide +kernel)
set_option maxRecDepth 20000 in
theorem gX9_often_X9_flag : GoodIn wsX9_often (va_wsS RX9 160 yX9_flag wsX9_flag) := goodIn_app (goodIn_of _ (by decide +kernel)) ggX9_often_X9_flag
set_option maxRecDepth 20000 in
theorem ggX9_often_X9_sumOf : GoodIn wsX9_often wsX9_sumOf := goodIn_r _ [121, 34, 35, 36, 12, 37, 30, 31, 32, 33, 5, 132, 133, 134, 135, 136, 137, 138, 139, 140, 141, 142, 143, 144, 145, 146, 147, 148, 149, 150, 151, 152, 153, 154, 155, 156, 157, 158, 159, 160, 161, 162, 163, 164, 165, 166, 167, 168, 169, 170, 171] (by decide +kernel) (by decide +kernel)
set_option maxRecDepth 20000 in
theorem gX9_often_X9_sumOf : GoodIn wsX9_often (wsV RX9 167 RX9 yX9_sumOf wsX9_sumOf) := goodIn_app (goodIn_of _ (by decide +kernel)) ggX9_often_X9_sumOf
set_option maxRecDepth 20000 in
theorem ggX9_often_X9_notes : GoodIn wsX9_often wsX9_notes := goodIn_r _ [130, 131, 8, 132, 133, 134, 135, 136, 137, 138, 139, 140, 141, 142, 143, 144, 145, 146, 147, 148, 149, 150, 151, 152, 153, 154, 155, 156, 157, 158, 159, 160, 161, 162, 163, 164, 165, 166, 167, 168, 169, 170, 171] (by decide +kernel) (by decide +kernel)
set_option maxRecDepth 20000 in
theorem gX9_often_X9_notes : GoodIn wsX9_often (wsV RX9 180 RX9 yX9_notes wsX9_notes) := goodIn_app (goodIn_of _ (by decide +kernel)) ggX9_often_X9_notes
theorem dX9_often_0 : decode cX9_often 0 = .ok (.aload_n 0, 1) := by decide +kernel
theorem dX9_often_1 : decode cX9_often 1 = .ok (.iconst 0, 1) := by decide +kernel
theorem dX9_often_2 : decode cX9_often 2 = .ok (.putfield 77, 3) := by decide +kernel
theorem dX9_often_5 : decode cX9_often 5 = .ok (.aload_n 0, 1) := by decide +kernel
theorem dX9_often_6 : decode cX9_often 6 = .ok (.iload_n 1, 1) := by decide +kernel
theorem dX9_often_7 : decode cX9_often 7 = .ok (.invokevirtual 233, 3) := by decide +kernel
theorem dX9_often_10 : decode cX9_often 10 = .ok (.ifCond .eq 15, 3) := by decide +kernel
theorem dX9_often_13 : decode cX9_often 13 = .ok (.iload_n 2, 1) := by decide +kernel
theorem dX9_often_14 : decode cX9_often 14 = .ok (.i2l, 1) := by decide +kernel
theorem dX9_often_15 : decode cX9_often 15 = .ok (.lconst 1, 1) := by decide +kernel
theorem dX9_often_16 : decode cX9_often 16 = .ok (.ldc2_w 419, 3) := by decide +kernel
theorem dX9_often_19 : decode cX9_often 19 = .ok (.invokestatic 87, 3) := by decide +kernel
theorem dX9_often_22 : decode cX9_often 22 = .ok (.ifCond .ne 5, 3) := by decide +kernel
theorem dX9_often_25 : decode cX9_often 25 = .ok (.iconst (-1), 1) := by decide +kernel
theorem dX9_often_26 : decode cX9_often 26 = .ok (.ireturn, 1) := by decide +kernel
theorem dX9_often_27 : decode cX9_often 27 = .ok (.aload_n 0, 1) := by decide +kernel
theorem dX9_often_28 : decode cX9_often 28 = .ok (.getfield 131, 3) := by decide +kernel
theorem dX9_often_31 : decode cX9_often 31 = .ok (.istore 4, 2) := by decide +kernel
theorem dX9_often_33 : decode cX9_often 33 = .ok (.aload_n 0, 1) := by decide +kernel
theorem dX9_often_34 : decode cX9_often 34 = .ok (.getfield 134, 3) := by decide +kernel
theorem dX9_often_37 : decode cX9_often 37 = .ok (.istore 5, 2) := by decide +kernel
theorem dX9_often_39 : decode cX9_often 39 = .ok (.iconst 0, 1) := by decide +kernel
theorem dX9_often_40 : decode cX9_often 40 = .ok (.istore 6, 2) := by decide +kernel
theorem dX9_often_42 : decode cX9_often 42 = .ok (.iload 6, 2) := by decide +kernel
theorem dX9_often_44 : decode cX9_often 44 = .ok (.aload_n 0, 1) := by decide +kernel
theorem dX9_often_45 : decode cX9_often 45 = .ok (.getfield 32, 3) := by decide +kernel
theorem dX9_often_48 : decode cX9_often 48 = .ok (.arraylength, 1) := by decide +kernel
theorem dX9_often_49 : decode cX9_often 49 = .ok (.if_icmp .ge 23, 3) := by decide +kernel
theorem dX9_often_52 : decode cX9_often 52 = .ok (.aload_n 0, 1) := by decide +kernel
theorem dX9_often_53 : decode cX9_often 53 = .ok (.getfield 35, 3) := by decide +kernel
theorem dX9_often_56 : decode cX9_often 56 = .ok (.iload 6, 2) := by decide +kernel
theorem dX9_often_58 : decode cX9_often 58 = .ok (.aload_n 0, 1) := by decide +kernel
theorem dX9_often_59 : decode cX9_often 59 = .ok (.getfield 32, 3) := by decide +kernel
theorem dX9_often_62 : decode cX9_often 62 = .ok (.iload 6, 2) := by decide +kernel
theorem dX9_often_64 : decode cX9_often 64 = .ok (.iaload, 1) := by decide +kernel
theorem dX9_often_65 : decode cX9_often 65 = .ok (.iastore, 1) := by decide +kernel
theorem dX9_often_66 : decode cX9_often 66 = .ok (.iinc 6 1, 3) := by decide +kernel
theorem dX9_often_69 : decode cX9_often 69 = .ok (.goto (-27), 3) := by decide +kernel
theorem dX9_often_72 : decode cX9_often 72 = .ok (.aload_n 0, 1) := by decide +kernel
theorem dX9_often_73 : decode cX9_often 73 = .ok (.iload_n 3, 1) := by decide +kernel
theorem dX9_often_74 : decode cX9_often 74 = .ok (.putfield 409, 3) := by decide +kernel
theorem dX9_often_77 : decode cX9_often 77 = .ok (.iconst 0, 1) := by decide +kernel
theorem dX9_often_78 : decode cX9_often 78 = .ok (.istore 6, 2) := by decide +kernel
theorem dX9_often_80 : decode cX9_often 80 = .ok (.iconst 0, 1) := by decide +kernel
theorem dX9_often_81 : decode cX9_often 81 = .ok (.istore 7, 2) := by decide +kernel
theorem dX9_often_83 : decode cX9_often 83 = .ok (.iconst 0, 1) := by decide +kernel
theorem dX9_often_84 : decode cX9_often 84 = .ok (.istore 8, 2) := by decide +kernel
theorem dX9_often_86 : decode cX9_often 86 = .ok (.iconst 0, 1) := by decide +kernel
theorem dX9_often_87 : decode cX9_often 87 = .ok (.istore 9, 2) := by decide +kernel
theorem dX9_often_89 : decode cX9_often 89 = .ok (.iload 9, 2) := by decide +kernel
theorem dX9_often_91 : decode cX9_often 91 = .ok (.iload_n 2, 1) := by decide +kernel
theorem dX9_often_92 : decode cX9_often 92 = .ok (.if_icmp .ge 111, 3) := by decide +kernel
theorem dX9_often_95 : decode cX9_often 95 = .ok (.aload_n 0, 1) := by decide +kernel
theorem dX9_often_96 : decode cX9_often 96 = .ok (.invokevirtual 416, 3) := by decide +kernel
theorem dX9_often_99 : decode cX9_often 99 = .ok (.pop, 1) := by decide +kernel
theorem dX9_often_100 : decode cX9_often 100 = .ok (.iload 6, 2) := by decide +kernel
theorem dX9_often_102 : decode cX9_often 102 = .ok (.aload_n 0, 1) := by decide +kernel
theorem dX9_often_103 : decode cX9_often 103 = .ok (.iload_n 1, 1) := by decide +kernel
theorem dX9_often_104 : decode cX9_often 104 = .ok (.invokevirtual 121, 3) := by decide +kernel
theorem dX9_often_107 : decode cX9_often 107 = .ok (.ifCond .ne 15, 3) := by decide +kernel
theorem dX9_often_110 : decode cX9_often 110 = .ok (.aload_n 0, 1) := by decide +kernel
theorem dX9_often_111 : decode cX9_often 111 = .ok (.iload_n 1, 1) := by decide +kernel
theorem dX9_often_112 : decode cX9_often 112 = .ok (.invokevirtual 177, 3) := by decide +kernel
theorem dX9_often_115 : decode cX9_often 115 = .ok (.ifCond .ne 7, 3) := by decide +kernel
theorem dX9_often_118 : decode cX9_often 118 = .ok (.iconst 1, 1) := by decide +kernel
theorem dX9_often_119 : decode cX9_often 119 = .ok (.goto 4, 3) := by decide +kernel
theorem dX9_often_122 : decode cX9_often 122 = .ok (.iconst 0, 1) := by decide +kernel
theorem dX9_often_123 : decode cX9_often 123 = .ok (.invokestatic 160, 3) := by decide +kernel
theorem dX9_often_126 : decode cX9_often 126 = .ok (.iadd, 1) := by decide +kernel
theorem dX9_often_127 : decode cX9_often 127 = .ok (.istore 6, 2) := by decide +kernel
theorem dX9_often_129 : decode cX9_often 129 = .ok (.iload 7, 2) := by decide +kernel
theorem dX9_often_131 : decode cX9_often 131 = .ok (.aload_n 0, 1) := by decide +kernel
theorem dX9_often_132 : decode cX9_often 132 = .ok (.iload_n 1, 1) := by decide +kernel
theorem dX9_often_133 : decode cX9_often 133 = .ok (.invokevirtual 121, 3) := by decide +kernel
theorem dX9_often_136 : decode cX9_often 136 = .ok (.invokestatic 160, 3) := by decide +kernel
theorem dX9_often_139 : decode cX9_often 139 = .ok (.iadd, 1) := by decide +kernel
theorem dX9_often_140 : decode cX9_often 140 = .ok (.istore 7, 2) := by decide +kernel
theorem dX9_often_142 : decode cX9_often 142 = .ok (.iload 8, 2) := by decide +kernel
theorem dX9_often_144 : decode cX9_often 144 = .ok (.aload_n 0, 1) := by decide +kernel
theorem dX9_often_145 : decode cX9_often 145 = .ok (.iload_n 1, 1) := by decide +kernel
theorem dX9_often_146 : decode cX9_often 146 = .ok (.invokevirtual 167, 3) := by decide +kernel
theorem dX9_often_149 : decode cX9_often 149 = .ok (.iadd, 1) := by decide +kernel
theorem dX9_often_150 : decode cX9_often 150 = .ok (.istore 8, 2) := by decide +kernel
theorem dX9_often_152 : decode cX9_often 152 = .ok (.iconst 0, 1) := by decide +kernel
theorem dX9_often_153 : decode cX9_often 153 = .ok (.istore 10, 2) := by decide +kernel
theorem dX9_often_155 : decode cX9_often 155 = .ok (.iload 10, 2) := by decide +kernel
theorem dX9_often_157 : decode cX9_often 157 = .ok (.aload_n 0, 1) := by decide +kernel
theorem dX9_often_158 : decode cX9_often 158 = .ok (.getfield 32, 3) := by decide +kernel
theorem dX9_often_161 : decode cX9_often 161 = .ok (.arraylength, 1) := by decide +kernel
theorem dX9_often_162 : decode cX9_often 162 = .ok (.if_icmp .ge 23, 3) := by decide +kernel
theorem dX9_often_165 : decode cX9_often 165 = .ok (.aload_n 0, 1) := by decide +kernel
theorem dX9_often_166 : decode cX9_often 166 = .ok (.getfield 32, 3) := by decide +kernel
theorem dX9_often_169 : decode cX9_often 169 = .ok (.iload 10, 2) := by decide +kernel
theorem dX9_often_171 : decode cX9_often 171 = .ok (.aload_n 0, 1) := by decide +kernel
theorem dX9_often_172 : decode cX9_often 172 = .ok (.getfield 35, 3) := by decide +kernel
theorem dX9_often_175 : decode cX9_often 175 = .ok (.iload 10, 2) := by decide +kernel
theorem dX9_often_177 : decode cX9_often 177 = .ok (.iaload, 1) := by decide +kernel
theorem dX9_often_178 : decode cX9_often 178 = .ok (.iastore, 1) := by decide +kernel
theorem dX9_often_179 : decode cX9_often 179 = .ok (.iinc 10 1, 3) := by decide +kernel
theorem dX9_often_182 : decode cX9_often 182 = .ok (.goto (-27), 3) := by decide +kernel
theorem dX9_often_185 : decode cX9_often 185 = .ok (.aload_n 0, 1) := by decide +kernel
theorem dX9_often_186 : decode cX9_often 186 = .ok (.iload 4, 2) := by decide +kernel
theorem dX9_often_188 : decode cX9_often 188 = .ok (.putfield 131, 3) := by decide +kernel
theorem dX9_often_191 : decode cX9_often 191 = .ok (.aload_n 0, 1) := by decide +kernel
theorem dX9_often_192 : decode cX9_often 192 = .ok (.iload 5, 2) := by decide +kernel
theorem dX9_often_194 : decode cX9_often 194 = .ok (.putfield 134, 3) := by decide +kernel
theorem dX9_often_197 : decode cX9_often 197 = .ok (.iinc 9 1, 3) := by decide +kernel
theorem dX9_often_200 : decode cX9_often 200 = .ok (.goto (-111), 3) := by decide +kernel
theorem dX9_often_203 : decode cX9_often 203 = .ok (.aload_n 0, 1) := by decide +kernel
theorem dX9_often_204 : decode cX9_often 204 = .ok (.iconst 0, 1) := by decide +kernel
theorem dX9_often_205 : decode cX9_often 205 = .ok (.putfield 81, 3) := by decide +kernel
theorem dX9_often_208 : decode cX9_often 208 = .ok (.aload_n 0, 1) := by decide +kernel
theorem dX9_often_209 : decode cX9_often 209 = .ok (.iload 7, 2) := by decide +kernel
theorem dX9_often_211 : decode cX9_often 211 = .ok (.i2l, 1) := by decide +kernel
theorem dX9_often_212 : decode cX9_often 212 = .ok (.invokevirtual 180, 3) := by decide +kernel
theorem dX9_often_215 : decode cX9_often 215 = .ok (.aload_n 0, 1) := by decide +kernel
theorem dX9_often_216 : decode cX9_often 216 = .ok (.iload 8, 2) := by decide +kernel
theorem dX9_often_218 : decode cX9_often 218 = .ok (.i2l, 1) := by decide +kernel
theorem dX9_often_219 : decode cX9_often 219 = .ok (.invokevirtual 180, 3) := by decide +kernel
theorem dX9_often_222 : decode cX9_often 222 = .ok (.iload 6, 2) := by decide +kernel
theorem dX9_often_224 : decode cX9_often 224 = .ok (.ireturn, 1) := by decide +kernel
set_option maxRecDepth 20000 in
theorem ggX9_outs_X9_of : GoodIn wsX9_outs wsX9_of := goodIn_r _ [6, 7, 8, 9, 10, 11, 12, 13, 14, 15, 16, 17, 18, 19, 20, 21, 22, 23, 24, 25, 26, 27, 28, 29, 30, 31, 32, 33, 34, 35, 36, 37, 38, 39, 40, 41, 42, 43, 44, 45, 46, 47] (by decide +kernel) (by decide +kernel)
set_option maxRecDepth 20000 in
theorem gX9_outs_X9_of : GoodIn wsX9_outs (wsV RX9 106 RX9 yX9_of wsX9_of) := goodIn_app (goodIn_of _ (by decide +kernel)) ggX9_outs_X9_of
theorem dX9_outs_0 : decode cX9_outs 0 = .ok (.iconst 0, 1) := by decide +kernel
theorem dX9_outs_1 : decode cX9_outs 1 = .ok (.istore_n 1, 1) := by decide +kernel
theorem dX9_outs_2 : decode cX9_outs 2 = .ok (.iconst 0, 1) := by decide +kernel
theorem dX9_outs_3 : decode cX9_outs 3 = .ok (.istore_n 2, 1) := by decide +kernel
theorem dX9_outs_4 : decode cX9_outs 4 = .ok (.iload_n 2, 1) := by decide +kernel
theorem dX9_outs_5 : decode cX9_outs 5 = .ok (.aload_n 0, 1) := by decide +kernel
theorem dX9_outs_6 : decode cX9_outs 6 = .ok (.getfield 84, 3) := by decide +kernel
theorem dX9_outs_9 : decode cX9_outs 9 = .ok (.if_icmp .ge 21, 3) := by decide +kernel
theorem dX9_outs_12 : decode cX9_outs 12 = .ok (.iload_n 1, 1) := by decide +kernel
theorem dX9_outs_13 : decode cX9_outs 13 = .ok (.aload_n 0, 1) := by decide +kernel
theorem dX9_outs_14 : decode cX9_outs 14 = .ok (.iload_n 2, 1) := by decide +kernel
theorem dX9_outs_15 : decode cX9_outs 15 = .ok (.bipush 6, 2) := by decide +kernel
theorem dX9_outs_17 : decode cX9_outs 17 = .ok (.invokevirtual 106, 3) := by decide +kernel
theorem dX9_outs_20 : decode cX9_outs 20 = .ok (.iload_n 2, 1) := by decide +kernel
theorem dX9_outs_21 : decode cX9_outs 21 = .ok (.ishl, 1) := by decide +kernel
theorem dX9_outs_22 : decode cX9_outs 22 = .ok (.ior, 1) := by decide +kernel
theorem dX9_outs_23 : decode cX9_outs 23 = .ok (.istore_n 1, 1) := by decide +kernel
theorem dX9_outs_24 : decode cX9_outs 24 = .ok (.iinc 2 1, 3) := by decide +kernel
theorem dX9_outs_27 : decode cX9_outs 27 = .ok (.goto (-23), 3) := by decide +kernel
theorem dX9_outs_30 : decode cX9_outs 30 = .ok (.iload_n 1, 1) := by decide +kernel
theorem dX9_outs_31 : decode cX9_outs 31 = .ok (.ireturn, 1) := by decide +kernel
set_option maxRecDepth 20000 in
theorem ggX9_count_X9_outs : GoodIn wsX9_count wsX9_outs := goodIn_r _ [13, 2, 14, 15, 16, 12, 17, 3, 18, 19, 20, 21, 22, 23, 24, 25, 26, 27, 28, 29, 30, 31, 32, 33, 34, 35, 36, 37, 38, 39, 40, 41, 42, 43, 44, 45, 46, 47, 48, 49, 50, 51, 52, 53, 54, 55, 56, 57] (by decide +kernel) (by decide +kernel)
set_option maxRecDepth 20000 in
theorem gX9_count_X9_outs : GoodIn wsX9_count (wsV RX9 421 RX9 yX9_outs wsX9_outs) := goodIn_app (goodIn_of _ (by decide +kernel)) ggX9_count_X9_outs
theorem dX9_count_0 : decode cX9_count 0 = .ok (.aload_n 0, 1) := by decide +kernel
theorem dX9_count_1 : decode cX9_count 1 = .ok (.iconst 0, 1) := by decide +kernel
theorem dX9_count_2 : decode cX9_count 2 = .ok (.putfield 77, 3) := by decide +kernel
theorem dX9_count_5 : decode cX9_count 5 = .ok (.iload_n 1, 1) := by decide +kernel
theorem dX9_count_6 : decode cX9_count 6 = .ok (.tableswitch 110 0 9 #[54, 59, 66, 73, 80, 85, 90, 95, 100, 105], 54) := by decide +kernel
theorem dX9_count_60 : decode cX9_count 60 = .ok (.aload_n 0, 1) := by decide +kernel
theorem dX9_count_61 : decode cX9_count 61 = .ok (.getfield 84, 3) := by decide +kernel
theorem dX9_count_64 : decode cX9_count 64 = .ok (.ireturn, 1) := by decide +kernel
theorem dX9_count_65 : decode cX9_count 65 = .ok (.aload_n 0, 1) := by decide +kernel
theorem dX9_count_66 : decode cX9_count 66 = .ok (.getfield 32, 3) := by decide +kernel
theorem dX9_count_69 : decode cX9_count 69 = .ok (.iconst 0, 1) := by decide +kernel
theorem dX9_count_70 : decode cX9_count 70 = .ok (.iaload, 1) := by decide +kernel
theorem dX9_count_71 : decode cX9_count 71 = .ok (.ireturn, 1) := by decide +kernel
theorem dX9_count_72 : decode cX9_count 72 = .ok (.aload_n 0, 1) := by decide +kernel
theorem dX9_count_73 : decode cX9_count 73 = .ok (.getfield 32, 3) := by decide +kernel
theorem dX9_count_76 : decode cX9_count 76 = .ok (.iconst 1, 1) := by decide +kernel
theorem dX9_count_77 : decode cX9_count 77 = .ok (.iaload, 1) := by decide +kernel
theorem dX9_count_78 : decode cX9_count 78 = .ok (.ireturn, 1) := by decide +kernel
theorem dX9_count_79 : decode cX9_count 79 = .ok (.aload_n 0, 1) := by decide +kernel
theorem dX9_count_80 : decode cX9_count 80 = .ok (.getfield 32, 3) := by decide +kernel
theorem dX9_count_83 : decode cX9_count 83 = .ok (.iconst 2, 1) := by decide +kernel
theorem dX9_count_84 : decode cX9_count 84 = .ok (.iaload, 1) := by decide +kernel
theorem dX9_count_85 : decode cX9_count 85 = .ok (.ireturn, 1) := by decide +kernel
theorem dX9_count_86 : decode cX9_count 86 = .ok (.aload_n 0, 1) := by decide +kernel
theorem dX9_count_87 : decode cX9_count 87 = .ok (.getfield 131, 3) := by decide +kernel
theorem dX9_count_90 : decode cX9_count 90 = .ok (.ireturn, 1) := by decide +kernel
theorem dX9_count_91 : decode cX9_count 91 = .ok (.aload_n 0, 1) := by decide +kernel
theorem dX9_count_92 : decode cX9_count 92 = .ok (.getfield 134, 3) := by decide +kernel
theorem dX9_count_95 : decode cX9_count 95 = .ok (.ireturn, 1) := by decide +kernel
theorem dX9_count_96 : decode cX9_count 96 = .ok (.aload_n 0, 1) := by decide +kernel
theorem dX9_count_97 : decode cX9_count 97 = .ok (.getfield 97, 3) := by decide +kernel
theorem dX9_count_100 : decode cX9_count 100 = .ok (.ireturn, 1) := by decide +kernel
theorem dX9_count_101 : decode cX9_count 101 = .ok (.aload_n 0, 1) := by decide +kernel
theorem dX9_count_102 : decode cX9_count 102 = .ok (.getfield 81, 3) := by decide +kernel
theorem dX9_count_105 : decode cX9_count 105 = .ok (.ireturn, 1) := by decide +kernel
theorem dX9_count_106 : decode cX9_count 106 = .ok (.aload_n 0, 1) := by decide +kernel
theorem dX9_count_107 : decode cX9_count 107 = .ok (.getfield 184, 3) := by decide +kernel
theorem dX9_count_110 : decode cX9_count 110 = .ok (.ireturn, 1) := by decide +kernel
theorem dX9_count_111 : decode cX9_count 111 = .ok (.aload_n 0, 1) := by decide +kernel
theorem dX9_count_112 : decode cX9_count 112 = .ok (.invokevirtual 421, 3) := by decide +kernel
theorem dX9_count_115 : decode cX9_count 115 = .ok (.ireturn, 1) := by decide +kernel
theorem dX9_count_116 : decode cX9_count 116 = .ok (.iconst (-1), 1) := by decide +kernel
theorem dX9_count_117 : decode cX9_count 117 = .ok (.ireturn, 1) := by decide +kernel
set_option maxRecDepth 20000 in
theorem ggX9_row_X9_in : GoodIn wsX9_row wsX9_in := goodIn_r _ [7] (by decide +kernel) (by decide +kernel)
set_option maxRecDepth 20000 in
theorem gX9_row_X9_in : GoodIn wsX9_row (va_wsS RX9 87 yX9_in wsX9_in) := goodIn_app (goodIn_of _ (by decide +kernel)) ggX9_row_X9_in
set_option maxRecDepth 20000 in
theorem ggX9_row_X9_flag : GoodIn wsX9_row wsX9_flag := goodIn_r _ [10] (by decide +kernel) (by decide +kernel)
set_option maxRecDepth 20000 in
theorem gX9_row_X9_flag : GoodIn wsX9_row (va_wsS RX9 160 yX9_flag wsX9_flag) := goodIn_app (goodIn_of _ (by decide +kernel)) ggX9_row_X9_flag
theorem dX9_row_0 : decode cX9_row 0 = .ok (.aload_n 0, 1) := by decide +kernel
theorem dX9_row_1 : decode cX9_row 1 = .ok (.iload_n 1, 1) := by decide +kernel
theorem dX9_row_2 : decode cX9_row 2 = .ok (.i2l, 1) := by decide +kernel
theorem dX9_row_3 : decode cX9_row 3 = .ok (.lconst 0, 1) := by decide +kernel
theorem dX9_row_4 : decode cX9_row 4 = .ok (.aload_n 0, 1) := by decide +kernel
theorem dX9_row_5 : decode cX9_row 5 = .ok (.getfield 81, 3) := by decide +kernel
theorem dX9_row_8 : decode cX9_row 8 = .ok (.iconst 1, 1) := by decide +kernel
theorem dX9_row_9 : decode cX9_row 9 = .ok (.isub, 1) := by decide +kernel
theorem dX9_row_10 : decode cX9_row 10 = .ok (.i2l, 1) := by decide +kernel
theorem dX9_row_11 : decode cX9_row 11 = .ok (.invokestatic 87, 3) := by decide +kernel
theorem dX9_row_14 : decode cX9_row 14 = .ok (.ifCond .ne 7, 3) := by decide +kernel
theorem dX9_row_17 : decode cX9_row 17 = .ok (.iconst 1, 1) := by decide +kernel
theorem dX9_row_18 : decode cX9_row 18 = .ok (.goto 4, 3) := by decide +kernel
theorem dX9_row_21 : decode cX9_row 21 = .ok (.iconst 0, 1) := by decide +kernel
theorem dX9_row_22 : decode cX9_row 22 = .ok (.invokestatic 160, 3) := by decide +kernel
theorem dX9_row_25 : decode cX9_row 25 = .ok (.putfield 77, 3) := by decide +kernel
theorem dX9_row_28 : decode cX9_row 28 = .ok (.aload_n 0, 1) := by decide +kernel
theorem dX9_row_29 : decode cX9_row 29 = .ok (.getfield 77, 3) := by decide +kernel
theorem dX9_row_32 : decode cX9_row 32 = .ok (.iconst 1, 1) := by decide +kernel
theorem dX9_row_33 : decode cX9_row 33 = .ok (.if_icmp .ne 7, 3) := by decide +kernel
theorem dX9_row_36 : decode cX9_row 36 = .ok (.lconst 0, 1) := by decide +kernel
theorem dX9_row_37 : decode cX9_row 37 = .ok (.goto 9, 3) := by decide +kernel
theorem dX9_row_40 : decode cX9_row 40 = .ok (.aload_n 0, 1) := by decide +kernel
theorem dX9_row_41 : decode cX9_row 41 = .ok (.getfield 7, 3) := by decide +kernel
theorem dX9_row_44 : decode cX9_row 44 = .ok (.iload_n 1, 1) := by decide +kernel
theorem dX9_row_45 : decode cX9_row 45 = .ok (.laload, 1) := by decide +kernel
theorem dX9_row_46 : decode cX9_row 46 = .ok (.lreturn, 1) := by decide +kernel
theorem dJ9_max_7cf53_0 : decode cJ9_max_7cf53 0 = .ok (.iload_n 0, 1) := by decide +kernel
theorem dJ9_max_7cf53_1 : decode cJ9_max_7cf53 1 = .ok (.iload_n 1, 1) := by decide +kernel
theorem dJ9_max_7cf53_2 : decode cJ9_max_7cf53 2 = .ok (.if_icmp .lt 7, 3) := by decide +kernel
theorem dJ9_max_7cf53_5 : decode cJ9_max_7cf53 5 = .ok (.iload_n 0, 1) := by decide +kernel
theorem dJ9_max_7cf53_6 : decode cJ9_max_7cf53 6 = .ok (.goto 4, 3) := by decide +kernel
theorem dJ9_max_7cf53_9 : decode cJ9_max_7cf53 9 = .ok (.iload_n 1, 1) := by decide +kernel
theorem dJ9_max_7cf53_10 : decode cJ9_max_7cf53 10 = .ok (.ireturn, 1) := by decide +kernel
theorem dJ9_min_7cf53_0 : decode cJ9_min_7cf53 0 = .ok (.iload_n 0, 1) := by decide +kernel
theorem dJ9_min_7cf53_1 : decode cJ9_min_7cf53 1 = .ok (.iload_n 1, 1) := by decide +kernel
theorem dJ9_min_7cf53_2 : decode cJ9_min_7cf53 2 = .ok (.if_icmp .gt 7, 3) := by decide +kernel
theorem dJ9_min_7cf53_5 : decode cJ9_min_7cf53 5 = .ok (.iload_n 0, 1) := by decide +kernel
theorem dJ9_min_7cf53_6 : decode cJ9_min_7cf53 6 = .ok (.goto 4, 3) := by decide +kernel
theorem dJ9_min_7cf53_9 : decode cJ9_min_7cf53 9 = .ok (.iload_n 1, 1) := by decide +kernel
theorem dJ9_min_7cf53_10 : decode cJ9_min_7cf53 10 = .ok (.ireturn, 1) := by decide +kernel
theorem dJ7_fill_53178_0 : decode cJ7_fill_53178 0 = .ok (.iconst 0, 1) := by decide +kernel
theorem dJ7_fill_53178_1 : decode cJ7_fill_53178 1 = .ok (.istore_n 2, 1) := by decide +kernel
theorem dJ7_fill_53178_2 : decode cJ7_fill_53178 2 = .ok (.aload_n 0, 1) := by decide +kernel
theorem dJ7_fill_53178_3 : decode cJ7_fill_53178 3 = .ok (.arraylength, 1) := by decide +kernel
theorem dJ7_fill_53178_4 : decode cJ7_fill_53178 4 = .ok (.istore_n 3, 1) := by decide +kernel
theorem dJ7_fill_53178_5 : decode cJ7_fill_53178 5 = .ok (.iload_n 2, 1) := by decide +kernel
theorem dJ7_fill_53178_6 : decode cJ7_fill_53178 6 = .ok (.iload_n 3, 1) := by decide +kernel
theorem dJ7_fill_53178_7 : decode cJ7_fill_53178 7 = .ok (.if_icmp .ge 13, 3) := by decide +kernel
theorem dJ7_fill_53178_10 : decode cJ7_fill_53178 10 = .ok (.aload_n 0, 1) := by decide +kernel
theorem dJ7_fill_53178_11 : decode cJ7_fill_53178 11 = .ok (.iload_n 2, 1) := by decide +kernel
theorem dJ7_fill_53178_12 : decode cJ7_fill_53178 12 = .ok (.iload_n 1, 1) := by decide +kernel
theorem dJ7_fill_53178_13 : decode cJ7_fill_53178 13 = .ok (.iastore, 1) := by decide +kernel
theorem dJ7_fill_53178_14 : decode cJ7_fill_53178 14 = .ok (.iinc 2 1, 3) := by decide +kernel
theorem dJ7_fill_53178_17 : decode cJ7_fill_53178 17 = .ok (.goto (-12), 3) := by decide +kernel
theorem dJ7_fill_53178_20 : decode cJ7_fill_53178 20 = .ok (.return_, 1) := by decide +kernel
set_option maxRecDepth 20000 in
theorem ggL_row_X8_row : GoodIn wsL_row wsX8_row := goodIn_ca (goodIn_r _ [6, 7, 8, 9, 10, 11, 12, 13, 14, 15, 16, 17, 18, 19, 20, 21, 22] (by decide +kernel) (by decide +kernel)) (goodIn_sub (fun _ h => List.mem_cons_of_mem _ (List.mem_append_right _ h)) (by decide +kernel))
set_option maxRecDepth 20000 in
theorem gL_row_X8_row : GoodIn wsL_row (wsV RL 7 RX8 yX8_row wsX8_row) := goodIn_app (goodIn_of _ (by decide +kernel)) ggL_row_X8_row
theorem dL_row_0 : decode cL_row 0 = .ok (.aload_n 2, 1) := by decide +kernel
theorem dL_row_1 : decode cL_row 1 = .ok (.iconst 0, 1) := by decide +kernel
theorem dL_row_2 : decode cL_row 2 = .ok (.aload_n 0, 1) := by decide +kernel
theorem dL_row_3 : decode cL_row 3 = .ok (.iload_n 1, 1) := by decide +kernel
theorem dL_row_4 : decode cL_row 4 = .ok (.invokevirtual 7, 3) := by decide +kernel
theorem dL_row_7 : decode cL_row 7 = .ok (.lastore, 1) := by decide +kernel
theorem dL_row_8 : decode cL_row 8 = .ok (.goto 6, 3) := by decide +kernel
theorem dL_row_11 : decode cL_row 11 = .ok (.astore_n 3, 1) := by decide +kernel
theorem dL_row_12 : decode cL_row 12 = .ok (.iconst 1, 1) := by decide +kernel
theorem dL_row_13 : decode cL_row 13 = .ok (.ireturn, 1) := by decide +kernel
theorem dL_row_14 : decode cL_row 14 = .ok (.iconst 0, 1) := by decide +kernel
theorem dL_row_15 : decode cL_row 15 = .ok (.ireturn, 1) := by decide +kernel
set_option maxRecDepth 20000 in
theorem ggL_law_X8_init : GoodIn wsL_law wsX8_init := goodIn_r _ [9, 10, 11, 12, 13, 14, 15, 16, 17, 18, 19, 20, 21, 22, 23, 24, 25, 26, 27, 28, 29, 30, 31, 32, 33, 34, 35, 36, 37, 38, 39, 40, 6, 41, 42, 43, 44, 45, 46, 47, 48, 49, 50, 51, 52, 53, 54, 55, 56, 57, 58, 59, 60, 61, 62, 63, 64, 65, 66, 67, 68, 69, 70, 71, 72, 73, 74, 75, 76, 77, 78, 79, 80, 81, 82, 83, 84, 85, 86, 87, 88, 89, 90, 91, 92, 93, 94, 1276, 1277, 1278, 1279, 1224, 1225, 1226, 1227, 1228, 1229, 1230, 1231, 1232, 1233, 1234, 1235, 1280, 1281, 1282, 1283, 1284, 1285, 1286, 1287, 1288, 1289, 1290, 1291, 1292, 1293, 1294, 1295, 1296, 1297, 1298, 1299, 1300, 1301, 1302, 1303, 1304, 1305, 1306, 1307, 1308, 1309, 1310, 1311, 1312, 1313] (by decide +kernel) (by decide +kernel)
set_option maxRecDepth 20000 in
theorem gL_law_X8_init : GoodIn wsL_law (wsX8_init) := ggL_law_X8_init
set_option maxRecDepth 20000 in
theorem ggL_law_X9_init : GoodIn wsL_law wsX9_init := goodIn_r _ [97, 98, 11, 12, 6, 99, 39, 100, 101, 102, 103, 104, 105, 106, 107, 108, 109, 110, 111, 112, 113, 114, 115, 116, 117, 118, 119, 120, 1236, 1237, 1238, 1239, 1240, 1241, 1242, 1243, 1244, 1245, 1246, 1247, 1248, 1249, 1250, 1251, 1252, 1253, 1254, 1255, 1256, 1257, 1258, 1259, 1260, 1261, 1262, 1263, 1264, 1265, 1266, 1267, 1268, 1269, 1270, 1271, 1272, 1273, 1274, 1275] (by decide +kernel) (by decide +kernel)
set_option maxRecDepth 20000 in
theorem gL_law_X9_init : GoodIn wsL_law (wsX9_init) := ggL_law_X9_init
set_option maxRecDepth 20000 in
theorem ggL_law_X8_sign : GoodIn wsL_law wsX8_sign := goodIn_r _ [124, 16, 125, 126, 127, 128, 15, 129, 50, 49, 1224, 1225, 1226, 1227, 1228, 1229, 1230, 1231, 1232, 1233, 1234, 1235, 1276, 1277, 1278, 1279] (by decide +kernel) (by decide +kernel)
set_option maxRecDepth 20000 in
theorem gL_law_X8_sign : GoodIn wsL_law (wsV RL 19 RX8 yX8_sign wsX8_sign) := goodIn_app (goodIn_of _ (by decide +kernel)) ggL_law_X8_sign
set_option maxRecDepth 20000 in
theorem ggL_law_X9_sign : GoodIn wsL_law wsX9_sign := goodIn_r _ [133, 134, 135, 109, 1236, 1237, 1238, 1239, 1240, 1241, 1242, 1243, 1244, 1245, 1246, 1247, 1248, 1249, 1250, 1251, 1252, 1253, 1254, 1255, 1256, 1257, 1258, 1259, 1260, 1261, 1262, 1263, 1264, 1265, 1266, 1267, 1268, 1269, 1270, 1271, 1272, 1273, 1274, 1275] (by decide +kernel) (by decide +kernel)
set_option maxRecDepth 20000 in
theorem gL_law_X9_sign : GoodIn wsL_law (wsV RL 23 RX9 yX9_sign wsX9_sign) := goodIn_app (goodIn_of _ (by decide +kernel)) ggL_law_X9_sign
set_option maxRecDepth 20000 in
theorem ggL_law_X8_end : GoodIn wsL_law wsX8_end := goodIn_r _ [139, 16, 140, 141, 142, 15, 143, 50, 1224, 1225, 1226, 1227, 1228, 1229, 1230, 1231, 1232, 1233, 1234, 1235, 1276, 1277, 1278, 1279] (by decide +kernel) (by decide +kernel)
set_option maxRecDepth 20000 in
theorem gL_law_X8_end : GoodIn wsL_law (wsV RL 24 RX8 yX8_end wsX8_end) := goodIn_app (goodIn_of _ (by decide +kernel)) ggL_law_X8_end
set_option maxRecDepth 20000 in
theorem ggL_law_X9_end : GoodIn wsL_law wsX9_end := goodIn_r _ [147, 134, 135, 148, 149, 5, 150, 1236, 1237, 1238, 1239, 1240, 1241, 1242, 1243, 1244, 1245, 1246, 1247, 1248, 1249, 1250, 1251, 1252, 1253, 1254, 1255, 1256, 1257, 1258, 1259, 1260, 1261, 1262, 1263, 1264, 1265, 1266, 1267, 1268, 1269, 1270, 1271, 1272, 1273, 1274, 1275] (by decide +kernel) (by decide +kernel)
set_option maxRecDepth 20000 in
theorem gL_law_X9_end : GoodIn wsL_law (wsV RL 28 RX9 yX9_end wsX9_end) := goodIn_app (goodIn_of _ (by decide +kernel)) ggL_law_X9_end
set_option maxRecDepth 20000 in
theorem ggL_law_X8_enters : GoodIn wsL_law wsX8_enters := goodIn_r _ [154, 16, 18, 24, 155, 156, 157, 158, 15, 159, 51, 52, 160, 161, 162, 50, 163, 164, 165, 166, 49, 167, 168, 169, 170, 171, 172, 173, 174, 175, 176, 177, 178, 179, 180, 20, 181, 56, 182, 183, 184, 185, 140, 141, 142, 143, 186, 187, 188, 23, 189, 64, 76, 77, 71, 72, 190, 191, 192, 193, 62, 67, 78, 194, 73, 74, 195, 196, 197, 198, 65, 66, 69, 70, 1224, 1225, 1226, 1227, 1228, 1229, 1230, 1231, 1232, 1233, 1234, 1235, 1284, 1285, 1286, 1287, 1288, 1289, 1290, 1291, 1292, 1293, 1294, 1295, 1296, 1297, 1298, 1299, 1276, 1277, 1278, 1279, 1280, 1281, 1282, 1283] (by decide +kernel) (by decide +kernel)
set_option maxRecDepth 20000 in
theorem gL_law_X8_enters : GoodIn wsL_law (wsV RL 29 RX8 yX8_enters wsX8_enters) := goodIn_app (goodIn_of _ (by decide +kernel)) ggL_law_X8_enters
set_option maxRecDepth 20000 in
theorem ggL_law_X9_enters : GoodIn wsL_law wsX9_enters := goodIn_r _ [202, 134, 135, 203, 204, 205, 100, 206, 101, 207, 102, 110, 103, 111, 104, 112, 105, 113, 208, 209, 210, 5, 211, 212, 213, 214, 215, 216, 217, 218, 219, 220, 109, 221, 222, 223, 224, 225, 226, 148, 149, 150, 227, 228, 229, 230, 231, 232, 233, 234, 235, 236, 237, 238, 239, 240, 241, 242, 243, 244, 245, 246, 106, 247, 248, 249, 250, 251, 252, 253, 254, 255, 256, 257, 258, 259, 260, 261, 262, 263, 264, 265, 266, 267, 268, 269, 270, 271, 272, 273, 274, 275, 276, 277, 278, 279, 280, 1236, 1237, 1238, 1239, 1240, 1241, 1242, 1243, 1244, 1245, 1246, 1247, 1248, 1249, 1250, 1251, 1252, 1253, 1254, 1255, 1256, 1257, 1258, 1259, 1260, 1261, 1262, 1263, 1264, 1265, 1266, 1267, 1268, 1269, 1270, 1271, 1272, 1273, 1274, 1275] (by decide +kernel) (by decide +kernel)
set_option maxRecDepth 20000 in
theorem gL_law_X9_enters : GoodIn wsL_law (wsV RL 33 RX9 yX9_enters wsX9_enters) := goodIn_app (goodIn_of _ (by decide +kernel)) ggL_law_X9_enters
set_option maxRecDepth 20000 in
theorem ggL_law_X8_leaves : GoodIn wsL_law wsX8_leaves := goodIn_r _ [284, 24, 155, 186, 187, 188, 23, 189, 64, 76, 77, 71, 72, 190, 191, 192, 193, 62, 67, 78, 194, 73, 74, 195, 196, 197, 198, 65, 66, 69, 70, 1224, 1225, 1226, 1227, 1228, 1229, 1230, 1231, 1232, 1233, 1234, 1235, 1284, 1285, 1286, 1287, 1288, 1289, 1290, 1291, 1292, 1293, 1294, 1295, 1296, 1297, 1298, 1299, 1280, 1281, 1282, 1283] (by decide +kernel) (by decide +kernel)
set_option maxRecDepth 20000 in
theorem gL_law_X8_leaves : GoodIn wsL_law (wsV RL 34 RX8 yX8_leaves wsX8_leaves) := goodIn_app (goodIn_of _ (by decide +kernel)) ggL_law_X8_leaves
set_option maxRecDepth 20000 in
theorem ggL_law_X9_leaves : GoodIn wsL_law wsX9_leaves := goodIn_r _ [288, 134, 205, 243, 244, 245, 5, 246, 106, 247, 248, 249, 250, 251, 252, 253, 254, 255, 256, 257, 258, 259, 260, 261, 262, 263, 264, 265, 266, 267, 268, 105, 269, 270, 271, 272, 273, 274, 275, 276, 277, 278, 279, 280, 1236, 1237, 1238, 1239, 1240, 1241, 1242, 1243, 1244, 1245, 1246, 1247, 1248, 1249, 1250, 1251, 1252, 1253, 1254, 1255, 1256, 1257, 1258, 1259, 1260, 1261, 1262, 1263, 1264, 1265, 1266, 1267, 1268, 1269, 1270, 1271, 1272, 1273, 1274, 1275] (by decide +kernel) (by decide +kernel)
set_option maxRecDepth 20000 in
theorem gL_law_X9_leaves : GoodIn wsL_law (wsV RL 37 RX9 yX9_leaves wsX9_leaves) := goodIn_app (goodIn_of _ (by decide +kernel)) ggL_law_X9_leaves
set_option maxRecDepth 20000 in
theorem ggL_law_X8_plans : GoodIn wsL_law wsX8_plans := goodIn_r _ [292, 18, 293, 24, 294, 295, 296, 2, 297, 155, 298, 299, 300, 301, 302, 303, 304, 305, 306, 186, 187, 188, 23, 189, 64, 76, 77, 71, 72, 190, 191, 192, 193, 62, 67, 78, 194, 73, 74, 195, 196, 197, 198, 65, 66, 69, 70, 1224, 1225, 1226, 1227, 1228, 1229, 1230, 1231, 1232, 1233, 1234, 1235, 1280, 1281, 1282, 1283, 1284, 1285, 1286, 1287, 1288, 1289, 1290, 1291, 1292, 1293, 1294, 1295, 1296, 1297, 1298, 1299] (by decide +kernel) (by decide +kernel)
set_option maxRecDepth 20000 in
theorem gL_law_X8_plans : GoodIn wsL_law (wsV RL 38 RX8 yX8_plans wsX8_plans) := goodIn_app (goodIn_of _ (by decide +kernel)) ggL_law_X8_plans
set_option maxRecDepth 20000 in
theorem ggL_law_X9_plans : GoodIn wsL_law wsX9_plans := goodIn_r _ [310, 134, 311, 312, 313, 105, 314, 315, 316, 5, 317, 205, 148, 149, 150, 318, 319, 320, 265, 266, 267, 268, 243, 244, 245, 246, 106, 247, 248, 249, 250, 251, 252, 253, 254, 255, 256, 257, 258, 259, 260, 261, 262, 263, 264, 269, 270, 271, 272, 273, 274, 275, 276, 277, 278, 279, 280, 1236, 1237, 1238, 1239, 1240, 1241, 1242, 1243, 1244, 1245, 1246, 1247, 1248, 1249, 1250, 1251, 1252, 1253, 1254, 1255, 1256, 1257, 1258, 1259, 1260, 1261, 1262, 1263, 1264, 1265, 1266, 1267, 1268, 1269, 1270, 1271, 1272, 1273, 1274, 1275] (by decide +kernel) (by decide +kernel)
set_option maxRecDepth 20000 in
theorem gL_law_X9_plans : GoodIn wsL_law (wsV RL 42 RX9 yX9_plans wsX9_plans) := goodIn_app (goodIn_of _ (by decide +kernel)) ggL_law_X9_plans
set_option maxRecDepth 20000 in
theorem ggL_law_X8_tires : GoodIn wsL_law wsX8_tires := goodIn_r _ [324, 24, 325, 1224, 1225, 1226, 1227, 1228, 1229, 1230, 1231, 1232, 1233, 1234, 1235, 1284, 1285, 1286, 1287, 1288, 1289, 1290, 1291, 1292, 1293, 1294, 1295, 1296, 1297, 1298, 1299] (by decide +kernel) (by decide +kernel)
set_option maxRecDepth 20000 in
theorem gL_law_X8_tires : GoodIn wsL_law (wsV RL 43 RX8 yX8_tires wsX8_tires) := goodIn_app (goodIn_of _ (by decide +kernel)) ggL_law_X8_tires
set_option maxRecDepth 20000 in
theorem ggL_law_X9_tires : GoodIn wsL_law wsX9_tires := goodIn_r _ [329, 134, 330, 331, 148, 149, 5, 150, 1236, 1237, 1238, 1239, 1240, 1241, 1242, 1243, 1244, 1245, 1246, 1247, 1248, 1249, 1250, 1251, 1252, 1253, 1254, 1255, 1256, 1257, 1258, 1259, 1260, 1261, 1262, 1263, 1264, 1265, 1266, 1267, 1268, 1269, 1270, 1271, 1272, 1273, 1274, 1275] (by decide +kernel) (by decide +kernel)
set_option maxRecDepth 20000 in
theorem gL_law_X9_tires : GoodIn wsL_law (wsV RL 46 RX9 yX9_tires wsX9_tires) := goodIn_app (goodIn_of _ (by decide +kernel)) ggL_law_X9_tires
set_option maxRecDepth 20000 in
theorem ggL_law_X8_begins : GoodIn wsL_law wsX8_begins := goodIn_r _ [335, 24, 155, 186, 187, 188, 23, 189, 64, 76, 77, 71, 72, 190, 191, 192, 193, 62, 67, 78, 194, 73, 74, 195, 196, 197, 198, 65, 66, 69, 70, 1224, 1225, 1226, 1227, 1228, 1229, 1230, 1231, 1232, 1233, 1234, 1235, 1284, 1285, 1286, 1287, 1288, 1289, 1290, 1291, 1292, 1293, 1294, 1295, 1296, 1297, 1298, 1299, 1280, 1281, 1282, 1283] (by decide +kernel) (by decide +kernel)
set_option maxRecDepth 20000 in
theorem gL_law_X8_begins : GoodIn wsL_law (wsV RL 47 RX8 yX8_begins wsX8_begins) := goodIn_app (goodIn_of _ (by decide +kernel)) ggL_law_X8_begins
set_option maxRecDepth 20000 in
theorem ggL_law_X9_begins : GoodIn wsL_law wsX9_begins := goodIn_r _ [339, 134, 205, 243, 244, 245, 5, 246, 106, 247, 248, 249, 250, 251, 252, 253, 254, 255, 256, 257, 258, 259, 260, 261, 262, 263, 264, 265, 266, 267, 268, 105, 269, 270, 271, 272, 273, 274, 275, 276, 277, 278, 279, 280, 1236, 1237, 1238, 1239, 1240, 1241, 1242, 1243, 1244, 1245, 1246, 1247, 1248, 1249, 1250, 1251, 1252, 1253, 1254, 1255, 1256, 1257, 1258, 1259, 1260, 1261, 1262, 1263, 1264, 1265, 1266, 1267, 1268, 1269, 1270, 1271, 1272, 1273, 1274, 1275] (by decide +kernel) (by decide +kernel)
set_option maxRecDepth 20000 in
theorem gL_law_X9_begins : GoodIn wsL_law (wsV RL 50 RX9 yX9_begins wsX9_begins) := goodIn_app (goodIn_of _ (by decide +kernel)) ggL_law_X9_begins
set_option maxRecDepth 20000 in
theorem ggL_law_X8_odds : GoodIn wsL_law wsX8_odds := goodIn_r _ [343, 18, 24, 325, 294, 295, 296, 2, 297, 155, 298, 299, 300, 304, 305, 306, 344, 345, 346, 20, 347, 56, 348, 349, 350, 351, 1224, 1225, 1226, 1227, 1228, 1229, 1230, 1231, 1232, 1233, 1234, 1235, 1284, 1285, 1286, 1287, 1288, 1289, 1290, 1291, 1292, 1293, 1294, 1295, 1296, 1297, 1298, 1299, 1280, 1281, 1282, 1283] (by decide +kernel) (by decide +kernel)
set_option maxRecDepth 20000 in
theorem gL_law_X8_odds : GoodIn wsL_law (wsV RL 51 RX8 yX8_odds wsX8_odds) := goodIn_app (goodIn_of _ (by decide +kernel)) ggL_law_X8_odds
set_option maxRecDepth 20000 in
theorem ggL_law_X9_odds : GoodIn wsL_law wsX9_odds := goodIn_r _ [355, 134, 312, 311, 314, 315, 316, 5, 317, 205, 148, 149, 150, 318, 319, 320, 356, 357, 358, 359, 331, 360, 349, 350, 351, 361, 362, 363, 364, 102, 103, 104, 1236, 1237, 1238, 1239, 1240, 1241, 1242, 1243, 1244, 1245, 1246, 1247, 1248, 1249, 1250, 1251, 1252, 1253, 1254, 1255, 1256, 1257, 1258, 1259, 1260, 1261, 1262, 1263, 1264, 1265, 1266, 1267, 1268, 1269, 1270, 1271, 1272, 1273, 1274, 1275] (by decide +kernel) (by decide +kernel)
set_option maxRecDepth 20000 in
theorem gL_law_X9_odds : GoodIn wsL_law (wsV RL 54 RX9 yX9_odds wsX9_odds) := goodIn_app (goodIn_of _ (by decide +kernel)) ggL_law_X9_odds
set_option maxRecDepth 20000 in
theorem ggL_law_X8_lifter : GoodIn wsL_law wsX8_lifter := goodIn_r _ [368, 18, 369, 370, 293, 24, 371, 372, 373, 374, 294, 295, 296, 2, 297, 155, 298, 299, 300, 375, 376, 377, 23, 378, 67, 69, 74, 66, 379, 349, 350, 351, 380, 381, 382, 383, 384, 385, 386, 387, 71, 72, 1224, 1225, 1226, 1227, 1228, 1229, 1230, 1231, 1232, 1233, 1234, 1235, 1280, 1281, 1282, 1283, 1284, 1285, 1286, 1287, 1288, 1289, 1290, 1291, 1292, 1293, 1294, 1295, 1296, 1297, 1298, 1299] (by decide +kernel) (by decide +kernel)
set_option maxRecDepth 20000 in
theorem gL_law_X8_lifter : GoodIn wsL_law (wsV RL 55 RX8 yX8_lifter wsX8_lifter) := goodIn_app (goodIn_of _ (by decide +kernel)) ggL_law_X8_lifter
set_option maxRecDepth 20000 in
theorem ggL_law_X9_lifter : GoodIn wsL_law wsX9_lifter := goodIn_r _ [391, 134, 100, 101, 314, 315, 316, 5, 317, 205, 148, 149, 150, 318, 319, 320, 311, 265, 266, 267, 268, 105, 261, 262, 263, 264, 106, 392, 393, 394, 395, 360, 349, 350, 351, 257, 258, 259, 260, 253, 254, 255, 256, 396, 397, 398, 399, 400, 401, 402, 403, 404, 405, 406, 1236, 1237, 1238, 1239, 1240, 1241, 1242, 1243, 1244, 1245, 1246, 1247, 1248, 1249, 1250, 1251, 1252, 1253, 1254, 1255, 1256, 1257, 1258, 1259, 1260, 1261, 1262, 1263, 1264, 1265, 1266, 1267, 1268, 1269, 1270, 1271, 1272, 1273, 1274, 1275] (by decide +kernel) (by decide +kernel)
set_option maxRecDepth 20000 in
theorem gL_law_X9_lifter : GoodIn wsL_law (wsV RL 59 RX9 yX9_lifter wsX9_lifter) := goodIn_app (goodIn_of _ (by decide +kernel)) ggL_law_X9_lifter
set_option maxRecDepth 20000 in
theorem ggL_law_X8_called : GoodIn wsL_law wsX8_called := goodIn_r _ [410, 24, 372, 411, 412, 413, 23, 414, 62, 67, 415, 381, 382, 383, 69, 416, 417, 418, 419, 78, 420, 421, 422, 423, 424, 64, 73, 63, 425, 345, 346, 20, 347, 56, 348, 349, 350, 351, 426, 427, 428, 2, 429, 41, 42, 1224, 1225, 1226, 1227, 1228, 1229, 1230, 1231, 1232, 1233, 1234, 1235, 1284, 1285, 1286, 1287, 1288, 1289, 1290, 1291, 1292, 1293, 1294, 1295, 1296, 1297, 1298, 1299, 1280, 1281, 1282, 1283] (by decide +kernel) (by decide +kernel)
set_option maxRecDepth 20000 in
theorem gL_law_X8_called : GoodIn wsL_law (wsV RL 60 RX8 yX8_called wsX8_called) := goodIn_app (goodIn_of _ (by decide +kernel)) ggL_law_X8_called
set_option maxRecDepth 20000 in
theorem ggL_law_X9_called : GoodIn wsL_law wsX9_called := goodIn_r _ [433, 134, 434, 106, 435, 436, 437, 5, 438, 205, 396, 397, 398, 399, 261, 262, 263, 264, 257, 258, 259, 260, 253, 254, 255, 256, 439, 440, 441, 442, 101, 443, 444, 445, 446, 99, 356, 357, 358, 359, 331, 360, 349, 350, 351, 361, 362, 363, 364, 102, 103, 104, 1236, 1237, 1238, 1239, 1240, 1241, 1242, 1243, 1244, 1245, 1246, 1247, 1248, 1249, 1250, 1251, 1252, 1253, 1254, 1255, 1256, 1257, 1258, 1259, 1260, 1261, 1262, 1263, 1264, 1265, 1266, 1267, 1268, 1269, 1270, 1271, 1272, 1273, 1274, 1275] (by decide +kernel) (by decide +kernel)
set_option maxRecDepth 20000 in
theorem gL_law_X9_called : GoodIn wsL_law (wsV RL 63 RX9 yX9_called wsX9_called) := goodIn_app (goodIn_of _ (by decide +kernel)) ggL_law_X9_called
set_option maxRecDepth 20000 in
theorem ggL_law_X8_order : GoodIn wsL_law wsX8_order := goodIn_r _ [450, 42, 24, 155, 41, 372, 380, 381, 382, 23, 383, 67, 69, 451, 417, 418, 419, 62, 78, 420, 415, 1224, 1225, 1226, 1227, 1228, 1229, 1230, 1231, 1232, 1233, 1234, 1235, 1284, 1285, 1286, 1287, 1288, 1289, 1290, 1291, 1292, 1293, 1294, 1295, 1296, 1297, 1298, 1299, 1280, 1281, 1282, 1283] (by decide +kernel) (by decide +kernel)
set_option maxRecDepth 20000 in
theorem gL_law_X8_order : GoodIn wsL_law (wsV RL 64 RX8 yX8_order wsX8_order) := goodIn_app (goodIn_of _ (by decide +kernel)) ggL_law_X8_order
set_option maxRecDepth 20000 in
theorem ggL_law_X9_order : GoodIn wsL_law wsX9_order := goodIn_r _ [455, 134, 434, 205, 396, 397, 398, 5, 399, 261, 262, 263, 264, 106, 257, 258, 259, 260, 253, 254, 255, 256, 456, 457, 458, 459, 439, 440, 441, 442, 101, 400, 401, 402, 443, 444, 445, 446, 99, 1236, 1237, 1238, 1239, 1240, 1241, 1242, 1243, 1244, 1245, 1246, 1247, 1248, 1249, 1250, 1251, 1252, 1253, 1254, 1255, 1256, 1257, 1258, 1259, 1260, 1261, 1262, 1263, 1264, 1265, 1266, 1267, 1268, 1269, 1270, 1271, 1272, 1273, 1274, 1275] (by decide +kernel) (by decide +kernel)
set_option maxRecDepth 20000 in
theorem gL_law_X9_order : GoodIn wsL_law (wsV RL 67 RX9 yX9_order wsX9_order) := goodIn_app (goodIn_of _ (by decide +kernel)) ggL_law_X9_order
set_option maxRecDepth 20000 in
theorem ggL_law_X8_asks : GoodIn wsL_law wsX8_asks := goodIn_r _ [463, 24, 373, 372, 294, 295, 296, 2, 297, 155, 304, 305, 306, 380, 381, 382, 23, 383, 67, 69, 375, 376, 377, 378, 74, 66, 379, 349, 350, 351, 1224, 1225, 1226, 1227, 1228, 1229, 1230, 1231, 1232, 1233, 1234, 1235, 1284, 1285, 1286, 1287, 1288, 1289, 1290, 1291, 1292, 1293, 1294, 1295, 1296, 1297, 1298, 1299] (by decide +kernel) (by decide +kernel)
set_option maxRecDepth 20000 in
theorem gL_law_X8_asks : GoodIn wsL_law (wsV RL 68 RX8 yX8_asks wsX8_asks) := goodIn_app (goodIn_of _ (by decide +kernel)) ggL_law_X8_asks
set_option maxRecDepth 20000 in
theorem ggL_law_X9_asks : GoodIn wsL_law wsX9_asks := goodIn_r _ [467, 134, 312, 314, 315, 316, 5, 317, 205, 148, 149, 150, 396, 397, 398, 399, 261, 262, 263, 264, 106, 257, 258, 259, 260, 253, 254, 255, 256, 392, 393, 394, 395, 360, 349, 350, 351, 269, 270, 271, 272, 1236, 1237, 1238, 1239, 1240, 1241, 1242, 1243, 1244, 1245, 1246, 1247, 1248, 1249, 1250, 1251, 1252, 1253, 1254, 1255, 1256, 1257, 1258, 1259, 1260, 1261, 1262, 1263, 1264, 1265, 1266, 1267, 1268, 1269, 1270, 1271, 1272, 1273, 1274, 1275] (by decide +kernel) (by decide +kernel)
set_option maxRecDepth 20000 in
theorem gL_law_X9_asks : GoodIn wsL_law (wsV RL 72 RX9 yX9_asks wsX9_asks) := goodIn_app (goodIn_of _ (by decide +kernel)) ggL_law_X9_asks
set_option maxRecDepth 20000 in
theorem ggL_law_X8_tries : GoodIn wsL_law wsX8_tries := goodIn_r _ [471, 24, 372, 411, 412, 413, 23, 414, 62, 67, 415, 381, 382, 383, 69, 416, 417, 418, 419, 78, 420, 472, 473, 474, 475, 64, 76, 194, 75, 66, 379, 349, 350, 351, 77, 72, 74, 73, 65, 426, 427, 428, 2, 429, 41, 42, 476, 477, 478, 479, 480, 195, 196, 197, 198, 70, 481, 482, 483, 484, 71, 190, 191, 192, 193, 1224, 1225, 1226, 1227, 1228, 1229, 1230, 1231, 1232, 1233, 1234, 1235, 1284, 1285, 1286, 1287, 1288, 1289, 1290, 1291, 1292, 1293, 1294, 1295, 1296, 1297, 1298, 1299, 1280, 1281, 1282, 1283] (by decide +kernel) (by decide +kernel)
set_option maxRecDepth 20000 in
theorem gL_law_X8_tries : GoodIn wsL_law (wsV RL 73 RX8 yX8_tries wsX8_tries) := goodIn_app (goodIn_of _ (by decide +kernel)) ggL_law_X8_tries
set_option maxRecDepth 20000 in
theorem ggL_law_X9_tries : GoodIn wsL_law wsX9_tries := goodIn_r _ [488, 134, 434, 489, 435, 436, 437, 5, 438, 205, 396, 397, 398, 399, 261, 262, 263, 264, 106, 257, 258, 259, 260, 253, 254, 255, 256, 439, 440, 441, 442, 101, 490, 491, 492, 493, 360, 349, 350, 351, 108, 247, 248, 494, 495, 496, 497, 265, 266, 267, 268, 105, 269, 270, 271, 272, 400, 401, 402, 498, 499, 500, 501, 502, 503, 504, 505, 249, 250, 251, 252, 273, 274, 275, 276, 277, 278, 279, 280, 443, 444, 445, 446, 99, 1236, 1237, 1238, 1239, 1240, 1241, 1242, 1243, 1244, 1245, 1246, 1247, 1248, 1249, 1250, 1251, 1252, 1253, 1254, 1255, 1256, 1257, 1258, 1259, 1260, 1261, 1262, 1263, 1264, 1265, 1266, 1267, 1268, 1269, 1270, 1271, 1272, 1273, 1274, 1275] (by decide +kernel) (by decide +kernel)
set_option maxRecDepth 20000 in
theorem gL_law_X9_tries : GoodIn wsL_law (wsV RL 77 RX9 yX9_tries wsX9_tries) := goodIn_app (goodIn_of _ (by decide +kernel)) ggL_law_X9_tries
set_option maxRecDepth 20000 in
theorem ggL_law_X8_tried : GoodIn wsL_law wsX8_tried := goodIn_r _ [509, 24, 510, 511, 1224, 1225, 1226, 1227, 1228, 1229, 1230, 1231, 1232, 1233, 1234, 1235, 1284, 1285, 1286, 1287, 1288, 1289, 1290, 1291, 1292, 1293, 1294, 1295, 1296, 1297, 1298, 1299] (by decide +kernel) (by decide +kernel)
set_option maxRecDepth 20000 in
theorem gL_law_X8_tried : GoodIn wsL_law (wsV RL 78 RX8 yX8_tried wsX8_tried) := goodIn_app (goodIn_of _ (by decide +kernel)) ggL_law_X8_tried
set_option maxRecDepth 20000 in
theorem ggL_law_X9_tried : GoodIn wsL_law wsX9_tried := goodIn_r _ [515, 134, 247, 516, 108, 148, 149, 5, 150, 1236, 1237, 1238, 1239, 1240, 1241, 1242, 1243, 1244, 1245, 1246, 1247, 1248, 1249, 1250, 1251, 1252, 1253, 1254, 1255, 1256, 1257, 1258, 1259, 1260, 1261, 1262, 1263, 1264, 1265, 1266, 1267, 1268, 1269, 1270, 1271, 1272, 1273, 1274, 1275] (by decide +kernel) (by decide +kernel)
set_option maxRecDepth 20000 in
theorem gL_law_X9_tried : GoodIn wsL_law (wsV RL 81 RX9 yX9_tried wsX9_tried) := goodIn_app (goodIn_of _ (by decide +kernel)) ggL_law_X9_tried
set_option maxRecDepth 20000 in
theorem ggL_law_X8_place : GoodIn wsL_law wsX8_place := goodIn_r _ [520, 24, 294, 295, 296, 2, 297, 155, 521, 522, 523, 524, 41, 42, 525, 526, 527, 23, 528, 62, 529, 530, 531, 532, 71, 78, 533, 385, 386, 387, 72, 534, 535, 536, 20, 537, 538, 539, 1224, 1225, 1226, 1227, 1228, 1229, 1230, 1231, 1232, 1233, 1234, 1235, 1284, 1285, 1286, 1287, 1288, 1289, 1290, 1291, 1292, 1293, 1294, 1295, 1296, 1297, 1298, 1299, 1280, 1281, 1282, 1283] (by decide +kernel) (by decide +kernel)
set_option maxRecDepth 20000 in
theorem gL_law_X8_place : GoodIn wsL_law (wsV RL 82 RX8 yX8_place wsX8_place) := goodIn_app (goodIn_of _ (by decide +kernel)) ggL_law_X8_place
set_option maxRecDepth 20000 in
theorem ggL_law_X9_place : GoodIn wsL_law wsX9_place := goodIn_r _ [543, 134, 314, 315, 316, 5, 317, 205, 148, 149, 150, 544, 545, 546, 547, 434, 548, 549, 550, 551, 552, 553, 554, 555, 257, 258, 259, 260, 261, 262, 263, 264, 106, 403, 404, 405, 406, 556, 557, 558, 559, 100, 101, 400, 401, 402, 443, 444, 445, 446, 99, 1236, 1237, 1238, 1239, 1240, 1241, 1242, 1243, 1244, 1245, 1246, 1247, 1248, 1249, 1250, 1251, 1252, 1253, 1254, 1255, 1256, 1257, 1258, 1259, 1260, 1261, 1262, 1263, 1264, 1265, 1266, 1267, 1268, 1269, 1270, 1271, 1272, 1273, 1274, 1275] (by decide +kernel) (by decide +kernel)
set_option maxRecDepth 20000 in
theorem gL_law_X9_place : GoodIn wsL_law (wsV RL 85 RX9 yX9_place wsX9_place) := goodIn_app (goodIn_of _ (by decide +kernel)) ggL_law_X9_place
set_option maxRecDepth 20000 in
theorem ggL_law_X8_slot : GoodIn wsL_law wsX8_slot := goodIn_r _ [563, 24, 294, 295, 296, 2, 297, 155, 380, 381, 382, 23, 383, 67, 69, 375, 376, 377, 378, 74, 66, 379, 349, 350, 351, 451, 417, 418, 419, 62, 78, 420, 415, 1224, 1225, 1226, 1227, 1228, 1229, 1230, 1231, 1232, 1233, 1234, 1235, 1284, 1285, 1286, 1287, 1288, 1289, 1290, 1291, 1292, 1293, 1294, 1295, 1296, 1297, 1298, 1299, 1280, 1281, 1282, 1283] (by decide +kernel) (by decide +kernel)
set_option maxRecDepth 20000 in
theorem gL_law_X8_slot : GoodIn wsL_law (wsV RL 86 RX8 yX8_slot wsX8_slot) := goodIn_app (goodIn_of _ (by decide +kernel)) ggL_law_X8_slot
set_option maxRecDepth 20000 in
theorem ggL_law_X9_slot : GoodIn wsL_law wsX9_slot := goodIn_r _ [567, 134, 314, 315, 316, 5, 317, 205, 148, 149, 150, 396, 397, 398, 399, 261, 262, 263, 264, 106, 257, 258, 259, 260, 253, 254, 255, 256, 392, 393, 394, 395, 360, 349, 350, 351, 269, 270, 271, 272, 456, 457, 458, 459, 439, 440, 441, 442, 101, 400, 401, 402, 1236, 1237, 1238, 1239, 1240, 1241, 1242, 1243, 1244, 1245, 1246, 1247, 1248, 1249, 1250, 1251, 1252, 1253, 1254, 1255, 1256, 1257, 1258, 1259, 1260, 1261, 1262, 1263, 1264, 1265, 1266, 1267, 1268, 1269, 1270, 1271, 1272, 1273, 1274, 1275] (by decide +kernel) (by decide +kernel)
set_option maxRecDepth 20000 in
theorem gL_law_X9_slot : GoodIn wsL_law (wsV RL 89 RX9 yX9_slot wsX9_slot) := goodIn_app (goodIn_of _ (by decide +kernel)) ggL_law_X9_slot
set_option maxRecDepth 20000 in
theorem ggL_law_X8_needs : GoodIn wsL_law wsX8_needs := goodIn_r _ [571, 24, 372, 294, 295, 296, 2, 297, 155, 572, 530, 531, 23, 532, 71, 78, 533, 385, 386, 387, 72, 534, 535, 536, 20, 537, 538, 539, 375, 376, 377, 378, 67, 69, 74, 66, 379, 349, 350, 351, 573, 574, 575, 576, 64, 1224, 1225, 1226, 1227, 1228, 1229, 1230, 1231, 1232, 1233, 1234, 1235, 1284, 1285, 1286, 1287, 1288, 1289, 1290, 1291, 1292, 1293, 1294, 1295, 1296, 1297, 1298, 1299, 1280, 1281, 1282, 1283] (by decide +kernel) (by decide +kernel)
set_option maxRecDepth 20000 in
theorem gL_law_X8_needs : GoodIn wsL_law (wsV RL 90 RX8 yX8_needs wsX8_needs) := goodIn_app (goodIn_of _ (by decide +kernel)) ggL_law_X8_needs
set_option maxRecDepth 20000 in
theorem ggL_law_X9_needs : GoodIn wsL_law wsX9_needs := goodIn_r _ [580, 134, 106, 360, 349, 350, 351, 314, 315, 316, 5, 317, 205, 148, 149, 150, 552, 553, 554, 555, 257, 258, 259, 260, 261, 262, 263, 264, 403, 404, 405, 406, 556, 557, 558, 559, 100, 101, 392, 393, 394, 395, 253, 254, 255, 256, 269, 270, 271, 272, 1236, 1237, 1238, 1239, 1240, 1241, 1242, 1243, 1244, 1245, 1246, 1247, 1248, 1249, 1250, 1251, 1252, 1253, 1254, 1255, 1256, 1257, 1258, 1259, 1260, 1261, 1262, 1263, 1264, 1265, 1266, 1267, 1268, 1269, 1270, 1271, 1272, 1273, 1274, 1275] (by decide +kernel) (by decide +kernel)
set_option maxRecDepth 20000 in
theorem gL_law_X9_needs : GoodIn wsL_law (wsV RL 93 RX9 yX9_needs wsX9_needs) := goodIn_app (goodIn_of _ (by decide +kernel)) ggL_law_X9_needs
set_option maxRecDepth 20000 in
theorem ggL_law_X8_mass : GoodIn wsL_law wsX8_mass := goodIn_r _ [584, 33, 294, 295, 296, 2, 297, 24, 155, 585, 586, 587, 32, 588, 85, 86, 589, 590, 591, 592, 37, 18, 325, 29, 593, 594, 595, 36, 596, 90, 91, 92, 94, 597, 598, 599, 600, 601, 602, 603, 28, 604, 605, 606, 607, 608, 609, 610, 611, 612, 613, 614, 615, 616, 617, 618, 619, 620, 385, 386, 23, 387, 71, 72, 621, 376, 377, 378, 67, 69, 74, 66, 379, 349, 350, 351, 622, 623, 624, 625, 626, 627, 628, 629, 630, 631, 632, 633, 634, 635, 636, 637, 638, 639, 640, 641, 642, 643, 644, 645, 345, 346, 20, 347, 56, 348, 646, 647, 1224, 1225, 1226, 1227, 1228, 1229, 1230, 1231, 1232, 1233, 1234, 1235, 1284, 1285, 1286, 1287, 1288, 1289, 1290, 1291, 1292, 1293, 1294, 1295, 1296, 1297, 1298, 1299, 1308, 1309, 1310, 1311, 1312, 1313, 1300, 1301, 1302, 1303, 1304, 1305, 1306, 1307, 1280, 1281, 1282, 1283] (by decide +kernel) (by decide +kernel)
set_option maxRecDepth 20000 in
theorem gL_law_X8_mass : GoodIn wsL_law (wsV RL 94 RX8 yX8_mass wsX8_mass) := goodIn_app (goodIn_of _ (by decide +kernel)) ggL_law_X8_mass
set_option maxRecDepth 20000 in
theorem ggL_law_X9_mass : GoodIn wsL_law wsX9_mass := goodIn_r _ [651, 134, 314, 315, 316, 5, 317, 205, 148, 149, 150, 652, 653, 654, 655, 114, 656, 657, 658, 659, 106, 257, 258, 259, 260, 261, 262, 263, 264, 253, 254, 255, 256, 403, 404, 405, 406, 660, 661, 662, 663, 664, 665, 666, 667, 668, 669, 670, 671, 360, 349, 350, 351, 672, 673, 674, 494, 495, 496, 497, 265, 266, 267, 268, 105, 356, 357, 358, 359, 331, 361, 362, 363, 364, 102, 103, 104, 675, 676, 677, 678, 679, 1236, 1237, 1238, 1239, 1240, 1241, 1242, 1243, 1244, 1245, 1246, 1247, 1248, 1249, 1250, 1251, 1252, 1253, 1254, 1255, 1256, 1257, 1258, 1259, 1260, 1261, 1262, 1263, 1264, 1265, 1266, 1267, 1268, 1269, 1270, 1271, 1272, 1273, 1274, 1275] (by decide +kernel) (by decide +kernel)
set_option maxRecDepth 20000 in
theorem gL_law_X9_mass : GoodIn wsL_law (wsV RL 97 RX9 yX9_mass wsX9_mass) := goodIn_app (goodIn_of _ (by decide +kernel)) ggL_law_X9_mass
set_option maxRecDepth 20000 in
theorem ggL_law_X8_chance : GoodIn wsL_law wsX8_chance := goodIn_r _ [683, 33, 294, 295, 296, 2, 297, 24, 155, 684, 685, 686, 687, 688, 689, 32, 690, 85, 691, 86, 589, 590, 591, 592, 37, 18, 325, 29, 593, 594, 595, 36, 596, 90, 91, 92, 94, 597, 598, 599, 600, 601, 602, 603, 28, 604, 605, 606, 607, 608, 609, 610, 611, 612, 613, 614, 615, 616, 617, 618, 619, 620, 385, 386, 23, 387, 71, 72, 621, 376, 377, 378, 67, 69, 74, 66, 379, 349, 350, 351, 622, 623, 624, 625, 626, 627, 628, 629, 630, 631, 632, 633, 634, 635, 636, 637, 638, 639, 640, 641, 642, 643, 644, 645, 345, 346, 20, 347, 56, 348, 646, 647, 1224, 1225, 1226, 1227, 1228, 1229, 1230, 1231, 1232, 1233, 1234, 1235, 1284, 1285, 1286, 1287, 1288, 1289, 1290, 1291, 1292, 1293, 1294, 1295, 1296, 1297, 1298, 1299, 1308, 1309, 1310, 1311, 1312, 1313, 1300, 1301, 1302, 1303, 1304, 1305, 1306, 1307, 1280, 1281, 1282, 1283] (by decide +kernel) (by decide +kernel)
set_option maxRecDepth 20000 in
theorem gL_law_X8_chance : GoodIn wsL_law (wsV RL 98 RX8 yX8_chance wsX8_chance) := goodIn_app (goodIn_of _ (by decide +kernel)) ggL_law_X8_chance
set_option maxRecDepth 20000 in
theorem ggL_law_X9_chance : GoodIn wsL_law wsX9_chance := goodIn_r _ [695, 134, 314, 315, 316, 5, 317, 205, 148, 149, 150, 696, 697, 698, 699, 700, 701, 702, 703, 704, 705, 706, 707, 114, 708, 656, 657, 658, 659, 106, 257, 258, 259, 260, 261, 262, 263, 264, 253, 254, 255, 256, 403, 404, 405, 406, 660, 661, 662, 663, 664, 665, 666, 667, 668, 669, 670, 671, 360, 349, 350, 351, 672, 673, 674, 494, 495, 496, 497, 265, 266, 267, 268, 105, 356, 357, 358, 359, 331, 361, 362, 363, 364, 102, 103, 104, 675, 676, 677, 678, 679, 1236, 1237, 1238, 1239, 1240, 1241, 1242, 1243, 1244, 1245, 1246, 1247, 1248, 1249, 1250, 1251, 1252, 1253, 1254, 1255, 1256, 1257, 1258, 1259, 1260, 1261, 1262, 1263, 1264, 1265, 1266, 1267, 1268, 1269, 1270, 1271, 1272, 1273, 1274, 1275] (by decide +kernel) (by decide +kernel)
set_option maxRecDepth 20000 in
theorem gL_law_X9_chance : GoodIn wsL_law (wsV RL 101 RX9 yX9_chance wsX9_chance) := goodIn_app (goodIn_of _ (by decide +kernel)) ggL_law_X9_chance
set_option maxRecDepth 20000 in
theorem ggL_law_X8_likeliest : GoodIn wsL_law wsX8_likeliest := goodIn_r _ [712, 40, 294, 295, 296, 2, 297, 24, 155, 713, 714, 715, 716, 33, 37, 18, 325, 29, 717, 718, 719, 720, 721, 32, 722, 723, 688, 689, 690, 85, 691, 86, 593, 594, 595, 36, 596, 90, 91, 92, 94, 597, 598, 599, 600, 601, 602, 603, 28, 604, 605, 606, 607, 608, 609, 610, 611, 612, 613, 614, 615, 616, 617, 618, 619, 620, 385, 386, 23, 387, 71, 72, 621, 376, 377, 378, 67, 69, 74, 66, 379, 349, 350, 351, 622, 623, 624, 625, 626, 627, 628, 629, 630, 631, 632, 633, 634, 635, 636, 637, 638, 639, 640, 641, 642, 643, 644, 645, 345, 346, 20, 347, 56, 348, 646, 647, 426, 427, 428, 429, 41, 42, 1224, 1225, 1226, 1227, 1228, 1229, 1230, 1231, 1232, 1233, 1234, 1235, 1284, 1285, 1286, 1287, 1288, 1289, 1290, 1291, 1292, 1293, 1294, 1295, 1296, 1297, 1298, 1299, 1300, 1301, 1302, 1303, 1304, 1305, 1306, 1307, 1308, 1309, 1310, 1311, 1312, 1313, 1280, 1281, 1282, 1283] (by decide +kernel) (by decide +kernel)
set_option maxRecDepth 20000 in
theorem gL_law_X8_likeliest : GoodIn wsL_law (wsV RL 102 RX8 yX8_likeliest wsX8_likeliest) := goodIn_app (goodIn_of _ (by decide +kernel)) ggL_law_X8_likeliest
set_option maxRecDepth 20000 in
theorem ggL_law_X9_likeliest : GoodIn wsL_law wsX9_likeliest := goodIn_r _ [727, 134, 115, 434, 314, 315, 316, 5, 317, 205, 148, 149, 150, 728, 729, 730, 731, 700, 701, 702, 703, 704, 705, 706, 707, 114, 708, 656, 657, 658, 659, 106, 257, 258, 259, 260, 261, 262, 263, 264, 253, 254, 255, 256, 403, 404, 405, 406, 660, 661, 662, 663, 664, 665, 666, 667, 668, 669, 670, 671, 360, 349, 350, 351, 672, 673, 674, 494, 495, 496, 497, 265, 266, 267, 268, 105, 356, 357, 358, 359, 331, 361, 362, 363, 364, 102, 103, 104, 675, 676, 677, 678, 679, 443, 444, 445, 446, 99, 1236, 1237, 1238, 1239, 1240, 1241, 1242, 1243, 1244, 1245, 1246, 1247, 1248, 1249, 1250, 1251, 1252, 1253, 1254, 1255, 1256, 1257, 1258, 1259, 1260, 1261, 1262, 1263, 1264, 1265, 1266, 1267, 1268, 1269, 1270, 1271, 1272, 1273, 1274, 1275] (by decide +kernel) (by decide +kernel)
set_option maxRecDepth 20000 in
theorem gL_law_X9_likeliest : GoodIn wsL_law (wsV RL 105 RX9 yX9_likeliest wsX9_likeliest) := goodIn_app (goodIn_of _ (by decide +kernel)) ggL_law_X9_likeliest
set_option maxRecDepth 20000 in
theorem ggL_law_X8_beats : GoodIn wsL_law wsX8_beats := goodIn_r _ [735, 294, 295, 296, 2, 297, 24, 155, 736, 737, 738, 739, 33, 18, 40, 713, 714, 715, 716, 37, 325, 29, 717, 718, 719, 720, 721, 32, 722, 723, 688, 689, 690, 85, 691, 86, 593, 594, 595, 36, 596, 90, 91, 92, 94, 597, 598, 599, 600, 601, 602, 603, 28, 604, 605, 606, 607, 608, 609, 610, 611, 612, 613, 614, 615, 616, 617, 618, 619, 620, 385, 386, 23, 387, 71, 72, 621, 376, 377, 378, 67, 69, 74, 66, 379, 349, 350, 351, 622, 623, 624, 625, 626, 627, 628, 629, 630, 631, 632, 633, 634, 635, 636, 637, 638, 639, 640, 641, 642, 643, 644, 645, 345, 346, 20, 347, 56, 348, 646, 647, 740, 741, 742, 743, 744, 745, 535, 536, 537, 538, 539, 746, 747, 748, 749, 750, 589, 590, 591, 592, 1224, 1225, 1226, 1227, 1228, 1229, 1230, 1231, 1232, 1233, 1234, 1235, 1284, 1285, 1286, 1287, 1288, 1289, 1290, 1291, 1292, 1293, 1294, 1295, 1296, 1297, 1298, 1299, 1300, 1301, 1302, 1303, 1304, 1305, 1306, 1307, 1308, 1309, 1310, 1311, 1312, 1313, 1280, 1281, 1282, 1283] (by decide +kernel) (by decide +kernel)
set_option maxRecDepth 20000 in
theorem gL_law_X8_beats : GoodIn wsL_law (wsV RL 106 RX8 yX8_beats wsX8_beats) := goodIn_app (goodIn_of _ (by decide +kernel)) ggL_law_X8_beats
set_option maxRecDepth 20000 in
theorem ggL_law_X9_beats : GoodIn wsL_law wsX9_beats := goodIn_r _ [754, 134, 314, 315, 316, 5, 317, 205, 148, 149, 150, 755, 756, 757, 758, 114, 728, 729, 730, 731, 115, 700, 701, 702, 703, 704, 705, 706, 707, 708, 656, 657, 658, 659, 106, 257, 258, 259, 260, 261, 262, 263, 264, 253, 254, 255, 256, 403, 404, 405, 406, 660, 661, 662, 663, 664, 665, 666, 667, 668, 669, 670, 671, 360, 349, 350, 351, 672, 673, 674, 494, 495, 496, 497, 265, 266, 267, 268, 105, 356, 357, 358, 359, 331, 361, 362, 363, 364, 102, 103, 104, 675, 676, 677, 678, 679, 759, 760, 761, 762, 556, 557, 558, 559, 100, 101, 400, 401, 402, 1236, 1237, 1238, 1239, 1240, 1241, 1242, 1243, 1244, 1245, 1246, 1247, 1248, 1249, 1250, 1251, 1252, 1253, 1254, 1255, 1256, 1257, 1258, 1259, 1260, 1261, 1262, 1263, 1264, 1265, 1266, 1267, 1268, 1269, 1270, 1271, 1272, 1273, 1274, 1275] (by decide +kernel) (by decide +kernel)
set_option maxRecDepth 20000 in
theorem gL_law_X9_beats : GoodIn wsL_law (wsV RL 109 RX9 yX9_beats wsX9_beats) := goodIn_app (goodIn_of _ (by decide +kernel)) ggL_law_X9_beats
set_option maxRecDepth 20000 in
theorem ggL_law_X8_wins : GoodIn wsL_law wsX8_wins := goodIn_r _ [766, 24, 155, 41, 42, 294, 295, 296, 2, 297, 713, 714, 715, 716, 33, 37, 18, 325, 29, 717, 40, 718, 719, 720, 721, 32, 722, 723, 688, 689, 690, 85, 691, 86, 593, 594, 595, 36, 596, 90, 91, 92, 94, 597, 598, 599, 600, 601, 602, 603, 28, 604, 605, 606, 607, 608, 609, 610, 611, 612, 613, 614, 615, 616, 617, 618, 619, 620, 385, 386, 23, 387, 71, 72, 621, 376, 377, 378, 67, 69, 74, 66, 379, 349, 350, 351, 622, 623, 624, 625, 626, 627, 628, 629, 630, 631, 632, 633, 634, 635, 636, 637, 638, 639, 640, 641, 642, 643, 644, 645, 345, 346, 20, 347, 56, 348, 646, 647, 767, 768, 769, 770, 740, 741, 742, 743, 744, 745, 535, 536, 537, 538, 539, 746, 747, 748, 749, 750, 589, 590, 591, 592, 1224, 1225, 1226, 1227, 1228, 1229, 1230, 1231, 1232, 1233, 1234, 1235, 1284, 1285, 1286, 1287, 1288, 1289, 1290, 1291, 1292, 1293, 1294, 1295, 1296, 1297, 1298, 1299, 1300, 1301, 1302, 1303, 1304, 1305, 1306, 1307, 1308, 1309, 1310, 1311, 1312, 1313, 1280, 1281, 1282, 1283] (by decide +kernel) (by decide +kernel)
set_option maxRecDepth 20000 in
theorem gL_law_X8_wins : GoodIn wsL_law (wsV RL 110 RX8 yX8_wins wsX8_wins) := goodIn_app (goodIn_of _ (by decide +kernel)) ggL_law_X8_wins
set_option maxRecDepth 20000 in
theorem ggL_law_X9_wins : GoodIn wsL_law wsX9_wins := goodIn_r _ [774, 134, 434, 205, 99, 314, 315, 316, 5, 317, 148, 149, 150, 775, 776, 777, 778, 779, 780, 781, 782, 116, 708, 783, 114, 728, 729, 730, 731, 115, 700, 701, 702, 703, 704, 705, 706, 707, 656, 657, 658, 659, 106, 257, 258, 259, 260, 261, 262, 263, 264, 253, 254, 255, 256, 403, 404, 405, 406, 660, 661, 662, 663, 664, 665, 666, 667, 668, 669, 670, 671, 360, 349, 350, 351, 672, 673, 674, 494, 495, 496, 497, 265, 266, 267, 268, 105, 356, 357, 358, 359, 331, 361, 362, 363, 364, 102, 103, 104, 675, 676, 677, 678, 679, 759, 760, 761, 762, 556, 557, 558, 559, 100, 101, 400, 401, 402, 443, 444, 445, 446, 1236, 1237, 1238, 1239, 1240, 1241, 1242, 1243, 1244, 1245, 1246, 1247, 1248, 1249, 1250, 1251, 1252, 1253, 1254, 1255, 1256, 1257, 1258, 1259, 1260, 1261, 1262, 1263, 1264, 1265, 1266, 1267, 1268, 1269, 1270, 1271, 1272, 1273, 1274, 1275] (by decide +kernel) (by decide +kernel)
set_option maxRecDepth 20000 in
theorem gL_law_X9_wins : GoodIn wsL_law (wsV RL 113 RX9 yX9_wins wsX9_wins) := goodIn_app (goodIn_of _ (by decide +kernel)) ggL_law_X9_wins
set_option maxRecDepth 20000 in
theorem ggL_law_X8_bombs : GoodIn wsL_law wsX8_bombs := goodIn_r _ [787, 33, 718, 18, 293, 41, 42, 294, 295, 296, 2, 297, 24, 155, 687, 688, 689, 32, 690, 85, 691, 86, 589, 590, 591, 592, 37, 325, 29, 593, 594, 595, 36, 596, 90, 91, 92, 94, 597, 598, 599, 600, 601, 602, 603, 28, 604, 605, 606, 607, 608, 609, 610, 611, 612, 613, 614, 615, 616, 617, 618, 619, 620, 385, 386, 23, 387, 71, 72, 621, 376, 377, 378, 67, 69, 74, 66, 379, 349, 350, 351, 622, 623, 624, 625, 626, 627, 628, 629, 630, 631, 632, 633, 634, 635, 636, 637, 638, 639, 640, 641, 642, 643, 644, 645, 345, 346, 20, 347, 56, 348, 646, 647, 788, 789, 790, 791, 344, 1224, 1225, 1226, 1227, 1228, 1229, 1230, 1231, 1232, 1233, 1234, 1235, 1280, 1281, 1282, 1283, 1284, 1285, 1286, 1287, 1288, 1289, 1290, 1291, 1292, 1293, 1294, 1295, 1296, 1297, 1298, 1299, 1308, 1309, 1310, 1311, 1312, 1313, 1300, 1301, 1302, 1303, 1304, 1305, 1306, 1307] (by decide +kernel) (by decide +kernel)
set_option maxRecDepth 20000 in
theorem gL_law_X8_bombs : GoodIn wsL_law (wsV RL 114 RX8 yX8_bombs wsX8_bombs) := goodIn_app (goodIn_of _ (by decide +kernel)) ggL_law_X8_bombs
set_option maxRecDepth 20000 in
theorem ggL_law_X9_bombs : GoodIn wsL_law wsX9_bombs := goodIn_r _ [795, 134, 434, 708, 314, 315, 316, 5, 317, 205, 148, 149, 150, 265, 266, 267, 268, 105, 356, 357, 358, 359, 331, 360, 349, 350, 351, 361, 362, 363, 364, 102, 103, 104, 796, 797, 798, 678, 494, 495, 496, 497, 443, 444, 445, 446, 99, 700, 701, 702, 703, 704, 705, 706, 707, 114, 656, 657, 658, 659, 106, 257, 258, 259, 260, 261, 262, 263, 264, 253, 254, 255, 256, 403, 404, 405, 406, 660, 661, 662, 663, 664, 665, 666, 667, 668, 669, 670, 671, 672, 673, 674, 675, 676, 677, 679, 1236, 1237, 1238, 1239, 1240, 1241, 1242, 1243, 1244, 1245, 1246, 1247, 1248, 1249, 1250, 1251, 1252, 1253, 1254, 1255, 1256, 1257, 1258, 1259, 1260, 1261, 1262, 1263, 1264, 1265, 1266, 1267, 1268, 1269, 1270, 1271, 1272, 1273, 1274, 1275] (by decide +kernel) (by decide +kernel)
set_option maxRecDepth 20000 in
theorem gL_law_X9_bombs : GoodIn wsL_law (wsV RL 117 RX9 yX9_bombs wsX9_bombs) := goodIn_app (goodIn_of _ (by decide +kernel)) ggL_law_X9_bombs
set_option maxRecDepth 20000 in
theorem ggL_law_X8_opener : GoodIn wsL_law wsX8_opener := goodIn_r _ [802, 718, 294, 295, 296, 2, 297, 24, 155, 298, 299, 300, 788, 789, 790, 791, 18, 325, 344, 345, 346, 20, 347, 56, 348, 349, 350, 351, 1224, 1225, 1226, 1227, 1228, 1229, 1230, 1231, 1232, 1233, 1234, 1235, 1284, 1285, 1286, 1287, 1288, 1289, 1290, 1291, 1292, 1293, 1294, 1295, 1296, 1297, 1298, 1299, 1280, 1281, 1282, 1283] (by decide +kernel) (by decide +kernel)
set_option maxRecDepth 20000 in
theorem gL_law_X8_opener : GoodIn wsL_law (wsV RL 118 RX8 yX8_opener wsX8_opener) := goodIn_app (goodIn_of _ (by decide +kernel)) ggL_law_X8_opener
set_option maxRecDepth 20000 in
theorem ggL_law_X9_opener : GoodIn wsL_law wsX9_opener := goodIn_r _ [806, 134, 783, 708, 314, 315, 316, 5, 317, 205, 148, 149, 150, 318, 319, 320, 311, 356, 357, 358, 359, 331, 360, 349, 350, 351, 361, 362, 363, 364, 102, 103, 104, 796, 797, 798, 678, 1236, 1237, 1238, 1239, 1240, 1241, 1242, 1243, 1244, 1245, 1246, 1247, 1248, 1249, 1250, 1251, 1252, 1253, 1254, 1255, 1256, 1257, 1258, 1259, 1260, 1261, 1262, 1263, 1264, 1265, 1266, 1267, 1268, 1269, 1270, 1271, 1272, 1273, 1274, 1275] (by decide +kernel) (by decide +kernel)
set_option maxRecDepth 20000 in
theorem gL_law_X9_opener : GoodIn wsL_law (wsV RL 121 RX9 yX9_opener wsX9_opener) := goodIn_app (goodIn_of _ (by decide +kernel)) ggL_law_X9_opener
set_option maxRecDepth 20000 in
theorem ggL_law_X8_heavy : GoodIn wsL_law wsX8_heavy := goodIn_r _ [810, 33, 294, 295, 296, 2, 297, 24, 155, 585, 586, 587, 32, 588, 85, 86, 811, 812, 813, 814, 29, 815, 816, 817, 818, 819, 43, 820, 821, 822, 18, 325, 823, 824, 825, 11, 12, 826, 827, 828, 39, 829, 830, 831, 832, 833, 834, 835, 836, 837, 838, 719, 720, 721, 722, 723, 688, 689, 690, 691, 839, 840, 841, 842, 843, 844, 845, 846, 847, 848, 849, 345, 346, 20, 347, 56, 348, 349, 350, 351, 850, 598, 599, 600, 601, 602, 603, 28, 604, 605, 606, 607, 608, 609, 610, 611, 612, 613, 614, 615, 616, 617, 618, 619, 620, 385, 386, 23, 387, 71, 72, 621, 376, 377, 378, 67, 69, 74, 66, 379, 851, 852, 853, 854, 855, 856, 857, 858, 859, 860, 861, 862, 863, 864, 865, 866, 867, 868, 869, 870, 871, 872, 873, 874, 875, 876, 877, 878, 879, 880, 881, 882, 883, 884, 885, 886, 887, 888, 889, 646, 647, 890, 891, 892, 893, 894, 895, 896, 897, 898, 899, 900, 901, 902, 589, 590, 591, 592, 37, 593, 594, 595, 36, 596, 90, 91, 92, 94, 597, 622, 623, 624, 625, 626, 627, 628, 629, 630, 631, 632, 633, 634, 635, 636, 637, 638, 639, 640, 641, 642, 643, 644, 645, 426, 427, 428, 429, 41, 42, 1224, 1225, 1226, 1227, 1228, 1229, 1230, 1231, 1232, 1233, 1234, 1235, 1284, 1285, 1286, 1287, 1288, 1289, 1290, 1291, 1292, 1293, 1294, 1295, 1296, 1297, 1298, 1299, 1308, 1309, 1314, 1315, 1316, 1317, 1318, 1319, 1320, 1321, 1322, 1323, 1324, 1325, 1280, 1281, 1282, 1283, 1300, 1301, 1302, 1303, 1304, 1305, 1306, 1307, 1310, 1311, 1312, 1313] (by decide +kernel) (by decide +kernel)
set_option maxRecDepth 20000 in
theorem gL_law_X8_heavy : GoodIn wsL_law (wsV RL 122 RX8 yX8_heavy wsX8_heavy) := goodIn_app (goodIn_of _ (by decide +kernel)) ggL_law_X8_heavy
set_option maxRecDepth 20000 in
theorem ggL_law_X9_heavy : GoodIn wsL_law wsX9_heavy := goodIn_r _ [906, 134, 314, 315, 316, 5, 317, 205, 148, 149, 150, 652, 653, 654, 655, 114, 907, 908, 909, 910, 434, 911, 912, 913, 914, 915, 106, 916, 257, 258, 259, 260, 261, 262, 263, 264, 253, 254, 255, 256, 403, 404, 405, 406, 664, 665, 666, 667, 917, 918, 919, 920, 117, 921, 922, 923, 924, 118, 925, 926, 927, 928, 929, 930, 931, 932, 933, 934, 935, 936, 937, 350, 938, 939, 940, 941, 356, 357, 358, 359, 331, 360, 349, 351, 361, 362, 363, 364, 102, 103, 104, 675, 676, 677, 678, 392, 393, 394, 395, 942, 943, 944, 945, 660, 661, 662, 663, 443, 444, 445, 446, 99, 656, 657, 658, 659, 668, 669, 670, 671, 672, 673, 674, 494, 495, 496, 497, 265, 266, 267, 268, 105, 679, 1236, 1237, 1238, 1239, 1240, 1241, 1242, 1243, 1244, 1245, 1246, 1247, 1248, 1249, 1250, 1251, 1252, 1253, 1254, 1255, 1256, 1257, 1258, 1259, 1260, 1261, 1262, 1263, 1264, 1265, 1266, 1267, 1268, 1269, 1270, 1271, 1272, 1273, 1274, 1275] (by decide +kernel) (by decide +kernel)
set_option maxRecDepth 20000 in
theorem gL_law_X9_heavy : GoodIn wsL_law (wsV RL 125 RX9 yX9_heavy wsX9_heavy) := goodIn_app (goodIn_of _ (by decide +kernel)) ggL_law_X9_heavy
set_option maxRecDepth 20000 in
theorem ggL_law_X8_reach : GoodIn wsL_law wsX8_reach := goodIn_r _ [949, 33, 294, 295, 296, 2, 297, 24, 155, 684, 685, 686, 687, 688, 689, 32, 690, 85, 691, 86, 811, 812, 813, 814, 29, 815, 816, 817, 818, 819, 43, 820, 821, 822, 18, 325, 823, 824, 825, 11, 12, 826, 827, 828, 39, 829, 830, 831, 832, 833, 834, 835, 836, 837, 838, 719, 720, 721, 722, 723, 839, 840, 841, 842, 843, 844, 845, 846, 847, 848, 849, 345, 346, 20, 347, 56, 348, 349, 350, 351, 850, 598, 599, 600, 601, 602, 603, 28, 604, 605, 606, 607, 608, 609, 610, 611, 612, 613, 614, 615, 616, 617, 618, 619, 620, 385, 386, 23, 387, 71, 72, 621, 376, 377, 378, 67, 69, 74, 66, 379, 851, 852, 853, 854, 855, 856, 857, 858, 859, 860, 861, 862, 863, 864, 865, 866, 867, 868, 869, 870, 871, 872, 873, 874, 875, 876, 877, 878, 879, 880, 881, 882, 883, 884, 885, 886, 887, 888, 889, 646, 647, 890, 891, 892, 893, 894, 895, 896, 897, 898, 899, 900, 901, 902, 589, 590, 591, 592, 37, 593, 594, 595, 36, 596, 90, 91, 92, 94, 597, 622, 623, 624, 625, 626, 627, 628, 629, 630, 631, 632, 633, 634, 635, 636, 637, 638, 639, 640, 641, 642, 643, 644, 645, 426, 427, 428, 429, 41, 42, 1224, 1225, 1226, 1227, 1228, 1229, 1230, 1231, 1232, 1233, 1234, 1235, 1284, 1285, 1286, 1287, 1288, 1289, 1290, 1291, 1292, 1293, 1294, 1295, 1296, 1297, 1298, 1299, 1308, 1309, 1314, 1315, 1316, 1317, 1318, 1319, 1320, 1321, 1322, 1323, 1324, 1325, 1280, 1281, 1282, 1283, 1300, 1301, 1302, 1303, 1304, 1305, 1306, 1307, 1310, 1311, 1312, 1313] (by decide +kernel) (by decide +kernel)
set_option maxRecDepth 20000 in
theorem gL_law_X8_reach : GoodIn wsL_law (wsV RL 126 RX8 yX8_reach wsX8_reach) := goodIn_app (goodIn_of _ (by decide +kernel)) ggL_law_X8_reach
set_option maxRecDepth 20000 in
theorem ggL_law_X9_reach : GoodIn wsL_law wsX9_reach := goodIn_r _ [953, 134, 314, 315, 316, 5, 317, 205, 148, 149, 150, 696, 697, 698, 699, 704, 705, 706, 707, 114, 708, 907, 908, 909, 910, 434, 911, 912, 913, 914, 915, 106, 916, 257, 258, 259, 260, 261, 262, 263, 264, 253, 254, 255, 256, 403, 404, 405, 406, 664, 665, 666, 667, 917, 918, 919, 920, 117, 921, 922, 923, 924, 118, 925, 926, 927, 928, 929, 930, 931, 932, 933, 934, 935, 936, 937, 350, 938, 939, 940, 941, 356, 357, 358, 359, 331, 360, 349, 351, 361, 362, 363, 364, 102, 103, 104, 675, 676, 677, 678, 392, 393, 394, 395, 942, 943, 944, 945, 660, 661, 662, 663, 443, 444, 445, 446, 99, 656, 657, 658, 659, 668, 669, 670, 671, 672, 673, 674, 494, 495, 496, 497, 265, 266, 267, 268, 105, 679, 1236, 1237, 1238, 1239, 1240, 1241, 1242, 1243, 1244, 1245, 1246, 1247, 1248, 1249, 1250, 1251, 1252, 1253, 1254, 1255, 1256, 1257, 1258, 1259, 1260, 1261, 1262, 1263, 1264, 1265, 1266, 1267, 1268, 1269, 1270, 1271, 1272, 1273, 1274, 1275] (by decide +kernel) (by decide +kernel)
set_option maxRecDepth 20000 in
theorem gL_law_X9_reach : GoodIn wsL_law (wsV RL 129 RX9 yX9_reach wsX9_reach) := goodIn_app (goodIn_of _ (by decide +kernel)) ggL_law_X9_reach
set_option maxRecDepth 20000 in
theorem ggL_law_X8_aim : GoodIn wsL_law wsX8_aim := goodIn_r _ [957, 718, 29, 24, 717, 41, 42, 294, 295, 296, 2, 297, 155, 816, 817, 818, 819, 43, 820, 821, 822, 33, 18, 325, 823, 824, 825, 11, 12, 826, 827, 828, 39, 829, 830, 831, 832, 833, 834, 835, 836, 837, 838, 719, 720, 721, 32, 722, 723, 688, 689, 690, 85, 691, 86, 839, 840, 841, 842, 843, 844, 845, 846, 847, 848, 849, 345, 346, 20, 347, 56, 348, 349, 350, 351, 850, 598, 599, 600, 601, 602, 603, 28, 604, 605, 606, 607, 608, 609, 610, 611, 612, 613, 614, 615, 616, 617, 618, 619, 620, 385, 386, 23, 387, 71, 72, 621, 376, 377, 378, 67, 69, 74, 66, 379, 859, 860, 861, 862, 863, 864, 865, 866, 867, 868, 869, 870, 871, 872, 873, 874, 875, 876, 877, 878, 879, 880, 881, 882, 883, 884, 885, 886, 887, 888, 889, 646, 647, 890, 891, 892, 893, 894, 895, 896, 897, 898, 899, 900, 901, 902, 856, 857, 858, 1224, 1225, 1226, 1227, 1228, 1229, 1230, 1231, 1232, 1233, 1234, 1235, 1300, 1301, 1302, 1303, 1304, 1305, 1306, 1307, 1284, 1285, 1286, 1287, 1288, 1289, 1290, 1291, 1292, 1293, 1294, 1295, 1296, 1297, 1298, 1299, 1314, 1315, 1316, 1317, 1318, 1319, 1320, 1321, 1322, 1323, 1324, 1325, 1308, 1309, 1280, 1281, 1282, 1283] (by decide +kernel) (by decide +kernel)
set_option maxRecDepth 20000 in
theorem gL_law_X8_aim : GoodIn wsL_law (wsV RL 130 RX8 yX8_aim wsX8_aim) := goodIn_app (goodIn_of _ (by decide +kernel)) ggL_law_X8_aim
set_option maxRecDepth 20000 in
theorem ggL_law_X9_aim : GoodIn wsL_law wsX9_aim := goodIn_r _ [961, 134, 783, 434, 314, 315, 316, 5, 317, 205, 148, 149, 150, 704, 705, 706, 707, 114, 708, 912, 913, 914, 915, 911, 106, 916, 257, 258, 259, 260, 261, 262, 263, 264, 253, 254, 255, 256, 403, 404, 405, 406, 664, 665, 666, 667, 917, 918, 919, 920, 117, 921, 922, 923, 924, 118, 925, 926, 927, 928, 929, 930, 931, 932, 933, 934, 935, 936, 937, 350, 938, 939, 940, 941, 356, 357, 358, 359, 331, 360, 349, 351, 361, 362, 363, 364, 102, 103, 104, 675, 676, 677, 678, 392, 393, 394, 395, 942, 943, 944, 945, 660, 661, 662, 663, 443, 444, 445, 446, 99, 1236, 1237, 1238, 1239, 1240, 1241, 1242, 1243, 1244, 1245, 1246, 1247, 1248, 1249, 1250, 1251, 1252, 1253, 1254, 1255, 1256, 1257, 1258, 1259, 1260, 1261, 1262, 1263, 1264, 1265, 1266, 1267, 1268, 1269, 1270, 1271, 1272, 1273, 1274, 1275] (by decide +kernel) (by decide +kernel)
set_option maxRecDepth 20000 in
theorem gL_law_X9_aim : GoodIn wsL_law (wsV RL 133 RX9 yX9_aim wsX9_aim) := goodIn_app (goodIn_of _ (by decide +kernel)) ggL_law_X9_aim
set_option maxRecDepth 20000 in
theorem ggL_law_X8_against : GoodIn wsL_law wsX8_against := goodIn_r _ [965, 294, 295, 296, 2, 297, 24, 155, 736, 737, 738, 739, 33, 18, 40, 713, 714, 715, 716, 37, 325, 29, 717, 718, 719, 720, 721, 32, 722, 723, 688, 689, 690, 85, 691, 86, 593, 594, 595, 36, 596, 90, 91, 92, 94, 597, 598, 599, 600, 601, 602, 603, 28, 604, 605, 606, 607, 608, 609, 610, 611, 612, 613, 614, 615, 616, 617, 618, 619, 620, 385, 386, 23, 387, 71, 72, 621, 376, 377, 378, 67, 69, 74, 66, 379, 349, 350, 351, 622, 623, 624, 625, 626, 627, 628, 629, 630, 631, 632, 633, 634, 635, 636, 637, 638, 639, 640, 641, 642, 643, 644, 645, 345, 346, 20, 347, 56, 348, 646, 647, 740, 741, 742, 743, 744, 745, 535, 536, 537, 538, 539, 746, 747, 748, 749, 750, 811, 812, 813, 814, 815, 816, 817, 818, 819, 43, 820, 821, 822, 823, 824, 825, 11, 12, 826, 827, 828, 39, 829, 830, 831, 832, 833, 834, 835, 836, 837, 838, 839, 840, 841, 842, 843, 844, 845, 846, 847, 848, 849, 850, 851, 852, 853, 854, 855, 856, 857, 858, 859, 860, 861, 862, 863, 864, 865, 866, 867, 868, 869, 870, 871, 872, 873, 874, 875, 876, 877, 878, 879, 880, 881, 882, 883, 884, 885, 886, 887, 888, 889, 890, 891, 892, 893, 894, 895, 896, 897, 898, 899, 900, 901, 902, 589, 590, 591, 592, 426, 427, 428, 429, 41, 42, 1224, 1225, 1226, 1227, 1228, 1229, 1230, 1231, 1232, 1233, 1234, 1235, 1284, 1285, 1286, 1287, 1288, 1289, 1290, 1291, 1292, 1293, 1294, 1295, 1296, 1297, 1298, 1299, 1300, 1301, 1302, 1303, 1304, 1305, 1306, 1307, 1308, 1309, 1310, 1311, 1312, 1313, 1280, 1281, 1282, 1283, 1314, 1315, 1316, 1317, 1318, 1319, 1320, 1321, 1322, 1323, 1324, 1325] (by decide +kernel) (by decide +kernel)
set_option maxRecDepth 20000 in
theorem gL_law_X8_against : GoodIn wsL_law (wsV RL 134 RX8 yX8_against wsX8_against) := goodIn_app (goodIn_of _ (by decide +kernel)) ggL_law_X8_against
