set_option maxRecDepth 20000 in
theorem ggX9_duelAt_X9_duelLays : GoodIn wsX9_duelAt wsX9_duelLays := goodIn_r _ [16, 1, 2, 3, 17, 18, 19, 20, 7, 21, 22, 23, 24, 25, 26, 27, 28, 29, 30, 4, 5, 6, 8, 9, 31, 32, 33, 34, 35, 36, 37, 38, 39, 40, 41, 42, 43, 44, 45, 46, 47, 48, 49, 50, 51, 52, 53, 54, 55, 56, 57, 58, 59, 60, 61, 62, 63, 64, 65, 66, 67, 68, 69, 70, 71, 72, 73, 74, 75, 76, 77, 78, 79, 80, 81, 82, 83, 84, 85, 86, 87, 88, 89, 90, 91, 92, 93, 94, 95, 96, 97, 98, 99, 100, 101, 102, 103, 104, 105, 106, 107, 108, 109, 110, 111, 112, 113, 114, 115, 116, 117, 118] (by decide +kernel) (by decide +kernel)
set_option maxRecDepth 20000 in
theorem gX9_duelAt_X9_duelLays : GoodIn wsX9_duelAt (wsV RX9 397 RX9 yX9_duelLays wsX9_duelLays) := goodIn_app (goodIn_of _ (by decide +kernel)) ggX9_duelAt_X9_duelLays
set_option maxRecDepth 20000 in
theorem ggX9_duelAt_X9_duelCell : GoodIn wsX9_duelAt wsX9_duelCell := goodIn_r _ [78] (by decide +kernel) (by decide +kernel)
set_option maxRecDepth 20000 in
theorem gX9_duelAt_X9_duelCell : GoodIn wsX9_duelAt (va_wsS RX9 394 yX9_duelCell wsX9_duelCell) := goodIn_app (goodIn_of _ (by decide +kernel)) ggX9_duelAt_X9_duelCell
theorem dX9_duelAt_0 : decode cX9_duelAt 0 = .ok (.aload_n 0, 1) := by decide +kernel
theorem dX9_duelAt_1 : decode cX9_duelAt 1 = .ok (.aload_n 0, 1) := by decide +kernel
theorem dX9_duelAt_2 : decode cX9_duelAt 2 = .ok (.getfield 365, 3) := by decide +kernel
theorem dX9_duelAt_5 : decode cX9_duelAt 5 = .ok (.iconst 0, 1) := by decide +kernel
theorem dX9_duelAt_6 : decode cX9_duelAt 6 = .ok (.invokevirtual 106, 3) := by decide +kernel
theorem dX9_duelAt_9 : decode cX9_duelAt 9 = .ok (.istore_n 3, 1) := by decide +kernel
theorem dX9_duelAt_10 : decode cX9_duelAt 10 = .ok (.aload_n 0, 1) := by decide +kernel
theorem dX9_duelAt_11 : decode cX9_duelAt 11 = .ok (.aload_n 0, 1) := by decide +kernel
theorem dX9_duelAt_12 : decode cX9_duelAt 12 = .ok (.getfield 368, 3) := by decide +kernel
theorem dX9_duelAt_15 : decode cX9_duelAt 15 = .ok (.iconst 0, 1) := by decide +kernel
theorem dX9_duelAt_16 : decode cX9_duelAt 16 = .ok (.invokevirtual 106, 3) := by decide +kernel
theorem dX9_duelAt_19 : decode cX9_duelAt 19 = .ok (.istore 4, 2) := by decide +kernel
theorem dX9_duelAt_21 : decode cX9_duelAt 21 = .ok (.iconst 0, 1) := by decide +kernel
theorem dX9_duelAt_22 : decode cX9_duelAt 22 = .ok (.istore 5, 2) := by decide +kernel
theorem dX9_duelAt_24 : decode cX9_duelAt 24 = .ok (.iload 5, 2) := by decide +kernel
theorem dX9_duelAt_26 : decode cX9_duelAt 26 = .ok (.iload_n 1, 1) := by decide +kernel
theorem dX9_duelAt_27 : decode cX9_duelAt 27 = .ok (.iload_n 2, 1) := by decide +kernel
theorem dX9_duelAt_28 : decode cX9_duelAt 28 = .ok (.iadd, 1) := by decide +kernel
theorem dX9_duelAt_29 : decode cX9_duelAt 29 = .ok (.if_icmp .gt 91, 3) := by decide +kernel
theorem dX9_duelAt_32 : decode cX9_duelAt 32 = .ok (.iconst 0, 1) := by decide +kernel
theorem dX9_duelAt_33 : decode cX9_duelAt 33 = .ok (.istore 6, 2) := by decide +kernel
theorem dX9_duelAt_35 : decode cX9_duelAt 35 = .ok (.iload 6, 2) := by decide +kernel
theorem dX9_duelAt_37 : decode cX9_duelAt 37 = .ok (.iload_n 1, 1) := by decide +kernel
theorem dX9_duelAt_38 : decode cX9_duelAt 38 = .ok (.if_icmp .gt 76, 3) := by decide +kernel
theorem dX9_duelAt_41 : decode cX9_duelAt 41 = .ok (.iload 5, 2) := by decide +kernel
theorem dX9_duelAt_43 : decode cX9_duelAt 43 = .ok (.iload 6, 2) := by decide +kernel
theorem dX9_duelAt_45 : decode cX9_duelAt 45 = .ok (.isub, 1) := by decide +kernel
theorem dX9_duelAt_46 : decode cX9_duelAt 46 = .ok (.istore 7, 2) := by decide +kernel
theorem dX9_duelAt_48 : decode cX9_duelAt 48 = .ok (.iload 7, 2) := by decide +kernel
theorem dX9_duelAt_50 : decode cX9_duelAt 50 = .ok (.i2l, 1) := by decide +kernel
theorem dX9_duelAt_51 : decode cX9_duelAt 51 = .ok (.lconst 0, 1) := by decide +kernel
theorem dX9_duelAt_52 : decode cX9_duelAt 52 = .ok (.iload_n 2, 1) := by decide +kernel
theorem dX9_duelAt_53 : decode cX9_duelAt 53 = .ok (.i2l, 1) := by decide +kernel
theorem dX9_duelAt_54 : decode cX9_duelAt 54 = .ok (.invokestatic 87, 3) := by decide +kernel
theorem dX9_duelAt_57 : decode cX9_duelAt 57 = .ok (.ifCond .ne 6, 3) := by decide +kernel
theorem dX9_duelAt_60 : decode cX9_duelAt 60 = .ok (.goto 48, 3) := by decide +kernel
theorem dX9_duelAt_63 : decode cX9_duelAt 63 = .ok (.iload_n 3, 1) := by decide +kernel
theorem dX9_duelAt_64 : decode cX9_duelAt 64 = .ok (.istore 8, 2) := by decide +kernel
theorem dX9_duelAt_66 : decode cX9_duelAt 66 = .ok (.iload 8, 2) := by decide +kernel
theorem dX9_duelAt_68 : decode cX9_duelAt 68 = .ok (.bipush 40, 2) := by decide +kernel
theorem dX9_duelAt_70 : decode cX9_duelAt 70 = .ok (.if_icmp .gt 38, 3) := by decide +kernel
theorem dX9_duelAt_73 : decode cX9_duelAt 73 = .ok (.iload 4, 2) := by decide +kernel
theorem dX9_duelAt_75 : decode cX9_duelAt 75 = .ok (.istore 9, 2) := by decide +kernel
theorem dX9_duelAt_77 : decode cX9_duelAt 77 = .ok (.iload 9, 2) := by decide +kernel
theorem dX9_duelAt_79 : decode cX9_duelAt 79 = .ok (.bipush 40, 2) := by decide +kernel
theorem dX9_duelAt_81 : decode cX9_duelAt 81 = .ok (.if_icmp .gt 21, 3) := by decide +kernel
theorem dX9_duelAt_84 : decode cX9_duelAt 84 = .ok (.aload_n 0, 1) := by decide +kernel
theorem dX9_duelAt_85 : decode cX9_duelAt 85 = .ok (.iload 8, 2) := by decide +kernel
theorem dX9_duelAt_87 : decode cX9_duelAt 87 = .ok (.iload 9, 2) := by decide +kernel
theorem dX9_duelAt_89 : decode cX9_duelAt 89 = .ok (.iload 6, 2) := by decide +kernel
theorem dX9_duelAt_91 : decode cX9_duelAt 91 = .ok (.iload 7, 2) := by decide +kernel
theorem dX9_duelAt_93 : decode cX9_duelAt 93 = .ok (.invokevirtual 397, 3) := by decide +kernel
theorem dX9_duelAt_96 : decode cX9_duelAt 96 = .ok (.iinc 9 1, 3) := by decide +kernel
theorem dX9_duelAt_99 : decode cX9_duelAt 99 = .ok (.goto (-22), 3) := by decide +kernel
theorem dX9_duelAt_102 : decode cX9_duelAt 102 = .ok (.iinc 8 1, 3) := by decide +kernel
theorem dX9_duelAt_105 : decode cX9_duelAt 105 = .ok (.goto (-39), 3) := by decide +kernel
theorem dX9_duelAt_108 : decode cX9_duelAt 108 = .ok (.iinc 6 1, 3) := by decide +kernel
theorem dX9_duelAt_111 : decode cX9_duelAt 111 = .ok (.goto (-76), 3) := by decide +kernel
theorem dX9_duelAt_114 : decode cX9_duelAt 114 = .ok (.iinc 5 1, 3) := by decide +kernel
theorem dX9_duelAt_117 : decode cX9_duelAt 117 = .ok (.goto (-93), 3) := by decide +kernel
theorem dX9_duelAt_120 : decode cX9_duelAt 120 = .ok (.aload_n 0, 1) := by decide +kernel
theorem dX9_duelAt_121 : decode cX9_duelAt 121 = .ok (.getfield 71, 3) := by decide +kernel
theorem dX9_duelAt_124 : decode cX9_duelAt 124 = .ok (.iload_n 3, 1) := by decide +kernel
theorem dX9_duelAt_125 : decode cX9_duelAt 125 = .ok (.iload 4, 2) := by decide +kernel
theorem dX9_duelAt_127 : decode cX9_duelAt 127 = .ok (.iload_n 1, 1) := by decide +kernel
theorem dX9_duelAt_128 : decode cX9_duelAt 128 = .ok (.iload_n 2, 1) := by decide +kernel
theorem dX9_duelAt_129 : decode cX9_duelAt 129 = .ok (.invokestatic 394, 3) := by decide +kernel
theorem dX9_duelAt_132 : decode cX9_duelAt 132 = .ok (.iaload, 1) := by decide +kernel
theorem dX9_duelAt_133 : decode cX9_duelAt 133 = .ok (.ireturn, 1) := by decide +kernel
set_option maxRecDepth 20000 in
theorem ggX9_whyNoDuel_X9_isStill : GoodIn wsX9_whyNoDuel wsX9_isStill := goodIn_r _ [6, 7, 8, 9, 5, 10, 1, 11, 12, 13, 14, 15, 16, 17, 18, 19, 20, 21, 22, 23, 24, 25, 26, 27, 28, 29, 30, 31, 32, 33, 34, 35, 36, 37, 38, 39, 40, 41, 42, 43, 44, 45, 46, 47, 48, 49, 50, 51, 52, 53, 54, 55, 56, 57, 58] (by decide +kernel) (by decide +kernel)
set_option maxRecDepth 20000 in
theorem gX9_whyNoDuel_X9_isStill : GoodIn wsX9_whyNoDuel (wsV RX9 140 RX9 yX9_isStill wsX9_isStill) := goodIn_app (goodIn_of _ (by decide +kernel)) ggX9_whyNoDuel_X9_isStill
theorem dX9_whyNoDuel_0 : decode cX9_whyNoDuel 0 = .ok (.aload_n 0, 1) := by decide +kernel
theorem dX9_whyNoDuel_1 : decode cX9_whyNoDuel 1 = .ok (.getfield 32, 3) := by decide +kernel
theorem dX9_whyNoDuel_4 : decode cX9_whyNoDuel 4 = .ok (.iconst 0, 1) := by decide +kernel
theorem dX9_whyNoDuel_5 : decode cX9_whyNoDuel 5 = .ok (.iaload, 1) := by decide +kernel
theorem dX9_whyNoDuel_6 : decode cX9_whyNoDuel 6 = .ok (.iconst 2, 1) := by decide +kernel
theorem dX9_whyNoDuel_7 : decode cX9_whyNoDuel 7 = .ok (.if_icmp .ne 13, 3) := by decide +kernel
theorem dX9_whyNoDuel_10 : decode cX9_whyNoDuel 10 = .ok (.aload_n 0, 1) := by decide +kernel
theorem dX9_whyNoDuel_11 : decode cX9_whyNoDuel 11 = .ok (.getfield 32, 3) := by decide +kernel
theorem dX9_whyNoDuel_14 : decode cX9_whyNoDuel 14 = .ok (.iconst 1, 1) := by decide +kernel
theorem dX9_whyNoDuel_15 : decode cX9_whyNoDuel 15 = .ok (.iaload, 1) := by decide +kernel
theorem dX9_whyNoDuel_16 : decode cX9_whyNoDuel 16 = .ok (.iconst 2, 1) := by decide +kernel
theorem dX9_whyNoDuel_17 : decode cX9_whyNoDuel 17 = .ok (.if_icmp .eq 6, 3) := by decide +kernel
theorem dX9_whyNoDuel_20 : decode cX9_whyNoDuel 20 = .ok (.bipush (-2), 2) := by decide +kernel
theorem dX9_whyNoDuel_22 : decode cX9_whyNoDuel 22 = .ok (.ireturn, 1) := by decide +kernel
theorem dX9_whyNoDuel_23 : decode cX9_whyNoDuel 23 = .ok (.aload_n 0, 1) := by decide +kernel
theorem dX9_whyNoDuel_24 : decode cX9_whyNoDuel 24 = .ok (.iload_n 1, 1) := by decide +kernel
theorem dX9_whyNoDuel_25 : decode cX9_whyNoDuel 25 = .ok (.invokevirtual 140, 3) := by decide +kernel
theorem dX9_whyNoDuel_28 : decode cX9_whyNoDuel 28 = .ok (.ifCond .eq 15, 3) := by decide +kernel
theorem dX9_whyNoDuel_31 : decode cX9_whyNoDuel 31 = .ok (.aload_n 0, 1) := by decide +kernel
theorem dX9_whyNoDuel_32 : decode cX9_whyNoDuel 32 = .ok (.iload_n 2, 1) := by decide +kernel
theorem dX9_whyNoDuel_33 : decode cX9_whyNoDuel 33 = .ok (.invokevirtual 140, 3) := by decide +kernel
theorem dX9_whyNoDuel_36 : decode cX9_whyNoDuel 36 = .ok (.ifCond .eq 7, 3) := by decide +kernel
theorem dX9_whyNoDuel_39 : decode cX9_whyNoDuel 39 = .ok (.iconst 0, 1) := by decide +kernel
theorem dX9_whyNoDuel_40 : decode cX9_whyNoDuel 40 = .ok (.goto 5, 3) := by decide +kernel
theorem dX9_whyNoDuel_43 : decode cX9_whyNoDuel 43 = .ok (.bipush (-3), 2) := by decide +kernel
theorem dX9_whyNoDuel_45 : decode cX9_whyNoDuel 45 = .ok (.ireturn, 1) := by decide +kernel
set_option maxRecDepth 20000 in
theorem ggX9_entersDuel_X9_of : GoodIn wsX9_entersDuel wsX9_of := goodIn_r _ [9, 10, 24, 25, 26, 27, 28, 29, 30, 31, 32, 33, 34, 35, 36, 37, 38, 39, 40, 41, 42, 43, 44, 45, 46, 47, 48, 49, 50, 51, 52, 53, 54, 55, 56, 57, 58, 59, 60, 61, 62, 63] (by decide +kernel) (by decide +kernel)
set_option maxRecDepth 20000 in
theorem gX9_entersDuel_X9_of : GoodIn wsX9_entersDuel (wsV RX9 106 RX9 yX9_of wsX9_of) := goodIn_app (goodIn_of _ (by decide +kernel)) ggX9_entersDuel_X9_of
set_option maxRecDepth 20000 in
theorem ggX9_entersDuel_X9_isOneCalled : GoodIn wsX9_entersDuel wsX9_isOneCalled := goodIn_r _ [14, 15, 1, 2, 24, 25, 26, 27, 28, 29, 30, 31, 32, 33, 34, 35, 36, 37, 38, 39, 40, 41, 42, 43, 44, 45, 46, 47, 48, 49, 50, 51, 52, 53, 54, 55, 56, 57, 58, 59, 60, 61, 62, 63] (by decide +kernel) (by decide +kernel)
set_option maxRecDepth 20000 in
theorem gX9_entersDuel_X9_isOneCalled : GoodIn wsX9_entersDuel (wsV RX9 388 RX9 yX9_isOneCalled wsX9_isOneCalled) := goodIn_app (goodIn_of _ (by decide +kernel)) ggX9_entersDuel_X9_isOneCalled
set_option maxRecDepth 20000 in
theorem ggX9_entersDuel_X9_notes : GoodIn wsX9_entersDuel wsX9_notes := goodIn_r _ [19, 20, 3, 24, 25, 26, 27, 28, 29, 30, 31, 32, 33, 34, 35, 36, 37, 38, 39, 40, 41, 42, 43, 44, 45, 46, 47, 48, 49, 50, 51, 52, 53, 54, 55, 56, 57, 58, 59, 60, 61, 62, 63] (by decide +kernel) (by decide +kernel)
set_option maxRecDepth 20000 in
theorem gX9_entersDuel_X9_notes : GoodIn wsX9_entersDuel (wsV RX9 180 RX9 yX9_notes wsX9_notes) := goodIn_app (goodIn_of _ (by decide +kernel)) ggX9_entersDuel_X9_notes
set_option maxRecDepth 20000 in
theorem ggX9_entersDuel_X9_duelCell : GoodIn wsX9_entersDuel wsX9_duelCell := goodIn_r _ [23] (by decide +kernel) (by decide +kernel)
set_option maxRecDepth 20000 in
theorem gX9_entersDuel_X9_duelCell : GoodIn wsX9_entersDuel (va_wsS RX9 394 yX9_duelCell wsX9_duelCell) := goodIn_app (goodIn_of _ (by decide +kernel)) ggX9_entersDuel_X9_duelCell
theorem dX9_entersDuel_0 : decode cX9_entersDuel 0 = .ok (.aload_n 0, 1) := by decide +kernel
theorem dX9_entersDuel_1 : decode cX9_entersDuel 1 = .ok (.aload_n 0, 1) := by decide +kernel
theorem dX9_entersDuel_2 : decode cX9_entersDuel 2 = .ok (.getfield 365, 3) := by decide +kernel
theorem dX9_entersDuel_5 : decode cX9_entersDuel 5 = .ok (.iconst 0, 1) := by decide +kernel
theorem dX9_entersDuel_6 : decode cX9_entersDuel 6 = .ok (.invokevirtual 106, 3) := by decide +kernel
theorem dX9_entersDuel_9 : decode cX9_entersDuel 9 = .ok (.istore_n 3, 1) := by decide +kernel
theorem dX9_entersDuel_10 : decode cX9_entersDuel 10 = .ok (.aload_n 0, 1) := by decide +kernel
theorem dX9_entersDuel_11 : decode cX9_entersDuel 11 = .ok (.aload_n 0, 1) := by decide +kernel
theorem dX9_entersDuel_12 : decode cX9_entersDuel 12 = .ok (.getfield 368, 3) := by decide +kernel
theorem dX9_entersDuel_15 : decode cX9_entersDuel 15 = .ok (.iconst 0, 1) := by decide +kernel
theorem dX9_entersDuel_16 : decode cX9_entersDuel 16 = .ok (.invokevirtual 106, 3) := by decide +kernel
theorem dX9_entersDuel_19 : decode cX9_entersDuel 19 = .ok (.istore 4, 2) := by decide +kernel
theorem dX9_entersDuel_21 : decode cX9_entersDuel 21 = .ok (.aload_n 0, 1) := by decide +kernel
theorem dX9_entersDuel_22 : decode cX9_entersDuel 22 = .ok (.iconst 0, 1) := by decide +kernel
theorem dX9_entersDuel_23 : decode cX9_entersDuel 23 = .ok (.putfield 81, 3) := by decide +kernel
theorem dX9_entersDuel_26 : decode cX9_entersDuel 26 = .ok (.aload_n 0, 1) := by decide +kernel
theorem dX9_entersDuel_27 : decode cX9_entersDuel 27 = .ok (.aload_n 0, 1) := by decide +kernel
theorem dX9_entersDuel_28 : decode cX9_entersDuel 28 = .ok (.iload_n 3, 1) := by decide +kernel
theorem dX9_entersDuel_29 : decode cX9_entersDuel 29 = .ok (.iload 4, 2) := by decide +kernel
theorem dX9_entersDuel_31 : decode cX9_entersDuel 31 = .ok (.invokevirtual 388, 3) := by decide +kernel
theorem dX9_entersDuel_34 : decode cX9_entersDuel 34 = .ok (.ifCond .eq 11, 3) := by decide +kernel
theorem dX9_entersDuel_37 : decode cX9_entersDuel 37 = .ok (.aload_n 0, 1) := by decide +kernel
theorem dX9_entersDuel_38 : decode cX9_entersDuel 38 = .ok (.getfield 365, 3) := by decide +kernel
theorem dX9_entersDuel_41 : decode cX9_entersDuel 41 = .ok (.i2l, 1) := by decide +kernel
theorem dX9_entersDuel_42 : decode cX9_entersDuel 42 = .ok (.goto 8, 3) := by decide +kernel
theorem dX9_entersDuel_45 : decode cX9_entersDuel 45 = .ok (.aload_n 0, 1) := by decide +kernel
theorem dX9_entersDuel_46 : decode cX9_entersDuel 46 = .ok (.getfield 368, 3) := by decide +kernel
theorem dX9_entersDuel_49 : decode cX9_entersDuel 49 = .ok (.i2l, 1) := by decide +kernel
theorem dX9_entersDuel_50 : decode cX9_entersDuel 50 = .ok (.invokevirtual 180, 3) := by decide +kernel
theorem dX9_entersDuel_53 : decode cX9_entersDuel 53 = .ok (.aload_n 0, 1) := by decide +kernel
theorem dX9_entersDuel_54 : decode cX9_entersDuel 54 = .ok (.aload_n 0, 1) := by decide +kernel
theorem dX9_entersDuel_55 : decode cX9_entersDuel 55 = .ok (.getfield 74, 3) := by decide +kernel
theorem dX9_entersDuel_58 : decode cX9_entersDuel 58 = .ok (.iload_n 3, 1) := by decide +kernel
theorem dX9_entersDuel_59 : decode cX9_entersDuel 59 = .ok (.iload 4, 2) := by decide +kernel
theorem dX9_entersDuel_61 : decode cX9_entersDuel 61 = .ok (.iload_n 1, 1) := by decide +kernel
theorem dX9_entersDuel_62 : decode cX9_entersDuel 62 = .ok (.iload_n 2, 1) := by decide +kernel
theorem dX9_entersDuel_63 : decode cX9_entersDuel 63 = .ok (.invokestatic 394, 3) := by decide +kernel
theorem dX9_entersDuel_66 : decode cX9_entersDuel 66 = .ok (.iaload, 1) := by decide +kernel
theorem dX9_entersDuel_67 : decode cX9_entersDuel 67 = .ok (.i2l, 1) := by decide +kernel
theorem dX9_entersDuel_68 : decode cX9_entersDuel 68 = .ok (.invokevirtual 180, 3) := by decide +kernel
theorem dX9_entersDuel_71 : decode cX9_entersDuel 71 = .ok (.return_, 1) := by decide +kernel
set_option maxRecDepth 20000 in
theorem ggX9_duel_X9_isLifter : GoodIn wsX9_duel wsX9_isLifter := goodIn_r _ [8, 9, 10, 11, 7, 12, 115, 116, 117, 118, 119, 120, 121, 122, 123, 124, 125, 126, 127, 128, 129, 130, 131, 132, 133, 134, 135, 136, 137, 138, 139, 140, 141, 142, 143, 144, 145, 146, 147, 148, 149, 150, 151, 152, 153, 154] (by decide +kernel) (by decide +kernel)
set_option maxRecDepth 20000 in
theorem gX9_duel_X9_isLifter : GoodIn wsX9_duel (wsV RX9 233 RX9 yX9_isLifter wsX9_isLifter) := goodIn_app (goodIn_of _ (by decide +kernel)) ggX9_duel_X9_isLifter
set_option maxRecDepth 20000 in
theorem ggX9_duel_X9_whyNoDuel : GoodIn wsX9_duel wsX9_whyNoDuel := goodIn_r _ [16, 17, 18, 19, 20, 7, 21, 22, 23, 24, 25, 26, 27, 28, 29, 30, 31, 32, 33, 115, 116, 117, 118, 119, 120, 121, 122, 123, 124, 125, 126, 127, 128, 129, 130, 131, 132, 133, 134, 135, 136, 137, 138, 139, 140, 141, 142, 143, 144, 145, 146, 147, 148, 149, 150, 151, 152, 153, 154] (by decide +kernel) (by decide +kernel)
set_option maxRecDepth 20000 in
theorem gX9_duel_X9_whyNoDuel : GoodIn wsX9_duel (wsV RX9 400 RX9 yX9_whyNoDuel wsX9_whyNoDuel) := goodIn_app (goodIn_of _ (by decide +kernel)) ggX9_duel_X9_whyNoDuel
set_option maxRecDepth 20000 in
theorem ggX9_duel_X9_duelAt : GoodIn wsX9_duel wsX9_duelAt := goodIn_r _ [37, 2, 3, 38, 22, 23, 24, 7, 25, 17, 10, 11, 12, 39, 40, 41, 42, 43, 44, 45, 46, 47, 48, 49, 50, 51, 52, 53, 54, 55, 56, 57, 58, 59, 60, 61, 62, 63, 64, 65, 66, 67, 68, 69, 70, 71, 72, 73, 74, 75, 76, 77, 78, 79, 80, 81, 82, 83, 84, 85, 86, 87, 88, 89, 90, 91, 92, 93, 94, 95, 96, 97, 98, 99, 100, 101, 102, 103, 104, 115, 116, 117, 118, 119, 120, 121, 122, 123, 124, 125, 126, 127, 128, 129, 130, 131, 132, 133, 134, 135, 136, 137, 138, 139, 140, 141, 142, 143, 144, 145, 146, 147, 148, 149, 150, 151, 152, 153, 154] (by decide +kernel) (by decide +kernel)
set_option maxRecDepth 20000 in
theorem gX9_duel_X9_duelAt : GoodIn wsX9_duel (wsV RX9 403 RX9 yX9_duelAt wsX9_duelAt) := goodIn_app (goodIn_of _ (by decide +kernel)) ggX9_duel_X9_duelAt
set_option maxRecDepth 20000 in
theorem ggX9_duel_X9_of : GoodIn wsX9_duel wsX9_of := goodIn_r _ [25, 17, 115, 116, 117, 118, 119, 120, 121, 122, 123, 124, 125, 126, 127, 128, 129, 130, 131, 132, 133, 134, 135, 136, 137, 138, 139, 140, 141, 142, 143, 144, 145, 146, 147, 148, 149, 150, 151, 152, 153, 154] (by decide +kernel) (by decide +kernel)
set_option maxRecDepth 20000 in
theorem gX9_duel_X9_of : GoodIn wsX9_duel (wsV RX9 106 RX9 yX9_of wsX9_of) := goodIn_app (goodIn_of _ (by decide +kernel)) ggX9_duel_X9_of
set_option maxRecDepth 20000 in
theorem ggX9_duel_X9_entersDuel : GoodIn wsX9_duel wsX9_entersDuel := goodIn_r _ [108, 2, 3, 109, 43, 22, 23, 24, 7, 25, 17, 44, 45, 46, 47, 48, 110, 111, 112, 113, 114, 102, 103, 104, 115, 116, 117, 118, 119, 120, 121, 122, 123, 124, 125, 126, 127, 128, 129, 130, 131, 132, 133, 134, 135, 136, 137, 138, 139, 140, 141, 142, 143, 144, 145, 146, 147, 148, 149, 150, 151, 152, 153, 154] (by decide +kernel) (by decide +kernel)
set_option maxRecDepth 20000 in
theorem gX9_duel_X9_entersDuel : GoodIn wsX9_duel (wsV RX9 406 RX9 yX9_entersDuel wsX9_entersDuel) := goodIn_app (goodIn_of _ (by decide +kernel)) ggX9_duel_X9_entersDuel
set_option maxRecDepth 20000 in
theorem ggX9_duel_X9_notes : GoodIn wsX9_duel wsX9_notes := goodIn_r _ [113, 114, 109, 115, 116, 117, 118, 119, 120, 121, 122, 123, 124, 125, 126, 127, 128, 129, 130, 131, 132, 133, 134, 135, 136, 137, 138, 139, 140, 141, 142, 143, 144, 145, 146, 147, 148, 149, 150, 151, 152, 153, 154] (by decide +kernel) (by decide +kernel)
set_option maxRecDepth 20000 in
theorem gX9_duel_X9_notes : GoodIn wsX9_duel (wsV RX9 180 RX9 yX9_notes wsX9_notes) := goodIn_app (goodIn_of _ (by decide +kernel)) ggX9_duel_X9_notes
theorem dX9_duel_0 : decode cX9_duel 0 = .ok (.aload_n 0, 1) := by decide +kernel
theorem dX9_duel_1 : decode cX9_duel 1 = .ok (.iconst 0, 1) := by decide +kernel
theorem dX9_duel_2 : decode cX9_duel 2 = .ok (.putfield 77, 3) := by decide +kernel
theorem dX9_duel_5 : decode cX9_duel 5 = .ok (.aload_n 0, 1) := by decide +kernel
theorem dX9_duel_6 : decode cX9_duel 6 = .ok (.iload_n 1, 1) := by decide +kernel
theorem dX9_duel_7 : decode cX9_duel 7 = .ok (.invokevirtual 233, 3) := by decide +kernel
theorem dX9_duel_10 : decode cX9_duel 10 = .ok (.ifCond .eq 16, 3) := by decide +kernel
theorem dX9_duel_13 : decode cX9_duel 13 = .ok (.aload_n 0, 1) := by decide +kernel
theorem dX9_duel_14 : decode cX9_duel 14 = .ok (.iload_n 2, 1) := by decide +kernel
theorem dX9_duel_15 : decode cX9_duel 15 = .ok (.invokevirtual 233, 3) := by decide +kernel
theorem dX9_duel_18 : decode cX9_duel 18 = .ok (.ifCond .eq 8, 3) := by decide +kernel
theorem dX9_duel_21 : decode cX9_duel 21 = .ok (.iload_n 1, 1) := by decide +kernel
theorem dX9_duel_22 : decode cX9_duel 22 = .ok (.iload_n 2, 1) := by decide +kernel
theorem dX9_duel_23 : decode cX9_duel 23 = .ok (.if_icmp .ne 5, 3) := by decide +kernel
theorem dX9_duel_26 : decode cX9_duel 26 = .ok (.iconst (-1), 1) := by decide +kernel
theorem dX9_duel_27 : decode cX9_duel 27 = .ok (.ireturn, 1) := by decide +kernel
theorem dX9_duel_28 : decode cX9_duel 28 = .ok (.aload_n 0, 1) := by decide +kernel
theorem dX9_duel_29 : decode cX9_duel 29 = .ok (.iload_n 1, 1) := by decide +kernel
theorem dX9_duel_30 : decode cX9_duel 30 = .ok (.iload_n 2, 1) := by decide +kernel
theorem dX9_duel_31 : decode cX9_duel 31 = .ok (.invokevirtual 400, 3) := by decide +kernel
theorem dX9_duel_34 : decode cX9_duel 34 = .ok (.istore_n 3, 1) := by decide +kernel
theorem dX9_duel_35 : decode cX9_duel 35 = .ok (.iload_n 3, 1) := by decide +kernel
theorem dX9_duel_36 : decode cX9_duel 36 = .ok (.ifCond .eq 5, 3) := by decide +kernel
theorem dX9_duel_39 : decode cX9_duel 39 = .ok (.iload_n 3, 1) := by decide +kernel
