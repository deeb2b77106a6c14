theorem dX9_duel_40 : decode cX9_duel 40 = .ok (.ireturn, 1) := by decide +kernel
theorem dX9_duel_41 : decode cX9_duel 41 = .ok (.aload_n 0, 1) := by decide +kernel
theorem dX9_duel_42 : decode cX9_duel 42 = .ok (.iload_n 1, 1) := by decide +kernel
theorem dX9_duel_43 : decode cX9_duel 43 = .ok (.putfield 365, 3) := by decide +kernel
theorem dX9_duel_46 : decode cX9_duel 46 = .ok (.aload_n 0, 1) := by decide +kernel
theorem dX9_duel_47 : decode cX9_duel 47 = .ok (.iload_n 2, 1) := by decide +kernel
theorem dX9_duel_48 : decode cX9_duel 48 = .ok (.putfield 368, 3) := by decide +kernel
theorem dX9_duel_51 : decode cX9_duel 51 = .ok (.aload_n 0, 1) := by decide +kernel
theorem dX9_duel_52 : decode cX9_duel 52 = .ok (.iconst 0, 1) := by decide +kernel
theorem dX9_duel_53 : decode cX9_duel 53 = .ok (.iconst 0, 1) := by decide +kernel
theorem dX9_duel_54 : decode cX9_duel 54 = .ok (.invokevirtual 403, 3) := by decide +kernel
theorem dX9_duel_57 : decode cX9_duel 57 = .ok (.istore 4, 2) := by decide +kernel
theorem dX9_duel_59 : decode cX9_duel 59 = .ok (.aload_n 0, 1) := by decide +kernel
theorem dX9_duel_60 : decode cX9_duel 60 = .ok (.aload_n 0, 1) := by decide +kernel
theorem dX9_duel_61 : decode cX9_duel 61 = .ok (.iload_n 1, 1) := by decide +kernel
theorem dX9_duel_62 : decode cX9_duel 62 = .ok (.iconst 5, 1) := by decide +kernel
theorem dX9_duel_63 : decode cX9_duel 63 = .ok (.invokevirtual 106, 3) := by decide +kernel
theorem dX9_duel_66 : decode cX9_duel 66 = .ok (.aload_n 0, 1) := by decide +kernel
theorem dX9_duel_67 : decode cX9_duel 67 = .ok (.iload_n 2, 1) := by decide +kernel
theorem dX9_duel_68 : decode cX9_duel 68 = .ok (.iconst 5, 1) := by decide +kernel
theorem dX9_duel_69 : decode cX9_duel 69 = .ok (.invokevirtual 106, 3) := by decide +kernel
theorem dX9_duel_72 : decode cX9_duel 72 = .ok (.invokevirtual 403, 3) := by decide +kernel
theorem dX9_duel_75 : decode cX9_duel 75 = .ok (.istore 5, 2) := by decide +kernel
theorem dX9_duel_77 : decode cX9_duel 77 = .ok (.aload_n 0, 1) := by decide +kernel
theorem dX9_duel_78 : decode cX9_duel 78 = .ok (.aload_n 0, 1) := by decide +kernel
theorem dX9_duel_79 : decode cX9_duel 79 = .ok (.iload_n 1, 1) := by decide +kernel
theorem dX9_duel_80 : decode cX9_duel 80 = .ok (.iconst 5, 1) := by decide +kernel
theorem dX9_duel_81 : decode cX9_duel 81 = .ok (.invokevirtual 106, 3) := by decide +kernel
theorem dX9_duel_84 : decode cX9_duel 84 = .ok (.aload_n 0, 1) := by decide +kernel
theorem dX9_duel_85 : decode cX9_duel 85 = .ok (.iload_n 2, 1) := by decide +kernel
theorem dX9_duel_86 : decode cX9_duel 86 = .ok (.iconst 5, 1) := by decide +kernel
theorem dX9_duel_87 : decode cX9_duel 87 = .ok (.invokevirtual 106, 3) := by decide +kernel
theorem dX9_duel_90 : decode cX9_duel 90 = .ok (.invokevirtual 406, 3) := by decide +kernel
theorem dX9_duel_93 : decode cX9_duel 93 = .ok (.aload_n 0, 1) := by decide +kernel
theorem dX9_duel_94 : decode cX9_duel 94 = .ok (.iload 4, 2) := by decide +kernel
theorem dX9_duel_96 : decode cX9_duel 96 = .ok (.i2l, 1) := by decide +kernel
theorem dX9_duel_97 : decode cX9_duel 97 = .ok (.invokevirtual 180, 3) := by decide +kernel
theorem dX9_duel_100 : decode cX9_duel 100 = .ok (.iload 5, 2) := by decide +kernel
theorem dX9_duel_102 : decode cX9_duel 102 = .ok (.ireturn, 1) := by decide +kernel
set_option maxRecDepth 20000 in
theorem ggX9_bluff_X9_isLifter : GoodIn wsX9_bluff wsX9_isLifter := goodIn_r _ [9, 10, 11, 12, 8, 13, 116, 117, 118, 119, 120, 121, 122, 123, 124, 125, 126, 127, 128, 129, 130, 131, 132, 133, 134, 135, 136, 137, 138, 139, 140, 141, 142, 143, 144, 145, 146, 147, 148, 149, 150, 151, 152, 153, 154, 155] (by decide +kernel) (by decide +kernel)
set_option maxRecDepth 20000 in
theorem gX9_bluff_X9_isLifter : GoodIn wsX9_bluff (wsV RX9 233 RX9 yX9_isLifter wsX9_isLifter) := goodIn_app (goodIn_of _ (by decide +kernel)) ggX9_bluff_X9_isLifter
set_option maxRecDepth 20000 in
theorem ggX9_bluff_X9_in : GoodIn wsX9_bluff wsX9_in := goodIn_r _ [13] (by decide +kernel) (by decide +kernel)
set_option maxRecDepth 20000 in
theorem gX9_bluff_X9_in : GoodIn wsX9_bluff (va_wsS RX9 87 yX9_in wsX9_in) := goodIn_app (goodIn_of _ (by decide +kernel)) ggX9_bluff_X9_in
set_option maxRecDepth 20000 in
theorem ggX9_bluff_X9_whyNoDuel : GoodIn wsX9_bluff wsX9_whyNoDuel := goodIn_r _ [17, 18, 19, 20, 21, 8, 22, 23, 24, 25, 26, 27, 28, 29, 30, 31, 32, 33, 34, 116, 117, 118, 119, 120, 121, 122, 123, 124, 125, 126, 127, 128, 129, 130, 131, 132, 133, 134, 135, 136, 137, 138, 139, 140, 141, 142, 143, 144, 145, 146, 147, 148, 149, 150, 151, 152, 153, 154, 155] (by decide +kernel) (by decide +kernel)
set_option maxRecDepth 20000 in
theorem gX9_bluff_X9_whyNoDuel : GoodIn wsX9_bluff (wsV RX9 400 RX9 yX9_whyNoDuel wsX9_whyNoDuel) := goodIn_app (goodIn_of _ (by decide +kernel)) ggX9_bluff_X9_whyNoDuel
set_option maxRecDepth 20000 in
theorem ggX9_bluff_X9_duelAt : GoodIn wsX9_bluff wsX9_duelAt := goodIn_r _ [38, 3, 4, 39, 23, 24, 25, 8, 26, 18, 11, 12, 13, 40, 41, 42, 43, 44, 45, 46, 47, 48, 49, 50, 51, 52, 53, 54, 55, 56, 57, 58, 59, 60, 61, 62, 63, 64, 65, 66, 67, 68, 69, 70, 71, 72, 73, 74, 75, 76, 77, 78, 79, 80, 81, 82, 83, 84, 85, 86, 87, 88, 89, 90, 91, 92, 93, 94, 95, 96, 97, 98, 99, 100, 101, 102, 103, 104, 105, 116, 117, 118, 119, 120, 121, 122, 123, 124, 125, 126, 127, 128, 129, 130, 131, 132, 133, 134, 135, 136, 137, 138, 139, 140, 141, 142, 143, 144, 145, 146, 147, 148, 149, 150, 151, 152, 153, 154, 155] (by decide +kernel) (by decide +kernel)
set_option maxRecDepth 20000 in
theorem gX9_bluff_X9_duelAt : GoodIn wsX9_bluff (wsV RX9 403 RX9 yX9_duelAt wsX9_duelAt) := goodIn_app (goodIn_of _ (by decide +kernel)) ggX9_bluff_X9_duelAt
set_option maxRecDepth 20000 in
theorem ggX9_bluff_X9_entersDuel : GoodIn wsX9_bluff wsX9_entersDuel := goodIn_r _ [109, 3, 4, 110, 44, 23, 24, 25, 8, 26, 18, 45, 46, 47, 48, 49, 111, 112, 113, 114, 115, 103, 104, 105, 116, 117, 118, 119, 120, 121, 122, 123, 124, 125, 126, 127, 128, 129, 130, 131, 132, 133, 134, 135, 136, 137, 138, 139, 140, 141, 142, 143, 144, 145, 146, 147, 148, 149, 150, 151, 152, 153, 154, 155] (by decide +kernel) (by decide +kernel)
set_option maxRecDepth 20000 in
theorem gX9_bluff_X9_entersDuel : GoodIn wsX9_bluff (wsV RX9 406 RX9 yX9_entersDuel wsX9_entersDuel) := goodIn_app (goodIn_of _ (by decide +kernel)) ggX9_bluff_X9_entersDuel
theorem dX9_bluff_0 : decode cX9_bluff 0 = .ok (.aload_n 0, 1) := by decide +kernel
theorem dX9_bluff_1 : decode cX9_bluff 1 = .ok (.iconst 0, 1) := by decide +kernel
theorem dX9_bluff_2 : decode cX9_bluff 2 = .ok (.putfield 77, 3) := by decide +kernel
theorem dX9_bluff_5 : decode cX9_bluff 5 = .ok (.aload_n 0, 1) := by decide +kernel
theorem dX9_bluff_6 : decode cX9_bluff 6 = .ok (.iload_n 1, 1) := by decide +kernel
theorem dX9_bluff_7 : decode cX9_bluff 7 = .ok (.invokevirtual 233, 3) := by decide +kernel
theorem dX9_bluff_10 : decode cX9_bluff 10 = .ok (.ifCond .eq 41, 3) := by decide +kernel
theorem dX9_bluff_13 : decode cX9_bluff 13 = .ok (.aload_n 0, 1) := by decide +kernel
theorem dX9_bluff_14 : decode cX9_bluff 14 = .ok (.iload_n 2, 1) := by decide +kernel
theorem dX9_bluff_15 : decode cX9_bluff 15 = .ok (.invokevirtual 233, 3) := by decide +kernel
theorem dX9_bluff_18 : decode cX9_bluff 18 = .ok (.ifCond .eq 33, 3) := by decide +kernel
theorem dX9_bluff_21 : decode cX9_bluff 21 = .ok (.iload_n 1, 1) := by decide +kernel
theorem dX9_bluff_22 : decode cX9_bluff 22 = .ok (.iload_n 2, 1) := by decide +kernel
theorem dX9_bluff_23 : decode cX9_bluff 23 = .ok (.if_icmp .eq 28, 3) := by decide +kernel
theorem dX9_bluff_26 : decode cX9_bluff 26 = .ok (.iload_n 3, 1) := by decide +kernel
theorem dX9_bluff_27 : decode cX9_bluff 27 = .ok (.i2l, 1) := by decide +kernel
theorem dX9_bluff_28 : decode cX9_bluff 28 = .ok (.lconst 0, 1) := by decide +kernel
theorem dX9_bluff_29 : decode cX9_bluff 29 = .ok (.ldc2_w 91, 3) := by decide +kernel
theorem dX9_bluff_32 : decode cX9_bluff 32 = .ok (.invokestatic 87, 3) := by decide +kernel
theorem dX9_bluff_35 : decode cX9_bluff 35 = .ok (.ifCond .eq 16, 3) := by decide +kernel
theorem dX9_bluff_38 : decode cX9_bluff 38 = .ok (.iload 4, 2) := by decide +kernel
theorem dX9_bluff_40 : decode cX9_bluff 40 = .ok (.i2l, 1) := by decide +kernel
theorem dX9_bluff_41 : decode cX9_bluff 41 = .ok (.lconst 0, 1) := by decide +kernel
theorem dX9_bluff_42 : decode cX9_bluff 42 = .ok (.ldc2_w 91, 3) := by decide +kernel
theorem dX9_bluff_45 : decode cX9_bluff 45 = .ok (.invokestatic 87, 3) := by decide +kernel
theorem dX9_bluff_48 : decode cX9_bluff 48 = .ok (.ifCond .ne 5, 3) := by decide +kernel
theorem dX9_bluff_51 : decode cX9_bluff 51 = .ok (.iconst (-1), 1) := by decide +kernel
theorem dX9_bluff_52 : decode cX9_bluff 52 = .ok (.ireturn, 1) := by decide +kernel
theorem dX9_bluff_53 : decode cX9_bluff 53 = .ok (.aload_n 0, 1) := by decide +kernel
theorem dX9_bluff_54 : decode cX9_bluff 54 = .ok (.iload_n 1, 1) := by decide +kernel
theorem dX9_bluff_55 : decode cX9_bluff 55 = .ok (.iload_n 2, 1) := by decide +kernel
theorem dX9_bluff_56 : decode cX9_bluff 56 = .ok (.invokevirtual 400, 3) := by decide +kernel
theorem dX9_bluff_59 : decode cX9_bluff 59 = .ok (.istore 5, 2) := by decide +kernel
theorem dX9_bluff_61 : decode cX9_bluff 61 = .ok (.iload 5, 2) := by decide +kernel
theorem dX9_bluff_63 : decode cX9_bluff 63 = .ok (.ifCond .eq 6, 3) := by decide +kernel
theorem dX9_bluff_66 : decode cX9_bluff 66 = .ok (.iload 5, 2) := by decide +kernel
theorem dX9_bluff_68 : decode cX9_bluff 68 = .ok (.ireturn, 1) := by decide +kernel
theorem dX9_bluff_69 : decode cX9_bluff 69 = .ok (.aload_n 0, 1) := by decide +kernel
theorem dX9_bluff_70 : decode cX9_bluff 70 = .ok (.iload_n 1, 1) := by decide +kernel
theorem dX9_bluff_71 : decode cX9_bluff 71 = .ok (.putfield 365, 3) := by decide +kernel
theorem dX9_bluff_74 : decode cX9_bluff 74 = .ok (.aload_n 0, 1) := by decide +kernel
theorem dX9_bluff_75 : decode cX9_bluff 75 = .ok (.iload_n 2, 1) := by decide +kernel
theorem dX9_bluff_76 : decode cX9_bluff 76 = .ok (.putfield 368, 3) := by decide +kernel
theorem dX9_bluff_79 : decode cX9_bluff 79 = .ok (.aload_n 0, 1) := by decide +kernel
theorem dX9_bluff_80 : decode cX9_bluff 80 = .ok (.iload_n 3, 1) := by decide +kernel
theorem dX9_bluff_81 : decode cX9_bluff 81 = .ok (.iload 4, 2) := by decide +kernel
theorem dX9_bluff_83 : decode cX9_bluff 83 = .ok (.invokevirtual 403, 3) := by decide +kernel
theorem dX9_bluff_86 : decode cX9_bluff 86 = .ok (.istore 6, 2) := by decide +kernel
theorem dX9_bluff_88 : decode cX9_bluff 88 = .ok (.aload_n 0, 1) := by decide +kernel
theorem dX9_bluff_89 : decode cX9_bluff 89 = .ok (.iload_n 3, 1) := by decide +kernel
theorem dX9_bluff_90 : decode cX9_bluff 90 = .ok (.iload 4, 2) := by decide +kernel
theorem dX9_bluff_92 : decode cX9_bluff 92 = .ok (.invokevirtual 406, 3) := by decide +kernel
theorem dX9_bluff_95 : decode cX9_bluff 95 = .ok (.iload 6, 2) := by decide +kernel
theorem dX9_bluff_97 : decode cX9_bluff 97 = .ok (.ireturn, 1) := by decide +kernel
theorem dX9_draw_0 : decode cX9_draw 0 = .ok (.aload_n 0, 1) := by decide +kernel
theorem dX9_draw_1 : decode cX9_draw 1 = .ok (.aload_n 0, 1) := by decide +kernel
theorem dX9_draw_2 : decode cX9_draw 2 = .ok (.getfield 409, 3) := by decide +kernel
theorem dX9_draw_5 : decode cX9_draw 5 = .ok (.ldc_w 412, 3) := by decide +kernel
theorem dX9_draw_8 : decode cX9_draw 8 = .ok (.imul, 1) := by decide +kernel
theorem dX9_draw_9 : decode cX9_draw 9 = .ok (.sipush 12345, 3) := by decide +kernel
theorem dX9_draw_12 : decode cX9_draw 12 = .ok (.iadd, 1) := by decide +kernel
theorem dX9_draw_13 : decode cX9_draw 13 = .ok (.putfield 409, 3) := by decide +kernel
theorem dX9_draw_16 : decode cX9_draw 16 = .ok (.aload_n 0, 1) := by decide +kernel
theorem dX9_draw_17 : decode cX9_draw 17 = .ok (.getfield 409, 3) := by decide +kernel
theorem dX9_draw_20 : decode cX9_draw 20 = .ok (.bipush 16, 2) := by decide +kernel
theorem dX9_draw_22 : decode cX9_draw 22 = .ok (.iushr, 1) := by decide +kernel
theorem dX9_draw_23 : decode cX9_draw 23 = .ok (.iload_n 1, 1) := by decide +kernel
theorem dX9_draw_24 : decode cX9_draw 24 = .ok (.irem, 1) := by decide +kernel
theorem dX9_draw_25 : decode cX9_draw 25 = .ok (.ireturn, 1) := by decide +kernel
set_option maxRecDepth 20000 in
theorem ggX9_playsOn_X9_calledNow : GoodIn wsX9_playsOn wsX9_calledNow := goodIn_r _ [6, 7, 8, 9, 10, 5, 11, 12, 13, 14, 15, 1, 16, 17, 18, 19, 20, 21, 22, 23, 24, 25, 26, 27, 28, 95, 96, 97, 98, 99, 100, 101, 102, 103, 104, 105, 106, 107, 108, 109, 110, 111, 112, 113, 114, 115, 116, 117, 118, 119, 120, 121, 122, 123, 124, 125, 126, 127, 128, 129, 130, 131, 132, 133, 134] (by decide +kernel) (by decide +kernel)
set_option maxRecDepth 20000 in
theorem gX9_playsOn_X9_calledNow : GoodIn wsX9_playsOn (wsV RX9 147 RX9 yX9_calledNow wsX9_calledNow) := goodIn_app (goodIn_of _ (by decide +kernel)) ggX9_playsOn_X9_calledNow
set_option maxRecDepth 20000 in
theorem ggX9_playsOn_X9_draw : GoodIn wsX9_playsOn wsX9_draw := goodIn_r _ [32, 33, 34, 95, 96, 97, 98, 99, 100, 101, 102, 103, 104, 105, 106, 107, 108, 109, 110, 111, 112, 113, 114, 115, 116, 117, 118, 119, 120, 121, 122, 123, 124, 125, 126, 127, 128, 129, 130, 131, 132, 133, 134] (by decide +kernel) (by decide +kernel)
set_option maxRecDepth 20000 in
theorem gX9_playsOn_X9_draw : GoodIn wsX9_playsOn (wsV RX9 413 RX9 yX9_draw wsX9_draw) := goodIn_app (goodIn_of _ (by decide +kernel)) ggX9_playsOn_X9_draw
set_option maxRecDepth 20000 in
theorem ggX9_playsOn_X9_of : GoodIn wsX9_playsOn wsX9_of := goodIn_r _ [15, 1, 95, 96, 97, 98, 99, 100, 101, 102, 103, 104, 105, 106, 107, 108, 109, 110, 111, 112, 113, 114, 115, 116, 117, 118, 119, 120, 121, 122, 123, 124, 125, 126, 127, 128, 129, 130, 131, 132, 133, 134] (by decide +kernel) (by decide +kernel)
set_option maxRecDepth 20000 in
theorem gX9_playsOn_X9_of : GoodIn wsX9_playsOn (wsV RX9 106 RX9 yX9_of wsX9_of) := goodIn_app (goodIn_of _ (by decide +kernel)) ggX9_playsOn_X9_of
set_option maxRecDepth 20000 in
theorem ggX9_playsOn_X9_oddsOf : GoodIn wsX9_playsOn wsX9_oddsOf := goodIn_r _ [38, 39, 40, 41, 42, 43, 44, 45, 46, 5, 47, 48, 49, 50, 95, 96, 97, 98, 99, 100, 101, 102, 103, 104, 105, 106, 107, 108, 109, 110, 111, 112, 113, 114, 115, 116, 117, 118, 119, 120, 121, 122, 123, 124, 125, 126, 127, 128, 129, 130, 131, 132, 133, 134] (by decide +kernel) (by decide +kernel)
set_option maxRecDepth 20000 in
theorem gX9_playsOn_X9_oddsOf : GoodIn wsX9_playsOn (wsV RX9 245 RX9 yX9_oddsOf wsX9_oddsOf) := goodIn_app (goodIn_of _ (by decide +kernel)) ggX9_playsOn_X9_oddsOf
set_option maxRecDepth 20000 in
theorem ggX9_playsOn_X9_doesTry : GoodIn wsX9_playsOn wsX9_doesTry := goodIn_r _ [54, 1, 55, 40, 41, 42, 43, 56, 57, 58, 12, 13, 14, 5, 15, 59, 60, 61, 62, 63, 64, 65, 66, 67, 68, 69, 70, 71, 72, 73, 74, 75, 76, 77, 78, 7, 20, 21, 22, 23, 2, 3, 4, 6, 8, 9, 10, 11, 16, 17, 18, 19, 24, 25, 26, 27, 28, 79, 80, 81, 82, 83, 84, 85, 86, 87, 88, 89, 90, 91, 92, 93, 94, 95, 96, 97, 98, 99, 100, 101, 102, 103, 104, 105, 106, 107, 108, 109, 110, 111, 112, 113, 114, 115, 116, 117, 118, 119, 120, 121, 122, 123, 124, 125, 126, 127, 128, 129, 130, 131, 132, 133, 134] (by decide +kernel) (by decide +kernel)
set_option maxRecDepth 20000 in
theorem gX9_playsOn_X9_doesTry : GoodIn wsX9_playsOn (wsV RX9 255 RX9 yX9_doesTry wsX9_doesTry) := goodIn_app (goodIn_of _ (by decide +kernel)) ggX9_playsOn_X9_doesTry
theorem dX9_playsOn_0 : decode cX9_playsOn 0 = .ok (.iconst 0, 1) := by decide +kernel
theorem dX9_playsOn_1 : decode cX9_playsOn 1 = .ok (.istore_n 1, 1) := by decide +kernel
theorem dX9_playsOn_2 : decode cX9_playsOn 2 = .ok (.aload_n 0, 1) := by decide +kernel
theorem dX9_playsOn_3 : decode cX9_playsOn 3 = .ok (.invokevirtual 147, 3) := by decide +kernel
theorem dX9_playsOn_6 : decode cX9_playsOn 6 = .ok (.istore_n 2, 1) := by decide +kernel
theorem dX9_playsOn_7 : decode cX9_playsOn 7 = .ok (.iload_n 2, 1) := by decide +kernel
theorem dX9_playsOn_8 : decode cX9_playsOn 8 = .ok (.iconst (-1), 1) := by decide +kernel
theorem dX9_playsOn_9 : decode cX9_playsOn 9 = .ok (.if_icmp .eq 57, 3) := by decide +kernel
theorem dX9_playsOn_12 : decode cX9_playsOn 12 = .ok (.aload_n 0, 1) := by decide +kernel
theorem dX9_playsOn_13 : decode cX9_playsOn 13 = .ok (.iload_n 2, 1) := by decide +kernel
theorem dX9_playsOn_14 : decode cX9_playsOn 14 = .ok (.aload_n 0, 1) := by decide +kernel
theorem dX9_playsOn_15 : decode cX9_playsOn 15 = .ok (.sipush 1000, 3) := by decide +kernel
theorem dX9_playsOn_18 : decode cX9_playsOn 18 = .ok (.invokevirtual 413, 3) := by decide +kernel
theorem dX9_playsOn_21 : decode cX9_playsOn 21 = .ok (.aload_n 0, 1) := by decide +kernel
theorem dX9_playsOn_22 : decode cX9_playsOn 22 = .ok (.iload_n 2, 1) := by decide +kernel
theorem dX9_playsOn_23 : decode cX9_playsOn 23 = .ok (.aload_n 0, 1) := by decide +kernel
theorem dX9_playsOn_24 : decode cX9_playsOn 24 = .ok (.getfield 32, 3) := by decide +kernel
theorem dX9_playsOn_27 : decode cX9_playsOn 27 = .ok (.iconst 0, 1) := by decide +kernel
theorem dX9_playsOn_28 : decode cX9_playsOn 28 = .ok (.iaload, 1) := by decide +kernel
theorem dX9_playsOn_29 : decode cX9_playsOn 29 = .ok (.aload_n 0, 1) := by decide +kernel
theorem dX9_playsOn_30 : decode cX9_playsOn 30 = .ok (.iload_n 2, 1) := by decide +kernel
theorem dX9_playsOn_31 : decode cX9_playsOn 31 = .ok (.iconst 0, 1) := by decide +kernel
theorem dX9_playsOn_32 : decode cX9_playsOn 32 = .ok (.invokevirtual 106, 3) := by decide +kernel
theorem dX9_playsOn_35 : decode cX9_playsOn 35 = .ok (.aload_n 0, 1) := by decide +kernel
theorem dX9_playsOn_36 : decode cX9_playsOn 36 = .ok (.iload_n 2, 1) := by decide +kernel
theorem dX9_playsOn_37 : decode cX9_playsOn 37 = .ok (.iconst 4, 1) := by decide +kernel
theorem dX9_playsOn_38 : decode cX9_playsOn 38 = .ok (.invokevirtual 106, 3) := by decide +kernel
theorem dX9_playsOn_41 : decode cX9_playsOn 41 = .ok (.invokevirtual 245, 3) := by decide +kernel
theorem dX9_playsOn_44 : decode cX9_playsOn 44 = .ok (.if_icmp .ge 7, 3) := by decide +kernel
theorem dX9_playsOn_47 : decode cX9_playsOn 47 = .ok (.iconst 1, 1) := by decide +kernel
theorem dX9_playsOn_48 : decode cX9_playsOn 48 = .ok (.goto 4, 3) := by decide +kernel
theorem dX9_playsOn_51 : decode cX9_playsOn 51 = .ok (.iconst 0, 1) := by decide +kernel
theorem dX9_playsOn_52 : decode cX9_playsOn 52 = .ok (.invokevirtual 255, 3) := by decide +kernel
theorem dX9_playsOn_55 : decode cX9_playsOn 55 = .ok (.iinc 1 1, 3) := by decide +kernel
theorem dX9_playsOn_58 : decode cX9_playsOn 58 = .ok (.aload_n 0, 1) := by decide +kernel
theorem dX9_playsOn_59 : decode cX9_playsOn 59 = .ok (.invokevirtual 147, 3) := by decide +kernel
theorem dX9_playsOn_62 : decode cX9_playsOn 62 = .ok (.istore_n 2, 1) := by decide +kernel
theorem dX9_playsOn_63 : decode cX9_playsOn 63 = .ok (.goto (-56), 3) := by decide +kernel
theorem dX9_playsOn_66 : decode cX9_playsOn 66 = .ok (.iload_n 1, 1) := by decide +kernel
theorem dX9_playsOn_67 : decode cX9_playsOn 67 = .ok (.ireturn, 1) := by decide +kernel
set_option maxRecDepth 20000 in
theorem ggX9_plays_X9_calledNow : GoodIn wsX9_plays wsX9_calledNow := goodIn_r _ [7, 8, 9, 10, 11, 6, 12, 13, 14, 15, 16, 17, 18, 19, 20, 21, 22, 23, 24, 25, 26, 27, 28, 29, 30, 127, 128, 129, 130, 131, 132, 133, 134, 135, 136, 137, 138, 139, 140, 141, 142, 143, 144, 145, 146, 147, 148, 149, 150, 151, 152, 153, 154, 155, 156, 157, 158, 159, 160, 161, 162, 163, 164, 165, 166] (by decide +kernel) (by decide +kernel)
set_option maxRecDepth 20000 in
theorem gX9_plays_X9_calledNow : GoodIn wsX9_plays (wsV RX9 147 RX9 yX9_calledNow wsX9_calledNow) := goodIn_app (goodIn_of _ (by decide +kernel)) ggX9_plays_X9_calledNow
set_option maxRecDepth 20000 in
theorem ggX9_plays_X9_playsOn : GoodIn wsX9_plays wsX9_playsOn := goodIn_r _ [34, 17, 3, 4, 5, 6, 7, 8, 9, 10, 11, 12, 13, 14, 15, 16, 18, 19, 20, 21, 22, 23, 24, 25, 26, 27, 28, 29, 30, 35, 36, 37, 38, 2, 39, 40, 41, 42, 43, 44, 45, 46, 47, 48, 49, 50, 51, 52, 53, 54, 55, 56, 57, 58, 59, 60, 61, 62, 63, 64, 65, 66, 67, 68, 69, 70, 71, 72, 73, 74, 75, 76, 77, 78, 79, 80, 81, 82, 83, 84, 85, 86, 87, 88, 89, 90, 91, 92, 93, 94, 95, 96, 97, 98, 99, 127, 128, 129, 130, 131, 132, 133, 134, 135, 136, 137, 138, 139, 140, 141, 142, 143, 144, 145, 146, 147, 148, 149, 150, 151, 152, 153, 154, 155, 156, 157, 158, 159, 160, 161, 162, 163, 164, 165, 166] (by decide +kernel) (by decide +kernel)
set_option maxRecDepth 20000 in
theorem gX9_plays_X9_playsOn : GoodIn wsX9_plays (wsV RX9 416 RX9 yX9_playsOn wsX9_playsOn) := goodIn_app (goodIn_of _ (by decide +kernel)) ggX9_plays_X9_playsOn
set_option maxRecDepth 20000 in
theorem ggX9_plays_X9_entersPlaces : GoodIn wsX9_plays wsX9_entersPlaces := goodIn_r _ [103, 104, 8, 105, 106, 107, 6, 108, 109, 110, 111, 112, 18, 19, 20, 21, 13, 14, 15, 16, 17, 113, 114, 115, 116, 117, 118, 119, 120, 121, 30, 77, 78, 79, 122, 123, 124, 125, 126, 127, 128, 129, 130, 131, 132, 133, 134, 135, 136, 137, 138, 139, 140, 141, 142, 143, 144, 145, 146, 147, 148, 149, 150, 151, 152, 153, 154, 155, 156, 157, 158, 159, 160, 161, 162, 163, 164, 165, 166] (by decide +kernel) (by decide +kernel)
set_option maxRecDepth 20000 in
theorem gX9_plays_X9_entersPlaces : GoodIn wsX9_plays (wsV RX9 261 RX9 yX9_entersPlaces wsX9_entersPlaces) := goodIn_app (goodIn_of _ (by decide +kernel)) ggX9_plays_X9_entersPlaces
theorem dX9_plays_0 : decode cX9_plays 0 = .ok (.aload_n 0, 1) := by decide +kernel
theorem dX9_plays_1 : decode cX9_plays 1 = .ok (.iconst 0, 1) := by decide +kernel
theorem dX9_plays_2 : decode cX9_plays 2 = .ok (.putfield 77, 3) := by decide +kernel
theorem dX9_plays_5 : decode cX9_plays 5 = .ok (.aload_n 0, 1) := by decide +kernel
theorem dX9_plays_6 : decode cX9_plays 6 = .ok (.invokevirtual 147, 3) := by decide +kernel
theorem dX9_plays_9 : decode cX9_plays 9 = .ok (.iconst (-1), 1) := by decide +kernel
theorem dX9_plays_10 : decode cX9_plays 10 = .ok (.if_icmp .ne 6, 3) := by decide +kernel
theorem dX9_plays_13 : decode cX9_plays 13 = .ok (.bipush (-2), 2) := by decide +kernel
theorem dX9_plays_15 : decode cX9_plays 15 = .ok (.ireturn, 1) := by decide +kernel
theorem dX9_plays_16 : decode cX9_plays 16 = .ok (.aload_n 0, 1) := by decide +kernel
theorem dX9_plays_17 : decode cX9_plays 17 = .ok (.iload_n 1, 1) := by decide +kernel
theorem dX9_plays_18 : decode cX9_plays 18 = .ok (.putfield 409, 3) := by decide +kernel
