set_option maxRecDepth 20000 in
theorem ggX9_bombs_X9_planOf : GoodIn wsX9_bombs wsX9_planOf := goodIn_r _ [16, 17, 96, 97, 98, 99, 100, 101, 102, 103, 104, 105, 106, 107, 108, 109, 110, 111, 112, 113, 114, 115, 116, 117, 118, 119, 120, 121, 122, 123, 124, 125, 126, 127, 128, 129, 130, 131, 132, 133, 134, 135] (by decide +kernel) (by decide +kernel)
set_option maxRecDepth 20000 in
theorem gX9_bombs_X9_planOf : GoodIn wsX9_bombs (wsV RX9 125 RX9 yX9_planOf wsX9_planOf) := goodIn_app (goodIn_of _ (by decide +kernel)) ggX9_bombs_X9_planOf
set_option maxRecDepth 20000 in
theorem ggX9_bombs_X9_oddsOf : GoodIn wsX9_bombs wsX9_oddsOf := goodIn_r _ [21, 22, 23, 24, 25, 26, 27, 28, 29, 7, 30, 31, 32, 33, 96, 97, 98, 99, 100, 101, 102, 103, 104, 105, 106, 107, 108, 109, 110, 111, 112, 113, 114, 115, 116, 117, 118, 119, 120, 121, 122, 123, 124, 125, 126, 127, 128, 129, 130, 131, 132, 133, 134, 135] (by decide +kernel) (by decide +kernel)
set_option maxRecDepth 20000 in
theorem gX9_bombs_X9_oddsOf : GoodIn wsX9_bombs (wsV RX9 245 RX9 yX9_oddsOf wsX9_oddsOf) := goodIn_app (goodIn_of _ (by decide +kernel)) ggX9_bombs_X9_oddsOf
set_option maxRecDepth 20000 in
theorem ggX9_bombs_X9_failsToo : GoodIn wsX9_bombs wsX9_failsToo := goodIn_r _ [36, 37] (by decide +kernel) (by decide +kernel)
set_option maxRecDepth 20000 in
theorem gX9_bombs_X9_failsToo : GoodIn wsX9_bombs (va_wsS RX9 319 yX9_failsToo wsX9_failsToo) := goodIn_app (goodIn_of _ (by decide +kernel)) ggX9_bombs_X9_failsToo
set_option maxRecDepth 20000 in
theorem ggX9_bombs_X9_asksThen : GoodIn wsX9_bombs wsX9_asksThen := goodIn_r _ [41, 13, 14, 15, 7, 16, 17, 96, 97, 98, 99, 100, 101, 102, 103, 104, 105, 106, 107, 108, 109, 110, 111, 112, 113, 114, 115, 116, 117, 118, 119, 120, 121, 122, 123, 124, 125, 126, 127, 128, 129, 130, 131, 132, 133, 134, 135] (by decide +kernel) (by decide +kernel)
set_option maxRecDepth 20000 in
theorem gX9_bombs_X9_asksThen : GoodIn wsX9_bombs (wsV RX9 153 RX9 yX9_asksThen wsX9_asksThen) := goodIn_app (goodIn_of _ (by decide +kernel)) ggX9_bombs_X9_asksThen
set_option maxRecDepth 20000 in
theorem ggX9_bombs_X9_notes : GoodIn wsX9_bombs wsX9_notes := goodIn_r _ [45, 46, 2, 96, 97, 98, 99, 100, 101, 102, 103, 104, 105, 106, 107, 108, 109, 110, 111, 112, 113, 114, 115, 116, 117, 118, 119, 120, 121, 122, 123, 124, 125, 126, 127, 128, 129, 130, 131, 132, 133, 134, 135] (by decide +kernel) (by decide +kernel)
set_option maxRecDepth 20000 in
theorem gX9_bombs_X9_notes : GoodIn wsX9_bombs (wsV RX9 180 RX9 yX9_notes wsX9_notes) := goodIn_app (goodIn_of _ (by decide +kernel)) ggX9_bombs_X9_notes
set_option maxRecDepth 20000 in
theorem ggX9_bombs_X9_chanceOf : GoodIn wsX9_bombs wsX9_chanceOf := goodIn_r _ [50, 51, 52, 53, 7, 54, 55, 3, 56, 57, 58, 59, 60, 61, 62, 63, 64, 65, 66, 67, 68, 69, 70, 71, 72, 73, 74, 75, 76, 77, 78, 79, 80, 81, 82, 83, 84, 85, 86, 87, 88, 23, 24, 25, 26, 89, 90, 91, 38, 39, 40, 41, 13, 14, 15, 16, 17, 18, 19, 20, 21, 22, 27, 28, 29, 30, 31, 32, 33, 92, 93, 94, 37, 95, 96, 97, 98, 99, 100, 101, 102, 103, 104, 105, 106, 107, 108, 109, 110, 111, 112, 113, 114, 115, 116, 117, 118, 119, 120, 121, 122, 123, 124, 125, 126, 127, 128, 129, 130, 131, 132, 133, 134, 135] (by decide +kernel) (by decide +kernel)
set_option maxRecDepth 20000 in
theorem gX9_bombs_X9_chanceOf : GoodIn wsX9_bombs (wsV RX9 290 RX9 yX9_chanceOf wsX9_chanceOf) := goodIn_app (goodIn_of _ (by decide +kernel)) ggX9_bombs_X9_chanceOf
theorem dX9_bombs_0 : decode cX9_bombs 0 = .ok (.aload_n 0, 1) := by decide +kernel
theorem dX9_bombs_1 : decode cX9_bombs 1 = .ok (.iconst 0, 1) := by decide +kernel
theorem dX9_bombs_2 : decode cX9_bombs 2 = .ok (.putfield 77, 3) := by decide +kernel
theorem dX9_bombs_5 : decode cX9_bombs 5 = .ok (.aload_n 0, 1) := by decide +kernel
theorem dX9_bombs_6 : decode cX9_bombs 6 = .ok (.iload_n 1, 1) := by decide +kernel
theorem dX9_bombs_7 : decode cX9_bombs 7 = .ok (.invokevirtual 233, 3) := by decide +kernel
theorem dX9_bombs_10 : decode cX9_bombs 10 = .ok (.ifCond .ne 5, 3) := by decide +kernel
theorem dX9_bombs_13 : decode cX9_bombs 13 = .ok (.iconst (-1), 1) := by decide +kernel
theorem dX9_bombs_14 : decode cX9_bombs 14 = .ok (.ireturn, 1) := by decide +kernel
theorem dX9_bombs_15 : decode cX9_bombs 15 = .ok (.aload_n 0, 1) := by decide +kernel
theorem dX9_bombs_16 : decode cX9_bombs 16 = .ok (.iconst 0, 1) := by decide +kernel
theorem dX9_bombs_17 : decode cX9_bombs 17 = .ok (.putfield 81, 3) := by decide +kernel
theorem dX9_bombs_20 : decode cX9_bombs 20 = .ok (.iconst 0, 1) := by decide +kernel
theorem dX9_bombs_21 : decode cX9_bombs 21 = .ok (.istore_n 2, 1) := by decide +kernel
theorem dX9_bombs_22 : decode cX9_bombs 22 = .ok (.iload_n 2, 1) := by decide +kernel
theorem dX9_bombs_23 : decode cX9_bombs 23 = .ok (.iconst 3, 1) := by decide +kernel
theorem dX9_bombs_24 : decode cX9_bombs 24 = .ok (.if_icmp .ge 76, 3) := by decide +kernel
theorem dX9_bombs_27 : decode cX9_bombs 27 = .ok (.ldc_w 264, 3) := by decide +kernel
theorem dX9_bombs_30 : decode cX9_bombs 30 = .ok (.istore_n 3, 1) := by decide +kernel
theorem dX9_bombs_31 : decode cX9_bombs 31 = .ok (.aload_n 0, 1) := by decide +kernel
theorem dX9_bombs_32 : decode cX9_bombs 32 = .ok (.iload_n 1, 1) := by decide +kernel
theorem dX9_bombs_33 : decode cX9_bombs 33 = .ok (.iload_n 2, 1) := by decide +kernel
theorem dX9_bombs_34 : decode cX9_bombs 34 = .ok (.iconst 0, 1) := by decide +kernel
theorem dX9_bombs_35 : decode cX9_bombs 35 = .ok (.invokevirtual 125, 3) := by decide +kernel
theorem dX9_bombs_38 : decode cX9_bombs 38 = .ok (.istore 4, 2) := by decide +kernel
theorem dX9_bombs_40 : decode cX9_bombs 40 = .ok (.iconst 0, 1) := by decide +kernel
theorem dX9_bombs_41 : decode cX9_bombs 41 = .ok (.istore 5, 2) := by decide +kernel
theorem dX9_bombs_43 : decode cX9_bombs 43 = .ok (.iload 5, 2) := by decide +kernel
theorem dX9_bombs_45 : decode cX9_bombs 45 = .ok (.iconst 3, 1) := by decide +kernel
theorem dX9_bombs_46 : decode cX9_bombs 46 = .ok (.if_icmp .ge 42, 3) := by decide +kernel
theorem dX9_bombs_49 : decode cX9_bombs 49 = .ok (.iload 4, 2) := by decide +kernel
theorem dX9_bombs_51 : decode cX9_bombs 51 = .ok (.ifCond .le 37, 3) := by decide +kernel
theorem dX9_bombs_54 : decode cX9_bombs 54 = .ok (.iload_n 3, 1) := by decide +kernel
theorem dX9_bombs_55 : decode cX9_bombs 55 = .ok (.aload_n 0, 1) := by decide +kernel
theorem dX9_bombs_56 : decode cX9_bombs 56 = .ok (.iload_n 1, 1) := by decide +kernel
theorem dX9_bombs_57 : decode cX9_bombs 57 = .ok (.iload_n 2, 1) := by decide +kernel
theorem dX9_bombs_58 : decode cX9_bombs 58 = .ok (.iload 4, 2) := by decide +kernel
theorem dX9_bombs_60 : decode cX9_bombs 60 = .ok (.iload 5, 2) := by decide +kernel
theorem dX9_bombs_62 : decode cX9_bombs 62 = .ok (.invokevirtual 245, 3) := by decide +kernel
theorem dX9_bombs_65 : decode cX9_bombs 65 = .ok (.invokestatic 319, 3) := by decide +kernel
theorem dX9_bombs_68 : decode cX9_bombs 68 = .ok (.istore_n 3, 1) := by decide +kernel
theorem dX9_bombs_69 : decode cX9_bombs 69 = .ok (.aload_n 0, 1) := by decide +kernel
theorem dX9_bombs_70 : decode cX9_bombs 70 = .ok (.iload_n 1, 1) := by decide +kernel
theorem dX9_bombs_71 : decode cX9_bombs 71 = .ok (.iload_n 2, 1) := by decide +kernel
theorem dX9_bombs_72 : decode cX9_bombs 72 = .ok (.iload 5, 2) := by decide +kernel
theorem dX9_bombs_74 : decode cX9_bombs 74 = .ok (.iload 4, 2) := by decide +kernel
theorem dX9_bombs_76 : decode cX9_bombs 76 = .ok (.iconst 0, 1) := by decide +kernel
theorem dX9_bombs_77 : decode cX9_bombs 77 = .ok (.invokevirtual 153, 3) := by decide +kernel
theorem dX9_bombs_80 : decode cX9_bombs 80 = .ok (.istore 4, 2) := by decide +kernel
theorem dX9_bombs_82 : decode cX9_bombs 82 = .ok (.iinc 5 1, 3) := by decide +kernel
theorem dX9_bombs_85 : decode cX9_bombs 85 = .ok (.goto (-42), 3) := by decide +kernel
theorem dX9_bombs_88 : decode cX9_bombs 88 = .ok (.aload_n 0, 1) := by decide +kernel
theorem dX9_bombs_89 : decode cX9_bombs 89 = .ok (.iload_n 3, 1) := by decide +kernel
theorem dX9_bombs_90 : decode cX9_bombs 90 = .ok (.i2l, 1) := by decide +kernel
theorem dX9_bombs_91 : decode cX9_bombs 91 = .ok (.invokevirtual 180, 3) := by decide +kernel
theorem dX9_bombs_94 : decode cX9_bombs 94 = .ok (.iinc 2 1, 3) := by decide +kernel
theorem dX9_bombs_97 : decode cX9_bombs 97 = .ok (.goto (-75), 3) := by decide +kernel
theorem dX9_bombs_100 : decode cX9_bombs 100 = .ok (.ldc_w 264, 3) := by decide +kernel
theorem dX9_bombs_103 : decode cX9_bombs 103 = .ok (.aload_n 0, 1) := by decide +kernel
theorem dX9_bombs_104 : decode cX9_bombs 104 = .ok (.iload_n 1, 1) := by decide +kernel
theorem dX9_bombs_105 : decode cX9_bombs 105 = .ok (.iconst 1, 1) := by decide +kernel
theorem dX9_bombs_106 : decode cX9_bombs 106 = .ok (.invokevirtual 290, 3) := by decide +kernel
theorem dX9_bombs_109 : decode cX9_bombs 109 = .ok (.isub, 1) := by decide +kernel
theorem dX9_bombs_110 : decode cX9_bombs 110 = .ok (.ireturn, 1) := by decide +kernel
set_option maxRecDepth 20000 in
theorem ggX9_opener_X9_isLifter : GoodIn wsX9_opener wsX9_isLifter := goodIn_r _ [8, 9, 10, 11, 7, 12, 37, 38, 39, 40, 41, 42, 43, 44, 45, 46, 47, 48, 49, 50, 51, 52, 53, 54, 55, 56, 57, 58, 59, 60, 61, 62, 63, 64, 65, 66, 67, 68, 69, 70, 71, 72, 73, 74, 75, 76] (by decide +kernel) (by decide +kernel)
set_option maxRecDepth 20000 in
theorem gX9_opener_X9_isLifter : GoodIn wsX9_opener (wsV RX9 233 RX9 yX9_isLifter wsX9_isLifter) := goodIn_app (goodIn_of _ (by decide +kernel)) ggX9_opener_X9_isLifter
set_option maxRecDepth 20000 in
theorem ggX9_opener_X9_isLift : GoodIn wsX9_opener wsX9_isLift := goodIn_r _ [15, 16, 10, 11, 7, 12] (by decide +kernel) (by decide +kernel)
set_option maxRecDepth 20000 in
theorem gX9_opener_X9_isLift : GoodIn wsX9_opener (va_wsS RX9 236 yX9_isLift wsX9_isLift) := goodIn_app (goodIn_of _ (by decide +kernel)) ggX9_opener_X9_isLift
set_option maxRecDepth 20000 in
theorem ggX9_opener_X9_in : GoodIn wsX9_opener wsX9_in := goodIn_r _ [12] (by decide +kernel) (by decide +kernel)
set_option maxRecDepth 20000 in
theorem gX9_opener_X9_in : GoodIn wsX9_opener (va_wsS RX9 87 yX9_in wsX9_in) := goodIn_app (goodIn_of _ (by decide +kernel)) ggX9_opener_X9_in
set_option maxRecDepth 20000 in
theorem ggX9_opener_X9_oddsOf : GoodIn wsX9_opener wsX9_oddsOf := goodIn_r _ [20, 21, 22, 23, 24, 25, 26, 27, 28, 7, 29, 30, 31, 32, 37, 38, 39, 40, 41, 42, 43, 44, 45, 46, 47, 48, 49, 50, 51, 52, 53, 54, 55, 56, 57, 58, 59, 60, 61, 62, 63, 64, 65, 66, 67, 68, 69, 70, 71, 72, 73, 74, 75, 76] (by decide +kernel) (by decide +kernel)
set_option maxRecDepth 20000 in
theorem gX9_opener_X9_oddsOf : GoodIn wsX9_opener (wsV RX9 245 RX9 yX9_oddsOf wsX9_oddsOf) := goodIn_app (goodIn_of _ (by decide +kernel)) ggX9_opener_X9_oddsOf
set_option maxRecDepth 20000 in
theorem ggX9_opener_X9_failsToo : GoodIn wsX9_opener wsX9_failsToo := goodIn_r _ [35, 36] (by decide +kernel) (by decide +kernel)
set_option maxRecDepth 20000 in
theorem gX9_opener_X9_failsToo : GoodIn wsX9_opener (va_wsS RX9 319 yX9_failsToo wsX9_failsToo) := goodIn_app (goodIn_of _ (by decide +kernel)) ggX9_opener_X9_failsToo
theorem dX9_opener_0 : decode cX9_opener 0 = .ok (.aload_n 0, 1) := by decide +kernel
theorem dX9_opener_1 : decode cX9_opener 1 = .ok (.iconst 0, 1) := by decide +kernel
theorem dX9_opener_2 : decode cX9_opener 2 = .ok (.putfield 77, 3) := by decide +kernel
theorem dX9_opener_5 : decode cX9_opener 5 = .ok (.aload_n 0, 1) := by decide +kernel
theorem dX9_opener_6 : decode cX9_opener 6 = .ok (.iload_n 1, 1) := by decide +kernel
theorem dX9_opener_7 : decode cX9_opener 7 = .ok (.invokevirtual 233, 3) := by decide +kernel
theorem dX9_opener_10 : decode cX9_opener 10 = .ok (.ifCond .eq 22, 3) := by decide +kernel
theorem dX9_opener_13 : decode cX9_opener 13 = .ok (.iload_n 2, 1) := by decide +kernel
theorem dX9_opener_14 : decode cX9_opener 14 = .ok (.invokestatic 236, 3) := by decide +kernel
theorem dX9_opener_17 : decode cX9_opener 17 = .ok (.ifCond .eq 15, 3) := by decide +kernel
theorem dX9_opener_20 : decode cX9_opener 20 = .ok (.iload_n 3, 1) := by decide +kernel
theorem dX9_opener_21 : decode cX9_opener 21 = .ok (.i2l, 1) := by decide +kernel
theorem dX9_opener_22 : decode cX9_opener 22 = .ok (.lconst 0, 1) := by decide +kernel
theorem dX9_opener_23 : decode cX9_opener 23 = .ok (.ldc2_w 299, 3) := by decide +kernel
theorem dX9_opener_26 : decode cX9_opener 26 = .ok (.invokestatic 87, 3) := by decide +kernel
theorem dX9_opener_29 : decode cX9_opener 29 = .ok (.ifCond .ne 5, 3) := by decide +kernel
theorem dX9_opener_32 : decode cX9_opener 32 = .ok (.iconst (-1), 1) := by decide +kernel
theorem dX9_opener_33 : decode cX9_opener 33 = .ok (.ireturn, 1) := by decide +kernel
theorem dX9_opener_34 : decode cX9_opener 34 = .ok (.bipush 40, 2) := by decide +kernel
theorem dX9_opener_36 : decode cX9_opener 36 = .ok (.istore 4, 2) := by decide +kernel
theorem dX9_opener_38 : decode cX9_opener 38 = .ok (.iload 4, 2) := by decide +kernel
theorem dX9_opener_40 : decode cX9_opener 40 = .ok (.ifCond .le 55, 3) := by decide +kernel
theorem dX9_opener_43 : decode cX9_opener 43 = .ok (.ldc_w 264, 3) := by decide +kernel
theorem dX9_opener_46 : decode cX9_opener 46 = .ok (.istore 5, 2) := by decide +kernel
theorem dX9_opener_48 : decode cX9_opener 48 = .ok (.iconst 0, 1) := by decide +kernel
theorem dX9_opener_49 : decode cX9_opener 49 = .ok (.istore 6, 2) := by decide +kernel
theorem dX9_opener_51 : decode cX9_opener 51 = .ok (.iload 6, 2) := by decide +kernel
theorem dX9_opener_53 : decode cX9_opener 53 = .ok (.iconst 3, 1) := by decide +kernel
theorem dX9_opener_54 : decode cX9_opener 54 = .ok (.if_icmp .ge 26, 3) := by decide +kernel
theorem dX9_opener_57 : decode cX9_opener 57 = .ok (.iload 5, 2) := by decide +kernel
theorem dX9_opener_59 : decode cX9_opener 59 = .ok (.aload_n 0, 1) := by decide +kernel
theorem dX9_opener_60 : decode cX9_opener 60 = .ok (.iload_n 1, 1) := by decide +kernel
theorem dX9_opener_61 : decode cX9_opener 61 = .ok (.iload_n 2, 1) := by decide +kernel
theorem dX9_opener_62 : decode cX9_opener 62 = .ok (.iload 4, 2) := by decide +kernel
theorem dX9_opener_64 : decode cX9_opener 64 = .ok (.iload 6, 2) := by decide +kernel
theorem dX9_opener_66 : decode cX9_opener 66 = .ok (.invokevirtual 245, 3) := by decide +kernel
theorem dX9_opener_69 : decode cX9_opener 69 = .ok (.invokestatic 319, 3) := by decide +kernel
theorem dX9_opener_72 : decode cX9_opener 72 = .ok (.istore 5, 2) := by decide +kernel
theorem dX9_opener_74 : decode cX9_opener 74 = .ok (.iinc 6 1, 3) := by decide +kernel
theorem dX9_opener_77 : decode cX9_opener 77 = .ok (.goto (-26), 3) := by decide +kernel
theorem dX9_opener_80 : decode cX9_opener 80 = .ok (.iload 5, 2) := by decide +kernel
theorem dX9_opener_82 : decode cX9_opener 82 = .ok (.iload_n 3, 1) := by decide +kernel
theorem dX9_opener_83 : decode cX9_opener 83 = .ok (.if_icmp .gt 6, 3) := by decide +kernel
theorem dX9_opener_86 : decode cX9_opener 86 = .ok (.iload 4, 2) := by decide +kernel
theorem dX9_opener_88 : decode cX9_opener 88 = .ok (.ireturn, 1) := by decide +kernel
theorem dX9_opener_89 : decode cX9_opener 89 = .ok (.iinc 4 (-1), 3) := by decide +kernel
theorem dX9_opener_92 : decode cX9_opener 92 = .ok (.goto (-54), 3) := by decide +kernel
theorem dX9_opener_95 : decode cX9_opener 95 = .ok (.bipush (-2), 2) := by decide +kernel
theorem dX9_opener_97 : decode cX9_opener 97 = .ok (.ireturn, 1) := by decide +kernel
theorem dX9_cell_0 : decode cX9_cell 0 = .ok (.bipush 42, 2) := by decide +kernel
theorem dX9_cell_2 : decode cX9_cell 2 = .ok (.bipush 42, 2) := by decide +kernel
theorem dX9_cell_4 : decode cX9_cell 4 = .ok (.iconst 4, 1) := by decide +kernel
theorem dX9_cell_5 : decode cX9_cell 5 = .ok (.iload_n 0, 1) := by decide +kernel
theorem dX9_cell_6 : decode cX9_cell 6 = .ok (.imul, 1) := by decide +kernel
theorem dX9_cell_7 : decode cX9_cell 7 = .ok (.iload_n 1, 1) := by decide +kernel
theorem dX9_cell_8 : decode cX9_cell 8 = .ok (.iadd, 1) := by decide +kernel
theorem dX9_cell_9 : decode cX9_cell 9 = .ok (.imul, 1) := by decide +kernel
theorem dX9_cell_10 : decode cX9_cell 10 = .ok (.iload_n 2, 1) := by decide +kernel
theorem dX9_cell_11 : decode cX9_cell 11 = .ok (.iadd, 1) := by decide +kernel
theorem dX9_cell_12 : decode cX9_cell 12 = .ok (.imul, 1) := by decide +kernel
theorem dX9_cell_13 : decode cX9_cell 13 = .ok (.iload_n 3, 1) := by decide +kernel
theorem dX9_cell_14 : decode cX9_cell 14 = .ok (.iadd, 1) := by decide +kernel
theorem dX9_cell_15 : decode cX9_cell 15 = .ok (.ireturn, 1) := by decide +kernel
set_option maxRecDepth 20000 in
theorem ggX9_triesBest_X9_cell : GoodIn wsX9_triesBest wsX9_cell := goodIn_r _ [10] (by decide +kernel) (by decide +kernel)
set_option maxRecDepth 20000 in
theorem gX9_triesBest_X9_cell : GoodIn wsX9_triesBest (va_wsS RX9 328 yX9_cell wsX9_cell) := goodIn_app (goodIn_of _ (by decide +kernel)) ggX9_triesBest_X9_cell
set_option maxRecDepth 20000 in
theorem ggX9_triesBest_X9_oddsOf : GoodIn wsX9_triesBest wsX9_oddsOf := goodIn_r _ [14, 15, 16, 17, 5, 18, 19, 20, 21, 9, 22, 23, 24, 25, 30, 31, 32, 33, 34, 35, 36, 37, 38, 39, 40, 41, 42, 43, 44, 45, 46, 47, 48, 49, 50, 51, 52, 53, 54, 55, 56, 57, 58, 59, 60, 61, 62, 63, 64, 65, 66, 67, 68, 69] (by decide +kernel) (by decide +kernel)
set_option maxRecDepth 20000 in
theorem gX9_triesBest_X9_oddsOf : GoodIn wsX9_triesBest (wsV RX9 245 RX9 yX9_oddsOf wsX9_oddsOf) := goodIn_app (goodIn_of _ (by decide +kernel)) ggX9_triesBest_X9_oddsOf
set_option maxRecDepth 20000 in
theorem ggX9_triesBest_X9_expected : GoodIn wsX9_triesBest wsX9_expected := goodIn_r _ [28, 29] (by decide +kernel) (by decide +kernel)
set_option maxRecDepth 20000 in
theorem gX9_triesBest_X9_expected : GoodIn wsX9_triesBest (va_wsS RX9 274 yX9_expected wsX9_expected) := goodIn_app (goodIn_of _ (by decide +kernel)) ggX9_triesBest_X9_expected
theorem dX9_triesBest_0 : decode cX9_triesBest 0 = .ok (.aload_n 0, 1) := by decide +kernel
theorem dX9_triesBest_1 : decode cX9_triesBest 1 = .ok (.iconst 0, 1) := by decide +kernel
theorem dX9_triesBest_2 : decode cX9_triesBest 2 = .ok (.putfield 322, 3) := by decide +kernel
theorem dX9_triesBest_5 : decode cX9_triesBest 5 = .ok (.iconst (-1), 1) := by decide +kernel
theorem dX9_triesBest_6 : decode cX9_triesBest 6 = .ok (.istore 7, 2) := by decide +kernel
theorem dX9_triesBest_8 : decode cX9_triesBest 8 = .ok (.iload 5, 2) := by decide +kernel
theorem dX9_triesBest_10 : decode cX9_triesBest 10 = .ok (.istore 8, 2) := by decide +kernel
theorem dX9_triesBest_12 : decode cX9_triesBest 12 = .ok (.iload 8, 2) := by decide +kernel
theorem dX9_triesBest_14 : decode cX9_triesBest 14 = .ok (.bipush 40, 2) := by decide +kernel
theorem dX9_triesBest_16 : decode cX9_triesBest 16 = .ok (.if_icmp .gt 95, 3) := by decide +kernel
theorem dX9_triesBest_19 : decode cX9_triesBest 19 = .ok (.aload_n 0, 1) := by decide +kernel
theorem dX9_triesBest_20 : decode cX9_triesBest 20 = .ok (.getfield 68, 3) := by decide +kernel
theorem dX9_triesBest_23 : decode cX9_triesBest 23 = .ok (.iload_n 3, 1) := by decide +kernel
