theorem dX9_triesBest_24 : decode cX9_triesBest 24 = .ok (.iconst 1, 1) := by decide +kernel
theorem dX9_triesBest_25 : decode cX9_triesBest 25 = .ok (.iadd, 1) := by decide +kernel
theorem dX9_triesBest_26 : decode cX9_triesBest 26 = .ok (.iload 4, 2) := by decide +kernel
theorem dX9_triesBest_28 : decode cX9_triesBest 28 = .ok (.bipush 41, 2) := by decide +kernel
theorem dX9_triesBest_30 : decode cX9_triesBest 30 = .ok (.iload 8, 2) := by decide +kernel
theorem dX9_triesBest_32 : decode cX9_triesBest 32 = .ok (.iconst 1, 1) := by decide +kernel
theorem dX9_triesBest_33 : decode cX9_triesBest 33 = .ok (.iadd, 1) := by decide +kernel
theorem dX9_triesBest_34 : decode cX9_triesBest 34 = .ok (.invokestatic 325, 3) := by decide +kernel
theorem dX9_triesBest_37 : decode cX9_triesBest 37 = .ok (.iload 8, 2) := by decide +kernel
theorem dX9_triesBest_39 : decode cX9_triesBest 39 = .ok (.invokestatic 328, 3) := by decide +kernel
theorem dX9_triesBest_42 : decode cX9_triesBest 42 = .ok (.iaload, 1) := by decide +kernel
theorem dX9_triesBest_43 : decode cX9_triesBest 43 = .ok (.istore 9, 2) := by decide +kernel
theorem dX9_triesBest_45 : decode cX9_triesBest 45 = .ok (.aload_n 0, 1) := by decide +kernel
theorem dX9_triesBest_46 : decode cX9_triesBest 46 = .ok (.getfield 68, 3) := by decide +kernel
theorem dX9_triesBest_49 : decode cX9_triesBest 49 = .ok (.iload_n 3, 1) := by decide +kernel
theorem dX9_triesBest_50 : decode cX9_triesBest 50 = .ok (.iconst 1, 1) := by decide +kernel
theorem dX9_triesBest_51 : decode cX9_triesBest 51 = .ok (.iadd, 1) := by decide +kernel
theorem dX9_triesBest_52 : decode cX9_triesBest 52 = .ok (.iload 4, 2) := by decide +kernel
theorem dX9_triesBest_54 : decode cX9_triesBest 54 = .ok (.iconst 1, 1) := by decide +kernel
theorem dX9_triesBest_55 : decode cX9_triesBest 55 = .ok (.iadd, 1) := by decide +kernel
theorem dX9_triesBest_56 : decode cX9_triesBest 56 = .ok (.iload 8, 2) := by decide +kernel
theorem dX9_triesBest_58 : decode cX9_triesBest 58 = .ok (.iload 6, 2) := by decide +kernel
theorem dX9_triesBest_60 : decode cX9_triesBest 60 = .ok (.invokestatic 328, 3) := by decide +kernel
theorem dX9_triesBest_63 : decode cX9_triesBest 63 = .ok (.iaload, 1) := by decide +kernel
theorem dX9_triesBest_64 : decode cX9_triesBest 64 = .ok (.istore 10, 2) := by decide +kernel
theorem dX9_triesBest_66 : decode cX9_triesBest 66 = .ok (.aload_n 0, 1) := by decide +kernel
theorem dX9_triesBest_67 : decode cX9_triesBest 67 = .ok (.iload_n 1, 1) := by decide +kernel
theorem dX9_triesBest_68 : decode cX9_triesBest 68 = .ok (.iload_n 2, 1) := by decide +kernel
theorem dX9_triesBest_69 : decode cX9_triesBest 69 = .ok (.iload 8, 2) := by decide +kernel
theorem dX9_triesBest_71 : decode cX9_triesBest 71 = .ok (.iload 4, 2) := by decide +kernel
theorem dX9_triesBest_73 : decode cX9_triesBest 73 = .ok (.invokevirtual 245, 3) := by decide +kernel
theorem dX9_triesBest_76 : decode cX9_triesBest 76 = .ok (.iload 9, 2) := by decide +kernel
theorem dX9_triesBest_78 : decode cX9_triesBest 78 = .ok (.iload 10, 2) := by decide +kernel
theorem dX9_triesBest_80 : decode cX9_triesBest 80 = .ok (.invokestatic 274, 3) := by decide +kernel
theorem dX9_triesBest_83 : decode cX9_triesBest 83 = .ok (.istore 11, 2) := by decide +kernel
theorem dX9_triesBest_85 : decode cX9_triesBest 85 = .ok (.iload 11, 2) := by decide +kernel
theorem dX9_triesBest_87 : decode cX9_triesBest 87 = .ok (.iload 7, 2) := by decide +kernel
theorem dX9_triesBest_89 : decode cX9_triesBest 89 = .ok (.if_icmp .gt 6, 3) := by decide +kernel
theorem dX9_triesBest_92 : decode cX9_triesBest 92 = .ok (.goto 13, 3) := by decide +kernel
theorem dX9_triesBest_95 : decode cX9_triesBest 95 = .ok (.iload 11, 2) := by decide +kernel
theorem dX9_triesBest_97 : decode cX9_triesBest 97 = .ok (.istore 7, 2) := by decide +kernel
theorem dX9_triesBest_99 : decode cX9_triesBest 99 = .ok (.aload_n 0, 1) := by decide +kernel
theorem dX9_triesBest_100 : decode cX9_triesBest 100 = .ok (.iload 8, 2) := by decide +kernel
theorem dX9_triesBest_102 : decode cX9_triesBest 102 = .ok (.putfield 322, 3) := by decide +kernel
theorem dX9_triesBest_105 : decode cX9_triesBest 105 = .ok (.iinc 8 1, 3) := by decide +kernel
theorem dX9_triesBest_108 : decode cX9_triesBest 108 = .ok (.goto (-96), 3) := by decide +kernel
theorem dX9_triesBest_111 : decode cX9_triesBest 111 = .ok (.iload 7, 2) := by decide +kernel
theorem dX9_triesBest_113 : decode cX9_triesBest 113 = .ok (.ireturn, 1) := by decide +kernel
theorem dX9_ends_0 : decode cX9_ends 0 = .ok (.iload_n 2, 1) := by decide +kernel
theorem dX9_ends_1 : decode cX9_ends 1 = .ok (.ifCond .ne 12, 3) := by decide +kernel
theorem dX9_ends_4 : decode cX9_ends 4 = .ok (.aload_n 0, 1) := by decide +kernel
theorem dX9_ends_5 : decode cX9_ends 5 = .ok (.getfield 56, 3) := by decide +kernel
theorem dX9_ends_8 : decode cX9_ends 8 = .ok (.iconst 0, 1) := by decide +kernel
theorem dX9_ends_9 : decode cX9_ends 9 = .ok (.iaload, 1) := by decide +kernel
theorem dX9_ends_10 : decode cX9_ends 10 = .ok (.goto 18, 3) := by decide +kernel
theorem dX9_ends_13 : decode cX9_ends 13 = .ok (.aload_n 0, 1) := by decide +kernel
theorem dX9_ends_14 : decode cX9_ends 14 = .ok (.getfield 65, 3) := by decide +kernel
theorem dX9_ends_17 : decode cX9_ends 17 = .ok (.bipush 121, 2) := by decide +kernel
theorem dX9_ends_19 : decode cX9_ends 19 = .ok (.iload_n 1, 1) := by decide +kernel
theorem dX9_ends_20 : decode cX9_ends 20 = .ok (.iconst 1, 1) := by decide +kernel
theorem dX9_ends_21 : decode cX9_ends 21 = .ok (.iadd, 1) := by decide +kernel
theorem dX9_ends_22 : decode cX9_ends 22 = .ok (.imul, 1) := by decide +kernel
theorem dX9_ends_23 : decode cX9_ends 23 = .ok (.iload_n 3, 1) := by decide +kernel
theorem dX9_ends_24 : decode cX9_ends 24 = .ok (.iadd, 1) := by decide +kernel
theorem dX9_ends_25 : decode cX9_ends 25 = .ok (.iload_n 2, 1) := by decide +kernel
theorem dX9_ends_26 : decode cX9_ends 26 = .ok (.iadd, 1) := by decide +kernel
theorem dX9_ends_27 : decode cX9_ends 27 = .ok (.iaload, 1) := by decide +kernel
theorem dX9_ends_28 : decode cX9_ends 28 = .ok (.ireturn, 1) := by decide +kernel
theorem dX9_canBe_0 : decode cX9_canBe 0 = .ok (.iload_n 1, 1) := by decide +kernel
theorem dX9_canBe_1 : decode cX9_canBe 1 = .ok (.ifCond .ne 18, 3) := by decide +kernel
theorem dX9_canBe_4 : decode cX9_canBe 4 = .ok (.iload_n 3, 1) := by decide +kernel
theorem dX9_canBe_5 : decode cX9_canBe 5 = .ok (.iload_n 2, 1) := by decide +kernel
theorem dX9_canBe_6 : decode cX9_canBe 6 = .ok (.iconst 1, 1) := by decide +kernel
theorem dX9_canBe_7 : decode cX9_canBe 7 = .ok (.isub, 1) := by decide +kernel
theorem dX9_canBe_8 : decode cX9_canBe 8 = .ok (.if_icmp .ne 7, 3) := by decide +kernel
theorem dX9_canBe_11 : decode cX9_canBe 11 = .ok (.iconst 1, 1) := by decide +kernel
theorem dX9_canBe_12 : decode cX9_canBe 12 = .ok (.goto 21, 3) := by decide +kernel
theorem dX9_canBe_15 : decode cX9_canBe 15 = .ok (.iconst 0, 1) := by decide +kernel
theorem dX9_canBe_16 : decode cX9_canBe 16 = .ok (.goto 17, 3) := by decide +kernel
theorem dX9_canBe_19 : decode cX9_canBe 19 = .ok (.iload_n 1, 1) := by decide +kernel
theorem dX9_canBe_20 : decode cX9_canBe 20 = .ok (.iload_n 0, 1) := by decide +kernel
theorem dX9_canBe_21 : decode cX9_canBe 21 = .ok (.if_icmp .lt 7, 3) := by decide +kernel
theorem dX9_canBe_24 : decode cX9_canBe 24 = .ok (.iload_n 3, 1) := by decide +kernel
theorem dX9_canBe_25 : decode cX9_canBe 25 = .ok (.ifCond .ne 7, 3) := by decide +kernel
theorem dX9_canBe_28 : decode cX9_canBe 28 = .ok (.iconst 1, 1) := by decide +kernel
theorem dX9_canBe_29 : decode cX9_canBe 29 = .ok (.goto 4, 3) := by decide +kernel
theorem dX9_canBe_32 : decode cX9_canBe 32 = .ok (.iconst 0, 1) := by decide +kernel
theorem dX9_canBe_33 : decode cX9_canBe 33 = .ok (.ireturn, 1) := by decide +kernel
set_option maxRecDepth 20000 in
theorem ggX9_laysRounds_X9_canBe : GoodIn wsX9_laysRounds wsX9_canBe := goodIn_r _ [5] (by decide +kernel) (by decide +kernel)
set_option maxRecDepth 20000 in
theorem gX9_laysRounds_X9_canBe : GoodIn wsX9_laysRounds (va_wsS RX9 331 yX9_canBe wsX9_canBe) := goodIn_app (goodIn_of _ (by decide +kernel)) ggX9_laysRounds_X9_canBe
set_option maxRecDepth 20000 in
theorem ggX9_laysRounds_X9_ends : GoodIn wsX9_laysRounds wsX9_ends := goodIn_r _ [9, 10, 11, 43, 44, 45, 46, 47, 48, 49, 50, 51, 52, 53, 54, 55, 56, 57, 58, 59, 60, 61, 62, 63, 64, 65, 66, 67, 68, 69, 70, 71, 72, 73, 74, 75, 76, 77, 78, 79, 80, 81, 82] (by decide +kernel) (by decide +kernel)
set_option maxRecDepth 20000 in
theorem gX9_laysRounds_X9_ends : GoodIn wsX9_laysRounds (wsV RX9 335 RX9 yX9_ends wsX9_ends) := goodIn_app (goodIn_of _ (by decide +kernel)) ggX9_laysRounds_X9_ends
set_option maxRecDepth 20000 in
theorem ggX9_laysRounds_X9_triesBest : GoodIn wsX9_laysRounds wsX9_triesBest := goodIn_r _ [15, 16, 1, 17, 18, 19, 20, 21, 22, 4, 23, 24, 25, 26, 27, 28, 29, 30, 31, 32, 33, 34, 35, 36, 37, 38, 39, 40, 41, 42, 43, 44, 45, 46, 47, 48, 49, 50, 51, 52, 53, 54, 55, 56, 57, 58, 59, 60, 61, 62, 63, 64, 65, 66, 67, 68, 69, 70, 71, 72, 73, 74, 75, 76, 77, 78, 79, 80, 81, 82] (by decide +kernel) (by decide +kernel)
set_option maxRecDepth 20000 in
theorem gX9_laysRounds_X9_triesBest : GoodIn wsX9_laysRounds (wsV RX9 338 RX9 yX9_triesBest wsX9_triesBest) := goodIn_app (goodIn_of _ (by decide +kernel)) ggX9_laysRounds_X9_triesBest
set_option maxRecDepth 20000 in
theorem ggX9_laysRounds_X9_cell : GoodIn wsX9_laysRounds wsX9_cell := goodIn_r _ [23] (by decide +kernel) (by decide +kernel)
set_option maxRecDepth 20000 in
theorem gX9_laysRounds_X9_cell : GoodIn wsX9_laysRounds (va_wsS RX9 328 yX9_cell wsX9_cell) := goodIn_app (goodIn_of _ (by decide +kernel)) ggX9_laysRounds_X9_cell
theorem dX9_laysRounds_0 : decode cX9_laysRounds 0 = .ok (.iconst 3, 1) := by decide +kernel
theorem dX9_laysRounds_1 : decode cX9_laysRounds 1 = .ok (.istore 5, 2) := by decide +kernel
theorem dX9_laysRounds_3 : decode cX9_laysRounds 3 = .ok (.iload 5, 2) := by decide +kernel
theorem dX9_laysRounds_5 : decode cX9_laysRounds 5 = .ok (.iload_n 3, 1) := by decide +kernel
theorem dX9_laysRounds_6 : decode cX9_laysRounds 6 = .ok (.if_icmp .le 133, 3) := by decide +kernel
theorem dX9_laysRounds_9 : decode cX9_laysRounds 9 = .ok (.iconst 0, 1) := by decide +kernel
theorem dX9_laysRounds_10 : decode cX9_laysRounds 10 = .ok (.istore 6, 2) := by decide +kernel
theorem dX9_laysRounds_12 : decode cX9_laysRounds 12 = .ok (.iload 6, 2) := by decide +kernel
theorem dX9_laysRounds_14 : decode cX9_laysRounds 14 = .ok (.iload 5, 2) := by decide +kernel
theorem dX9_laysRounds_16 : decode cX9_laysRounds 16 = .ok (.if_icmp .gt 117, 3) := by decide +kernel
theorem dX9_laysRounds_19 : decode cX9_laysRounds 19 = .ok (.iconst 1, 1) := by decide +kernel
theorem dX9_laysRounds_20 : decode cX9_laysRounds 20 = .ok (.istore 7, 2) := by decide +kernel
theorem dX9_laysRounds_22 : decode cX9_laysRounds 22 = .ok (.iload 7, 2) := by decide +kernel
theorem dX9_laysRounds_24 : decode cX9_laysRounds 24 = .ok (.bipush 42, 2) := by decide +kernel
theorem dX9_laysRounds_26 : decode cX9_laysRounds 26 = .ok (.if_icmp .ge 101, 3) := by decide +kernel
theorem dX9_laysRounds_29 : decode cX9_laysRounds 29 = .ok (.iconst 0, 1) := by decide +kernel
theorem dX9_laysRounds_30 : decode cX9_laysRounds 30 = .ok (.istore 8, 2) := by decide +kernel
theorem dX9_laysRounds_32 : decode cX9_laysRounds 32 = .ok (.iload 8, 2) := by decide +kernel
theorem dX9_laysRounds_34 : decode cX9_laysRounds 34 = .ok (.iload 7, 2) := by decide +kernel
theorem dX9_laysRounds_36 : decode cX9_laysRounds 36 = .ok (.if_icmp .ge 85, 3) := by decide +kernel
theorem dX9_laysRounds_39 : decode cX9_laysRounds 39 = .ok (.iload 5, 2) := by decide +kernel
theorem dX9_laysRounds_41 : decode cX9_laysRounds 41 = .ok (.iload 6, 2) := by decide +kernel
theorem dX9_laysRounds_43 : decode cX9_laysRounds 43 = .ok (.iload 7, 2) := by decide +kernel
theorem dX9_laysRounds_45 : decode cX9_laysRounds 45 = .ok (.iload 8, 2) := by decide +kernel
theorem dX9_laysRounds_47 : decode cX9_laysRounds 47 = .ok (.invokestatic 331, 3) := by decide +kernel
theorem dX9_laysRounds_50 : decode cX9_laysRounds 50 = .ok (.ifCond .ne 6, 3) := by decide +kernel
theorem dX9_laysRounds_53 : decode cX9_laysRounds 53 = .ok (.goto 62, 3) := by decide +kernel
theorem dX9_laysRounds_56 : decode cX9_laysRounds 56 = .ok (.iload 5, 2) := by decide +kernel
theorem dX9_laysRounds_58 : decode cX9_laysRounds 58 = .ok (.iconst 3, 1) := by decide +kernel
theorem dX9_laysRounds_59 : decode cX9_laysRounds 59 = .ok (.if_icmp .eq 10, 3) := by decide +kernel
theorem dX9_laysRounds_62 : decode cX9_laysRounds 62 = .ok (.iload 7, 2) := by decide +kernel
theorem dX9_laysRounds_64 : decode cX9_laysRounds 64 = .ok (.bipush 40, 2) := by decide +kernel
theorem dX9_laysRounds_66 : decode cX9_laysRounds 66 = .ok (.if_icmp .le 15, 3) := by decide +kernel
theorem dX9_laysRounds_69 : decode cX9_laysRounds 69 = .ok (.aload_n 0, 1) := by decide +kernel
theorem dX9_laysRounds_70 : decode cX9_laysRounds 70 = .ok (.iload_n 2, 1) := by decide +kernel
theorem dX9_laysRounds_71 : decode cX9_laysRounds 71 = .ok (.iload 8, 2) := by decide +kernel
theorem dX9_laysRounds_73 : decode cX9_laysRounds 73 = .ok (.iload 4, 2) := by decide +kernel
theorem dX9_laysRounds_75 : decode cX9_laysRounds 75 = .ok (.invokevirtual 335, 3) := by decide +kernel
theorem dX9_laysRounds_78 : decode cX9_laysRounds 78 = .ok (.goto 17, 3) := by decide +kernel
theorem dX9_laysRounds_81 : decode cX9_laysRounds 81 = .ok (.aload_n 0, 1) := by decide +kernel
theorem dX9_laysRounds_82 : decode cX9_laysRounds 82 = .ok (.iload_n 1, 1) := by decide +kernel
theorem dX9_laysRounds_83 : decode cX9_laysRounds 83 = .ok (.iload_n 2, 1) := by decide +kernel
theorem dX9_laysRounds_84 : decode cX9_laysRounds 84 = .ok (.iload 5, 2) := by decide +kernel
theorem dX9_laysRounds_86 : decode cX9_laysRounds 86 = .ok (.iload 6, 2) := by decide +kernel
theorem dX9_laysRounds_88 : decode cX9_laysRounds 88 = .ok (.iload 7, 2) := by decide +kernel
theorem dX9_laysRounds_90 : decode cX9_laysRounds 90 = .ok (.iload 8, 2) := by decide +kernel
theorem dX9_laysRounds_92 : decode cX9_laysRounds 92 = .ok (.invokevirtual 338, 3) := by decide +kernel
theorem dX9_laysRounds_95 : decode cX9_laysRounds 95 = .ok (.istore 9, 2) := by decide +kernel
theorem dX9_laysRounds_97 : decode cX9_laysRounds 97 = .ok (.aload_n 0, 1) := by decide +kernel
theorem dX9_laysRounds_98 : decode cX9_laysRounds 98 = .ok (.getfield 68, 3) := by decide +kernel
theorem dX9_laysRounds_101 : decode cX9_laysRounds 101 = .ok (.iload 5, 2) := by decide +kernel
theorem dX9_laysRounds_103 : decode cX9_laysRounds 103 = .ok (.iload 6, 2) := by decide +kernel
theorem dX9_laysRounds_105 : decode cX9_laysRounds 105 = .ok (.iload 7, 2) := by decide +kernel
theorem dX9_laysRounds_107 : decode cX9_laysRounds 107 = .ok (.iload 8, 2) := by decide +kernel
theorem dX9_laysRounds_109 : decode cX9_laysRounds 109 = .ok (.invokestatic 328, 3) := by decide +kernel
theorem dX9_laysRounds_112 : decode cX9_laysRounds 112 = .ok (.iload 9, 2) := by decide +kernel
theorem dX9_laysRounds_114 : decode cX9_laysRounds 114 = .ok (.iastore, 1) := by decide +kernel
theorem dX9_laysRounds_115 : decode cX9_laysRounds 115 = .ok (.iinc 8 1, 3) := by decide +kernel
theorem dX9_laysRounds_118 : decode cX9_laysRounds 118 = .ok (.goto (-86), 3) := by decide +kernel
theorem dX9_laysRounds_121 : decode cX9_laysRounds 121 = .ok (.iinc 7 1, 3) := by decide +kernel
theorem dX9_laysRounds_124 : decode cX9_laysRounds 124 = .ok (.goto (-102), 3) := by decide +kernel
theorem dX9_laysRounds_127 : decode cX9_laysRounds 127 = .ok (.iinc 6 1, 3) := by decide +kernel
theorem dX9_laysRounds_130 : decode cX9_laysRounds 130 = .ok (.goto (-118), 3) := by decide +kernel
theorem dX9_laysRounds_133 : decode cX9_laysRounds 133 = .ok (.iinc 5 (-1), 3) := by decide +kernel
theorem dX9_laysRounds_136 : decode cX9_laysRounds 136 = .ok (.goto (-133), 3) := by decide +kernel
theorem dX9_laysRounds_139 : decode cX9_laysRounds 139 = .ok (.return_, 1) := by decide +kernel
set_option maxRecDepth 20000 in
theorem ggX9_laysBehind_X9_laysRounds : GoodIn wsX9_laysBehind wsX9_laysRounds := goodIn_r _ [7, 8, 9, 10, 6, 11, 12, 13, 14, 15, 2, 1, 16, 17, 18, 19, 20, 21, 22, 23, 24, 25, 26, 27, 28, 29, 30, 31, 32, 33, 34, 35, 36, 37, 38, 39, 40, 41, 42, 43, 44, 45, 46, 47, 48, 49, 50, 51, 52, 53, 54, 55, 56, 57, 58, 59, 60, 61, 62, 63, 64, 65, 66, 67, 68, 69, 70, 71, 72, 73, 74, 75, 76, 77, 78, 79, 80, 81, 82, 83, 84, 85, 86] (by decide +kernel) (by decide +kernel)
set_option maxRecDepth 20000 in
theorem gX9_laysBehind_X9_laysRounds : GoodIn wsX9_laysBehind (wsV RX9 342 RX9 yX9_laysRounds wsX9_laysRounds) := goodIn_app (goodIn_of _ (by decide +kernel)) ggX9_laysBehind_X9_laysRounds
set_option maxRecDepth 20000 in
theorem ggX9_laysBehind_X9_triesBest : GoodIn wsX9_laysBehind wsX9_triesBest := goodIn_r _ [19, 20, 8, 21, 22, 23, 24, 25, 26, 6, 27, 28, 29, 30, 31, 32, 33, 34, 35, 36, 37, 38, 39, 40, 41, 42, 43, 44, 45, 46, 47, 48, 49, 50, 51, 52, 53, 54, 55, 56, 57, 58, 59, 60, 61, 62, 63, 64, 65, 66, 67, 68, 69, 70, 71, 72, 73, 74, 75, 76, 77, 78, 79, 80, 81, 82, 83, 84, 85, 86] (by decide +kernel) (by decide +kernel)
set_option maxRecDepth 20000 in
theorem gX9_laysBehind_X9_triesBest : GoodIn wsX9_laysBehind (wsV RX9 338 RX9 yX9_triesBest wsX9_triesBest) := goodIn_app (goodIn_of _ (by decide +kernel)) ggX9_laysBehind_X9_triesBest
theorem dX9_laysBehind_0 : decode cX9_laysBehind 0 = .ok (.iconst 0, 1) := by decide +kernel
theorem dX9_laysBehind_1 : decode cX9_laysBehind 1 = .ok (.istore_n 3, 1) := by decide +kernel
theorem dX9_laysBehind_2 : decode cX9_laysBehind 2 = .ok (.iload_n 3, 1) := by decide +kernel
theorem dX9_laysBehind_3 : decode cX9_laysBehind 3 = .ok (.bipush 121, 2) := by decide +kernel
theorem dX9_laysBehind_5 : decode cX9_laysBehind 5 = .ok (.if_icmp .ge 25, 3) := by decide +kernel
theorem dX9_laysBehind_8 : decode cX9_laysBehind 8 = .ok (.aload_n 0, 1) := by decide +kernel
theorem dX9_laysBehind_9 : decode cX9_laysBehind 9 = .ok (.getfield 65, 3) := by decide +kernel
theorem dX9_laysBehind_12 : decode cX9_laysBehind 12 = .ok (.sipush 363, 3) := by decide +kernel
theorem dX9_laysBehind_15 : decode cX9_laysBehind 15 = .ok (.iload_n 3, 1) := by decide +kernel
theorem dX9_laysBehind_16 : decode cX9_laysBehind 16 = .ok (.iadd, 1) := by decide +kernel
theorem dX9_laysBehind_17 : decode cX9_laysBehind 17 = .ok (.aload_n 0, 1) := by decide +kernel
theorem dX9_laysBehind_18 : decode cX9_laysBehind 18 = .ok (.getfield 56, 3) := by decide +kernel
theorem dX9_laysBehind_21 : decode cX9_laysBehind 21 = .ok (.iload_n 3, 1) := by decide +kernel
theorem dX9_laysBehind_22 : decode cX9_laysBehind 22 = .ok (.iaload, 1) := by decide +kernel
theorem dX9_laysBehind_23 : decode cX9_laysBehind 23 = .ok (.iastore, 1) := by decide +kernel
theorem dX9_laysBehind_24 : decode cX9_laysBehind 24 = .ok (.iinc 3 1, 3) := by decide +kernel
theorem dX9_laysBehind_27 : decode cX9_laysBehind 27 = .ok (.goto (-25), 3) := by decide +kernel
theorem dX9_laysBehind_30 : decode cX9_laysBehind 30 = .ok (.iconst 2, 1) := by decide +kernel
theorem dX9_laysBehind_31 : decode cX9_laysBehind 31 = .ok (.istore_n 3, 1) := by decide +kernel
theorem dX9_laysBehind_32 : decode cX9_laysBehind 32 = .ok (.iload_n 3, 1) := by decide +kernel
theorem dX9_laysBehind_33 : decode cX9_laysBehind 33 = .ok (.iload_n 2, 1) := by decide +kernel
theorem dX9_laysBehind_34 : decode cX9_laysBehind 34 = .ok (.if_icmp .le 58, 3) := by decide +kernel
theorem dX9_laysBehind_37 : decode cX9_laysBehind 37 = .ok (.iconst 0, 1) := by decide +kernel
theorem dX9_laysBehind_38 : decode cX9_laysBehind 38 = .ok (.istore 4, 2) := by decide +kernel
theorem dX9_laysBehind_40 : decode cX9_laysBehind 40 = .ok (.iload 4, 2) := by decide +kernel
theorem dX9_laysBehind_42 : decode cX9_laysBehind 42 = .ok (.bipush 40, 2) := by decide +kernel
theorem dX9_laysBehind_44 : decode cX9_laysBehind 44 = .ok (.iload_n 3, 1) := by decide +kernel
theorem dX9_laysBehind_45 : decode cX9_laysBehind 45 = .ok (.imul, 1) := by decide +kernel
theorem dX9_laysBehind_46 : decode cX9_laysBehind 46 = .ok (.if_icmp .gt 40, 3) := by decide +kernel
theorem dX9_laysBehind_49 : decode cX9_laysBehind 49 = .ok (.aload_n 0, 1) := by decide +kernel
theorem dX9_laysBehind_50 : decode cX9_laysBehind 50 = .ok (.iload_n 1, 1) := by decide +kernel
theorem dX9_laysBehind_51 : decode cX9_laysBehind 51 = .ok (.iload_n 3, 1) := by decide +kernel
theorem dX9_laysBehind_52 : decode cX9_laysBehind 52 = .ok (.iconst 0, 1) := by decide +kernel
theorem dX9_laysBehind_53 : decode cX9_laysBehind 53 = .ok (.iload 4, 2) := by decide +kernel
theorem dX9_laysBehind_55 : decode cX9_laysBehind 55 = .ok (.invokevirtual 342, 3) := by decide +kernel
theorem dX9_laysBehind_58 : decode cX9_laysBehind 58 = .ok (.aload_n 0, 1) := by decide +kernel
theorem dX9_laysBehind_59 : decode cX9_laysBehind 59 = .ok (.getfield 65, 3) := by decide +kernel
theorem dX9_laysBehind_62 : decode cX9_laysBehind 62 = .ok (.bipush 121, 2) := by decide +kernel
theorem dX9_laysBehind_64 : decode cX9_laysBehind 64 = .ok (.iload_n 3, 1) := by decide +kernel
theorem dX9_laysBehind_65 : decode cX9_laysBehind 65 = .ok (.imul, 1) := by decide +kernel
theorem dX9_laysBehind_66 : decode cX9_laysBehind 66 = .ok (.iload 4, 2) := by decide +kernel
theorem dX9_laysBehind_68 : decode cX9_laysBehind 68 = .ok (.iadd, 1) := by decide +kernel
theorem dX9_laysBehind_69 : decode cX9_laysBehind 69 = .ok (.aload_n 0, 1) := by decide +kernel
theorem dX9_laysBehind_70 : decode cX9_laysBehind 70 = .ok (.iload_n 1, 1) := by decide +kernel
theorem dX9_laysBehind_71 : decode cX9_laysBehind 71 = .ok (.iload_n 3, 1) := by decide +kernel
theorem dX9_laysBehind_72 : decode cX9_laysBehind 72 = .ok (.iconst 0, 1) := by decide +kernel
theorem dX9_laysBehind_73 : decode cX9_laysBehind 73 = .ok (.iconst 0, 1) := by decide +kernel
theorem dX9_laysBehind_74 : decode cX9_laysBehind 74 = .ok (.iconst 1, 1) := by decide +kernel
theorem dX9_laysBehind_75 : decode cX9_laysBehind 75 = .ok (.iconst 0, 1) := by decide +kernel
theorem dX9_laysBehind_76 : decode cX9_laysBehind 76 = .ok (.invokevirtual 338, 3) := by decide +kernel
theorem dX9_laysBehind_79 : decode cX9_laysBehind 79 = .ok (.iastore, 1) := by decide +kernel
theorem dX9_laysBehind_80 : decode cX9_laysBehind 80 = .ok (.iinc 4 1, 3) := by decide +kernel
theorem dX9_laysBehind_83 : decode cX9_laysBehind 83 = .ok (.goto (-43), 3) := by decide +kernel
theorem dX9_laysBehind_86 : decode cX9_laysBehind 86 = .ok (.iinc 3 (-1), 3) := by decide +kernel
theorem dX9_laysBehind_89 : decode cX9_laysBehind 89 = .ok (.goto (-57), 3) := by decide +kernel
theorem dX9_laysBehind_92 : decode cX9_laysBehind 92 = .ok (.return_, 1) := by decide +kernel
set_option maxRecDepth 20000 in
theorem ggX9_freeNow_X9_isOut : GoodIn wsX9_freeNow wsX9_isOut := goodIn_r _ [9, 10, 11, 12, 8, 13, 3, 85, 86, 87, 88, 89, 90, 91, 92, 93, 94, 95, 96, 97, 98, 99, 100, 101, 102, 103, 104, 105, 106, 107, 108, 109, 110, 111, 112, 113, 114, 115, 116, 117, 118, 119, 120, 121, 122, 123, 124] (by decide +kernel) (by decide +kernel)
set_option maxRecDepth 20000 in
theorem gX9_freeNow_X9_isOut : GoodIn wsX9_freeNow (wsV RX9 121 RX9 yX9_isOut wsX9_isOut) := goodIn_app (goodIn_of _ (by decide +kernel)) ggX9_freeNow_X9_isOut
set_option maxRecDepth 20000 in
theorem ggX9_freeNow_X9_isOver : GoodIn wsX9_freeNow wsX9_isOver := goodIn_r _ [17, 3, 85, 86, 87, 88, 89, 90, 91, 92, 93, 94, 95, 96, 97, 98, 99, 100, 101, 102, 103, 104, 105, 106, 107, 108, 109, 110, 111, 112, 113, 114, 115, 116, 117, 118, 119, 120, 121, 122, 123, 124] (by decide +kernel) (by decide +kernel)
set_option maxRecDepth 20000 in
theorem gX9_freeNow_X9_isOver : GoodIn wsX9_freeNow (wsV RX9 113 RX9 yX9_isOver wsX9_isOver) := goodIn_app (goodIn_of _ (by decide +kernel)) ggX9_freeNow_X9_isOver
set_option maxRecDepth 20000 in
theorem ggX9_freeNow_X9_sumOf : GoodIn wsX9_freeNow wsX9_sumOf := goodIn_r _ [21, 5, 6, 7, 8, 9, 10, 11, 12, 13, 3, 85, 86, 87, 88, 89, 90, 91, 92, 93, 94, 95, 96, 97, 98, 99, 100, 101, 102, 103, 104, 105, 106, 107, 108, 109, 110, 111, 112, 113, 114, 115, 116, 117, 118, 119, 120, 121, 122, 123, 124] (by decide +kernel) (by decide +kernel)
set_option maxRecDepth 20000 in
theorem gX9_freeNow_X9_sumOf : GoodIn wsX9_freeNow (wsV RX9 167 RX9 yX9_sumOf wsX9_sumOf) := goodIn_app (goodIn_of _ (by decide +kernel)) ggX9_freeNow_X9_sumOf
set_option maxRecDepth 20000 in
theorem ggX9_freeNow_X9_of : GoodIn wsX9_freeNow wsX9_of := goodIn_r _ [13, 3, 85, 86, 87, 88, 89, 90, 91, 92, 93, 94, 95, 96, 97, 98, 99, 100, 101, 102, 103, 104, 105, 106, 107, 108, 109, 110, 111, 112, 113, 114, 115, 116, 117, 118, 119, 120, 121, 122, 123, 124] (by decide +kernel) (by decide +kernel)
set_option maxRecDepth 20000 in
theorem gX9_freeNow_X9_of : GoodIn wsX9_freeNow (wsV RX9 106 RX9 yX9_of wsX9_of) := goodIn_app (goodIn_of _ (by decide +kernel)) ggX9_freeNow_X9_of
set_option maxRecDepth 20000 in
theorem ggX9_freeNow_X9_sumAhead : GoodIn wsX9_freeNow wsX9_sumAhead := goodIn_r _ [25, 3, 10, 11, 12, 8, 13, 85, 86, 87, 88, 89, 90, 91, 92, 93, 94, 95, 96, 97, 98, 99, 100, 101, 102, 103, 104, 105, 106, 107, 108, 109, 110, 111, 112, 113, 114, 115, 116, 117, 118, 119, 120, 121, 122, 123, 124] (by decide +kernel) (by decide +kernel)
