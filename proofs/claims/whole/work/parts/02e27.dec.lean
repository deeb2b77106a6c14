set_option maxRecDepth 20000 in
theorem gX9_freeNow_X9_sumAhead : GoodIn wsX9_freeNow (wsV RX9 280 RX9 yX9_sumAhead wsX9_sumAhead) := goodIn_app (goodIn_of _ (by decide +kernel)) ggX9_freeNow_X9_sumAhead
set_option maxRecDepth 20000 in
theorem ggX9_freeNow_X9_laysBehind : GoodIn wsX9_freeNow wsX9_laysBehind := goodIn_r _ [29, 30, 2, 31, 32, 33, 8, 34, 35, 36, 37, 38, 39, 40, 41, 42, 43, 44, 45, 46, 4, 47, 48, 49, 50, 51, 52, 53, 54, 55, 56, 57, 58, 59, 60, 61, 62, 63, 64, 65, 66, 67, 68, 69, 70, 71, 72, 85, 86, 87, 88, 89, 90, 91, 92, 93, 94, 95, 96, 97, 98, 99, 100, 101, 102, 103, 104, 105, 106, 107, 108, 109, 110, 111, 112, 113, 114, 115, 116, 117, 118, 119, 120, 121, 122, 123, 124] (by decide +kernel) (by decide +kernel)
set_option maxRecDepth 20000 in
theorem gX9_freeNow_X9_laysBehind : GoodIn wsX9_freeNow (wsV RX9 349 RX9 yX9_laysBehind wsX9_laysBehind) := goodIn_app (goodIn_of _ (by decide +kernel)) ggX9_freeNow_X9_laysBehind
set_option maxRecDepth 20000 in
theorem ggX9_freeNow_X9_leastOf : GoodIn wsX9_freeNow wsX9_leastOf := goodIn_r _ [76, 3, 59, 60, 49, 61, 10, 11, 12, 8, 13, 5, 6, 7, 9, 14, 15, 16, 17, 85, 86, 87, 88, 89, 90, 91, 92, 93, 94, 95, 96, 97, 98, 99, 100, 101, 102, 103, 104, 105, 106, 107, 108, 109, 110, 111, 112, 113, 114, 115, 116, 117, 118, 119, 120, 121, 122, 123, 124] (by decide +kernel) (by decide +kernel)
set_option maxRecDepth 20000 in
theorem gX9_freeNow_X9_leastOf : GoodIn wsX9_freeNow (wsV RX9 249 RX9 yX9_leastOf wsX9_leastOf) := goodIn_app (goodIn_of _ (by decide +kernel)) ggX9_freeNow_X9_leastOf
set_option maxRecDepth 20000 in
theorem ggX9_freeNow_X9_nextLoadOf : GoodIn wsX9_freeNow wsX9_nextLoadOf := goodIn_r _ [80, 4, 1, 31, 32, 33, 8, 34, 35, 36, 37, 38, 39, 40, 41, 42, 2, 30, 43, 44, 45, 46, 47, 48, 49, 50, 51, 52, 53, 54, 55, 56, 57, 58, 59, 60, 61, 62, 63, 64, 65, 66, 67, 68, 69, 70, 71, 72, 85, 86, 87, 88, 89, 90, 91, 92, 93, 94, 95, 96, 97, 98, 99, 100, 101, 102, 103, 104, 105, 106, 107, 108, 109, 110, 111, 112, 113, 114, 115, 116, 117, 118, 119, 120, 121, 122, 123, 124] (by decide +kernel) (by decide +kernel)
set_option maxRecDepth 20000 in
theorem gX9_freeNow_X9_nextLoadOf : GoodIn wsX9_freeNow (wsV RX9 352 RX9 yX9_nextLoadOf wsX9_nextLoadOf) := goodIn_app (goodIn_of _ (by decide +kernel)) ggX9_freeNow_X9_nextLoadOf
set_option maxRecDepth 20000 in
theorem ggX9_freeNow_X9_ends : GoodIn wsX9_freeNow wsX9_ends := goodIn_r _ [42, 2, 30, 85, 86, 87, 88, 89, 90, 91, 92, 93, 94, 95, 96, 97, 98, 99, 100, 101, 102, 103, 104, 105, 106, 107, 108, 109, 110, 111, 112, 113, 114, 115, 116, 117, 118, 119, 120, 121, 122, 123, 124] (by decide +kernel) (by decide +kernel)
set_option maxRecDepth 20000 in
theorem gX9_freeNow_X9_ends : GoodIn wsX9_freeNow (wsV RX9 335 RX9 yX9_ends wsX9_ends) := goodIn_app (goodIn_of _ (by decide +kernel)) ggX9_freeNow_X9_ends
set_option maxRecDepth 20000 in
theorem ggX9_freeNow_X9_roundOf : GoodIn wsX9_freeNow wsX9_roundOf := goodIn_r _ [84, 3, 10, 11, 12, 8, 13, 85, 86, 87, 88, 89, 90, 91, 92, 93, 94, 95, 96, 97, 98, 99, 100, 101, 102, 103, 104, 105, 106, 107, 108, 109, 110, 111, 112, 113, 114, 115, 116, 117, 118, 119, 120, 121, 122, 123, 124] (by decide +kernel) (by decide +kernel)
set_option maxRecDepth 20000 in
theorem gX9_freeNow_X9_roundOf : GoodIn wsX9_freeNow (wsV RX9 277 RX9 yX9_roundOf wsX9_roundOf) := goodIn_app (goodIn_of _ (by decide +kernel)) ggX9_freeNow_X9_roundOf
set_option maxRecDepth 20000 in
theorem ggX9_freeNow_X9_laysRounds : GoodIn wsX9_freeNow wsX9_laysRounds := goodIn_r _ [34, 35, 36, 37, 8, 38, 39, 40, 41, 42, 2, 30, 43, 44, 45, 46, 4, 47, 48, 49, 50, 51, 52, 53, 54, 55, 56, 57, 58, 59, 60, 61, 62, 63, 64, 65, 66, 67, 68, 69, 70, 71, 72, 85, 86, 87, 88, 89, 90, 91, 92, 93, 94, 95, 96, 97, 98, 99, 100, 101, 102, 103, 104, 105, 106, 107, 108, 109, 110, 111, 112, 113, 114, 115, 116, 117, 118, 119, 120, 121, 122, 123, 124] (by decide +kernel) (by decide +kernel)
set_option maxRecDepth 20000 in
theorem gX9_freeNow_X9_laysRounds : GoodIn wsX9_freeNow (wsV RX9 342 RX9 yX9_laysRounds wsX9_laysRounds) := goodIn_app (goodIn_of _ (by decide +kernel)) ggX9_freeNow_X9_laysRounds
set_option maxRecDepth 20000 in
theorem ggX9_freeNow_X9_triesBest : GoodIn wsX9_freeNow wsX9_triesBest := goodIn_r _ [46, 4, 35, 47, 48, 49, 50, 51, 52, 8, 53, 54, 55, 56, 57, 58, 59, 60, 61, 62, 63, 64, 65, 66, 67, 68, 69, 70, 71, 72, 85, 86, 87, 88, 89, 90, 91, 92, 93, 94, 95, 96, 97, 98, 99, 100, 101, 102, 103, 104, 105, 106, 107, 108, 109, 110, 111, 112, 113, 114, 115, 116, 117, 118, 119, 120, 121, 122, 123, 124] (by decide +kernel) (by decide +kernel)
set_option maxRecDepth 20000 in
theorem gX9_freeNow_X9_triesBest : GoodIn wsX9_freeNow (wsV RX9 338 RX9 yX9_triesBest wsX9_triesBest) := goodIn_app (goodIn_of _ (by decide +kernel)) ggX9_freeNow_X9_triesBest
theorem dX9_freeNow_0 : decode cX9_freeNow 0 = .ok (.aload_n 0, 1) := by decide +kernel
theorem dX9_freeNow_1 : decode cX9_freeNow 1 = .ok (.iconst 0, 1) := by decide +kernel
theorem dX9_freeNow_2 : decode cX9_freeNow 2 = .ok (.putfield 346, 3) := by decide +kernel
theorem dX9_freeNow_5 : decode cX9_freeNow 5 = .ok (.aload_n 0, 1) := by decide +kernel
theorem dX9_freeNow_6 : decode cX9_freeNow 6 = .ok (.iload_n 1, 1) := by decide +kernel
theorem dX9_freeNow_7 : decode cX9_freeNow 7 = .ok (.invokevirtual 121, 3) := by decide +kernel
theorem dX9_freeNow_10 : decode cX9_freeNow 10 = .ok (.ifCond .ne 10, 3) := by decide +kernel
theorem dX9_freeNow_13 : decode cX9_freeNow 13 = .ok (.aload_n 0, 1) := by decide +kernel
theorem dX9_freeNow_14 : decode cX9_freeNow 14 = .ok (.invokevirtual 113, 3) := by decide +kernel
theorem dX9_freeNow_17 : decode cX9_freeNow 17 = .ok (.ifCond .eq 14, 3) := by decide +kernel
theorem dX9_freeNow_20 : decode cX9_freeNow 20 = .ok (.aload_n 0, 1) := by decide +kernel
theorem dX9_freeNow_21 : decode cX9_freeNow 21 = .ok (.getfield 56, 3) := by decide +kernel
theorem dX9_freeNow_24 : decode cX9_freeNow 24 = .ok (.aload_n 0, 1) := by decide +kernel
theorem dX9_freeNow_25 : decode cX9_freeNow 25 = .ok (.iload_n 1, 1) := by decide +kernel
theorem dX9_freeNow_26 : decode cX9_freeNow 26 = .ok (.invokevirtual 167, 3) := by decide +kernel
theorem dX9_freeNow_29 : decode cX9_freeNow 29 = .ok (.iaload, 1) := by decide +kernel
theorem dX9_freeNow_30 : decode cX9_freeNow 30 = .ok (.ireturn, 1) := by decide +kernel
theorem dX9_freeNow_31 : decode cX9_freeNow 31 = .ok (.aload_n 0, 1) := by decide +kernel
theorem dX9_freeNow_32 : decode cX9_freeNow 32 = .ok (.getfield 32, 3) := by decide +kernel
theorem dX9_freeNow_35 : decode cX9_freeNow 35 = .ok (.iconst 0, 1) := by decide +kernel
theorem dX9_freeNow_36 : decode cX9_freeNow 36 = .ok (.iaload, 1) := by decide +kernel
theorem dX9_freeNow_37 : decode cX9_freeNow 37 = .ok (.istore_n 2, 1) := by decide +kernel
theorem dX9_freeNow_38 : decode cX9_freeNow 38 = .ok (.aload_n 0, 1) := by decide +kernel
theorem dX9_freeNow_39 : decode cX9_freeNow 39 = .ok (.iload_n 1, 1) := by decide +kernel
theorem dX9_freeNow_40 : decode cX9_freeNow 40 = .ok (.bipush 7, 2) := by decide +kernel
theorem dX9_freeNow_42 : decode cX9_freeNow 42 = .ok (.iload_n 2, 1) := by decide +kernel
theorem dX9_freeNow_43 : decode cX9_freeNow 43 = .ok (.iadd, 1) := by decide +kernel
theorem dX9_freeNow_44 : decode cX9_freeNow 44 = .ok (.invokevirtual 106, 3) := by decide +kernel
theorem dX9_freeNow_47 : decode cX9_freeNow 47 = .ok (.istore_n 3, 1) := by decide +kernel
theorem dX9_freeNow_48 : decode cX9_freeNow 48 = .ok (.aload_n 0, 1) := by decide +kernel
theorem dX9_freeNow_49 : decode cX9_freeNow 49 = .ok (.iload_n 1, 1) := by decide +kernel
theorem dX9_freeNow_50 : decode cX9_freeNow 50 = .ok (.invokevirtual 280, 3) := by decide +kernel
theorem dX9_freeNow_53 : decode cX9_freeNow 53 = .ok (.istore 4, 2) := by decide +kernel
theorem dX9_freeNow_55 : decode cX9_freeNow 55 = .ok (.aload_n 0, 1) := by decide +kernel
theorem dX9_freeNow_56 : decode cX9_freeNow 56 = .ok (.iload_n 1, 1) := by decide +kernel
theorem dX9_freeNow_57 : decode cX9_freeNow 57 = .ok (.iload_n 2, 1) := by decide +kernel
theorem dX9_freeNow_58 : decode cX9_freeNow 58 = .ok (.invokevirtual 349, 3) := by decide +kernel
theorem dX9_freeNow_61 : decode cX9_freeNow 61 = .ok (.aload_n 0, 1) := by decide +kernel
theorem dX9_freeNow_62 : decode cX9_freeNow 62 = .ok (.iload_n 1, 1) := by decide +kernel
theorem dX9_freeNow_63 : decode cX9_freeNow 63 = .ok (.invokevirtual 249, 3) := by decide +kernel
theorem dX9_freeNow_66 : decode cX9_freeNow 66 = .ok (.ifCond .eq 13, 3) := by decide +kernel
theorem dX9_freeNow_69 : decode cX9_freeNow 69 = .ok (.aload_n 0, 1) := by decide +kernel
theorem dX9_freeNow_70 : decode cX9_freeNow 70 = .ok (.iload_n 1, 1) := by decide +kernel
theorem dX9_freeNow_71 : decode cX9_freeNow 71 = .ok (.invokevirtual 249, 3) := by decide +kernel
theorem dX9_freeNow_74 : decode cX9_freeNow 74 = .ok (.bipush 40, 2) := by decide +kernel
theorem dX9_freeNow_76 : decode cX9_freeNow 76 = .ok (.if_icmp .le 40, 3) := by decide +kernel
theorem dX9_freeNow_79 : decode cX9_freeNow 79 = .ok (.iload_n 3, 1) := by decide +kernel
theorem dX9_freeNow_80 : decode cX9_freeNow 80 = .ok (.ifCond .ne 10, 3) := by decide +kernel
theorem dX9_freeNow_83 : decode cX9_freeNow 83 = .ok (.aload_n 0, 1) := by decide +kernel
theorem dX9_freeNow_84 : decode cX9_freeNow 84 = .ok (.getfield 56, 3) := by decide +kernel
theorem dX9_freeNow_87 : decode cX9_freeNow 87 = .ok (.iconst 0, 1) := by decide +kernel
theorem dX9_freeNow_88 : decode cX9_freeNow 88 = .ok (.iaload, 1) := by decide +kernel
theorem dX9_freeNow_89 : decode cX9_freeNow 89 = .ok (.ireturn, 1) := by decide +kernel
theorem dX9_freeNow_90 : decode cX9_freeNow 90 = .ok (.iload_n 2, 1) := by decide +kernel
theorem dX9_freeNow_91 : decode cX9_freeNow 91 = .ok (.iconst 2, 1) := by decide +kernel
theorem dX9_freeNow_92 : decode cX9_freeNow 92 = .ok (.if_icmp .ge 15, 3) := by decide +kernel
theorem dX9_freeNow_95 : decode cX9_freeNow 95 = .ok (.aload_n 0, 1) := by decide +kernel
theorem dX9_freeNow_96 : decode cX9_freeNow 96 = .ok (.iload_n 1, 1) := by decide +kernel
theorem dX9_freeNow_97 : decode cX9_freeNow 97 = .ok (.iload_n 2, 1) := by decide +kernel
theorem dX9_freeNow_98 : decode cX9_freeNow 98 = .ok (.iconst 1, 1) := by decide +kernel
theorem dX9_freeNow_99 : decode cX9_freeNow 99 = .ok (.iadd, 1) := by decide +kernel
theorem dX9_freeNow_100 : decode cX9_freeNow 100 = .ok (.iload 4, 2) := by decide +kernel
theorem dX9_freeNow_102 : decode cX9_freeNow 102 = .ok (.iload_n 3, 1) := by decide +kernel
theorem dX9_freeNow_103 : decode cX9_freeNow 103 = .ok (.iadd, 1) := by decide +kernel
theorem dX9_freeNow_104 : decode cX9_freeNow 104 = .ok (.invokevirtual 352, 3) := by decide +kernel
theorem dX9_freeNow_107 : decode cX9_freeNow 107 = .ok (.aload_n 0, 1) := by decide +kernel
theorem dX9_freeNow_108 : decode cX9_freeNow 108 = .ok (.iload_n 2, 1) := by decide +kernel
theorem dX9_freeNow_109 : decode cX9_freeNow 109 = .ok (.iload_n 3, 1) := by decide +kernel
theorem dX9_freeNow_110 : decode cX9_freeNow 110 = .ok (.iload 4, 2) := by decide +kernel
theorem dX9_freeNow_112 : decode cX9_freeNow 112 = .ok (.invokevirtual 335, 3) := by decide +kernel
theorem dX9_freeNow_115 : decode cX9_freeNow 115 = .ok (.ireturn, 1) := by decide +kernel
theorem dX9_freeNow_116 : decode cX9_freeNow 116 = .ok (.aload_n 0, 1) := by decide +kernel
theorem dX9_freeNow_117 : decode cX9_freeNow 117 = .ok (.iload_n 1, 1) := by decide +kernel
theorem dX9_freeNow_118 : decode cX9_freeNow 118 = .ok (.iload_n 2, 1) := by decide +kernel
theorem dX9_freeNow_119 : decode cX9_freeNow 119 = .ok (.aload_n 0, 1) := by decide +kernel
theorem dX9_freeNow_120 : decode cX9_freeNow 120 = .ok (.iload_n 1, 1) := by decide +kernel
theorem dX9_freeNow_121 : decode cX9_freeNow 121 = .ok (.invokevirtual 277, 3) := by decide +kernel
theorem dX9_freeNow_124 : decode cX9_freeNow 124 = .ok (.iload 4, 2) := by decide +kernel
theorem dX9_freeNow_126 : decode cX9_freeNow 126 = .ok (.invokevirtual 342, 3) := by decide +kernel
theorem dX9_freeNow_129 : decode cX9_freeNow 129 = .ok (.aload_n 0, 1) := by decide +kernel
theorem dX9_freeNow_130 : decode cX9_freeNow 130 = .ok (.iload_n 1, 1) := by decide +kernel
theorem dX9_freeNow_131 : decode cX9_freeNow 131 = .ok (.iload_n 2, 1) := by decide +kernel
theorem dX9_freeNow_132 : decode cX9_freeNow 132 = .ok (.aload_n 0, 1) := by decide +kernel
theorem dX9_freeNow_133 : decode cX9_freeNow 133 = .ok (.iload_n 1, 1) := by decide +kernel
theorem dX9_freeNow_134 : decode cX9_freeNow 134 = .ok (.invokevirtual 277, 3) := by decide +kernel
theorem dX9_freeNow_137 : decode cX9_freeNow 137 = .ok (.aload_n 0, 1) := by decide +kernel
theorem dX9_freeNow_138 : decode cX9_freeNow 138 = .ok (.iload_n 1, 1) := by decide +kernel
theorem dX9_freeNow_139 : decode cX9_freeNow 139 = .ok (.iconst 4, 1) := by decide +kernel
theorem dX9_freeNow_140 : decode cX9_freeNow 140 = .ok (.invokevirtual 106, 3) := by decide +kernel
theorem dX9_freeNow_143 : decode cX9_freeNow 143 = .ok (.aload_n 0, 1) := by decide +kernel
theorem dX9_freeNow_144 : decode cX9_freeNow 144 = .ok (.iload_n 1, 1) := by decide +kernel
theorem dX9_freeNow_145 : decode cX9_freeNow 145 = .ok (.invokevirtual 249, 3) := by decide +kernel
theorem dX9_freeNow_148 : decode cX9_freeNow 148 = .ok (.iload_n 3, 1) := by decide +kernel
theorem dX9_freeNow_149 : decode cX9_freeNow 149 = .ok (.invokevirtual 338, 3) := by decide +kernel
theorem dX9_freeNow_152 : decode cX9_freeNow 152 = .ok (.istore 5, 2) := by decide +kernel
theorem dX9_freeNow_154 : decode cX9_freeNow 154 = .ok (.aload_n 0, 1) := by decide +kernel
theorem dX9_freeNow_155 : decode cX9_freeNow 155 = .ok (.aload_n 0, 1) := by decide +kernel
theorem dX9_freeNow_156 : decode cX9_freeNow 156 = .ok (.getfield 322, 3) := by decide +kernel
theorem dX9_freeNow_159 : decode cX9_freeNow 159 = .ok (.putfield 346, 3) := by decide +kernel
theorem dX9_freeNow_162 : decode cX9_freeNow 162 = .ok (.iload 5, 2) := by decide +kernel
theorem dX9_freeNow_164 : decode cX9_freeNow 164 = .ok (.ireturn, 1) := by decide +kernel
set_option maxRecDepth 20000 in
theorem ggX9_nextLoadOf_X9_laysRounds : GoodIn wsX9_nextLoadOf wsX9_laysRounds := goodIn_r _ [7, 8, 9, 10, 6, 11, 12, 13, 14, 15, 16, 17, 18, 19, 20, 21, 1, 22, 23, 24, 25, 26, 27, 28, 29, 30, 31, 32, 33, 34, 35, 36, 37, 38, 39, 40, 41, 42, 43, 44, 45, 46, 47, 48, 49, 50, 51, 52, 53, 54, 55, 56, 57, 58, 59, 60, 61, 62, 63, 64, 65, 66, 67, 68, 69, 70, 71, 72, 73, 74, 75, 76, 77, 78, 79, 80, 81, 82, 83, 84, 85, 86, 87] (by decide +kernel) (by decide +kernel)
set_option maxRecDepth 20000 in
theorem gX9_nextLoadOf_X9_laysRounds : GoodIn wsX9_nextLoadOf (wsV RX9 342 RX9 yX9_laysRounds wsX9_laysRounds) := goodIn_app (goodIn_of _ (by decide +kernel)) ggX9_nextLoadOf_X9_laysRounds
set_option maxRecDepth 20000 in
theorem ggX9_nextLoadOf_X9_triesBest : GoodIn wsX9_nextLoadOf wsX9_triesBest := goodIn_r _ [21, 1, 8, 22, 23, 24, 25, 26, 27, 6, 28, 29, 30, 31, 32, 33, 34, 35, 36, 37, 38, 39, 40, 41, 42, 43, 44, 45, 46, 47, 48, 49, 50, 51, 52, 53, 54, 55, 56, 57, 58, 59, 60, 61, 62, 63, 64, 65, 66, 67, 68, 69, 70, 71, 72, 73, 74, 75, 76, 77, 78, 79, 80, 81, 82, 83, 84, 85, 86, 87] (by decide +kernel) (by decide +kernel)
set_option maxRecDepth 20000 in
theorem gX9_nextLoadOf_X9_triesBest : GoodIn wsX9_nextLoadOf (wsV RX9 338 RX9 yX9_triesBest wsX9_triesBest) := goodIn_app (goodIn_of _ (by decide +kernel)) ggX9_nextLoadOf_X9_triesBest
theorem dX9_nextLoadOf_0 : decode cX9_nextLoadOf 0 = .ok (.aload_n 0, 1) := by decide +kernel
theorem dX9_nextLoadOf_1 : decode cX9_nextLoadOf 1 = .ok (.iload_n 1, 1) := by decide +kernel
theorem dX9_nextLoadOf_2 : decode cX9_nextLoadOf 2 = .ok (.iload_n 2, 1) := by decide +kernel
theorem dX9_nextLoadOf_3 : decode cX9_nextLoadOf 3 = .ok (.iconst 0, 1) := by decide +kernel
theorem dX9_nextLoadOf_4 : decode cX9_nextLoadOf 4 = .ok (.iload_n 3, 1) := by decide +kernel
theorem dX9_nextLoadOf_5 : decode cX9_nextLoadOf 5 = .ok (.invokevirtual 342, 3) := by decide +kernel
theorem dX9_nextLoadOf_8 : decode cX9_nextLoadOf 8 = .ok (.aload_n 0, 1) := by decide +kernel
theorem dX9_nextLoadOf_9 : decode cX9_nextLoadOf 9 = .ok (.iload_n 1, 1) := by decide +kernel
theorem dX9_nextLoadOf_10 : decode cX9_nextLoadOf 10 = .ok (.iload_n 2, 1) := by decide +kernel
theorem dX9_nextLoadOf_11 : decode cX9_nextLoadOf 11 = .ok (.iconst 0, 1) := by decide +kernel
theorem dX9_nextLoadOf_12 : decode cX9_nextLoadOf 12 = .ok (.iconst 0, 1) := by decide +kernel
theorem dX9_nextLoadOf_13 : decode cX9_nextLoadOf 13 = .ok (.iconst 1, 1) := by decide +kernel
theorem dX9_nextLoadOf_14 : decode cX9_nextLoadOf 14 = .ok (.iconst 0, 1) := by decide +kernel
theorem dX9_nextLoadOf_15 : decode cX9_nextLoadOf 15 = .ok (.invokevirtual 338, 3) := by decide +kernel
theorem dX9_nextLoadOf_18 : decode cX9_nextLoadOf 18 = .ok (.pop, 1) := by decide +kernel
theorem dX9_nextLoadOf_19 : decode cX9_nextLoadOf 19 = .ok (.aload_n 0, 1) := by decide +kernel
theorem dX9_nextLoadOf_20 : decode cX9_nextLoadOf 20 = .ok (.aload_n 0, 1) := by decide +kernel
theorem dX9_nextLoadOf_21 : decode cX9_nextLoadOf 21 = .ok (.getfield 322, 3) := by decide +kernel
theorem dX9_nextLoadOf_24 : decode cX9_nextLoadOf 24 = .ok (.putfield 346, 3) := by decide +kernel
theorem dX9_nextLoadOf_27 : decode cX9_nextLoadOf 27 = .ok (.return_, 1) := by decide +kernel
set_option maxRecDepth 20000 in
theorem ggX9_tellsFree_X9_freeNow : GoodIn wsX9_tellsFree wsX9_freeNow := goodIn_r _ [7, 2, 8, 9, 10, 11, 12, 13, 6, 14, 15, 16, 17, 18, 19, 20, 21, 22, 23, 24, 25, 26, 27, 28, 29, 30, 31, 32, 33, 34, 35, 36, 37, 38, 39, 40, 41, 42, 43, 44, 45, 46, 47, 48, 49, 50, 51, 52, 53, 54, 55, 56, 57, 58, 59, 60, 61, 62, 63, 64, 65, 66, 67, 68, 69, 70, 71, 72, 73, 74, 75, 76, 77, 78, 79, 80, 81, 82, 83, 84, 85, 86, 87, 88, 89, 116, 117, 118, 119, 120, 121, 122, 123, 124, 125, 126, 127, 128, 129, 130, 131, 132, 133, 134, 135, 136, 137, 138, 139, 140, 141, 142, 143, 144, 145, 146, 147, 148, 149, 150, 151, 152, 153, 154, 155] (by decide +kernel) (by decide +kernel)
set_option maxRecDepth 20000 in
theorem gX9_tellsFree_X9_freeNow : GoodIn wsX9_tellsFree (wsV RX9 355 RX9 yX9_freeNow wsX9_freeNow) := goodIn_app (goodIn_of _ (by decide +kernel)) ggX9_tellsFree_X9_freeNow
set_option maxRecDepth 20000 in
theorem ggX9_tellsFree_X9_notes : GoodIn wsX9_tellsFree wsX9_notes := goodIn_r _ [93, 94, 1, 116, 117, 118, 119, 120, 121, 122, 123, 124, 125, 126, 127, 128, 129, 130, 131, 132, 133, 134, 135, 136, 137, 138, 139, 140, 141, 142, 143, 144, 145, 146, 147, 148, 149, 150, 151, 152, 153, 154, 155] (by decide +kernel) (by decide +kernel)
set_option maxRecDepth 20000 in
theorem gX9_tellsFree_X9_notes : GoodIn wsX9_tellsFree (wsV RX9 180 RX9 yX9_notes wsX9_notes) := goodIn_app (goodIn_of _ (by decide +kernel)) ggX9_tellsFree_X9_notes
set_option maxRecDepth 20000 in
theorem ggX9_tellsFree_X9_planNow : GoodIn wsX9_tellsFree wsX9_planNow := goodIn_r _ [98, 8, 9, 11, 12, 13, 6, 14, 15, 16, 17, 18, 19, 20, 21, 22, 23, 24, 25, 26, 86, 87, 88, 89, 27, 28, 29, 30, 99, 100, 101, 102, 64, 65, 54, 66, 103, 104, 105, 106, 107, 108, 109, 110, 111, 112, 113, 114, 59, 60, 61, 62, 63, 67, 68, 69, 70, 71, 72, 73, 74, 75, 76, 77, 115, 116, 117, 118, 119, 120, 121, 122, 123, 124, 125, 126, 127, 128, 129, 130, 131, 132, 133, 134, 135, 136, 137, 138, 139, 140, 141, 142, 143, 144, 145, 146, 147, 148, 149, 150, 151, 152, 153, 154, 155] (by decide +kernel) (by decide +kernel)
set_option maxRecDepth 20000 in
theorem gX9_tellsFree_X9_planNow : GoodIn wsX9_tellsFree (wsV RX9 287 RX9 yX9_planNow wsX9_planNow) := goodIn_app (goodIn_of _ (by decide +kernel)) ggX9_tellsFree_X9_planNow
theorem dX9_tellsFree_0 : decode cX9_tellsFree 0 = .ok (.aload_n 0, 1) := by decide +kernel
theorem dX9_tellsFree_1 : decode cX9_tellsFree 1 = .ok (.iload_n 1, 1) := by decide +kernel
theorem dX9_tellsFree_2 : decode cX9_tellsFree 2 = .ok (.invokevirtual 355, 3) := by decide +kernel
theorem dX9_tellsFree_5 : decode cX9_tellsFree 5 = .ok (.istore_n 2, 1) := by decide +kernel
theorem dX9_tellsFree_6 : decode cX9_tellsFree 6 = .ok (.aload_n 0, 1) := by decide +kernel
theorem dX9_tellsFree_7 : decode cX9_tellsFree 7 = .ok (.iconst 0, 1) := by decide +kernel
theorem dX9_tellsFree_8 : decode cX9_tellsFree 8 = .ok (.putfield 81, 3) := by decide +kernel
theorem dX9_tellsFree_11 : decode cX9_tellsFree 11 = .ok (.aload_n 0, 1) := by decide +kernel
theorem dX9_tellsFree_12 : decode cX9_tellsFree 12 = .ok (.aload_n 0, 1) := by decide +kernel
theorem dX9_tellsFree_13 : decode cX9_tellsFree 13 = .ok (.getfield 346, 3) := by decide +kernel
theorem dX9_tellsFree_16 : decode cX9_tellsFree 16 = .ok (.i2l, 1) := by decide +kernel
theorem dX9_tellsFree_17 : decode cX9_tellsFree 17 = .ok (.invokevirtual 180, 3) := by decide +kernel
theorem dX9_tellsFree_20 : decode cX9_tellsFree 20 = .ok (.aload_n 0, 1) := by decide +kernel
theorem dX9_tellsFree_21 : decode cX9_tellsFree 21 = .ok (.aload_n 0, 1) := by decide +kernel
theorem dX9_tellsFree_22 : decode cX9_tellsFree 22 = .ok (.iload_n 1, 1) := by decide +kernel
theorem dX9_tellsFree_23 : decode cX9_tellsFree 23 = .ok (.invokevirtual 287, 3) := by decide +kernel
theorem dX9_tellsFree_26 : decode cX9_tellsFree 26 = .ok (.i2l, 1) := by decide +kernel
theorem dX9_tellsFree_27 : decode cX9_tellsFree 27 = .ok (.invokevirtual 180, 3) := by decide +kernel
theorem dX9_tellsFree_30 : decode cX9_tellsFree 30 = .ok (.iload_n 2, 1) := by decide +kernel
theorem dX9_tellsFree_31 : decode cX9_tellsFree 31 = .ok (.ireturn, 1) := by decide +kernel
set_option maxRecDepth 20000 in
theorem ggX9_heavy_X9_isLifter : GoodIn wsX9_heavy wsX9_isLifter := goodIn_r _ [6, 7, 8, 9, 5, 10, 133, 134, 135, 136, 137, 138, 139, 140, 141, 142, 143, 144, 145, 146, 147, 148, 149, 150, 151, 152, 153, 154, 155, 156, 157, 158, 159, 160, 161, 162, 163, 164, 165, 166, 167, 168, 169, 170, 171, 172] (by decide +kernel) (by decide +kernel)
set_option maxRecDepth 20000 in
theorem gX9_heavy_X9_isLifter : GoodIn wsX9_heavy (wsV RX9 233 RX9 yX9_isLifter wsX9_isLifter) := goodIn_app (goodIn_of _ (by decide +kernel)) ggX9_heavy_X9_isLifter
set_option maxRecDepth 20000 in
theorem ggX9_heavy_X9_aimsMass : GoodIn wsX9_heavy wsX9_aimsMass := goodIn_r _ [14, 15, 133, 134, 135, 136, 137, 138, 139, 140, 141, 142, 143, 144, 145, 146, 147, 148, 149, 150, 151, 152, 153, 154, 155, 156, 157, 158, 159, 160, 161, 162, 163, 164, 165, 166, 167, 168, 169, 170, 171, 172] (by decide +kernel) (by decide +kernel)
