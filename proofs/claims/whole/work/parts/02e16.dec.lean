theorem dX9_readsNumber_88 : decode cX9_readsNumber 88 = .ok (.invokestatic 87, 3) := by decide +kernel
theorem dX9_readsNumber_91 : decode cX9_readsNumber 91 = .ok (.ifCond .ne 15, 3) := by decide +kernel
theorem dX9_readsNumber_94 : decode cX9_readsNumber 94 = .ok (.aload_n 0, 1) := by decide +kernel
theorem dX9_readsNumber_95 : decode cX9_readsNumber 95 = .ok (.dup, 1) := by decide +kernel
theorem dX9_readsNumber_96 : decode cX9_readsNumber 96 = .ok (.getfield 187, 3) := by decide +kernel
theorem dX9_readsNumber_99 : decode cX9_readsNumber 99 = .ok (.iconst 1, 1) := by decide +kernel
theorem dX9_readsNumber_100 : decode cX9_readsNumber 100 = .ok (.isub, 1) := by decide +kernel
theorem dX9_readsNumber_101 : decode cX9_readsNumber 101 = .ok (.putfield 187, 3) := by decide +kernel
theorem dX9_readsNumber_104 : decode cX9_readsNumber 104 = .ok (.iconst 0, 1) := by decide +kernel
theorem dX9_readsNumber_105 : decode cX9_readsNumber 105 = .ok (.ireturn, 1) := by decide +kernel
theorem dX9_readsNumber_106 : decode cX9_readsNumber 106 = .ok (.iconst 1, 1) := by decide +kernel
theorem dX9_readsNumber_107 : decode cX9_readsNumber 107 = .ok (.ireturn, 1) := by decide +kernel
set_option maxRecDepth 20000 in
theorem ggX9_takesNumber_X9_readsNumber : GoodIn wsX9_takesNumber wsX9_readsNumber := goodIn_r _ [5, 6, 7, 8, 9, 10, 11, 4, 12, 13, 14, 15, 16, 17, 18, 19, 20, 21, 22, 23, 24, 25, 26, 27, 28, 29, 30, 31, 32, 33, 34, 35, 36, 37, 38, 39, 40, 41, 42, 43, 44, 45, 46, 47, 48, 49, 50, 51, 52, 53, 54, 55, 56, 57, 58] (by decide +kernel) (by decide +kernel)
set_option maxRecDepth 20000 in
theorem gX9_takesNumber_X9_readsNumber : GoodIn wsX9_takesNumber (wsV RX9 203 RX9 yX9_readsNumber wsX9_readsNumber) := goodIn_app (goodIn_of _ (by decide +kernel)) ggX9_takesNumber_X9_readsNumber
set_option maxRecDepth 20000 in
theorem ggX9_takesNumber_X9_isDigit : GoodIn wsX9_takesNumber wsX9_isDigit := goodIn_r _ [12, 8, 13, 7, 14, 15, 16, 17, 4, 18, 19, 20, 21, 22, 23, 24, 25, 26, 27, 28, 29, 30, 31, 32, 33, 34, 35, 36, 37, 38, 39, 40, 41, 42, 43, 44, 45, 46, 47, 48, 49, 50, 51, 52, 53, 54, 55, 56, 57, 58] (by decide +kernel) (by decide +kernel)
set_option maxRecDepth 20000 in
theorem gX9_takesNumber_X9_isDigit : GoodIn wsX9_takesNumber (wsV RX9 197 RX9 yX9_isDigit wsX9_isDigit) := goodIn_app (goodIn_of _ (by decide +kernel)) ggX9_takesNumber_X9_isDigit
theorem dX9_takesNumber_0 : decode cX9_takesNumber 0 = .ok (.aload_n 0, 1) := by decide +kernel
theorem dX9_takesNumber_1 : decode cX9_takesNumber 1 = .ok (.iload_n 1, 1) := by decide +kernel
theorem dX9_takesNumber_2 : decode cX9_takesNumber 2 = .ok (.iload_n 2, 1) := by decide +kernel
theorem dX9_takesNumber_3 : decode cX9_takesNumber 3 = .ok (.invokevirtual 203, 3) := by decide +kernel
theorem dX9_takesNumber_6 : decode cX9_takesNumber 6 = .ok (.ifCond .eq 14, 3) := by decide +kernel
theorem dX9_takesNumber_9 : decode cX9_takesNumber 9 = .ok (.aload_n 0, 1) := by decide +kernel
theorem dX9_takesNumber_10 : decode cX9_takesNumber 10 = .ok (.invokevirtual 197, 3) := by decide +kernel
theorem dX9_takesNumber_13 : decode cX9_takesNumber 13 = .ok (.ifCond .ne 7, 3) := by decide +kernel
theorem dX9_takesNumber_16 : decode cX9_takesNumber 16 = .ok (.iconst 1, 1) := by decide +kernel
theorem dX9_takesNumber_17 : decode cX9_takesNumber 17 = .ok (.goto 4, 3) := by decide +kernel
theorem dX9_takesNumber_20 : decode cX9_takesNumber 20 = .ok (.iconst 0, 1) := by decide +kernel
theorem dX9_takesNumber_21 : decode cX9_takesNumber 21 = .ok (.ireturn, 1) := by decide +kernel
set_option maxRecDepth 20000 in
theorem ggX9_takesLot_X9_readsNumber : GoodIn wsX9_takesLot wsX9_readsNumber := goodIn_r _ [9, 3, 10, 4, 11, 12, 13, 8, 14, 15, 16, 17, 18, 19, 20, 21, 22, 23, 24, 25, 26, 27, 28, 29, 30, 31, 32, 33, 34, 35, 36, 37, 38, 39, 40, 41, 42, 43, 44, 45, 46, 47, 48, 49, 50, 51, 52, 53, 54, 55, 56, 57, 58, 59, 60] (by decide +kernel) (by decide +kernel)
set_option maxRecDepth 20000 in
theorem gX9_takesLot_X9_readsNumber : GoodIn wsX9_takesLot (wsV RX9 203 RX9 yX9_readsNumber wsX9_readsNumber) := goodIn_app (goodIn_of _ (by decide +kernel)) ggX9_takesLot_X9_readsNumber
theorem dX9_takesLot_0 : decode cX9_takesLot 0 = .ok (.aload_n 0, 1) := by decide +kernel
theorem dX9_takesLot_1 : decode cX9_takesLot 1 = .ok (.iconst 0, 1) := by decide +kernel
theorem dX9_takesLot_2 : decode cX9_takesLot 2 = .ok (.bipush 99, 2) := by decide +kernel
theorem dX9_takesLot_4 : decode cX9_takesLot 4 = .ok (.invokevirtual 203, 3) := by decide +kernel
theorem dX9_takesLot_7 : decode cX9_takesLot 7 = .ok (.ifCond .ne 5, 3) := by decide +kernel
theorem dX9_takesLot_10 : decode cX9_takesLot 10 = .ok (.iconst 0, 1) := by decide +kernel
theorem dX9_takesLot_11 : decode cX9_takesLot 11 = .ok (.ireturn, 1) := by decide +kernel
theorem dX9_takesLot_12 : decode cX9_takesLot 12 = .ok (.iconst 0, 1) := by decide +kernel
theorem dX9_takesLot_13 : decode cX9_takesLot 13 = .ok (.istore_n 1, 1) := by decide +kernel
theorem dX9_takesLot_14 : decode cX9_takesLot 14 = .ok (.iload_n 1, 1) := by decide +kernel
theorem dX9_takesLot_15 : decode cX9_takesLot 15 = .ok (.aload_n 0, 1) := by decide +kernel
theorem dX9_takesLot_16 : decode cX9_takesLot 16 = .ok (.getfield 84, 3) := by decide +kernel
theorem dX9_takesLot_19 : decode cX9_takesLot 19 = .ok (.if_icmp .ge 34, 3) := by decide +kernel
theorem dX9_takesLot_22 : decode cX9_takesLot 22 = .ok (.aload_n 0, 1) := by decide +kernel
theorem dX9_takesLot_23 : decode cX9_takesLot 23 = .ok (.getfield 17, 3) := by decide +kernel
theorem dX9_takesLot_26 : decode cX9_takesLot 26 = .ok (.iload_n 1, 1) := by decide +kernel
theorem dX9_takesLot_27 : decode cX9_takesLot 27 = .ok (.iaload, 1) := by decide +kernel
theorem dX9_takesLot_28 : decode cX9_takesLot 28 = .ok (.aload_n 0, 1) := by decide +kernel
theorem dX9_takesLot_29 : decode cX9_takesLot 29 = .ok (.getfield 200, 3) := by decide +kernel
theorem dX9_takesLot_32 : decode cX9_takesLot 32 = .ok (.if_icmp .ne 15, 3) := by decide +kernel
theorem dX9_takesLot_35 : decode cX9_takesLot 35 = .ok (.aload_n 0, 1) := by decide +kernel
theorem dX9_takesLot_36 : decode cX9_takesLot 36 = .ok (.dup, 1) := by decide +kernel
theorem dX9_takesLot_37 : decode cX9_takesLot 37 = .ok (.getfield 187, 3) := by decide +kernel
theorem dX9_takesLot_40 : decode cX9_takesLot 40 = .ok (.iconst 1, 1) := by decide +kernel
theorem dX9_takesLot_41 : decode cX9_takesLot 41 = .ok (.isub, 1) := by decide +kernel
theorem dX9_takesLot_42 : decode cX9_takesLot 42 = .ok (.putfield 187, 3) := by decide +kernel
theorem dX9_takesLot_45 : decode cX9_takesLot 45 = .ok (.iconst 0, 1) := by decide +kernel
theorem dX9_takesLot_46 : decode cX9_takesLot 46 = .ok (.ireturn, 1) := by decide +kernel
theorem dX9_takesLot_47 : decode cX9_takesLot 47 = .ok (.iinc 1 1, 3) := by decide +kernel
theorem dX9_takesLot_50 : decode cX9_takesLot 50 = .ok (.goto (-36), 3) := by decide +kernel
theorem dX9_takesLot_53 : decode cX9_takesLot 53 = .ok (.iconst 1, 1) := by decide +kernel
theorem dX9_takesLot_54 : decode cX9_takesLot 54 = .ok (.ireturn, 1) := by decide +kernel
set_option maxRecDepth 20000 in
theorem ggX9_takesTable_X9_takesNumber : GoodIn wsX9_takesTable wsX9_takesNumber := goodIn_r _ [9, 10, 11, 12, 8, 13, 2, 14, 15, 16, 17, 18, 19, 20, 21, 22, 23, 24, 25, 30, 31, 32, 33, 34, 35, 36, 37, 38, 39, 40, 41, 42, 43, 44, 45, 46, 47, 48, 49, 50, 51, 52, 53, 54, 55, 56, 57, 58, 59, 60, 61, 62, 63, 64, 65, 66, 67, 68, 69] (by decide +kernel) (by decide +kernel)
set_option maxRecDepth 20000 in
theorem gX9_takesTable_X9_takesNumber : GoodIn wsX9_takesTable (wsV RX9 206 RX9 yX9_takesNumber wsX9_takesNumber) := goodIn_app (goodIn_of _ (by decide +kernel)) ggX9_takesTable_X9_takesNumber
set_option maxRecDepth 20000 in
theorem ggX9_takesTable_X9_takes : GoodIn wsX9_takesTable wsX9_takes := goodIn_r _ [29, 15, 20, 14, 30, 31, 32, 33, 34, 35, 36, 37, 38, 39, 40, 41, 42, 43, 44, 45, 46, 47, 48, 49, 50, 51, 52, 53, 54, 55, 56, 57, 58, 59, 60, 61, 62, 63, 64, 65, 66, 67, 68, 69] (by decide +kernel) (by decide +kernel)
set_option maxRecDepth 20000 in
theorem gX9_takesTable_X9_takes : GoodIn wsX9_takesTable (wsV RX9 209 RX9 yX9_takes wsX9_takes) := goodIn_app (goodIn_of _ (by decide +kernel)) ggX9_takesTable_X9_takes
theorem dX9_takesTable_0 : decode cX9_takesTable 0 = .ok (.iconst 0, 1) := by decide +kernel
theorem dX9_takesTable_1 : decode cX9_takesTable 1 = .ok (.istore_n 2, 1) := by decide +kernel
theorem dX9_takesTable_2 : decode cX9_takesTable 2 = .ok (.iconst 1, 1) := by decide +kernel
theorem dX9_takesTable_3 : decode cX9_takesTable 3 = .ok (.istore_n 3, 1) := by decide +kernel
theorem dX9_takesTable_4 : decode cX9_takesTable 4 = .ok (.iload_n 3, 1) := by decide +kernel
theorem dX9_takesTable_5 : decode cX9_takesTable 5 = .ok (.ifCond .eq 128, 3) := by decide +kernel
theorem dX9_takesTable_8 : decode cX9_takesTable 8 = .ok (.bipush 6, 2) := by decide +kernel
theorem dX9_takesTable_10 : decode cX9_takesTable 10 = .ok (.iload_n 1, 1) := by decide +kernel
theorem dX9_takesTable_11 : decode cX9_takesTable 11 = .ok (.imul, 1) := by decide +kernel
theorem dX9_takesTable_12 : decode cX9_takesTable 12 = .ok (.iload_n 2, 1) := by decide +kernel
theorem dX9_takesTable_13 : decode cX9_takesTable 13 = .ok (.iadd, 1) := by decide +kernel
theorem dX9_takesTable_14 : decode cX9_takesTable 14 = .ok (.istore 4, 2) := by decide +kernel
theorem dX9_takesTable_16 : decode cX9_takesTable 16 = .ok (.aload_n 0, 1) := by decide +kernel
theorem dX9_takesTable_17 : decode cX9_takesTable 17 = .ok (.iload_n 2, 1) := by decide +kernel
theorem dX9_takesTable_18 : decode cX9_takesTable 18 = .ok (.ifCond .ne 7, 3) := by decide +kernel
theorem dX9_takesTable_21 : decode cX9_takesTable 21 = .ok (.iconst 1, 1) := by decide +kernel
theorem dX9_takesTable_22 : decode cX9_takesTable 22 = .ok (.goto 14, 3) := by decide +kernel
theorem dX9_takesTable_25 : decode cX9_takesTable 25 = .ok (.aload_n 0, 1) := by decide +kernel
theorem dX9_takesTable_26 : decode cX9_takesTable 26 = .ok (.getfield 47, 3) := by decide +kernel
theorem dX9_takesTable_29 : decode cX9_takesTable 29 = .ok (.iload 4, 2) := by decide +kernel
theorem dX9_takesTable_31 : decode cX9_takesTable 31 = .ok (.iconst 1, 1) := by decide +kernel
theorem dX9_takesTable_32 : decode cX9_takesTable 32 = .ok (.isub, 1) := by decide +kernel
theorem dX9_takesTable_33 : decode cX9_takesTable 33 = .ok (.iaload, 1) := by decide +kernel
theorem dX9_takesTable_34 : decode cX9_takesTable 34 = .ok (.iconst 1, 1) := by decide +kernel
theorem dX9_takesTable_35 : decode cX9_takesTable 35 = .ok (.iadd, 1) := by decide +kernel
theorem dX9_takesTable_36 : decode cX9_takesTable 36 = .ok (.bipush 40, 2) := by decide +kernel
theorem dX9_takesTable_38 : decode cX9_takesTable 38 = .ok (.invokevirtual 206, 3) := by decide +kernel
theorem dX9_takesTable_41 : decode cX9_takesTable 41 = .ok (.ifCond .ne 5, 3) := by decide +kernel
theorem dX9_takesTable_44 : decode cX9_takesTable 44 = .ok (.iconst 0, 1) := by decide +kernel
theorem dX9_takesTable_45 : decode cX9_takesTable 45 = .ok (.ireturn, 1) := by decide +kernel
theorem dX9_takesTable_46 : decode cX9_takesTable 46 = .ok (.aload_n 0, 1) := by decide +kernel
theorem dX9_takesTable_47 : decode cX9_takesTable 47 = .ok (.getfield 47, 3) := by decide +kernel
theorem dX9_takesTable_50 : decode cX9_takesTable 50 = .ok (.iload 4, 2) := by decide +kernel
theorem dX9_takesTable_52 : decode cX9_takesTable 52 = .ok (.aload_n 0, 1) := by decide +kernel
theorem dX9_takesTable_53 : decode cX9_takesTable 53 = .ok (.getfield 200, 3) := by decide +kernel
theorem dX9_takesTable_56 : decode cX9_takesTable 56 = .ok (.iastore, 1) := by decide +kernel
theorem dX9_takesTable_57 : decode cX9_takesTable 57 = .ok (.aload_n 0, 1) := by decide +kernel
theorem dX9_takesTable_58 : decode cX9_takesTable 58 = .ok (.bipush 61, 2) := by decide +kernel
theorem dX9_takesTable_60 : decode cX9_takesTable 60 = .ok (.invokevirtual 209, 3) := by decide +kernel
theorem dX9_takesTable_63 : decode cX9_takesTable 63 = .ok (.ifCond .eq 30, 3) := by decide +kernel
theorem dX9_takesTable_66 : decode cX9_takesTable 66 = .ok (.aload_n 0, 1) := by decide +kernel
theorem dX9_takesTable_67 : decode cX9_takesTable 67 = .ok (.iconst 0, 1) := by decide +kernel
theorem dX9_takesTable_68 : decode cX9_takesTable 68 = .ok (.iload_n 2, 1) := by decide +kernel
theorem dX9_takesTable_69 : decode cX9_takesTable 69 = .ok (.ifCond .ne 9, 3) := by decide +kernel
theorem dX9_takesTable_72 : decode cX9_takesTable 72 = .ok (.sipush 1000, 3) := by decide +kernel
theorem dX9_takesTable_75 : decode cX9_takesTable 75 = .ok (.goto 12, 3) := by decide +kernel
theorem dX9_takesTable_78 : decode cX9_takesTable 78 = .ok (.aload_n 0, 1) := by decide +kernel
theorem dX9_takesTable_79 : decode cX9_takesTable 79 = .ok (.getfield 50, 3) := by decide +kernel
theorem dX9_takesTable_82 : decode cX9_takesTable 82 = .ok (.iload 4, 2) := by decide +kernel
theorem dX9_takesTable_84 : decode cX9_takesTable 84 = .ok (.iconst 1, 1) := by decide +kernel
theorem dX9_takesTable_85 : decode cX9_takesTable 85 = .ok (.isub, 1) := by decide +kernel
theorem dX9_takesTable_86 : decode cX9_takesTable 86 = .ok (.iaload, 1) := by decide +kernel
theorem dX9_takesTable_87 : decode cX9_takesTable 87 = .ok (.invokevirtual 206, 3) := by decide +kernel
theorem dX9_takesTable_90 : decode cX9_takesTable 90 = .ok (.ifCond .ne 5, 3) := by decide +kernel
theorem dX9_takesTable_93 : decode cX9_takesTable 93 = .ok (.iconst 0, 1) := by decide +kernel
theorem dX9_takesTable_94 : decode cX9_takesTable 94 = .ok (.ireturn, 1) := by decide +kernel
theorem dX9_takesTable_95 : decode cX9_takesTable 95 = .ok (.aload_n 0, 1) := by decide +kernel
theorem dX9_takesTable_96 : decode cX9_takesTable 96 = .ok (.getfield 50, 3) := by decide +kernel
theorem dX9_takesTable_99 : decode cX9_takesTable 99 = .ok (.iload 4, 2) := by decide +kernel
theorem dX9_takesTable_101 : decode cX9_takesTable 101 = .ok (.aload_n 0, 1) := by decide +kernel
theorem dX9_takesTable_102 : decode cX9_takesTable 102 = .ok (.getfield 200, 3) := by decide +kernel
theorem dX9_takesTable_105 : decode cX9_takesTable 105 = .ok (.iastore, 1) := by decide +kernel
theorem dX9_takesTable_106 : decode cX9_takesTable 106 = .ok (.iinc 2 1, 3) := by decide +kernel
theorem dX9_takesTable_109 : decode cX9_takesTable 109 = .ok (.iload_n 2, 1) := by decide +kernel
theorem dX9_takesTable_110 : decode cX9_takesTable 110 = .ok (.bipush 6, 2) := by decide +kernel
theorem dX9_takesTable_112 : decode cX9_takesTable 112 = .ok (.if_icmp .ge 16, 3) := by decide +kernel
theorem dX9_takesTable_115 : decode cX9_takesTable 115 = .ok (.aload_n 0, 1) := by decide +kernel
theorem dX9_takesTable_116 : decode cX9_takesTable 116 = .ok (.bipush 44, 2) := by decide +kernel
theorem dX9_takesTable_118 : decode cX9_takesTable 118 = .ok (.invokevirtual 209, 3) := by decide +kernel
theorem dX9_takesTable_121 : decode cX9_takesTable 121 = .ok (.ifCond .eq 7, 3) := by decide +kernel
theorem dX9_takesTable_124 : decode cX9_takesTable 124 = .ok (.iconst 1, 1) := by decide +kernel
theorem dX9_takesTable_125 : decode cX9_takesTable 125 = .ok (.goto 4, 3) := by decide +kernel
theorem dX9_takesTable_128 : decode cX9_takesTable 128 = .ok (.iconst 0, 1) := by decide +kernel
theorem dX9_takesTable_129 : decode cX9_takesTable 129 = .ok (.istore_n 3, 1) := by decide +kernel
theorem dX9_takesTable_130 : decode cX9_takesTable 130 = .ok (.goto (-126), 3) := by decide +kernel
theorem dX9_takesTable_133 : decode cX9_takesTable 133 = .ok (.aload_n 0, 1) := by decide +kernel
theorem dX9_takesTable_134 : decode cX9_takesTable 134 = .ok (.getfield 44, 3) := by decide +kernel
theorem dX9_takesTable_137 : decode cX9_takesTable 137 = .ok (.iload_n 1, 1) := by decide +kernel
theorem dX9_takesTable_138 : decode cX9_takesTable 138 = .ok (.iload_n 2, 1) := by decide +kernel
theorem dX9_takesTable_139 : decode cX9_takesTable 139 = .ok (.iastore, 1) := by decide +kernel
theorem dX9_takesTable_140 : decode cX9_takesTable 140 = .ok (.iconst 1, 1) := by decide +kernel
theorem dX9_takesTable_141 : decode cX9_takesTable 141 = .ok (.ireturn, 1) := by decide +kernel
set_option maxRecDepth 20000 in
theorem ggX9_takesPlan_X9_takes : GoodIn wsX9_takesPlan wsX9_takes := goodIn_r _ [7, 8, 9, 10, 28, 29, 30, 31, 32, 33, 34, 35, 36, 37, 38, 39, 40, 41, 42, 43, 44, 45, 46, 47, 48, 49, 50, 51, 52, 53, 54, 55, 56, 57, 58, 59, 60, 61, 62, 63, 64, 65, 66, 67] (by decide +kernel) (by decide +kernel)
set_option maxRecDepth 20000 in
theorem gX9_takesPlan_X9_takes : GoodIn wsX9_takesPlan (wsV RX9 209 RX9 yX9_takes wsX9_takes) := goodIn_app (goodIn_of _ (by decide +kernel)) ggX9_takesPlan_X9_takes
set_option maxRecDepth 20000 in
theorem ggX9_takesPlan_X9_takesNumber : GoodIn wsX9_takesPlan wsX9_takesNumber := goodIn_r _ [14, 15, 16, 17, 6, 18, 2, 10, 8, 19, 20, 21, 22, 9, 23, 24, 25, 26, 27, 28, 29, 30, 31, 32, 33, 34, 35, 36, 37, 38, 39, 40, 41, 42, 43, 44, 45, 46, 47, 48, 49, 50, 51, 52, 53, 54, 55, 56, 57, 58, 59, 60, 61, 62, 63, 64, 65, 66, 67] (by decide +kernel) (by decide +kernel)
set_option maxRecDepth 20000 in
theorem gX9_takesPlan_X9_takesNumber : GoodIn wsX9_takesPlan (wsV RX9 206 RX9 yX9_takesNumber wsX9_takesNumber) := goodIn_app (goodIn_of _ (by decide +kernel)) ggX9_takesPlan_X9_takesNumber
theorem dX9_takesPlan_0 : decode cX9_takesPlan 0 = .ok (.aload_n 0, 1) := by decide +kernel
theorem dX9_takesPlan_1 : decode cX9_takesPlan 1 = .ok (.bipush 47, 2) := by decide +kernel
theorem dX9_takesPlan_3 : decode cX9_takesPlan 3 = .ok (.invokevirtual 209, 3) := by decide +kernel
theorem dX9_takesPlan_6 : decode cX9_takesPlan 6 = .ok (.ifCond .eq 13, 3) := by decide +kernel
theorem dX9_takesPlan_9 : decode cX9_takesPlan 9 = .ok (.aload_n 0, 1) := by decide +kernel
theorem dX9_takesPlan_10 : decode cX9_takesPlan 10 = .ok (.iconst 1, 1) := by decide +kernel
theorem dX9_takesPlan_11 : decode cX9_takesPlan 11 = .ok (.bipush 40, 2) := by decide +kernel
theorem dX9_takesPlan_13 : decode cX9_takesPlan 13 = .ok (.invokevirtual 206, 3) := by decide +kernel
theorem dX9_takesPlan_16 : decode cX9_takesPlan 16 = .ok (.ifCond .ne 5, 3) := by decide +kernel
theorem dX9_takesPlan_19 : decode cX9_takesPlan 19 = .ok (.iconst 0, 1) := by decide +kernel
theorem dX9_takesPlan_20 : decode cX9_takesPlan 20 = .ok (.ireturn, 1) := by decide +kernel
theorem dX9_takesPlan_21 : decode cX9_takesPlan 21 = .ok (.aload_n 0, 1) := by decide +kernel
theorem dX9_takesPlan_22 : decode cX9_takesPlan 22 = .ok (.getfield 53, 3) := by decide +kernel
theorem dX9_takesPlan_25 : decode cX9_takesPlan 25 = .ok (.iconst 3, 1) := by decide +kernel
theorem dX9_takesPlan_26 : decode cX9_takesPlan 26 = .ok (.iload_n 1, 1) := by decide +kernel
theorem dX9_takesPlan_27 : decode cX9_takesPlan 27 = .ok (.imul, 1) := by decide +kernel
theorem dX9_takesPlan_28 : decode cX9_takesPlan 28 = .ok (.aload_n 0, 1) := by decide +kernel
theorem dX9_takesPlan_29 : decode cX9_takesPlan 29 = .ok (.getfield 200, 3) := by decide +kernel
theorem dX9_takesPlan_32 : decode cX9_takesPlan 32 = .ok (.iastore, 1) := by decide +kernel
theorem dX9_takesPlan_33 : decode cX9_takesPlan 33 = .ok (.aload_n 0, 1) := by decide +kernel
theorem dX9_takesPlan_34 : decode cX9_takesPlan 34 = .ok (.bipush 43, 2) := by decide +kernel
theorem dX9_takesPlan_36 : decode cX9_takesPlan 36 = .ok (.invokevirtual 209, 3) := by decide +kernel
theorem dX9_takesPlan_39 : decode cX9_takesPlan 39 = .ok (.ifCond .eq 13, 3) := by decide +kernel
theorem dX9_takesPlan_42 : decode cX9_takesPlan 42 = .ok (.aload_n 0, 1) := by decide +kernel
theorem dX9_takesPlan_43 : decode cX9_takesPlan 43 = .ok (.iconst 1, 1) := by decide +kernel
theorem dX9_takesPlan_44 : decode cX9_takesPlan 44 = .ok (.bipush 9, 2) := by decide +kernel
theorem dX9_takesPlan_46 : decode cX9_takesPlan 46 = .ok (.invokevirtual 206, 3) := by decide +kernel
theorem dX9_takesPlan_49 : decode cX9_takesPlan 49 = .ok (.ifCond .ne 5, 3) := by decide +kernel
theorem dX9_takesPlan_52 : decode cX9_takesPlan 52 = .ok (.iconst 0, 1) := by decide +kernel
theorem dX9_takesPlan_53 : decode cX9_takesPlan 53 = .ok (.ireturn, 1) := by decide +kernel
theorem dX9_takesPlan_54 : decode cX9_takesPlan 54 = .ok (.aload_n 0, 1) := by decide +kernel
theorem dX9_takesPlan_55 : decode cX9_takesPlan 55 = .ok (.getfield 53, 3) := by decide +kernel
theorem dX9_takesPlan_58 : decode cX9_takesPlan 58 = .ok (.iconst 3, 1) := by decide +kernel
theorem dX9_takesPlan_59 : decode cX9_takesPlan 59 = .ok (.iload_n 1, 1) := by decide +kernel
theorem dX9_takesPlan_60 : decode cX9_takesPlan 60 = .ok (.imul, 1) := by decide +kernel
theorem dX9_takesPlan_61 : decode cX9_takesPlan 61 = .ok (.iconst 1, 1) := by decide +kernel
theorem dX9_takesPlan_62 : decode cX9_takesPlan 62 = .ok (.iadd, 1) := by decide +kernel
theorem dX9_takesPlan_63 : decode cX9_takesPlan 63 = .ok (.aload_n 0, 1) := by decide +kernel
theorem dX9_takesPlan_64 : decode cX9_takesPlan 64 = .ok (.getfield 200, 3) := by decide +kernel
theorem dX9_takesPlan_67 : decode cX9_takesPlan 67 = .ok (.iastore, 1) := by decide +kernel
theorem dX9_takesPlan_68 : decode cX9_takesPlan 68 = .ok (.aload_n 0, 1) := by decide +kernel
theorem dX9_takesPlan_69 : decode cX9_takesPlan 69 = .ok (.bipush 43, 2) := by decide +kernel
theorem dX9_takesPlan_71 : decode cX9_takesPlan 71 = .ok (.invokevirtual 209, 3) := by decide +kernel
theorem dX9_takesPlan_74 : decode cX9_takesPlan 74 = .ok (.ifCond .eq 13, 3) := by decide +kernel
theorem dX9_takesPlan_77 : decode cX9_takesPlan 77 = .ok (.aload_n 0, 1) := by decide +kernel
theorem dX9_takesPlan_78 : decode cX9_takesPlan 78 = .ok (.iconst 0, 1) := by decide +kernel
theorem dX9_takesPlan_79 : decode cX9_takesPlan 79 = .ok (.bipush 9, 2) := by decide +kernel
theorem dX9_takesPlan_81 : decode cX9_takesPlan 81 = .ok (.invokevirtual 206, 3) := by decide +kernel
theorem dX9_takesPlan_84 : decode cX9_takesPlan 84 = .ok (.ifCond .ne 5, 3) := by decide +kernel
theorem dX9_takesPlan_87 : decode cX9_takesPlan 87 = .ok (.iconst 0, 1) := by decide +kernel
theorem dX9_takesPlan_88 : decode cX9_takesPlan 88 = .ok (.ireturn, 1) := by decide +kernel
theorem dX9_takesPlan_89 : decode cX9_takesPlan 89 = .ok (.aload_n 0, 1) := by decide +kernel
theorem dX9_takesPlan_90 : decode cX9_takesPlan 90 = .ok (.getfield 53, 3) := by decide +kernel
theorem dX9_takesPlan_93 : decode cX9_takesPlan 93 = .ok (.iconst 3, 1) := by decide +kernel
theorem dX9_takesPlan_94 : decode cX9_takesPlan 94 = .ok (.iload_n 1, 1) := by decide +kernel
theorem dX9_takesPlan_95 : decode cX9_takesPlan 95 = .ok (.imul, 1) := by decide +kernel
theorem dX9_takesPlan_96 : decode cX9_takesPlan 96 = .ok (.iconst 2, 1) := by decide +kernel
theorem dX9_takesPlan_97 : decode cX9_takesPlan 97 = .ok (.iadd, 1) := by decide +kernel
theorem dX9_takesPlan_98 : decode cX9_takesPlan 98 = .ok (.aload_n 0, 1) := by decide +kernel
theorem dX9_takesPlan_99 : decode cX9_takesPlan 99 = .ok (.getfield 200, 3) := by decide +kernel
theorem dX9_takesPlan_102 : decode cX9_takesPlan 102 = .ok (.iastore, 1) := by decide +kernel
theorem dX9_takesPlan_103 : decode cX9_takesPlan 103 = .ok (.iconst 1, 1) := by decide +kernel
theorem dX9_takesPlan_104 : decode cX9_takesPlan 104 = .ok (.ireturn, 1) := by decide +kernel
set_option maxRecDepth 20000 in
theorem ggX9_takesLifter_X9_takesNumber : GoodIn wsX9_takesLifter wsX9_takesNumber := goodIn_r _ [10, 11, 12, 13, 9, 14, 1, 15, 4, 16, 17, 18, 19, 5, 20, 21, 22, 23, 24, 47, 48, 49, 50, 51, 52, 53, 54, 55, 56, 57, 58, 59, 60, 61, 62, 63, 64, 65, 66, 67, 68, 69, 70, 71, 72, 73, 74, 75, 76, 77, 78, 79, 80, 81, 82, 83, 84, 85, 86] (by decide +kernel) (by decide +kernel)
set_option maxRecDepth 20000 in
theorem gX9_takesLifter_X9_takesNumber : GoodIn wsX9_takesLifter (wsV RX9 206 RX9 yX9_takesNumber wsX9_takesNumber) := goodIn_app (goodIn_of _ (by decide +kernel)) ggX9_takesLifter_X9_takesNumber
set_option maxRecDepth 20000 in
theorem ggX9_takesLifter_X9_takes : GoodIn wsX9_takesLifter wsX9_takes := goodIn_r _ [28, 4, 5, 15, 47, 48, 49, 50, 51, 52, 53, 54, 55, 56, 57, 58, 59, 60, 61, 62, 63, 64, 65, 66, 67, 68, 69, 70, 71, 72, 73, 74, 75, 76, 77, 78, 79, 80, 81, 82, 83, 84, 85, 86] (by decide +kernel) (by decide +kernel)
set_option maxRecDepth 20000 in
theorem gX9_takesLifter_X9_takes : GoodIn wsX9_takesLifter (wsV RX9 209 RX9 yX9_takes wsX9_takes) := goodIn_app (goodIn_of _ (by decide +kernel)) ggX9_takesLifter_X9_takes
set_option maxRecDepth 20000 in
theorem ggX9_takesLifter_X9_takesLot : GoodIn wsX9_takesLifter wsX9_takesLot := goodIn_r _ [32, 33, 34, 1, 4, 11, 12, 13, 9, 14, 15, 16, 17, 18, 19, 5, 20, 21, 22, 23, 24, 47, 48, 49, 50, 51, 52, 53, 54, 55, 56, 57, 58, 59, 60, 61, 62, 63, 64, 65, 66, 67, 68, 69, 70, 71, 72, 73, 74, 75, 76, 77, 78, 79, 80, 81, 82, 83, 84, 85, 86] (by decide +kernel) (by decide +kernel)
set_option maxRecDepth 20000 in
theorem gX9_takesLifter_X9_takesLot : GoodIn wsX9_takesLifter (wsV RX9 215 RX9 yX9_takesLot wsX9_takesLot) := goodIn_app (goodIn_of _ (by decide +kernel)) ggX9_takesLifter_X9_takesLot
set_option maxRecDepth 20000 in
theorem ggX9_takesLifter_X9_takesTable : GoodIn wsX9_takesLifter wsX9_takesTable := goodIn_r _ [38, 39, 1, 40, 41, 6, 7, 8, 9, 10, 11, 12, 13, 14, 15, 4, 16, 17, 18, 19, 5, 20, 21, 22, 23, 24, 25, 26, 27, 28, 47, 48, 49, 50, 51, 52, 53, 54, 55, 56, 57, 58, 59, 60, 61, 62, 63, 64, 65, 66, 67, 68, 69, 70, 71, 72, 73, 74, 75, 76, 77, 78, 79, 80, 81, 82, 83, 84, 85, 86] (by decide +kernel) (by decide +kernel)
set_option maxRecDepth 20000 in
theorem gX9_takesLifter_X9_takesTable : GoodIn wsX9_takesLifter (wsV RX9 221 RX9 yX9_takesTable wsX9_takesTable) := goodIn_app (goodIn_of _ (by decide +kernel)) ggX9_takesLifter_X9_takesTable
