theorem dX7_readNumber_94 : decode cX7_readNumber 94 = .ok (.iadd, 1) := by decide +kernel
theorem dX7_readNumber_95 : decode cX7_readNumber 95 = .ok (.putfield 19, 3) := by decide +kernel
theorem dX7_readNumber_98 : decode cX7_readNumber 98 = .ok (.goto (-81), 3) := by decide +kernel
theorem dX7_readNumber_101 : decode cX7_readNumber 101 = .ok (.aload_n 0, 1) := by decide +kernel
theorem dX7_readNumber_102 : decode cX7_readNumber 102 = .ok (.getfield 19, 3) := by decide +kernel
theorem dX7_readNumber_105 : decode cX7_readNumber 105 = .ok (.iload_n 3, 1) := by decide +kernel
theorem dX7_readNumber_106 : decode cX7_readNumber 106 = .ok (.if_icmp .ne 14, 3) := by decide +kernel
theorem dX7_readNumber_109 : decode cX7_readNumber 109 = .ok (.aload_n 0, 1) := by decide +kernel
theorem dX7_readNumber_110 : decode cX7_readNumber 110 = .ok (.aload_n 0, 1) := by decide +kernel
theorem dX7_readNumber_111 : decode cX7_readNumber 111 = .ok (.getfield 19, 3) := by decide +kernel
theorem dX7_readNumber_114 : decode cX7_readNumber 114 = .ok (.putfield 22, 3) := by decide +kernel
theorem dX7_readNumber_117 : decode cX7_readNumber 117 = .ok (.goto 25, 3) := by decide +kernel
theorem dX7_readNumber_120 : decode cX7_readNumber 120 = .ok (.iload 4, 2) := by decide +kernel
theorem dX7_readNumber_122 : decode cX7_readNumber 122 = .ok (.iload_n 1, 1) := by decide +kernel
theorem dX7_readNumber_123 : decode cX7_readNumber 123 = .ok (.if_icmp .lt 9, 3) := by decide +kernel
theorem dX7_readNumber_126 : decode cX7_readNumber 126 = .ok (.iload 4, 2) := by decide +kernel
theorem dX7_readNumber_128 : decode cX7_readNumber 128 = .ok (.iload_n 2, 1) := by decide +kernel
theorem dX7_readNumber_129 : decode cX7_readNumber 129 = .ok (.if_icmp .le 13, 3) := by decide +kernel
theorem dX7_readNumber_132 : decode cX7_readNumber 132 = .ok (.aload_n 0, 1) := by decide +kernel
theorem dX7_readNumber_133 : decode cX7_readNumber 133 = .ok (.aload_n 0, 1) := by decide +kernel
theorem dX7_readNumber_134 : decode cX7_readNumber 134 = .ok (.getfield 19, 3) := by decide +kernel
theorem dX7_readNumber_137 : decode cX7_readNumber 137 = .ok (.iconst 1, 1) := by decide +kernel
theorem dX7_readNumber_138 : decode cX7_readNumber 138 = .ok (.isub, 1) := by decide +kernel
theorem dX7_readNumber_139 : decode cX7_readNumber 139 = .ok (.putfield 22, 3) := by decide +kernel
theorem dX7_readNumber_142 : decode cX7_readNumber 142 = .ok (.iload 4, 2) := by decide +kernel
theorem dX7_readNumber_144 : decode cX7_readNumber 144 = .ok (.ireturn, 1) := by decide +kernel
theorem dX7_isDigit_0 : decode cX7_isDigit 0 = .ok (.iload_n 0, 1) := by decide +kernel
theorem dX7_isDigit_1 : decode cX7_isDigit 1 = .ok (.bipush 48, 2) := by decide +kernel
theorem dX7_isDigit_3 : decode cX7_isDigit 3 = .ok (.if_icmp .lt 13, 3) := by decide +kernel
theorem dX7_isDigit_6 : decode cX7_isDigit 6 = .ok (.iload_n 0, 1) := by decide +kernel
theorem dX7_isDigit_7 : decode cX7_isDigit 7 = .ok (.bipush 57, 2) := by decide +kernel
theorem dX7_isDigit_9 : decode cX7_isDigit 9 = .ok (.if_icmp .gt 7, 3) := by decide +kernel
theorem dX7_isDigit_12 : decode cX7_isDigit 12 = .ok (.iconst 1, 1) := by decide +kernel
theorem dX7_isDigit_13 : decode cX7_isDigit 13 = .ok (.goto 4, 3) := by decide +kernel
theorem dX7_isDigit_16 : decode cX7_isDigit 16 = .ok (.iconst 0, 1) := by decide +kernel
theorem dX7_isDigit_17 : decode cX7_isDigit 17 = .ok (.ireturn, 1) := by decide +kernel
set_option maxRecDepth 20000 in
theorem ggX8_init_X7_init : GoodIn wsX8_init wsX7_init := goodIn_r _ [38, 39, 2, 3, 40, 41, 42, 43, 44, 87, 88, 89, 90] (by decide +kernel) (by decide +kernel)
set_option maxRecDepth 20000 in
theorem gX8_init_X7_init_n11 : GoodIn wsX8_init (wsX7_init) := ggX8_init_X7_init
set_option maxRecDepth 20000 in
theorem ggX8_init_X3_init : GoodIn wsX8_init wsX3_init := goodIn_r _ [46, 47, 2, 3, 30, 48, 49, 103, 104, 105, 106] (by decide +kernel) (by decide +kernel)
set_option maxRecDepth 20000 in
theorem gX8_init_X3_init_n22 : GoodIn wsX8_init (wsX3_init) := ggX8_init_X3_init
set_option maxRecDepth 20000 in
theorem ggX8_init_X4_init : GoodIn wsX8_init wsX4_init := goodIn_r _ [52, 53, 2, 3, 54, 55, 56, 57, 58, 30, 59, 60, 61, 62, 63, 64, 65, 66, 67, 68, 69, 70, 107, 108, 109, 110, 111, 112, 113, 114, 115, 116, 117, 118, 119, 120, 121, 122] (by decide +kernel) (by decide +kernel)
set_option maxRecDepth 20000 in
theorem gX8_init_X4_init : GoodIn wsX8_init (wsX4_init) := ggX8_init_X4_init
set_option maxRecDepth 20000 in
theorem ggX8_init_X5_init : GoodIn wsX8_init wsX5_init := goodIn_r _ [72, 73, 2, 3] (by decide +kernel) (by decide +kernel)
set_option maxRecDepth 20000 in
theorem gX8_init_X5_init_n37 : GoodIn wsX8_init (wsX5_init) := ggX8_init_X5_init
set_option maxRecDepth 20000 in
theorem ggX8_init_X0_init : GoodIn wsX8_init wsX0_init := goodIn_r _ [75, 76, 2, 3, 30, 77, 78, 131, 132] (by decide +kernel) (by decide +kernel)
set_option maxRecDepth 20000 in
theorem gX8_init_X0_init_n44 : GoodIn wsX8_init (wsX0_init) := ggX8_init_X0_init
set_option maxRecDepth 20000 in
theorem ggX8_init_X6_init : GoodIn wsX8_init wsX6_init := goodIn_r _ [80, 81, 2, 3, 82, 83, 84, 85, 30, 86, 133, 134, 135, 136] (by decide +kernel) (by decide +kernel)
set_option maxRecDepth 20000 in
theorem gX8_init_X6_init_n51 : GoodIn wsX8_init (wsX6_init) := ggX8_init_X6_init
theorem dX8_init_0 : decode cX8_init 0 = .ok (.aload_n 0, 1) := by decide +kernel
theorem dX8_init_1 : decode cX8_init 1 = .ok (.invokespecial 3, 3) := by decide +kernel
theorem dX8_init_4 : decode cX8_init 4 = .ok (.aload_n 0, 1) := by decide +kernel
theorem dX8_init_5 : decode cX8_init 5 = .ok (.new 9, 3) := by decide +kernel
theorem dX8_init_8 : decode cX8_init 8 = .ok (.dup, 1) := by decide +kernel
theorem dX8_init_9 : decode cX8_init 9 = .ok (.invokespecial 11, 3) := by decide +kernel
theorem dX8_init_12 : decode cX8_init 12 = .ok (.putfield 12, 3) := by decide +kernel
theorem dX8_init_15 : decode cX8_init 15 = .ok (.aload_n 0, 1) := by decide +kernel
theorem dX8_init_16 : decode cX8_init 16 = .ok (.bipush 7, 2) := by decide +kernel
theorem dX8_init_18 : decode cX8_init 18 = .ok (.anewarray 16, 3) := by decide +kernel
theorem dX8_init_21 : decode cX8_init 21 = .ok (.putfield 18, 3) := by decide +kernel
theorem dX8_init_24 : decode cX8_init 24 = .ok (.iconst 0, 1) := by decide +kernel
theorem dX8_init_25 : decode cX8_init 25 = .ok (.istore_n 1, 1) := by decide +kernel
theorem dX8_init_26 : decode cX8_init 26 = .ok (.iload_n 1, 1) := by decide +kernel
theorem dX8_init_27 : decode cX8_init 27 = .ok (.aload_n 0, 1) := by decide +kernel
theorem dX8_init_28 : decode cX8_init 28 = .ok (.getfield 18, 3) := by decide +kernel
theorem dX8_init_31 : decode cX8_init 31 = .ok (.arraylength, 1) := by decide +kernel
theorem dX8_init_32 : decode cX8_init 32 = .ok (.if_icmp .ge 22, 3) := by decide +kernel
theorem dX8_init_35 : decode cX8_init 35 = .ok (.aload_n 0, 1) := by decide +kernel
theorem dX8_init_36 : decode cX8_init 36 = .ok (.getfield 18, 3) := by decide +kernel
theorem dX8_init_39 : decode cX8_init 39 = .ok (.iload_n 1, 1) := by decide +kernel
theorem dX8_init_40 : decode cX8_init 40 = .ok (.new 16, 3) := by decide +kernel
theorem dX8_init_43 : decode cX8_init 43 = .ok (.dup, 1) := by decide +kernel
theorem dX8_init_44 : decode cX8_init 44 = .ok (.invokespecial 22, 3) := by decide +kernel
theorem dX8_init_47 : decode cX8_init 47 = .ok (.aastore, 1) := by decide +kernel
theorem dX8_init_48 : decode cX8_init 48 = .ok (.iinc 1 1, 3) := by decide +kernel
theorem dX8_init_51 : decode cX8_init 51 = .ok (.goto (-25), 3) := by decide +kernel
theorem dX8_init_54 : decode cX8_init 54 = .ok (.aload_n 0, 1) := by decide +kernel
theorem dX8_init_55 : decode cX8_init 55 = .ok (.new 23, 3) := by decide +kernel
theorem dX8_init_58 : decode cX8_init 58 = .ok (.dup, 1) := by decide +kernel
theorem dX8_init_59 : decode cX8_init 59 = .ok (.aload_n 0, 1) := by decide +kernel
theorem dX8_init_60 : decode cX8_init 60 = .ok (.getfield 18, 3) := by decide +kernel
theorem dX8_init_63 : decode cX8_init 63 = .ok (.invokespecial 25, 3) := by decide +kernel
theorem dX8_init_66 : decode cX8_init 66 = .ok (.putfield 28, 3) := by decide +kernel
theorem dX8_init_69 : decode cX8_init 69 = .ok (.aload_n 0, 1) := by decide +kernel
theorem dX8_init_70 : decode cX8_init 70 = .ok (.new 23, 3) := by decide +kernel
theorem dX8_init_73 : decode cX8_init 73 = .ok (.dup, 1) := by decide +kernel
theorem dX8_init_74 : decode cX8_init 74 = .ok (.aload_n 0, 1) := by decide +kernel
theorem dX8_init_75 : decode cX8_init 75 = .ok (.getfield 18, 3) := by decide +kernel
theorem dX8_init_78 : decode cX8_init 78 = .ok (.invokespecial 25, 3) := by decide +kernel
theorem dX8_init_81 : decode cX8_init 81 = .ok (.putfield 32, 3) := by decide +kernel
theorem dX8_init_84 : decode cX8_init 84 = .ok (.aload_n 0, 1) := by decide +kernel
theorem dX8_init_85 : decode cX8_init 85 = .ok (.new 35, 3) := by decide +kernel
theorem dX8_init_88 : decode cX8_init 88 = .ok (.dup, 1) := by decide +kernel
theorem dX8_init_89 : decode cX8_init 89 = .ok (.invokespecial 37, 3) := by decide +kernel
theorem dX8_init_92 : decode cX8_init 92 = .ok (.putfield 38, 3) := by decide +kernel
theorem dX8_init_95 : decode cX8_init 95 = .ok (.aload_n 0, 1) := by decide +kernel
theorem dX8_init_96 : decode cX8_init 96 = .ok (.new 42, 3) := by decide +kernel
theorem dX8_init_99 : decode cX8_init 99 = .ok (.dup, 1) := by decide +kernel
theorem dX8_init_100 : decode cX8_init 100 = .ok (.invokespecial 44, 3) := by decide +kernel
theorem dX8_init_103 : decode cX8_init 103 = .ok (.putfield 45, 3) := by decide +kernel
theorem dX8_init_106 : decode cX8_init 106 = .ok (.aload_n 0, 1) := by decide +kernel
theorem dX8_init_107 : decode cX8_init 107 = .ok (.new 49, 3) := by decide +kernel
theorem dX8_init_110 : decode cX8_init 110 = .ok (.dup, 1) := by decide +kernel
theorem dX8_init_111 : decode cX8_init 111 = .ok (.invokespecial 51, 3) := by decide +kernel
theorem dX8_init_114 : decode cX8_init 114 = .ok (.putfield 52, 3) := by decide +kernel
theorem dX8_init_117 : decode cX8_init 117 = .ok (.aload_n 0, 1) := by decide +kernel
theorem dX8_init_118 : decode cX8_init 118 = .ok (.bipush 6, 2) := by decide +kernel
theorem dX8_init_120 : decode cX8_init 120 = .ok (.bipush 122, 2) := by decide +kernel
theorem dX8_init_122 : decode cX8_init 122 = .ok (.multianewarray 56 2, 4) := by decide +kernel
theorem dX8_init_126 : decode cX8_init 126 = .ok (.putfield 58, 3) := by decide +kernel
theorem dX8_init_129 : decode cX8_init 129 = .ok (.aload_n 0, 1) := by decide +kernel
theorem dX8_init_130 : decode cX8_init 130 = .ok (.bipush 9, 2) := by decide +kernel
theorem dX8_init_132 : decode cX8_init 132 = .ok (.newarray .long, 2) := by decide +kernel
theorem dX8_init_134 : decode cX8_init 134 = .ok (.putfield 61, 3) := by decide +kernel
theorem dX8_init_137 : decode cX8_init 137 = .ok (.aload_n 0, 1) := by decide +kernel
theorem dX8_init_138 : decode cX8_init 138 = .ok (.iconst 0, 1) := by decide +kernel
theorem dX8_init_139 : decode cX8_init 139 = .ok (.putfield 65, 3) := by decide +kernel
theorem dX8_init_142 : decode cX8_init 142 = .ok (.aload_n 0, 1) := by decide +kernel
theorem dX8_init_143 : decode cX8_init 143 = .ok (.aconst_null, 1) := by decide +kernel
theorem dX8_init_144 : decode cX8_init 144 = .ok (.putfield 69, 3) := by decide +kernel
theorem dX8_init_147 : decode cX8_init 147 = .ok (.aload_n 0, 1) := by decide +kernel
theorem dX8_init_148 : decode cX8_init 148 = .ok (.aconst_null, 1) := by decide +kernel
theorem dX8_init_149 : decode cX8_init 149 = .ok (.putfield 73, 3) := by decide +kernel
theorem dX8_init_152 : decode cX8_init 152 = .ok (.return_, 1) := by decide +kernel
set_option maxRecDepth 20000 in
theorem ggX8_sign_X7_append : GoodIn wsX8_sign wsX7_append := goodIn_r _ [7, 8, 9, 22, 23, 24, 25] (by decide +kernel) (by decide +kernel)
set_option maxRecDepth 20000 in
theorem gX8_sign_X7_append : GoodIn wsX8_sign (wsV RX8 77 RX7 yX7_append wsX7_append) := goodIn_app (goodIn_of _ (by decide +kernel)) ggX8_sign_X7_append
theorem dX8_sign_0 : decode cX8_sign 0 = .ok (.aload_n 0, 1) := by decide +kernel
theorem dX8_sign_1 : decode cX8_sign 1 = .ok (.getfield 12, 3) := by decide +kernel
theorem dX8_sign_4 : decode cX8_sign 4 = .ok (.iload_n 1, 1) := by decide +kernel
theorem dX8_sign_5 : decode cX8_sign 5 = .ok (.invokevirtual 77, 3) := by decide +kernel
theorem dX8_sign_8 : decode cX8_sign 8 = .ok (.ifCond .eq 13, 3) := by decide +kernel
theorem dX8_sign_11 : decode cX8_sign 11 = .ok (.aload_n 0, 1) := by decide +kernel
theorem dX8_sign_12 : decode cX8_sign 12 = .ok (.getfield 12, 3) := by decide +kernel
theorem dX8_sign_15 : decode cX8_sign 15 = .ok (.getfield 81, 3) := by decide +kernel
theorem dX8_sign_18 : decode cX8_sign 18 = .ok (.goto 4, 3) := by decide +kernel
theorem dX8_sign_21 : decode cX8_sign 21 = .ok (.iconst (-1), 1) := by decide +kernel
theorem dX8_sign_22 : decode cX8_sign 22 = .ok (.ireturn, 1) := by decide +kernel
set_option maxRecDepth 20000 in
theorem ggX8_end_X7_shorten : GoodIn wsX8_end wsX7_shorten := goodIn_r _ [6, 7, 20, 21, 22, 23] (by decide +kernel) (by decide +kernel)
set_option maxRecDepth 20000 in
theorem gX8_end_X7_shorten : GoodIn wsX8_end (wsV RX8 84 RX7 yX7_shorten wsX7_shorten) := goodIn_app (goodIn_of _ (by decide +kernel)) ggX8_end_X7_shorten
theorem dX8_end_0 : decode cX8_end 0 = .ok (.aload_n 0, 1) := by decide +kernel
theorem dX8_end_1 : decode cX8_end 1 = .ok (.getfield 12, 3) := by decide +kernel
theorem dX8_end_4 : decode cX8_end 4 = .ok (.iload_n 1, 1) := by decide +kernel
theorem dX8_end_5 : decode cX8_end 5 = .ok (.invokevirtual 84, 3) := by decide +kernel
theorem dX8_end_8 : decode cX8_end 8 = .ok (.ireturn, 1) := by decide +kernel
set_option maxRecDepth 20000 in
theorem ggX8_enters_X7_readLifter : GoodIn wsX8_enters wsX7_readLifter := goodIn_r _ [9, 10, 11, 12, 13, 14, 15, 16, 17, 18, 8, 19, 20, 21, 22, 23, 24, 25, 26, 27, 28, 29, 30, 31, 32, 33, 34, 35, 36, 37, 38, 39, 40, 41, 102, 103, 104, 105, 106, 107, 108, 109] (by decide +kernel) (by decide +kernel)
set_option maxRecDepth 20000 in
theorem gX8_enters_X7_readLifter : GoodIn wsX8_enters (wsV RX8 90 RX7 yX7_readLifter wsX7_readLifter) := goodIn_app (goodIn_of _ (by decide +kernel)) ggX8_enters_X7_readLifter
set_option maxRecDepth 20000 in
theorem ggX8_enters_X7_shorten : GoodIn wsX8_enters wsX7_shorten := goodIn_r _ [45, 15, 102, 103, 104, 105] (by decide +kernel) (by decide +kernel)
set_option maxRecDepth 20000 in
theorem gX8_enters_X7_shorten : GoodIn wsX8_enters (wsV RX8 84 RX7 yX7_shorten wsX7_shorten) := goodIn_app (goodIn_of _ (by decide +kernel)) ggX8_enters_X7_shorten
set_option maxRecDepth 20000 in
theorem ggX8_enters_X4_open : GoodIn wsX8_enters wsX4_open := goodIn_r _ [50, 51, 52, 53, 54, 55, 56, 57, 58, 49, 59, 60, 61, 62, 63, 64, 65, 66, 67, 68, 69, 70, 71, 72, 73, 86, 87, 88, 89, 90, 91, 92, 93, 94, 95, 96, 97, 98, 99, 100, 101, 106, 107, 108, 109] (by decide +kernel) (by decide +kernel)
set_option maxRecDepth 20000 in
theorem gX8_enters_X4_open : GoodIn wsX8_enters (wsV RX8 94 RX4 yX4_open wsX4_open) := goodIn_app (goodIn_of _ (by decide +kernel)) ggX8_enters_X4_open
theorem dX8_enters_0 : decode cX8_enters 0 = .ok (.aload_n 0, 1) := by decide +kernel
theorem dX8_enters_1 : decode cX8_enters 1 = .ok (.getfield 12, 3) := by decide +kernel
theorem dX8_enters_4 : decode cX8_enters 4 = .ok (.aload_n 0, 1) := by decide +kernel
theorem dX8_enters_5 : decode cX8_enters 5 = .ok (.getfield 18, 3) := by decide +kernel
theorem dX8_enters_8 : decode cX8_enters 8 = .ok (.aload_n 0, 1) := by decide +kernel
theorem dX8_enters_9 : decode cX8_enters 9 = .ok (.getfield 28, 3) := by decide +kernel
theorem dX8_enters_12 : decode cX8_enters 12 = .ok (.getfield 87, 3) := by decide +kernel
theorem dX8_enters_15 : decode cX8_enters 15 = .ok (.invokevirtual 90, 3) := by decide +kernel
theorem dX8_enters_18 : decode cX8_enters 18 = .ok (.istore_n 1, 1) := by decide +kernel
theorem dX8_enters_19 : decode cX8_enters 19 = .ok (.aload_n 0, 1) := by decide +kernel
theorem dX8_enters_20 : decode cX8_enters 20 = .ok (.getfield 12, 3) := by decide +kernel
theorem dX8_enters_23 : decode cX8_enters 23 = .ok (.iconst 0, 1) := by decide +kernel
theorem dX8_enters_24 : decode cX8_enters 24 = .ok (.invokevirtual 84, 3) := by decide +kernel
theorem dX8_enters_27 : decode cX8_enters 27 = .ok (.pop, 1) := by decide +kernel
theorem dX8_enters_28 : decode cX8_enters 28 = .ok (.iload_n 1, 1) := by decide +kernel
theorem dX8_enters_29 : decode cX8_enters 29 = .ok (.ifCond .lt 8, 3) := by decide +kernel
theorem dX8_enters_32 : decode cX8_enters 32 = .ok (.bipush (-21), 2) := by decide +kernel
theorem dX8_enters_34 : decode cX8_enters 34 = .ok (.iload_n 1, 1) := by decide +kernel
theorem dX8_enters_35 : decode cX8_enters 35 = .ok (.isub, 1) := by decide +kernel
theorem dX8_enters_36 : decode cX8_enters 36 = .ok (.ireturn, 1) := by decide +kernel
theorem dX8_enters_37 : decode cX8_enters 37 = .ok (.aload_n 0, 1) := by decide +kernel
theorem dX8_enters_38 : decode cX8_enters 38 = .ok (.getfield 28, 3) := by decide +kernel
theorem dX8_enters_41 : decode cX8_enters 41 = .ok (.getfield 87, 3) := by decide +kernel
theorem dX8_enters_44 : decode cX8_enters 44 = .ok (.bipush 6, 2) := by decide +kernel
theorem dX8_enters_46 : decode cX8_enters 46 = .ok (.if_icmp .lt 6, 3) := by decide +kernel
theorem dX8_enters_49 : decode cX8_enters 49 = .ok (.bipush (-2), 2) := by decide +kernel
theorem dX8_enters_51 : decode cX8_enters 51 = .ok (.ireturn, 1) := by decide +kernel
theorem dX8_enters_52 : decode cX8_enters 52 = .ok (.aload_n 0, 1) := by decide +kernel
theorem dX8_enters_53 : decode cX8_enters 53 = .ok (.getfield 28, 3) := by decide +kernel
theorem dX8_enters_56 : decode cX8_enters 56 = .ok (.dup, 1) := by decide +kernel
theorem dX8_enters_57 : decode cX8_enters 57 = .ok (.getfield 87, 3) := by decide +kernel
theorem dX8_enters_60 : decode cX8_enters 60 = .ok (.iconst 1, 1) := by decide +kernel
theorem dX8_enters_61 : decode cX8_enters 61 = .ok (.iadd, 1) := by decide +kernel
theorem dX8_enters_62 : decode cX8_enters 62 = .ok (.putfield 87, 3) := by decide +kernel
theorem dX8_enters_65 : decode cX8_enters 65 = .ok (.aload_n 0, 1) := by decide +kernel
theorem dX8_enters_66 : decode cX8_enters 66 = .ok (.getfield 28, 3) := by decide +kernel
theorem dX8_enters_69 : decode cX8_enters 69 = .ok (.invokevirtual 94, 3) := by decide +kernel
theorem dX8_enters_72 : decode cX8_enters 72 = .ok (.aload_n 0, 1) := by decide +kernel
theorem dX8_enters_73 : decode cX8_enters 73 = .ok (.getfield 28, 3) := by decide +kernel
theorem dX8_enters_76 : decode cX8_enters 76 = .ok (.getfield 87, 3) := by decide +kernel
theorem dX8_enters_79 : decode cX8_enters 79 = .ok (.iconst 1, 1) := by decide +kernel
theorem dX8_enters_80 : decode cX8_enters 80 = .ok (.isub, 1) := by decide +kernel
theorem dX8_enters_81 : decode cX8_enters 81 = .ok (.ireturn, 1) := by decide +kernel
set_option maxRecDepth 20000 in
theorem ggX8_leaves_X4_open : GoodIn wsX8_leaves wsX4_open := goodIn_r _ [7, 8, 9, 10, 11, 12, 13, 14, 15, 6, 16, 17, 18, 19, 20, 21, 22, 23, 24, 25, 26, 27, 28, 29, 30, 43, 44, 45, 46, 47, 48, 49, 50, 51, 52, 53, 54, 55, 56, 57, 58, 59, 60, 61, 62] (by decide +kernel) (by decide +kernel)
set_option maxRecDepth 20000 in
theorem gX8_leaves_X4_open : GoodIn wsX8_leaves (wsV RX8 94 RX4 yX4_open wsX4_open) := goodIn_app (goodIn_of _ (by decide +kernel)) ggX8_leaves_X4_open
theorem dX8_leaves_0 : decode cX8_leaves 0 = .ok (.aload_n 0, 1) := by decide +kernel
theorem dX8_leaves_1 : decode cX8_leaves 1 = .ok (.getfield 28, 3) := by decide +kernel
theorem dX8_leaves_4 : decode cX8_leaves 4 = .ok (.getfield 87, 3) := by decide +kernel
theorem dX8_leaves_7 : decode cX8_leaves 7 = .ok (.ifCond .ne 6, 3) := by decide +kernel
theorem dX8_leaves_10 : decode cX8_leaves 10 = .ok (.bipush (-2), 2) := by decide +kernel
theorem dX8_leaves_12 : decode cX8_leaves 12 = .ok (.ireturn, 1) := by decide +kernel
theorem dX8_leaves_13 : decode cX8_leaves 13 = .ok (.aload_n 0, 1) := by decide +kernel
theorem dX8_leaves_14 : decode cX8_leaves 14 = .ok (.getfield 28, 3) := by decide +kernel
theorem dX8_leaves_17 : decode cX8_leaves 17 = .ok (.dup, 1) := by decide +kernel
theorem dX8_leaves_18 : decode cX8_leaves 18 = .ok (.getfield 87, 3) := by decide +kernel
theorem dX8_leaves_21 : decode cX8_leaves 21 = .ok (.iconst 1, 1) := by decide +kernel
theorem dX8_leaves_22 : decode cX8_leaves 22 = .ok (.isub, 1) := by decide +kernel
theorem dX8_leaves_23 : decode cX8_leaves 23 = .ok (.putfield 87, 3) := by decide +kernel
theorem dX8_leaves_26 : decode cX8_leaves 26 = .ok (.aload_n 0, 1) := by decide +kernel
theorem dX8_leaves_27 : decode cX8_leaves 27 = .ok (.getfield 28, 3) := by decide +kernel
theorem dX8_leaves_30 : decode cX8_leaves 30 = .ok (.invokevirtual 94, 3) := by decide +kernel
theorem dX8_leaves_33 : decode cX8_leaves 33 = .ok (.aload_n 0, 1) := by decide +kernel
theorem dX8_leaves_34 : decode cX8_leaves 34 = .ok (.getfield 28, 3) := by decide +kernel
theorem dX8_leaves_37 : decode cX8_leaves 37 = .ok (.getfield 87, 3) := by decide +kernel
theorem dX8_leaves_40 : decode cX8_leaves 40 = .ok (.ireturn, 1) := by decide +kernel
set_option maxRecDepth 20000 in
theorem ggX8_plans_X8_isLifter : GoodIn wsX8_plans wsX8_isLifter := goodIn_r _ [8, 3, 9, 47, 48, 49, 50, 51, 52, 53, 54, 55, 56, 57, 58, 63, 64, 65, 66, 67, 68, 69, 70, 71, 72, 73, 74, 75, 76, 77, 78] (by decide +kernel) (by decide +kernel)
set_option maxRecDepth 20000 in
theorem gX8_plans_X8_isLifter : GoodIn wsX8_plans (wsV RX8 97 RX8 yX8_isLifter wsX8_isLifter) := goodIn_app (goodIn_of _ (by decide +kernel)) ggX8_plans_X8_isLifter
set_option maxRecDepth 20000 in
theorem ggX8_plans_X8_isLift : GoodIn wsX8_plans wsX8_isLift := goodIn_r _ [12] (by decide +kernel) (by decide +kernel)
set_option maxRecDepth 20000 in
theorem gX8_plans_X8_isLift : GoodIn wsX8_plans (va_wsS RX8 100 yX8_isLift wsX8_isLift) := goodIn_app (goodIn_of _ (by decide +kernel)) ggX8_plans_X8_isLift
set_option maxRecDepth 20000 in
theorem ggX8_plans_X8_isPlan : GoodIn wsX8_plans wsX8_isPlan := goodIn_r _ [15, 16, 17, 7, 18] (by decide +kernel) (by decide +kernel)
set_option maxRecDepth 20000 in
theorem gX8_plans_X8_isPlan : GoodIn wsX8_plans (va_wsS RX8 103 yX8_isPlan wsX8_isPlan) := goodIn_app (goodIn_of _ (by decide +kernel)) ggX8_plans_X8_isPlan
set_option maxRecDepth 20000 in
theorem ggX8_plans_X4_open : GoodIn wsX8_plans wsX4_open := goodIn_r _ [23, 24, 25, 26, 27, 28, 29, 30, 31, 22, 32, 33, 34, 35, 36, 37, 38, 39, 40, 41, 42, 43, 44, 45, 46, 63, 64, 65, 66, 67, 68, 69, 70, 71, 72, 73, 74, 75, 76, 77, 78, 59, 60, 61, 62] (by decide +kernel) (by decide +kernel)
set_option maxRecDepth 20000 in
theorem gX8_plans_X4_open : GoodIn wsX8_plans (wsV RX8 94 RX4 yX4_open wsX4_open) := goodIn_app (goodIn_of _ (by decide +kernel)) ggX8_plans_X4_open
theorem dX8_plans_0 : decode cX8_plans 0 = .ok (.aload_n 0, 1) := by decide +kernel
theorem dX8_plans_1 : decode cX8_plans 1 = .ok (.iload_n 1, 1) := by decide +kernel
theorem dX8_plans_2 : decode cX8_plans 2 = .ok (.invokevirtual 97, 3) := by decide +kernel
theorem dX8_plans_5 : decode cX8_plans 5 = .ok (.ifCond .eq 19, 3) := by decide +kernel
theorem dX8_plans_8 : decode cX8_plans 8 = .ok (.iload_n 2, 1) := by decide +kernel
theorem dX8_plans_9 : decode cX8_plans 9 = .ok (.invokestatic 100, 3) := by decide +kernel
theorem dX8_plans_12 : decode cX8_plans 12 = .ok (.ifCond .eq 12, 3) := by decide +kernel
theorem dX8_plans_15 : decode cX8_plans 15 = .ok (.iload_n 3, 1) := by decide +kernel
theorem dX8_plans_16 : decode cX8_plans 16 = .ok (.iload 4, 2) := by decide +kernel
theorem dX8_plans_18 : decode cX8_plans 18 = .ok (.invokestatic 103, 3) := by decide +kernel
theorem dX8_plans_21 : decode cX8_plans 21 = .ok (.ifCond .ne 5, 3) := by decide +kernel
theorem dX8_plans_24 : decode cX8_plans 24 = .ok (.iconst (-1), 1) := by decide +kernel
theorem dX8_plans_25 : decode cX8_plans 25 = .ok (.ireturn, 1) := by decide +kernel
theorem dX8_plans_26 : decode cX8_plans 26 = .ok (.aload_n 0, 1) := by decide +kernel
theorem dX8_plans_27 : decode cX8_plans 27 = .ok (.getfield 18, 3) := by decide +kernel
theorem dX8_plans_30 : decode cX8_plans 30 = .ok (.iload_n 1, 1) := by decide +kernel
theorem dX8_plans_31 : decode cX8_plans 31 = .ok (.aaload, 1) := by decide +kernel
theorem dX8_plans_32 : decode cX8_plans 32 = .ok (.getfield 107, 3) := by decide +kernel
theorem dX8_plans_35 : decode cX8_plans 35 = .ok (.astore 5, 2) := by decide +kernel
theorem dX8_plans_37 : decode cX8_plans 37 = .ok (.aload 5, 2) := by decide +kernel
theorem dX8_plans_39 : decode cX8_plans 39 = .ok (.iload_n 2, 1) := by decide +kernel
theorem dX8_plans_40 : decode cX8_plans 40 = .ok (.iconst 3, 1) := by decide +kernel
theorem dX8_plans_41 : decode cX8_plans 41 = .ok (.imul, 1) := by decide +kernel
theorem dX8_plans_42 : decode cX8_plans 42 = .ok (.iload_n 3, 1) := by decide +kernel
theorem dX8_plans_43 : decode cX8_plans 43 = .ok (.iadd, 1) := by decide +kernel
theorem dX8_plans_44 : decode cX8_plans 44 = .ok (.iaload, 1) := by decide +kernel
theorem dX8_plans_45 : decode cX8_plans 45 = .ok (.istore 6, 2) := by decide +kernel
theorem dX8_plans_47 : decode cX8_plans 47 = .ok (.aload 5, 2) := by decide +kernel
theorem dX8_plans_49 : decode cX8_plans 49 = .ok (.iload_n 2, 1) := by decide +kernel
theorem dX8_plans_50 : decode cX8_plans 50 = .ok (.iconst 3, 1) := by decide +kernel
theorem dX8_plans_51 : decode cX8_plans 51 = .ok (.imul, 1) := by decide +kernel
theorem dX8_plans_52 : decode cX8_plans 52 = .ok (.iload_n 3, 1) := by decide +kernel
theorem dX8_plans_53 : decode cX8_plans 53 = .ok (.iadd, 1) := by decide +kernel
theorem dX8_plans_54 : decode cX8_plans 54 = .ok (.iload 4, 2) := by decide +kernel
theorem dX8_plans_56 : decode cX8_plans 56 = .ok (.iastore, 1) := by decide +kernel
theorem dX8_plans_57 : decode cX8_plans 57 = .ok (.aload_n 0, 1) := by decide +kernel
theorem dX8_plans_58 : decode cX8_plans 58 = .ok (.getfield 28, 3) := by decide +kernel
theorem dX8_plans_61 : decode cX8_plans 61 = .ok (.invokevirtual 94, 3) := by decide +kernel
theorem dX8_plans_64 : decode cX8_plans 64 = .ok (.iload 6, 2) := by decide +kernel
theorem dX8_plans_66 : decode cX8_plans 66 = .ok (.ireturn, 1) := by decide +kernel
theorem dX8_tires_0 : decode cX8_tires 0 = .ok (.iload_n 1, 1) := by decide +kernel
theorem dX8_tires_1 : decode cX8_tires 1 = .ok (.ifCond .lt 10, 3) := by decide +kernel
theorem dX8_tires_4 : decode cX8_tires 4 = .ok (.iload_n 1, 1) := by decide +kernel
theorem dX8_tires_5 : decode cX8_tires 5 = .ok (.sipush 300, 3) := by decide +kernel
theorem dX8_tires_8 : decode cX8_tires 8 = .ok (.if_icmp .le 5, 3) := by decide +kernel
theorem dX8_tires_11 : decode cX8_tires 11 = .ok (.iconst (-1), 1) := by decide +kernel
theorem dX8_tires_12 : decode cX8_tires 12 = .ok (.ireturn, 1) := by decide +kernel
theorem dX8_tires_13 : decode cX8_tires 13 = .ok (.aload_n 0, 1) := by decide +kernel
theorem dX8_tires_14 : decode cX8_tires 14 = .ok (.getfield 28, 3) := by decide +kernel
theorem dX8_tires_17 : decode cX8_tires 17 = .ok (.getfield 111, 3) := by decide +kernel
theorem dX8_tires_20 : decode cX8_tires 20 = .ok (.istore_n 2, 1) := by decide +kernel
theorem dX8_tires_21 : decode cX8_tires 21 = .ok (.aload_n 0, 1) := by decide +kernel
theorem dX8_tires_22 : decode cX8_tires 22 = .ok (.getfield 28, 3) := by decide +kernel
theorem dX8_tires_25 : decode cX8_tires 25 = .ok (.iload_n 1, 1) := by decide +kernel
theorem dX8_tires_26 : decode cX8_tires 26 = .ok (.putfield 111, 3) := by decide +kernel
theorem dX8_tires_29 : decode cX8_tires 29 = .ok (.iload_n 2, 1) := by decide +kernel
theorem dX8_tires_30 : decode cX8_tires 30 = .ok (.ireturn, 1) := by decide +kernel
set_option maxRecDepth 20000 in
theorem ggX8_begins_X4_open : GoodIn wsX8_begins wsX4_open := goodIn_r _ [7, 8, 9, 10, 11, 12, 13, 14, 15, 6, 16, 17, 18, 19, 20, 21, 22, 23, 24, 25, 26, 27, 28, 29, 30, 43, 44, 45, 46, 47, 48, 49, 50, 51, 52, 53, 54, 55, 56, 57, 58, 59, 60, 61, 62] (by decide +kernel) (by decide +kernel)
set_option maxRecDepth 20000 in
theorem gX8_begins_X4_open : GoodIn wsX8_begins (wsV RX8 94 RX4 yX4_open wsX4_open) := goodIn_app (goodIn_of _ (by decide +kernel)) ggX8_begins_X4_open
theorem dX8_begins_0 : decode cX8_begins 0 = .ok (.aload_n 0, 1) := by decide +kernel
theorem dX8_begins_1 : decode cX8_begins 1 = .ok (.getfield 28, 3) := by decide +kernel
theorem dX8_begins_4 : decode cX8_begins 4 = .ok (.invokevirtual 94, 3) := by decide +kernel
theorem dX8_begins_7 : decode cX8_begins 7 = .ok (.aload_n 0, 1) := by decide +kernel
theorem dX8_begins_8 : decode cX8_begins 8 = .ok (.getfield 28, 3) := by decide +kernel
theorem dX8_begins_11 : decode cX8_begins 11 = .ok (.getfield 87, 3) := by decide +kernel
theorem dX8_begins_14 : decode cX8_begins 14 = .ok (.ireturn, 1) := by decide +kernel
set_option maxRecDepth 20000 in
theorem ggX8_odds_X8_isLifter : GoodIn wsX8_odds wsX8_isLifter := goodIn_r _ [8, 2, 9, 26, 27, 28, 29, 30, 31, 32, 33, 34, 35, 36, 37, 38, 39, 40, 41, 42, 43, 44, 45, 46, 47, 48, 49, 50, 51, 52, 53] (by decide +kernel) (by decide +kernel)
set_option maxRecDepth 20000 in
theorem gX8_odds_X8_isLifter : GoodIn wsX8_odds (wsV RX8 97 RX8 yX8_isLifter wsX8_isLifter) := goodIn_app (goodIn_of _ (by decide +kernel)) ggX8_odds_X8_isLifter
set_option maxRecDepth 20000 in
theorem ggX8_odds_X8_isLift : GoodIn wsX8_odds wsX8_isLift := goodIn_r _ [12] (by decide +kernel) (by decide +kernel)
set_option maxRecDepth 20000 in
theorem gX8_odds_X8_isLift : GoodIn wsX8_odds (va_wsS RX8 100 yX8_isLift wsX8_isLift) := goodIn_app (goodIn_of _ (by decide +kernel)) ggX8_odds_X8_isLift
set_option maxRecDepth 20000 in
theorem ggX8_odds_X8_isLoad : GoodIn wsX8_odds wsX8_isLoad := goodIn_r _ [15] (by decide +kernel) (by decide +kernel)
set_option maxRecDepth 20000 in
theorem gX8_odds_X8_isLoad : GoodIn wsX8_odds (va_wsS RX8 114 yX8_isLoad wsX8_isLoad) := goodIn_app (goodIn_of _ (by decide +kernel)) ggX8_odds_X8_isLoad
set_option maxRecDepth 20000 in
theorem ggX8_odds_X3_oddsOf : GoodIn wsX8_odds wsX3_oddsOf := goodIn_r _ [20, 21, 22, 23, 24, 25, 54, 55, 56, 57] (by decide +kernel) (by decide +kernel)
set_option maxRecDepth 20000 in
theorem gX8_odds_X3_oddsOf : GoodIn wsX8_odds (wsV RX8 117 RX3 yX3_oddsOf wsX3_oddsOf) := goodIn_app (goodIn_of _ (by decide +kernel)) ggX8_odds_X3_oddsOf
theorem dX8_odds_0 : decode cX8_odds 0 = .ok (.aload_n 0, 1) := by decide +kernel
theorem dX8_odds_1 : decode cX8_odds 1 = .ok (.iload_n 1, 1) := by decide +kernel
theorem dX8_odds_2 : decode cX8_odds 2 = .ok (.invokevirtual 97, 3) := by decide +kernel
theorem dX8_odds_5 : decode cX8_odds 5 = .ok (.ifCond .eq 28, 3) := by decide +kernel
theorem dX8_odds_8 : decode cX8_odds 8 = .ok (.iload_n 2, 1) := by decide +kernel
theorem dX8_odds_9 : decode cX8_odds 9 = .ok (.invokestatic 100, 3) := by decide +kernel
theorem dX8_odds_12 : decode cX8_odds 12 = .ok (.ifCond .eq 21, 3) := by decide +kernel
theorem dX8_odds_15 : decode cX8_odds 15 = .ok (.iload_n 3, 1) := by decide +kernel
theorem dX8_odds_16 : decode cX8_odds 16 = .ok (.invokestatic 114, 3) := by decide +kernel
theorem dX8_odds_19 : decode cX8_odds 19 = .ok (.ifCond .eq 14, 3) := by decide +kernel
theorem dX8_odds_22 : decode cX8_odds 22 = .ok (.iload 4, 2) := by decide +kernel
theorem dX8_odds_24 : decode cX8_odds 24 = .ok (.ifCond .lt 9, 3) := by decide +kernel
theorem dX8_odds_27 : decode cX8_odds 27 = .ok (.iload 4, 2) := by decide +kernel
theorem dX8_odds_29 : decode cX8_odds 29 = .ok (.iconst 2, 1) := by decide +kernel
theorem dX8_odds_30 : decode cX8_odds 30 = .ok (.if_icmp .le 5, 3) := by decide +kernel
theorem dX8_odds_33 : decode cX8_odds 33 = .ok (.iconst (-1), 1) := by decide +kernel
theorem dX8_odds_34 : decode cX8_odds 34 = .ok (.ireturn, 1) := by decide +kernel
theorem dX8_odds_35 : decode cX8_odds 35 = .ok (.aload_n 0, 1) := by decide +kernel
theorem dX8_odds_36 : decode cX8_odds 36 = .ok (.getfield 18, 3) := by decide +kernel
theorem dX8_odds_39 : decode cX8_odds 39 = .ok (.iload_n 1, 1) := by decide +kernel
theorem dX8_odds_40 : decode cX8_odds 40 = .ok (.aaload, 1) := by decide +kernel
theorem dX8_odds_41 : decode cX8_odds 41 = .ok (.iload_n 2, 1) := by decide +kernel
theorem dX8_odds_42 : decode cX8_odds 42 = .ok (.iload_n 3, 1) := by decide +kernel
theorem dX8_odds_43 : decode cX8_odds 43 = .ok (.iload 4, 2) := by decide +kernel
theorem dX8_odds_45 : decode cX8_odds 45 = .ok (.aload_n 0, 1) := by decide +kernel
theorem dX8_odds_46 : decode cX8_odds 46 = .ok (.getfield 28, 3) := by decide +kernel
theorem dX8_odds_49 : decode cX8_odds 49 = .ok (.getfield 111, 3) := by decide +kernel
theorem dX8_odds_52 : decode cX8_odds 52 = .ok (.imul, 1) := by decide +kernel
theorem dX8_odds_53 : decode cX8_odds 53 = .ok (.invokevirtual 117, 3) := by decide +kernel
theorem dX8_odds_56 : decode cX8_odds 56 = .ok (.ireturn, 1) := by decide +kernel
set_option maxRecDepth 20000 in
theorem ggX8_lifter_X8_isLifter : GoodIn wsX8_lifter wsX8_isLifter := goodIn_r _ [14, 5, 15, 42, 43, 44, 45, 46, 47, 48, 49, 50, 51, 52, 53, 58, 59, 60, 61, 62, 63, 64, 65, 66, 67, 68, 69, 70, 71, 72, 73] (by decide +kernel) (by decide +kernel)
set_option maxRecDepth 20000 in
theorem gX8_lifter_X8_isLifter : GoodIn wsX8_lifter (wsV RX8 97 RX8 yX8_isLifter wsX8_isLifter) := goodIn_app (goodIn_of _ (by decide +kernel)) ggX8_lifter_X8_isLifter
set_option maxRecDepth 20000 in
theorem ggX8_lifter_X8_isLift : GoodIn wsX8_lifter wsX8_isLift := goodIn_r _ [18] (by decide +kernel) (by decide +kernel)
set_option maxRecDepth 20000 in
theorem gX8_lifter_X8_isLift : GoodIn wsX8_lifter (va_wsS RX8 100 yX8_isLift wsX8_isLift) := goodIn_app (goodIn_of _ (by decide +kernel)) ggX8_lifter_X8_isLift
set_option maxRecDepth 20000 in
theorem ggX8_lifter_X4_leastOf : GoodIn wsX8_lifter wsX4_leastOf := goodIn_r _ [23, 24, 25, 26, 27, 28, 29, 30, 31, 58, 59, 60, 61, 62, 63, 64, 65, 66, 67, 68, 69, 70, 71, 72, 73] (by decide +kernel) (by decide +kernel)
set_option maxRecDepth 20000 in
theorem gX8_lifter_X4_leastOf : GoodIn wsX8_lifter (wsV RX8 133 RX4 yX4_leastOf wsX4_leastOf) := goodIn_app (goodIn_of _ (by decide +kernel)) ggX8_lifter_X4_leastOf
set_option maxRecDepth 20000 in
theorem ggX8_lifter_X4_waits : GoodIn wsX8_lifter wsX4_waits := goodIn_r _ [35, 24, 25, 58, 59, 60, 61, 62, 63, 64, 65, 66, 67, 68, 69, 70, 71, 72, 73] (by decide +kernel) (by decide +kernel)
set_option maxRecDepth 20000 in
theorem gX8_lifter_X4_waits : GoodIn wsX8_lifter (wsV RX8 140 RX4 yX4_waits wsX4_waits) := goodIn_app (goodIn_of _ (by decide +kernel)) ggX8_lifter_X4_waits
set_option maxRecDepth 20000 in
theorem ggX8_lifter_X4_sumOf : GoodIn wsX8_lifter wsX4_sumOf := goodIn_r _ [39, 40, 41, 58, 59, 60, 61, 62, 63, 64, 65, 66, 67, 68, 69, 70, 71, 72, 73] (by decide +kernel) (by decide +kernel)
set_option maxRecDepth 20000 in
theorem gX8_lifter_X4_sumOf : GoodIn wsX8_lifter (wsV RX8 147 RX4 yX4_sumOf wsX4_sumOf) := goodIn_app (goodIn_of _ (by decide +kernel)) ggX8_lifter_X4_sumOf
theorem dX8_lifter_0 : decode cX8_lifter 0 = .ok (.aload_n 0, 1) := by decide +kernel
theorem dX8_lifter_1 : decode cX8_lifter 1 = .ok (.iload_n 1, 1) := by decide +kernel
theorem dX8_lifter_2 : decode cX8_lifter 2 = .ok (.invokevirtual 97, 3) := by decide +kernel
theorem dX8_lifter_5 : decode cX8_lifter 5 = .ok (.ifCond .eq 10, 3) := by decide +kernel
theorem dX8_lifter_8 : decode cX8_lifter 8 = .ok (.iload_n 2, 1) := by decide +kernel
theorem dX8_lifter_9 : decode cX8_lifter 9 = .ok (.invokestatic 100, 3) := by decide +kernel
theorem dX8_lifter_12 : decode cX8_lifter 12 = .ok (.ifCond .ne 5, 3) := by decide +kernel
theorem dX8_lifter_15 : decode cX8_lifter 15 = .ok (.iconst (-1), 1) := by decide +kernel
theorem dX8_lifter_16 : decode cX8_lifter 16 = .ok (.ireturn, 1) := by decide +kernel
theorem dX8_lifter_17 : decode cX8_lifter 17 = .ok (.aload_n 0, 1) := by decide +kernel
theorem dX8_lifter_18 : decode cX8_lifter 18 = .ok (.getfield 18, 3) := by decide +kernel
theorem dX8_lifter_21 : decode cX8_lifter 21 = .ok (.iload_n 1, 1) := by decide +kernel
theorem dX8_lifter_22 : decode cX8_lifter 22 = .ok (.aaload, 1) := by decide +kernel
theorem dX8_lifter_23 : decode cX8_lifter 23 = .ok (.astore 4, 2) := by decide +kernel
theorem dX8_lifter_25 : decode cX8_lifter 25 = .ok (.iload_n 3, 1) := by decide +kernel
theorem dX8_lifter_26 : decode cX8_lifter 26 = .ok (.tableswitch 195 0 11 #[62, 68, 74, 84, 96, 108, 122, 132, 141, 151, 168, 186], 62) := by decide +kernel
theorem dX8_lifter_88 : decode cX8_lifter 88 = .ok (.aload 4, 2) := by decide +kernel
theorem dX8_lifter_90 : decode cX8_lifter 90 = .ok (.getfield 121, 3) := by decide +kernel
theorem dX8_lifter_93 : decode cX8_lifter 93 = .ok (.ireturn, 1) := by decide +kernel
theorem dX8_lifter_94 : decode cX8_lifter 94 = .ok (.aload 4, 2) := by decide +kernel
theorem dX8_lifter_96 : decode cX8_lifter 96 = .ok (.getfield 124, 3) := by decide +kernel
theorem dX8_lifter_99 : decode cX8_lifter 99 = .ok (.ireturn, 1) := by decide +kernel
theorem dX8_lifter_100 : decode cX8_lifter 100 = .ok (.aload 4, 2) := by decide +kernel
theorem dX8_lifter_102 : decode cX8_lifter 102 = .ok (.getfield 107, 3) := by decide +kernel
theorem dX8_lifter_105 : decode cX8_lifter 105 = .ok (.iload_n 2, 1) := by decide +kernel
theorem dX8_lifter_106 : decode cX8_lifter 106 = .ok (.iconst 3, 1) := by decide +kernel
theorem dX8_lifter_107 : decode cX8_lifter 107 = .ok (.imul, 1) := by decide +kernel
theorem dX8_lifter_108 : decode cX8_lifter 108 = .ok (.iaload, 1) := by decide +kernel
theorem dX8_lifter_109 : decode cX8_lifter 109 = .ok (.ireturn, 1) := by decide +kernel
theorem dX8_lifter_110 : decode cX8_lifter 110 = .ok (.aload 4, 2) := by decide +kernel
theorem dX8_lifter_112 : decode cX8_lifter 112 = .ok (.getfield 107, 3) := by decide +kernel
theorem dX8_lifter_115 : decode cX8_lifter 115 = .ok (.iload_n 2, 1) := by decide +kernel
theorem dX8_lifter_116 : decode cX8_lifter 116 = .ok (.iconst 3, 1) := by decide +kernel
theorem dX8_lifter_117 : decode cX8_lifter 117 = .ok (.imul, 1) := by decide +kernel
theorem dX8_lifter_118 : decode cX8_lifter 118 = .ok (.iconst 1, 1) := by decide +kernel
theorem dX8_lifter_119 : decode cX8_lifter 119 = .ok (.iadd, 1) := by decide +kernel
theorem dX8_lifter_120 : decode cX8_lifter 120 = .ok (.iaload, 1) := by decide +kernel
theorem dX8_lifter_121 : decode cX8_lifter 121 = .ok (.ireturn, 1) := by decide +kernel
theorem dX8_lifter_122 : decode cX8_lifter 122 = .ok (.aload 4, 2) := by decide +kernel
theorem dX8_lifter_124 : decode cX8_lifter 124 = .ok (.getfield 107, 3) := by decide +kernel
theorem dX8_lifter_127 : decode cX8_lifter 127 = .ok (.iload_n 2, 1) := by decide +kernel
theorem dX8_lifter_128 : decode cX8_lifter 128 = .ok (.iconst 3, 1) := by decide +kernel
theorem dX8_lifter_129 : decode cX8_lifter 129 = .ok (.imul, 1) := by decide +kernel
theorem dX8_lifter_130 : decode cX8_lifter 130 = .ok (.iconst 2, 1) := by decide +kernel
theorem dX8_lifter_131 : decode cX8_lifter 131 = .ok (.iadd, 1) := by decide +kernel
theorem dX8_lifter_132 : decode cX8_lifter 132 = .ok (.iaload, 1) := by decide +kernel
theorem dX8_lifter_133 : decode cX8_lifter 133 = .ok (.ireturn, 1) := by decide +kernel
theorem dX8_lifter_134 : decode cX8_lifter 134 = .ok (.aload_n 0, 1) := by decide +kernel
theorem dX8_lifter_135 : decode cX8_lifter 135 = .ok (.getfield 28, 3) := by decide +kernel
theorem dX8_lifter_138 : decode cX8_lifter 138 = .ok (.getfield 127, 3) := by decide +kernel
theorem dX8_lifter_141 : decode cX8_lifter 141 = .ok (.iload_n 1, 1) := by decide +kernel
theorem dX8_lifter_142 : decode cX8_lifter 142 = .ok (.iconst 3, 1) := by decide +kernel
theorem dX8_lifter_143 : decode cX8_lifter 143 = .ok (.imul, 1) := by decide +kernel
theorem dX8_lifter_144 : decode cX8_lifter 144 = .ok (.iload_n 2, 1) := by decide +kernel
theorem dX8_lifter_145 : decode cX8_lifter 145 = .ok (.iadd, 1) := by decide +kernel
theorem dX8_lifter_146 : decode cX8_lifter 146 = .ok (.iaload, 1) := by decide +kernel
theorem dX8_lifter_147 : decode cX8_lifter 147 = .ok (.ireturn, 1) := by decide +kernel
theorem dX8_lifter_148 : decode cX8_lifter 148 = .ok (.aload_n 0, 1) := by decide +kernel
theorem dX8_lifter_149 : decode cX8_lifter 149 = .ok (.getfield 28, 3) := by decide +kernel
theorem dX8_lifter_152 : decode cX8_lifter 152 = .ok (.getfield 130, 3) := by decide +kernel
theorem dX8_lifter_155 : decode cX8_lifter 155 = .ok (.iload_n 1, 1) := by decide +kernel
theorem dX8_lifter_156 : decode cX8_lifter 156 = .ok (.iaload, 1) := by decide +kernel
theorem dX8_lifter_157 : decode cX8_lifter 157 = .ok (.ireturn, 1) := by decide +kernel
theorem dX8_lifter_158 : decode cX8_lifter 158 = .ok (.aload_n 0, 1) := by decide +kernel
theorem dX8_lifter_159 : decode cX8_lifter 159 = .ok (.getfield 28, 3) := by decide +kernel
theorem dX8_lifter_162 : decode cX8_lifter 162 = .ok (.iload_n 1, 1) := by decide +kernel
theorem dX8_lifter_163 : decode cX8_lifter 163 = .ok (.invokevirtual 133, 3) := by decide +kernel
theorem dX8_lifter_166 : decode cX8_lifter 166 = .ok (.ireturn, 1) := by decide +kernel
theorem dX8_lifter_167 : decode cX8_lifter 167 = .ok (.aload_n 0, 1) := by decide +kernel
theorem dX8_lifter_168 : decode cX8_lifter 168 = .ok (.getfield 28, 3) := by decide +kernel
theorem dX8_lifter_171 : decode cX8_lifter 171 = .ok (.getfield 137, 3) := by decide +kernel
theorem dX8_lifter_174 : decode cX8_lifter 174 = .ok (.iload_n 1, 1) := by decide +kernel
theorem dX8_lifter_175 : decode cX8_lifter 175 = .ok (.iaload, 1) := by decide +kernel
theorem dX8_lifter_176 : decode cX8_lifter 176 = .ok (.ireturn, 1) := by decide +kernel
theorem dX8_lifter_177 : decode cX8_lifter 177 = .ok (.aload_n 0, 1) := by decide +kernel
theorem dX8_lifter_178 : decode cX8_lifter 178 = .ok (.getfield 28, 3) := by decide +kernel
theorem dX8_lifter_181 : decode cX8_lifter 181 = .ok (.iload_n 1, 1) := by decide +kernel
theorem dX8_lifter_182 : decode cX8_lifter 182 = .ok (.invokevirtual 140, 3) := by decide +kernel
theorem dX8_lifter_185 : decode cX8_lifter 185 = .ok (.ifCond .eq 7, 3) := by decide +kernel
theorem dX8_lifter_188 : decode cX8_lifter 188 = .ok (.iconst 1, 1) := by decide +kernel
theorem dX8_lifter_189 : decode cX8_lifter 189 = .ok (.goto 4, 3) := by decide +kernel
theorem dX8_lifter_192 : decode cX8_lifter 192 = .ok (.iconst 0, 1) := by decide +kernel
theorem dX8_lifter_193 : decode cX8_lifter 193 = .ok (.ireturn, 1) := by decide +kernel
theorem dX8_lifter_194 : decode cX8_lifter 194 = .ok (.aload_n 0, 1) := by decide +kernel
theorem dX8_lifter_195 : decode cX8_lifter 195 = .ok (.getfield 28, 3) := by decide +kernel
theorem dX8_lifter_198 : decode cX8_lifter 198 = .ok (.getfield 143, 3) := by decide +kernel
theorem dX8_lifter_201 : decode cX8_lifter 201 = .ok (.iload_n 1, 1) := by decide +kernel
theorem dX8_lifter_202 : decode cX8_lifter 202 = .ok (.baload, 1) := by decide +kernel
theorem dX8_lifter_203 : decode cX8_lifter 203 = .ok (.ifCond .eq 7, 3) := by decide +kernel
theorem dX8_lifter_206 : decode cX8_lifter 206 = .ok (.iconst 1, 1) := by decide +kernel
theorem dX8_lifter_207 : decode cX8_lifter 207 = .ok (.goto 4, 3) := by decide +kernel
theorem dX8_lifter_210 : decode cX8_lifter 210 = .ok (.iconst 0, 1) := by decide +kernel
theorem dX8_lifter_211 : decode cX8_lifter 211 = .ok (.ireturn, 1) := by decide +kernel
theorem dX8_lifter_212 : decode cX8_lifter 212 = .ok (.aload_n 0, 1) := by decide +kernel
theorem dX8_lifter_213 : decode cX8_lifter 213 = .ok (.getfield 28, 3) := by decide +kernel
theorem dX8_lifter_216 : decode cX8_lifter 216 = .ok (.iload_n 1, 1) := by decide +kernel
theorem dX8_lifter_217 : decode cX8_lifter 217 = .ok (.invokevirtual 147, 3) := by decide +kernel
theorem dX8_lifter_220 : decode cX8_lifter 220 = .ok (.ireturn, 1) := by decide +kernel
theorem dX8_lifter_221 : decode cX8_lifter 221 = .ok (.iconst (-1), 1) := by decide +kernel
theorem dX8_lifter_222 : decode cX8_lifter 222 = .ok (.ireturn, 1) := by decide +kernel
set_option maxRecDepth 20000 in
theorem ggX8_called_X4_next : GoodIn wsX8_called wsX4_next := goodIn_r _ [7, 8, 9, 10, 11, 12, 6, 13, 14, 15, 16, 17, 18, 19, 20, 57, 58, 59, 60, 61, 62, 63, 64, 65, 66, 67, 68, 69, 70, 71, 72, 73, 74, 75, 76] (by decide +kernel) (by decide +kernel)
set_option maxRecDepth 20000 in
theorem gX8_called_X4_next : GoodIn wsX8_called (wsV RX8 150 RX4 yX4_next wsX4_next) := goodIn_app (goodIn_of _ (by decide +kernel)) ggX8_called_X4_next
set_option maxRecDepth 20000 in
theorem ggX8_called_X4_oddsNow : GoodIn wsX8_called wsX4_oddsNow := goodIn_r _ [24, 19, 25, 9, 26, 27, 28, 29, 30, 31, 32, 33, 34, 35, 36, 37, 57, 58, 59, 60, 61, 62, 63, 64, 65, 66, 67, 68, 69, 70, 71, 72, 73, 74, 75, 76] (by decide +kernel) (by decide +kernel)
set_option maxRecDepth 20000 in
theorem gX8_called_X4_oddsNow : GoodIn wsX8_called (wsV RX8 154 RX4 yX4_oddsNow wsX4_oddsNow) := goodIn_app (goodIn_of _ (by decide +kernel)) ggX8_called_X4_oddsNow
set_option maxRecDepth 20000 in
theorem ggX8_called_X8_tellTwo : GoodIn wsX8_called wsX8_tellTwo := goodIn_r _ [42, 43, 44, 45, 46, 47, 48, 49, 50, 51, 52, 53, 54, 55, 56] (by decide +kernel) (by decide +kernel)
set_option maxRecDepth 20000 in
theorem gX8_called_X8_tellTwo : GoodIn wsX8_called (wsV RX8 157 RX8 yX8_tellTwo wsX8_tellTwo) := goodIn_app (goodIn_of _ (by decide +kernel)) ggX8_called_X8_tellTwo
theorem dX8_called_0 : decode cX8_called 0 = .ok (.aload_n 0, 1) := by decide +kernel
theorem dX8_called_1 : decode cX8_called 1 = .ok (.getfield 28, 3) := by decide +kernel
theorem dX8_called_4 : decode cX8_called 4 = .ok (.invokevirtual 150, 3) := by decide +kernel
theorem dX8_called_7 : decode cX8_called 7 = .ok (.istore_n 1, 1) := by decide +kernel
theorem dX8_called_8 : decode cX8_called 8 = .ok (.iload_n 1, 1) := by decide +kernel
theorem dX8_called_9 : decode cX8_called 9 = .ok (.ifCond .ge 6, 3) := by decide +kernel
theorem dX8_called_12 : decode cX8_called 12 = .ok (.bipush (-2), 2) := by decide +kernel
theorem dX8_called_14 : decode cX8_called 14 = .ok (.ireturn, 1) := by decide +kernel
theorem dX8_called_15 : decode cX8_called 15 = .ok (.aload_n 0, 1) := by decide +kernel
theorem dX8_called_16 : decode cX8_called 16 = .ok (.aload_n 0, 1) := by decide +kernel
theorem dX8_called_17 : decode cX8_called 17 = .ok (.getfield 28, 3) := by decide +kernel
theorem dX8_called_20 : decode cX8_called 20 = .ok (.getfield 130, 3) := by decide +kernel
theorem dX8_called_23 : decode cX8_called 23 = .ok (.iload_n 1, 1) := by decide +kernel
theorem dX8_called_24 : decode cX8_called 24 = .ok (.iaload, 1) := by decide +kernel
theorem dX8_called_25 : decode cX8_called 25 = .ok (.aload_n 0, 1) := by decide +kernel
theorem dX8_called_26 : decode cX8_called 26 = .ok (.getfield 28, 3) := by decide +kernel
theorem dX8_called_29 : decode cX8_called 29 = .ok (.iload_n 1, 1) := by decide +kernel
theorem dX8_called_30 : decode cX8_called 30 = .ok (.invokevirtual 154, 3) := by decide +kernel
theorem dX8_called_33 : decode cX8_called 33 = .ok (.invokevirtual 157, 3) := by decide +kernel
theorem dX8_called_36 : decode cX8_called 36 = .ok (.iload_n 1, 1) := by decide +kernel
theorem dX8_called_37 : decode cX8_called 37 = .ok (.ireturn, 1) := by decide +kernel
set_option maxRecDepth 20000 in
theorem ggX8_order_X4_waits : GoodIn wsX8_order wsX4_waits := goodIn_r _ [10, 11, 12, 33, 34, 35, 36, 37, 38, 39, 40, 41, 42, 43, 44, 45, 46, 47, 48] (by decide +kernel) (by decide +kernel)
set_option maxRecDepth 20000 in
theorem gX8_order_X4_waits : GoodIn wsX8_order (wsV RX8 140 RX4 yX4_waits wsX4_waits) := goodIn_app (goodIn_of _ (by decide +kernel)) ggX8_order_X4_waits
set_option maxRecDepth 20000 in
theorem ggX8_order_X4_sooner : GoodIn wsX8_order wsX4_sooner := goodIn_r _ [16, 17, 11, 18, 19, 20, 7, 8, 9, 10, 12, 33, 34, 35, 36, 37, 38, 39, 40, 41, 42, 43, 44, 45, 46, 47, 48, 49, 50, 51, 52] (by decide +kernel) (by decide +kernel)
set_option maxRecDepth 20000 in
theorem gX8_order_X4_sooner : GoodIn wsX8_order (wsV RX8 161 RX4 yX4_sooner wsX4_sooner) := goodIn_app (goodIn_of _ (by decide +kernel)) ggX8_order_X4_sooner
theorem dX8_order_0 : decode cX8_order 0 = .ok (.aload_n 0, 1) := by decide +kernel
theorem dX8_order_1 : decode cX8_order 1 = .ok (.iconst 0, 1) := by decide +kernel
theorem dX8_order_2 : decode cX8_order 2 = .ok (.putfield 65, 3) := by decide +kernel
theorem dX8_order_5 : decode cX8_order 5 = .ok (.iconst 0, 1) := by decide +kernel
theorem dX8_order_6 : decode cX8_order 6 = .ok (.istore_n 1, 1) := by decide +kernel
theorem dX8_order_7 : decode cX8_order 7 = .ok (.iload_n 1, 1) := by decide +kernel
theorem dX8_order_8 : decode cX8_order 8 = .ok (.aload_n 0, 1) := by decide +kernel
theorem dX8_order_9 : decode cX8_order 9 = .ok (.getfield 28, 3) := by decide +kernel
theorem dX8_order_12 : decode cX8_order 12 = .ok (.getfield 87, 3) := by decide +kernel
theorem dX8_order_15 : decode cX8_order 15 = .ok (.if_icmp .ge 54, 3) := by decide +kernel
theorem dX8_order_18 : decode cX8_order 18 = .ok (.aload_n 0, 1) := by decide +kernel
theorem dX8_order_19 : decode cX8_order 19 = .ok (.getfield 28, 3) := by decide +kernel
theorem dX8_order_22 : decode cX8_order 22 = .ok (.iload_n 1, 1) := by decide +kernel
theorem dX8_order_23 : decode cX8_order 23 = .ok (.invokevirtual 140, 3) := by decide +kernel
theorem dX8_order_26 : decode cX8_order 26 = .ok (.ifCond .eq 37, 3) := by decide +kernel
theorem dX8_order_29 : decode cX8_order 29 = .ok (.aload_n 0, 1) := by decide +kernel
theorem dX8_order_30 : decode cX8_order 30 = .ok (.getfield 61, 3) := by decide +kernel
theorem dX8_order_33 : decode cX8_order 33 = .ok (.aload_n 0, 1) := by decide +kernel
theorem dX8_order_34 : decode cX8_order 34 = .ok (.getfield 28, 3) := by decide +kernel
theorem dX8_order_37 : decode cX8_order 37 = .ok (.iload_n 1, 1) := by decide +kernel
theorem dX8_order_38 : decode cX8_order 38 = .ok (.aload_n 0, 1) := by decide +kernel
theorem dX8_order_39 : decode cX8_order 39 = .ok (.getfield 28, 3) := by decide +kernel
theorem dX8_order_42 : decode cX8_order 42 = .ok (.getfield 130, 3) := by decide +kernel
theorem dX8_order_45 : decode cX8_order 45 = .ok (.iload_n 1, 1) := by decide +kernel
theorem dX8_order_46 : decode cX8_order 46 = .ok (.iaload, 1) := by decide +kernel
theorem dX8_order_47 : decode cX8_order 47 = .ok (.invokevirtual 161, 3) := by decide +kernel
theorem dX8_order_50 : decode cX8_order 50 = .ok (.iload_n 1, 1) := by decide +kernel
theorem dX8_order_51 : decode cX8_order 51 = .ok (.i2l, 1) := by decide +kernel
theorem dX8_order_52 : decode cX8_order 52 = .ok (.lastore, 1) := by decide +kernel
theorem dX8_order_53 : decode cX8_order 53 = .ok (.aload_n 0, 1) := by decide +kernel
theorem dX8_order_54 : decode cX8_order 54 = .ok (.dup, 1) := by decide +kernel
theorem dX8_order_55 : decode cX8_order 55 = .ok (.getfield 65, 3) := by decide +kernel
theorem dX8_order_58 : decode cX8_order 58 = .ok (.iconst 1, 1) := by decide +kernel
theorem dX8_order_59 : decode cX8_order 59 = .ok (.iadd, 1) := by decide +kernel
theorem dX8_order_60 : decode cX8_order 60 = .ok (.putfield 65, 3) := by decide +kernel
theorem dX8_order_63 : decode cX8_order 63 = .ok (.iinc 1 1, 3) := by decide +kernel
theorem dX8_order_66 : decode cX8_order 66 = .ok (.goto (-59), 3) := by decide +kernel
theorem dX8_order_69 : decode cX8_order 69 = .ok (.aload_n 0, 1) := by decide +kernel
theorem dX8_order_70 : decode cX8_order 70 = .ok (.getfield 65, 3) := by decide +kernel
theorem dX8_order_73 : decode cX8_order 73 = .ok (.ireturn, 1) := by decide +kernel
set_option maxRecDepth 20000 in
theorem ggX8_asks_X8_isLifter : GoodIn wsX8_asks wsX8_isLifter := goodIn_r _ [8, 1, 9, 30, 31, 32, 33, 34, 35, 36, 37, 38, 39, 40, 41, 42, 43, 44, 45, 46, 47, 48, 49, 50, 51, 52, 53, 54, 55, 56, 57] (by decide +kernel) (by decide +kernel)
set_option maxRecDepth 20000 in
theorem gX8_asks_X8_isLifter : GoodIn wsX8_asks (wsV RX8 97 RX8 yX8_isLifter wsX8_isLifter) := goodIn_app (goodIn_of _ (by decide +kernel)) ggX8_asks_X8_isLifter
set_option maxRecDepth 20000 in
theorem ggX8_asks_X8_isLoad : GoodIn wsX8_asks wsX8_isLoad := goodIn_r _ [12] (by decide +kernel) (by decide +kernel)
set_option maxRecDepth 20000 in
theorem gX8_asks_X8_isLoad : GoodIn wsX8_asks (va_wsS RX8 114 yX8_isLoad wsX8_isLoad) := goodIn_app (goodIn_of _ (by decide +kernel)) ggX8_asks_X8_isLoad
set_option maxRecDepth 20000 in
theorem ggX8_asks_X4_waits : GoodIn wsX8_asks wsX4_waits := goodIn_r _ [17, 18, 19, 42, 43, 44, 45, 46, 47, 48, 49, 50, 51, 52, 53, 54, 55, 56, 57] (by decide +kernel) (by decide +kernel)
set_option maxRecDepth 20000 in
theorem gX8_asks_X4_waits : GoodIn wsX8_asks (wsV RX8 140 RX4 yX4_waits wsX4_waits) := goodIn_app (goodIn_of _ (by decide +kernel)) ggX8_asks_X4_waits
set_option maxRecDepth 20000 in
theorem ggX8_asks_X4_leastOf : GoodIn wsX8_asks wsX4_leastOf := goodIn_r _ [23, 18, 19, 24, 25, 26, 27, 28, 29, 42, 43, 44, 45, 46, 47, 48, 49, 50, 51, 52, 53, 54, 55, 56, 57] (by decide +kernel) (by decide +kernel)
set_option maxRecDepth 20000 in
theorem gX8_asks_X4_leastOf : GoodIn wsX8_asks (wsV RX8 133 RX4 yX4_leastOf wsX4_leastOf) := goodIn_app (goodIn_of _ (by decide +kernel)) ggX8_asks_X4_leastOf
theorem dX8_asks_0 : decode cX8_asks 0 = .ok (.aload_n 0, 1) := by decide +kernel
theorem dX8_asks_1 : decode cX8_asks 1 = .ok (.iload_n 1, 1) := by decide +kernel
theorem dX8_asks_2 : decode cX8_asks 2 = .ok (.invokevirtual 97, 3) := by decide +kernel
theorem dX8_asks_5 : decode cX8_asks 5 = .ok (.ifCond .eq 10, 3) := by decide +kernel
theorem dX8_asks_8 : decode cX8_asks 8 = .ok (.iload_n 2, 1) := by decide +kernel
theorem dX8_asks_9 : decode cX8_asks 9 = .ok (.invokestatic 114, 3) := by decide +kernel
theorem dX8_asks_12 : decode cX8_asks 12 = .ok (.ifCond .ne 5, 3) := by decide +kernel
theorem dX8_asks_15 : decode cX8_asks 15 = .ok (.iconst (-1), 1) := by decide +kernel
theorem dX8_asks_16 : decode cX8_asks 16 = .ok (.ireturn, 1) := by decide +kernel
theorem dX8_asks_17 : decode cX8_asks 17 = .ok (.aload_n 0, 1) := by decide +kernel
theorem dX8_asks_18 : decode cX8_asks 18 = .ok (.getfield 28, 3) := by decide +kernel
theorem dX8_asks_21 : decode cX8_asks 21 = .ok (.iload_n 1, 1) := by decide +kernel
theorem dX8_asks_22 : decode cX8_asks 22 = .ok (.invokevirtual 140, 3) := by decide +kernel
theorem dX8_asks_25 : decode cX8_asks 25 = .ok (.ifCond .ne 6, 3) := by decide +kernel
theorem dX8_asks_28 : decode cX8_asks 28 = .ok (.bipush (-2), 2) := by decide +kernel
theorem dX8_asks_30 : decode cX8_asks 30 = .ok (.ireturn, 1) := by decide +kernel
theorem dX8_asks_31 : decode cX8_asks 31 = .ok (.aload_n 0, 1) := by decide +kernel
theorem dX8_asks_32 : decode cX8_asks 32 = .ok (.getfield 28, 3) := by decide +kernel
theorem dX8_asks_35 : decode cX8_asks 35 = .ok (.getfield 137, 3) := by decide +kernel
theorem dX8_asks_38 : decode cX8_asks 38 = .ok (.iload_n 1, 1) := by decide +kernel
theorem dX8_asks_39 : decode cX8_asks 39 = .ok (.iaload, 1) := by decide +kernel
theorem dX8_asks_40 : decode cX8_asks 40 = .ok (.ifCond .gt 6, 3) := by decide +kernel
theorem dX8_asks_43 : decode cX8_asks 43 = .ok (.bipush (-3), 2) := by decide +kernel
theorem dX8_asks_45 : decode cX8_asks 45 = .ok (.ireturn, 1) := by decide +kernel
theorem dX8_asks_46 : decode cX8_asks 46 = .ok (.iload_n 2, 1) := by decide +kernel
theorem dX8_asks_47 : decode cX8_asks 47 = .ok (.aload_n 0, 1) := by decide +kernel
theorem dX8_asks_48 : decode cX8_asks 48 = .ok (.getfield 28, 3) := by decide +kernel
theorem dX8_asks_51 : decode cX8_asks 51 = .ok (.iload_n 1, 1) := by decide +kernel
theorem dX8_asks_52 : decode cX8_asks 52 = .ok (.invokevirtual 133, 3) := by decide +kernel
theorem dX8_asks_55 : decode cX8_asks 55 = .ok (.if_icmp .lt 16, 3) := by decide +kernel
theorem dX8_asks_58 : decode cX8_asks 58 = .ok (.iload_n 2, 1) := by decide +kernel
theorem dX8_asks_59 : decode cX8_asks 59 = .ok (.aload_n 0, 1) := by decide +kernel
theorem dX8_asks_60 : decode cX8_asks 60 = .ok (.getfield 28, 3) := by decide +kernel
theorem dX8_asks_63 : decode cX8_asks 63 = .ok (.getfield 130, 3) := by decide +kernel
theorem dX8_asks_66 : decode cX8_asks 66 = .ok (.iload_n 1, 1) := by decide +kernel
theorem dX8_asks_67 : decode cX8_asks 67 = .ok (.iaload, 1) := by decide +kernel
theorem dX8_asks_68 : decode cX8_asks 68 = .ok (.if_icmp .ne 6, 3) := by decide +kernel
theorem dX8_asks_71 : decode cX8_asks 71 = .ok (.bipush (-4), 2) := by decide +kernel
theorem dX8_asks_73 : decode cX8_asks 73 = .ok (.ireturn, 1) := by decide +kernel
theorem dX8_asks_74 : decode cX8_asks 74 = .ok (.aload_n 0, 1) := by decide +kernel
theorem dX8_asks_75 : decode cX8_asks 75 = .ok (.getfield 28, 3) := by decide +kernel
theorem dX8_asks_78 : decode cX8_asks 78 = .ok (.getfield 130, 3) := by decide +kernel
theorem dX8_asks_81 : decode cX8_asks 81 = .ok (.iload_n 1, 1) := by decide +kernel
theorem dX8_asks_82 : decode cX8_asks 82 = .ok (.iload_n 2, 1) := by decide +kernel
theorem dX8_asks_83 : decode cX8_asks 83 = .ok (.iastore, 1) := by decide +kernel
theorem dX8_asks_84 : decode cX8_asks 84 = .ok (.aload_n 0, 1) := by decide +kernel
theorem dX8_asks_85 : decode cX8_asks 85 = .ok (.getfield 28, 3) := by decide +kernel
theorem dX8_asks_88 : decode cX8_asks 88 = .ok (.getfield 137, 3) := by decide +kernel
theorem dX8_asks_91 : decode cX8_asks 91 = .ok (.iload_n 1, 1) := by decide +kernel
theorem dX8_asks_92 : decode cX8_asks 92 = .ok (.dup2, 1) := by decide +kernel
theorem dX8_asks_93 : decode cX8_asks 93 = .ok (.iaload, 1) := by decide +kernel
theorem dX8_asks_94 : decode cX8_asks 94 = .ok (.iconst 1, 1) := by decide +kernel
theorem dX8_asks_95 : decode cX8_asks 95 = .ok (.isub, 1) := by decide +kernel
theorem dX8_asks_96 : decode cX8_asks 96 = .ok (.iastore, 1) := by decide +kernel
theorem dX8_asks_97 : decode cX8_asks 97 = .ok (.aload_n 0, 1) := by decide +kernel
theorem dX8_asks_98 : decode cX8_asks 98 = .ok (.getfield 28, 3) := by decide +kernel
theorem dX8_asks_101 : decode cX8_asks 101 = .ok (.getfield 137, 3) := by decide +kernel
theorem dX8_asks_104 : decode cX8_asks 104 = .ok (.iload_n 1, 1) := by decide +kernel
theorem dX8_asks_105 : decode cX8_asks 105 = .ok (.iaload, 1) := by decide +kernel
theorem dX8_asks_106 : decode cX8_asks 106 = .ok (.ireturn, 1) := by decide +kernel
set_option maxRecDepth 20000 in
theorem ggX8_tries_X4_next : GoodIn wsX8_tries wsX4_next := goodIn_r _ [7, 8, 9, 10, 11, 12, 6, 13, 14, 15, 16, 17, 18, 19, 20, 77, 78, 79, 80, 81, 82, 83, 84, 85, 86, 87, 88, 89, 90, 91, 92, 93, 94, 95, 96] (by decide +kernel) (by decide +kernel)
set_option maxRecDepth 20000 in
theorem gX8_tries_X4_next : GoodIn wsX8_tries (wsV RX8 150 RX4 yX4_next wsX4_next) := goodIn_app (goodIn_of _ (by decide +kernel)) ggX8_tries_X4_next
set_option maxRecDepth 20000 in
theorem ggX8_tries_X4_take : GoodIn wsX8_tries wsX4_take := goodIn_r _ [24, 25, 26, 9, 19, 27, 28, 14, 29, 30, 31, 32, 33, 34, 35, 36, 37, 38, 77, 78, 79, 80, 81, 82, 83, 84, 85, 86, 87, 88, 89, 90, 91, 92, 93, 94, 95, 96] (by decide +kernel) (by decide +kernel)
set_option maxRecDepth 20000 in
theorem gX8_tries_X4_take : GoodIn wsX8_tries (wsV RX8 165 RX4 yX4_take wsX4_take) := goodIn_app (goodIn_of _ (by decide +kernel)) ggX8_tries_X4_take
set_option maxRecDepth 20000 in
theorem ggX8_tries_X8_tellTwo : GoodIn wsX8_tries wsX8_tellTwo := goodIn_r _ [43, 44, 45, 65, 66, 67, 68, 69, 70, 71, 72, 73, 74, 75, 76] (by decide +kernel) (by decide +kernel)
set_option maxRecDepth 20000 in
theorem gX8_tries_X8_tellTwo : GoodIn wsX8_tries (wsV RX8 157 RX8 yX8_tellTwo wsX8_tellTwo) := goodIn_app (goodIn_of _ (by decide +kernel)) ggX8_tries_X8_tellTwo
set_option maxRecDepth 20000 in
theorem ggX8_tries_X4_goOn : GoodIn wsX8_tries wsX4_goOn := goodIn_r _ [49, 8, 25, 38, 50, 4, 5, 6, 7, 9, 10, 11, 12, 13, 14, 15, 16, 17, 18, 19, 20, 51, 52, 53, 54, 29, 55, 56, 57, 58, 59, 35, 60, 61, 62, 63, 64, 27, 37, 36, 77, 78, 79, 80, 81, 82, 83, 84, 85, 86, 87, 88, 89, 90, 91, 92, 93, 94, 95, 96] (by decide +kernel) (by decide +kernel)
set_option maxRecDepth 20000 in
theorem gX8_tries_X4_goOn : GoodIn wsX8_tries (wsV RX8 169 RX4 yX4_goOn wsX4_goOn) := goodIn_app (goodIn_of _ (by decide +kernel)) ggX8_tries_X4_goOn
theorem dX8_tries_0 : decode cX8_tries 0 = .ok (.aload_n 0, 1) := by decide +kernel
theorem dX8_tries_1 : decode cX8_tries 1 = .ok (.getfield 28, 3) := by decide +kernel
theorem dX8_tries_4 : decode cX8_tries 4 = .ok (.invokevirtual 150, 3) := by decide +kernel
theorem dX8_tries_7 : decode cX8_tries 7 = .ok (.istore_n 2, 1) := by decide +kernel
theorem dX8_tries_8 : decode cX8_tries 8 = .ok (.iload_n 2, 1) := by decide +kernel
theorem dX8_tries_9 : decode cX8_tries 9 = .ok (.ifCond .ge 6, 3) := by decide +kernel
theorem dX8_tries_12 : decode cX8_tries 12 = .ok (.bipush (-2), 2) := by decide +kernel
theorem dX8_tries_14 : decode cX8_tries 14 = .ok (.ireturn, 1) := by decide +kernel
theorem dX8_tries_15 : decode cX8_tries 15 = .ok (.aload_n 0, 1) := by decide +kernel
theorem dX8_tries_16 : decode cX8_tries 16 = .ok (.getfield 28, 3) := by decide +kernel
theorem dX8_tries_19 : decode cX8_tries 19 = .ok (.getfield 130, 3) := by decide +kernel
theorem dX8_tries_22 : decode cX8_tries 22 = .ok (.iload_n 2, 1) := by decide +kernel
theorem dX8_tries_23 : decode cX8_tries 23 = .ok (.iaload, 1) := by decide +kernel
theorem dX8_tries_24 : decode cX8_tries 24 = .ok (.istore_n 3, 1) := by decide +kernel
theorem dX8_tries_25 : decode cX8_tries 25 = .ok (.aload_n 0, 1) := by decide +kernel
theorem dX8_tries_26 : decode cX8_tries 26 = .ok (.getfield 28, 3) := by decide +kernel
theorem dX8_tries_29 : decode cX8_tries 29 = .ok (.iload_n 2, 1) := by decide +kernel
theorem dX8_tries_30 : decode cX8_tries 30 = .ok (.iload_n 1, 1) := by decide +kernel
theorem dX8_tries_31 : decode cX8_tries 31 = .ok (.invokevirtual 165, 3) := by decide +kernel
theorem dX8_tries_34 : decode cX8_tries 34 = .ok (.aload_n 0, 1) := by decide +kernel
theorem dX8_tries_35 : decode cX8_tries 35 = .ok (.iload_n 3, 1) := by decide +kernel
theorem dX8_tries_36 : decode cX8_tries 36 = .ok (.aload_n 0, 1) := by decide +kernel
theorem dX8_tries_37 : decode cX8_tries 37 = .ok (.getfield 28, 3) := by decide +kernel
theorem dX8_tries_40 : decode cX8_tries 40 = .ok (.getfield 130, 3) := by decide +kernel
theorem dX8_tries_43 : decode cX8_tries 43 = .ok (.iload_n 2, 1) := by decide +kernel
theorem dX8_tries_44 : decode cX8_tries 44 = .ok (.iaload, 1) := by decide +kernel
theorem dX8_tries_45 : decode cX8_tries 45 = .ok (.invokevirtual 157, 3) := by decide +kernel
theorem dX8_tries_48 : decode cX8_tries 48 = .ok (.aload_n 0, 1) := by decide +kernel
theorem dX8_tries_49 : decode cX8_tries 49 = .ok (.getfield 28, 3) := by decide +kernel
theorem dX8_tries_52 : decode cX8_tries 52 = .ok (.invokevirtual 169, 3) := by decide +kernel
theorem dX8_tries_55 : decode cX8_tries 55 = .ok (.iload_n 2, 1) := by decide +kernel
theorem dX8_tries_56 : decode cX8_tries 56 = .ok (.ireturn, 1) := by decide +kernel
theorem dX8_tried_0 : decode cX8_tried 0 = .ok (.iload_n 1, 1) := by decide +kernel
theorem dX8_tried_1 : decode cX8_tried 1 = .ok (.ifCond .lt 23, 3) := by decide +kernel
theorem dX8_tried_4 : decode cX8_tried 4 = .ok (.iload_n 1, 1) := by decide +kernel
theorem dX8_tried_5 : decode cX8_tried 5 = .ok (.aload_n 0, 1) := by decide +kernel
theorem dX8_tried_6 : decode cX8_tried 6 = .ok (.getfield 28, 3) := by decide +kernel
theorem dX8_tried_9 : decode cX8_tried 9 = .ok (.getfield 172, 3) := by decide +kernel
theorem dX8_tried_12 : decode cX8_tried 12 = .ok (.if_icmp .ge 12, 3) := by decide +kernel
theorem dX8_tried_15 : decode cX8_tried 15 = .ok (.iload_n 2, 1) := by decide +kernel
theorem dX8_tried_16 : decode cX8_tried 16 = .ok (.ifCond .lt 8, 3) := by decide +kernel
theorem dX8_tried_19 : decode cX8_tried 19 = .ok (.iload_n 2, 1) := by decide +kernel
theorem dX8_tried_20 : decode cX8_tried 20 = .ok (.iconst 3, 1) := by decide +kernel
theorem dX8_tried_21 : decode cX8_tried 21 = .ok (.if_icmp .le 5, 3) := by decide +kernel
theorem dX8_tried_24 : decode cX8_tried 24 = .ok (.iconst (-1), 1) := by decide +kernel
theorem dX8_tried_25 : decode cX8_tried 25 = .ok (.ireturn, 1) := by decide +kernel
theorem dX8_tried_26 : decode cX8_tried 26 = .ok (.aload_n 0, 1) := by decide +kernel
theorem dX8_tried_27 : decode cX8_tried 27 = .ok (.getfield 28, 3) := by decide +kernel
theorem dX8_tried_30 : decode cX8_tried 30 = .ok (.getfield 175, 3) := by decide +kernel
theorem dX8_tried_33 : decode cX8_tried 33 = .ok (.iload_n 1, 1) := by decide +kernel
theorem dX8_tried_34 : decode cX8_tried 34 = .ok (.iconst 4, 1) := by decide +kernel
theorem dX8_tried_35 : decode cX8_tried 35 = .ok (.imul, 1) := by decide +kernel
theorem dX8_tried_36 : decode cX8_tried 36 = .ok (.iload_n 2, 1) := by decide +kernel
theorem dX8_tried_37 : decode cX8_tried 37 = .ok (.iadd, 1) := by decide +kernel
theorem dX8_tried_38 : decode cX8_tried 38 = .ok (.iaload, 1) := by decide +kernel
theorem dX8_tried_39 : decode cX8_tried 39 = .ok (.ireturn, 1) := by decide +kernel
set_option maxRecDepth 20000 in
theorem ggX8_place_X8_isLifter : GoodIn wsX8_place wsX8_isLifter := goodIn_r _ [6, 1, 7, 38, 39, 40, 41, 42, 43, 44, 45, 46, 47, 48, 49, 50, 51, 52, 53, 54, 55, 56, 57, 58, 59, 60, 61, 62, 63, 64, 65] (by decide +kernel) (by decide +kernel)
set_option maxRecDepth 20000 in
theorem gX8_place_X8_isLifter : GoodIn wsX8_place (wsV RX8 97 RX8 yX8_isLifter wsX8_isLifter) := goodIn_app (goodIn_of _ (by decide +kernel)) ggX8_place_X8_isLifter
set_option maxRecDepth 20000 in
theorem ggX8_place_X8_tellPlaces : GoodIn wsX8_place wsX8_tellPlaces := goodIn_r _ [11, 1, 7, 12, 13, 14, 15, 16, 17, 18, 19, 20, 21, 22, 23, 24, 25, 26, 27, 28, 29, 30, 31, 32, 33, 34, 35, 36, 37, 38, 39, 40, 41, 42, 43, 44, 45, 46, 47, 48, 49, 50, 51, 52, 53, 54, 55, 56, 57, 58, 59, 60, 61, 62, 63, 64, 65, 66, 67, 68, 69] (by decide +kernel) (by decide +kernel)
set_option maxRecDepth 20000 in
theorem gX8_place_X8_tellPlaces : GoodIn wsX8_place (wsV RX8 178 RX8 yX8_tellPlaces wsX8_tellPlaces) := goodIn_app (goodIn_of _ (by decide +kernel)) ggX8_place_X8_tellPlaces
set_option maxRecDepth 20000 in
theorem ggX8_place_X4_placeOf : GoodIn wsX8_place wsX4_placeOf := goodIn_r _ [18, 19, 20, 21, 22, 17, 23, 24, 25, 26, 27, 28, 29, 30, 31, 32, 33, 34, 35, 36, 37, 50, 51, 52, 53, 54, 55, 56, 57, 58, 59, 60, 61, 62, 63, 64, 65, 66, 67, 68, 69] (by decide +kernel) (by decide +kernel)
set_option maxRecDepth 20000 in
theorem gX8_place_X4_placeOf : GoodIn wsX8_place (wsV RX8 181 RX4 yX4_placeOf wsX4_placeOf) := goodIn_app (goodIn_of _ (by decide +kernel)) ggX8_place_X4_placeOf
theorem dX8_place_0 : decode cX8_place 0 = .ok (.aload_n 0, 1) := by decide +kernel
theorem dX8_place_1 : decode cX8_place 1 = .ok (.iload_n 1, 1) := by decide +kernel
theorem dX8_place_2 : decode cX8_place 2 = .ok (.invokevirtual 97, 3) := by decide +kernel
theorem dX8_place_5 : decode cX8_place 5 = .ok (.ifCond .ne 5, 3) := by decide +kernel
theorem dX8_place_8 : decode cX8_place 8 = .ok (.iconst (-1), 1) := by decide +kernel
theorem dX8_place_9 : decode cX8_place 9 = .ok (.ireturn, 1) := by decide +kernel
theorem dX8_place_10 : decode cX8_place 10 = .ok (.aload_n 0, 1) := by decide +kernel
theorem dX8_place_11 : decode cX8_place 11 = .ok (.invokevirtual 178, 3) := by decide +kernel
theorem dX8_place_14 : decode cX8_place 14 = .ok (.aload_n 0, 1) := by decide +kernel
theorem dX8_place_15 : decode cX8_place 15 = .ok (.getfield 28, 3) := by decide +kernel
theorem dX8_place_18 : decode cX8_place 18 = .ok (.iload_n 1, 1) := by decide +kernel
theorem dX8_place_19 : decode cX8_place 19 = .ok (.invokevirtual 181, 3) := by decide +kernel
theorem dX8_place_22 : decode cX8_place 22 = .ok (.ireturn, 1) := by decide +kernel
set_option maxRecDepth 20000 in
theorem ggX8_slot_X8_isLifter : GoodIn wsX8_slot wsX8_isLifter := goodIn_r _ [6, 1, 7, 33, 34, 35, 36, 37, 38, 39, 40, 41, 42, 43, 44, 45, 46, 47, 48, 49, 50, 51, 52, 53, 54, 55, 56, 57, 58, 59, 60] (by decide +kernel) (by decide +kernel)
set_option maxRecDepth 20000 in
theorem gX8_slot_X8_isLifter : GoodIn wsX8_slot (wsV RX8 97 RX8 yX8_isLifter wsX8_isLifter) := goodIn_app (goodIn_of _ (by decide +kernel)) ggX8_slot_X8_isLifter
set_option maxRecDepth 20000 in
theorem ggX8_slot_X4_waits : GoodIn wsX8_slot wsX4_waits := goodIn_r _ [12, 13, 14, 45, 46, 47, 48, 49, 50, 51, 52, 53, 54, 55, 56, 57, 58, 59, 60] (by decide +kernel) (by decide +kernel)
set_option maxRecDepth 20000 in
theorem gX8_slot_X4_waits : GoodIn wsX8_slot (wsV RX8 140 RX4 yX4_waits wsX4_waits) := goodIn_app (goodIn_of _ (by decide +kernel)) ggX8_slot_X4_waits
set_option maxRecDepth 20000 in
theorem ggX8_slot_X4_leastOf : GoodIn wsX8_slot wsX4_leastOf := goodIn_r _ [18, 13, 14, 19, 20, 21, 22, 23, 24, 45, 46, 47, 48, 49, 50, 51, 52, 53, 54, 55, 56, 57, 58, 59, 60] (by decide +kernel) (by decide +kernel)
set_option maxRecDepth 20000 in
theorem gX8_slot_X4_leastOf : GoodIn wsX8_slot (wsV RX8 133 RX4 yX4_leastOf wsX4_leastOf) := goodIn_app (goodIn_of _ (by decide +kernel)) ggX8_slot_X4_leastOf
set_option maxRecDepth 20000 in
theorem ggX8_slot_X4_sooner : GoodIn wsX8_slot wsX4_sooner := goodIn_r _ [28, 29, 13, 30, 31, 32, 9, 10, 11, 12, 14, 45, 46, 47, 48, 49, 50, 51, 52, 53, 54, 55, 56, 57, 58, 59, 60, 61, 62, 63, 64] (by decide +kernel) (by decide +kernel)
set_option maxRecDepth 20000 in
theorem gX8_slot_X4_sooner : GoodIn wsX8_slot (wsV RX8 161 RX4 yX4_sooner wsX4_sooner) := goodIn_app (goodIn_of _ (by decide +kernel)) ggX8_slot_X4_sooner
theorem dX8_slot_0 : decode cX8_slot 0 = .ok (.aload_n 0, 1) := by decide +kernel
theorem dX8_slot_1 : decode cX8_slot 1 = .ok (.iload_n 1, 1) := by decide +kernel
theorem dX8_slot_2 : decode cX8_slot 2 = .ok (.invokevirtual 97, 3) := by decide +kernel
theorem dX8_slot_5 : decode cX8_slot 5 = .ok (.ifCond .eq 7, 3) := by decide +kernel
theorem dX8_slot_8 : decode cX8_slot 8 = .ok (.iload_n 2, 1) := by decide +kernel
theorem dX8_slot_9 : decode cX8_slot 9 = .ok (.ifCond .ge 5, 3) := by decide +kernel
theorem dX8_slot_12 : decode cX8_slot 12 = .ok (.iconst (-1), 1) := by decide +kernel
theorem dX8_slot_13 : decode cX8_slot 13 = .ok (.ireturn, 1) := by decide +kernel
theorem dX8_slot_14 : decode cX8_slot 14 = .ok (.aload_n 0, 1) := by decide +kernel
theorem dX8_slot_15 : decode cX8_slot 15 = .ok (.getfield 28, 3) := by decide +kernel
theorem dX8_slot_18 : decode cX8_slot 18 = .ok (.iload_n 1, 1) := by decide +kernel
theorem dX8_slot_19 : decode cX8_slot 19 = .ok (.invokevirtual 140, 3) := by decide +kernel
theorem dX8_slot_22 : decode cX8_slot 22 = .ok (.ifCond .ne 6, 3) := by decide +kernel
theorem dX8_slot_25 : decode cX8_slot 25 = .ok (.bipush (-2), 2) := by decide +kernel
theorem dX8_slot_27 : decode cX8_slot 27 = .ok (.ireturn, 1) := by decide +kernel
theorem dX8_slot_28 : decode cX8_slot 28 = .ok (.aload_n 0, 1) := by decide +kernel
theorem dX8_slot_29 : decode cX8_slot 29 = .ok (.getfield 28, 3) := by decide +kernel
theorem dX8_slot_32 : decode cX8_slot 32 = .ok (.iload_n 1, 1) := by decide +kernel
theorem dX8_slot_33 : decode cX8_slot 33 = .ok (.invokevirtual 133, 3) := by decide +kernel
theorem dX8_slot_36 : decode cX8_slot 36 = .ok (.istore_n 3, 1) := by decide +kernel
theorem dX8_slot_37 : decode cX8_slot 37 = .ok (.iload_n 3, 1) := by decide +kernel
theorem dX8_slot_38 : decode cX8_slot 38 = .ok (.bipush 40, 2) := by decide +kernel
theorem dX8_slot_40 : decode cX8_slot 40 = .ok (.if_icmp .gt 24, 3) := by decide +kernel
theorem dX8_slot_43 : decode cX8_slot 43 = .ok (.aload_n 0, 1) := by decide +kernel
theorem dX8_slot_44 : decode cX8_slot 44 = .ok (.getfield 28, 3) := by decide +kernel
theorem dX8_slot_47 : decode cX8_slot 47 = .ok (.iload_n 1, 1) := by decide +kernel
theorem dX8_slot_48 : decode cX8_slot 48 = .ok (.iload_n 3, 1) := by decide +kernel
theorem dX8_slot_49 : decode cX8_slot 49 = .ok (.invokevirtual 161, 3) := by decide +kernel
theorem dX8_slot_52 : decode cX8_slot 52 = .ok (.iload_n 2, 1) := by decide +kernel
theorem dX8_slot_53 : decode cX8_slot 53 = .ok (.if_icmp .ne 5, 3) := by decide +kernel
theorem dX8_slot_56 : decode cX8_slot 56 = .ok (.iload_n 3, 1) := by decide +kernel
theorem dX8_slot_57 : decode cX8_slot 57 = .ok (.ireturn, 1) := by decide +kernel
theorem dX8_slot_58 : decode cX8_slot 58 = .ok (.iinc 3 1, 3) := by decide +kernel
theorem dX8_slot_61 : decode cX8_slot 61 = .ok (.goto (-24), 3) := by decide +kernel
theorem dX8_slot_64 : decode cX8_slot 64 = .ok (.bipush (-3), 2) := by decide +kernel
theorem dX8_slot_66 : decode cX8_slot 66 = .ok (.ireturn, 1) := by decide +kernel
set_option maxRecDepth 20000 in
theorem ggX8_needs_X8_isLifter : GoodIn wsX8_needs wsX8_isLifter := goodIn_r _ [7, 1, 8, 45, 46, 47, 48, 49, 50, 51, 52, 53, 54, 55, 56, 57, 58, 59, 60, 61, 62, 63, 64, 65, 66, 67, 68, 69, 70, 71, 72] (by decide +kernel) (by decide +kernel)
set_option maxRecDepth 20000 in
theorem gX8_needs_X8_isLifter : GoodIn wsX8_needs (wsV RX8 97 RX8 yX8_isLifter wsX8_isLifter) := goodIn_app (goodIn_of _ (by decide +kernel)) ggX8_needs_X8_isLifter
set_option maxRecDepth 20000 in
theorem ggX8_needs_X4_isAhead : GoodIn wsX8_needs wsX4_isAhead := goodIn_r _ [13, 14, 15, 16, 17, 18, 12, 19, 20, 21, 22, 23, 24, 25, 26, 27, 57, 58, 59, 60, 61, 62, 63, 64, 65, 66, 67, 68, 69, 70, 71, 72, 73, 74, 75, 76] (by decide +kernel) (by decide +kernel)
set_option maxRecDepth 20000 in
theorem gX8_needs_X4_isAhead : GoodIn wsX8_needs (wsV RX8 184 RX4 yX4_isAhead wsX4_isAhead) := goodIn_app (goodIn_of _ (by decide +kernel)) ggX8_needs_X4_isAhead
set_option maxRecDepth 20000 in
theorem ggX8_needs_X4_leastOf : GoodIn wsX8_needs wsX4_leastOf := goodIn_r _ [31, 32, 33, 34, 35, 36, 37, 38, 39, 57, 58, 59, 60, 61, 62, 63, 64, 65, 66, 67, 68, 69, 70, 71, 72] (by decide +kernel) (by decide +kernel)
set_option maxRecDepth 20000 in
theorem gX8_needs_X4_leastOf : GoodIn wsX8_needs (wsV RX8 133 RX4 yX4_leastOf wsX4_leastOf) := goodIn_app (goodIn_of _ (by decide +kernel)) ggX8_needs_X4_leastOf
set_option maxRecDepth 20000 in
theorem ggX8_needs_X4_wouldLead : GoodIn wsX8_needs wsX4_wouldLead := goodIn_r _ [43, 44, 20, 36, 37, 38, 39, 15, 16, 17, 18, 12, 19, 14, 21, 22, 23, 24, 25, 26, 27, 57, 58, 59, 60, 61, 62, 63, 64, 65, 66, 67, 68, 69, 70, 71, 72, 73, 74, 75, 76] (by decide +kernel) (by decide +kernel)
set_option maxRecDepth 20000 in
theorem gX8_needs_X4_wouldLead : GoodIn wsX8_needs (wsV RX8 187 RX4 yX4_wouldLead wsX4_wouldLead) := goodIn_app (goodIn_of _ (by decide +kernel)) ggX8_needs_X4_wouldLead
theorem dX8_needs_0 : decode cX8_needs 0 = .ok (.aload_n 0, 1) := by decide +kernel
theorem dX8_needs_1 : decode cX8_needs 1 = .ok (.iload_n 1, 1) := by decide +kernel
theorem dX8_needs_2 : decode cX8_needs 2 = .ok (.invokevirtual 97, 3) := by decide +kernel
theorem dX8_needs_5 : decode cX8_needs 5 = .ok (.ifCond .eq 16, 3) := by decide +kernel
theorem dX8_needs_8 : decode cX8_needs 8 = .ok (.aload_n 0, 1) := by decide +kernel
theorem dX8_needs_9 : decode cX8_needs 9 = .ok (.iload_n 2, 1) := by decide +kernel
theorem dX8_needs_10 : decode cX8_needs 10 = .ok (.invokevirtual 97, 3) := by decide +kernel
theorem dX8_needs_13 : decode cX8_needs 13 = .ok (.ifCond .eq 8, 3) := by decide +kernel
theorem dX8_needs_16 : decode cX8_needs 16 = .ok (.iload_n 1, 1) := by decide +kernel
theorem dX8_needs_17 : decode cX8_needs 17 = .ok (.iload_n 2, 1) := by decide +kernel
theorem dX8_needs_18 : decode cX8_needs 18 = .ok (.if_icmp .ne 5, 3) := by decide +kernel
theorem dX8_needs_21 : decode cX8_needs 21 = .ok (.iconst (-1), 1) := by decide +kernel
theorem dX8_needs_22 : decode cX8_needs 22 = .ok (.ireturn, 1) := by decide +kernel
theorem dX8_needs_23 : decode cX8_needs 23 = .ok (.aload_n 0, 1) := by decide +kernel
theorem dX8_needs_24 : decode cX8_needs 24 = .ok (.getfield 28, 3) := by decide +kernel
theorem dX8_needs_27 : decode cX8_needs 27 = .ok (.iload_n 1, 1) := by decide +kernel
theorem dX8_needs_28 : decode cX8_needs 28 = .ok (.iload_n 2, 1) := by decide +kernel
theorem dX8_needs_29 : decode cX8_needs 29 = .ok (.invokevirtual 184, 3) := by decide +kernel
theorem dX8_needs_32 : decode cX8_needs 32 = .ok (.ifCond .eq 5, 3) := by decide +kernel
theorem dX8_needs_35 : decode cX8_needs 35 = .ok (.iconst 0, 1) := by decide +kernel
theorem dX8_needs_36 : decode cX8_needs 36 = .ok (.ireturn, 1) := by decide +kernel
theorem dX8_needs_37 : decode cX8_needs 37 = .ok (.aload_n 0, 1) := by decide +kernel
theorem dX8_needs_38 : decode cX8_needs 38 = .ok (.getfield 28, 3) := by decide +kernel
theorem dX8_needs_41 : decode cX8_needs 41 = .ok (.getfield 130, 3) := by decide +kernel
theorem dX8_needs_44 : decode cX8_needs 44 = .ok (.iload_n 1, 1) := by decide +kernel
theorem dX8_needs_45 : decode cX8_needs 45 = .ok (.iaload, 1) := by decide +kernel
theorem dX8_needs_46 : decode cX8_needs 46 = .ok (.ifCond .ne 6, 3) := by decide +kernel
theorem dX8_needs_49 : decode cX8_needs 49 = .ok (.bipush (-2), 2) := by decide +kernel
theorem dX8_needs_51 : decode cX8_needs 51 = .ok (.ireturn, 1) := by decide +kernel
theorem dX8_needs_52 : decode cX8_needs 52 = .ok (.aload_n 0, 1) := by decide +kernel
theorem dX8_needs_53 : decode cX8_needs 53 = .ok (.getfield 28, 3) := by decide +kernel
theorem dX8_needs_56 : decode cX8_needs 56 = .ok (.iload_n 1, 1) := by decide +kernel
theorem dX8_needs_57 : decode cX8_needs 57 = .ok (.invokevirtual 133, 3) := by decide +kernel
theorem dX8_needs_60 : decode cX8_needs 60 = .ok (.istore_n 3, 1) := by decide +kernel
theorem dX8_needs_61 : decode cX8_needs 61 = .ok (.iload_n 3, 1) := by decide +kernel
theorem dX8_needs_62 : decode cX8_needs 62 = .ok (.bipush 40, 2) := by decide +kernel
theorem dX8_needs_64 : decode cX8_needs 64 = .ok (.if_icmp .gt 24, 3) := by decide +kernel
theorem dX8_needs_67 : decode cX8_needs 67 = .ok (.aload_n 0, 1) := by decide +kernel
theorem dX8_needs_68 : decode cX8_needs 68 = .ok (.getfield 28, 3) := by decide +kernel
theorem dX8_needs_71 : decode cX8_needs 71 = .ok (.iload_n 1, 1) := by decide +kernel
theorem dX8_needs_72 : decode cX8_needs 72 = .ok (.iload_n 3, 1) := by decide +kernel
theorem dX8_needs_73 : decode cX8_needs 73 = .ok (.iload_n 2, 1) := by decide +kernel
theorem dX8_needs_74 : decode cX8_needs 74 = .ok (.invokevirtual 187, 3) := by decide +kernel
theorem dX8_needs_77 : decode cX8_needs 77 = .ok (.ifCond .eq 5, 3) := by decide +kernel
theorem dX8_needs_80 : decode cX8_needs 80 = .ok (.iload_n 3, 1) := by decide +kernel
theorem dX8_needs_81 : decode cX8_needs 81 = .ok (.ireturn, 1) := by decide +kernel
theorem dX8_needs_82 : decode cX8_needs 82 = .ok (.iinc 3 1, 3) := by decide +kernel
theorem dX8_needs_85 : decode cX8_needs 85 = .ok (.goto (-24), 3) := by decide +kernel
theorem dX8_needs_88 : decode cX8_needs 88 = .ok (.bipush (-3), 2) := by decide +kernel
theorem dX8_needs_90 : decode cX8_needs 90 = .ok (.ireturn, 1) := by decide +kernel
set_option maxRecDepth 20000 in
theorem ggX8_mass_X8_isLifter : GoodIn wsX8_mass wsX8_isLifter := goodIn_r _ [6, 7, 8, 108, 109, 110, 111, 112, 113, 114, 115, 116, 117, 118, 119, 120, 121, 122, 123, 124, 125, 126, 127, 128, 129, 130, 131, 132, 133, 134, 135] (by decide +kernel) (by decide +kernel)
set_option maxRecDepth 20000 in
theorem gX8_mass_X8_isLifter : GoodIn wsX8_mass (wsV RX8 97 RX8 yX8_isLifter wsX8_isLifter) := goodIn_app (goodIn_of _ (by decide +kernel)) ggX8_mass_X8_isLifter
set_option maxRecDepth 20000 in
theorem ggX8_mass_X0_beMass : GoodIn wsX8_mass wsX0_beMass := goodIn_r _ [13, 14, 15, 136, 137] (by decide +kernel) (by decide +kernel)
set_option maxRecDepth 20000 in
theorem gX8_mass_X0_beMass : GoodIn wsX8_mass (wsV RX8 191 RX0 yX0_beMass wsX0_beMass) := goodIn_app (goodIn_of _ (by decide +kernel)) ggX8_mass_X0_beMass
set_option maxRecDepth 20000 in
theorem ggX8_mass_X8_byPlan : GoodIn wsX8_mass wsX8_byPlan := goodIn_r _ [19, 20, 21, 7, 22, 1, 23, 24, 25, 26, 27, 28, 29, 30, 31, 32, 33, 34, 35, 36, 37, 38, 39, 40, 41, 42, 43, 44, 45, 46, 47, 48, 49, 50, 51, 52, 53, 54, 55, 56, 57, 58, 59, 60, 61, 62, 63, 64, 65, 66, 67, 68, 69, 70, 71, 72, 73, 74, 75, 76, 77, 78, 79, 80, 81, 82, 83, 84, 85, 86, 87, 88, 89, 90, 91, 92, 93, 94, 95, 96, 97, 98, 99, 100, 101, 102, 103, 104, 105, 106, 5, 107, 108, 109, 110, 111, 112, 113, 114, 115, 116, 117, 118, 119, 120, 121, 122, 123, 124, 125, 126, 127, 128, 129, 130, 131, 132, 133, 134, 135, 138, 139, 140, 141, 142, 143, 144, 145, 146, 147, 148, 149, 136, 137, 150, 151, 152, 153] (by decide +kernel) (by decide +kernel)
set_option maxRecDepth 20000 in
theorem gX8_mass_X8_byPlan : GoodIn wsX8_mass (wsV RX8 194 RX8 yX8_byPlan wsX8_byPlan) := goodIn_app (goodIn_of _ (by decide +kernel)) ggX8_mass_X8_byPlan
theorem dX8_mass_0 : decode cX8_mass 0 = .ok (.aload_n 0, 1) := by decide +kernel
theorem dX8_mass_1 : decode cX8_mass 1 = .ok (.iload_n 1, 1) := by decide +kernel
theorem dX8_mass_2 : decode cX8_mass 2 = .ok (.invokevirtual 97, 3) := by decide +kernel
theorem dX8_mass_5 : decode cX8_mass 5 = .ok (.ifCond .ne 5, 3) := by decide +kernel
theorem dX8_mass_8 : decode cX8_mass 8 = .ok (.iconst (-1), 1) := by decide +kernel
theorem dX8_mass_9 : decode cX8_mass 9 = .ok (.ireturn, 1) := by decide +kernel
theorem dX8_mass_10 : decode cX8_mass 10 = .ok (.aload_n 0, 1) := by decide +kernel
theorem dX8_mass_11 : decode cX8_mass 11 = .ok (.getfield 45, 3) := by decide +kernel
theorem dX8_mass_14 : decode cX8_mass 14 = .ok (.invokevirtual 191, 3) := by decide +kernel
theorem dX8_mass_17 : decode cX8_mass 17 = .ok (.aload_n 0, 1) := by decide +kernel
theorem dX8_mass_18 : decode cX8_mass 18 = .ok (.iload_n 1, 1) := by decide +kernel
theorem dX8_mass_19 : decode cX8_mass 19 = .ok (.invokevirtual 194, 3) := by decide +kernel
theorem dX8_mass_22 : decode cX8_mass 22 = .ok (.ireturn, 1) := by decide +kernel
set_option maxRecDepth 20000 in
theorem ggX8_chance_X8_isLifter : GoodIn wsX8_chance wsX8_isLifter := goodIn_r _ [6, 7, 8, 112, 113, 114, 115, 116, 117, 118, 119, 120, 121, 122, 123, 124, 125, 126, 127, 128, 129, 130, 131, 132, 133, 134, 135, 136, 137, 138, 139] (by decide +kernel) (by decide +kernel)
set_option maxRecDepth 20000 in
theorem gX8_chance_X8_isLifter : GoodIn wsX8_chance (wsV RX8 97 RX8 yX8_isLifter wsX8_isLifter) := goodIn_app (goodIn_of _ (by decide +kernel)) ggX8_chance_X8_isLifter
set_option maxRecDepth 20000 in
theorem ggX8_chance_X8_isAimed : GoodIn wsX8_chance wsX8_isAimed := goodIn_r _ [11] (by decide +kernel) (by decide +kernel)
set_option maxRecDepth 20000 in
theorem gX8_chance_X8_isAimed : GoodIn wsX8_chance (va_wsS RX8 197 yX8_isAimed wsX8_isAimed) := goodIn_app (goodIn_of _ (by decide +kernel)) ggX8_chance_X8_isAimed
set_option maxRecDepth 20000 in
theorem ggX8_chance_X0_beReach : GoodIn wsX8_chance wsX0_beReach := goodIn_r _ [16, 17, 18, 19, 140, 141] (by decide +kernel) (by decide +kernel)
set_option maxRecDepth 20000 in
theorem gX8_chance_X0_beReach : GoodIn wsX8_chance (wsV RX8 200 RX0 yX0_beReach wsX0_beReach) := goodIn_app (goodIn_of _ (by decide +kernel)) ggX8_chance_X0_beReach
set_option maxRecDepth 20000 in
theorem ggX8_chance_X8_byPlan : GoodIn wsX8_chance wsX8_byPlan := goodIn_r _ [23, 24, 25, 7, 26, 1, 27, 28, 29, 30, 31, 32, 33, 34, 35, 36, 37, 38, 39, 40, 41, 42, 43, 44, 45, 46, 47, 48, 49, 50, 51, 52, 53, 54, 55, 56, 57, 58, 59, 60, 61, 62, 63, 64, 65, 66, 67, 68, 69, 70, 71, 72, 73, 74, 75, 76, 77, 78, 79, 80, 81, 82, 83, 84, 85, 86, 87, 88, 89, 90, 91, 92, 93, 94, 95, 96, 97, 98, 99, 100, 101, 102, 103, 104, 105, 106, 107, 108, 109, 110, 5, 111, 112, 113, 114, 115, 116, 117, 118, 119, 120, 121, 122, 123, 124, 125, 126, 127, 128, 129, 130, 131, 132, 133, 134, 135, 136, 137, 138, 139, 142, 143, 144, 145, 146, 147, 148, 149, 150, 151, 152, 153, 140, 141, 154, 155, 156, 157] (by decide +kernel) (by decide +kernel)
set_option maxRecDepth 20000 in
theorem gX8_chance_X8_byPlan : GoodIn wsX8_chance (wsV RX8 194 RX8 yX8_byPlan wsX8_byPlan) := goodIn_app (goodIn_of _ (by decide +kernel)) ggX8_chance_X8_byPlan
