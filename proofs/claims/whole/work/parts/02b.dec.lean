theorem dX2_init_30 : decode cX2_init 30 = .ok (.putfield 23, 3) := by decide +kernel
theorem dX2_init_33 : decode cX2_init 33 = .ok (.aload_n 0, 1) := by decide +kernel
theorem dX2_init_34 : decode cX2_init 34 = .ok (.iconst 4, 1) := by decide +kernel
theorem dX2_init_35 : decode cX2_init 35 = .ok (.sipush 242, 3) := by decide +kernel
theorem dX2_init_38 : decode cX2_init 38 = .ok (.multianewarray 18 2, 4) := by decide +kernel
theorem dX2_init_42 : decode cX2_init 42 = .ok (.putfield 27, 3) := by decide +kernel
theorem dX2_init_45 : decode cX2_init 45 = .ok (.aload_n 0, 1) := by decide +kernel
theorem dX2_init_46 : decode cX2_init 46 = .ok (.iconst 0, 1) := by decide +kernel
theorem dX2_init_47 : decode cX2_init 47 = .ok (.putfield 30, 3) := by decide +kernel
theorem dX2_init_50 : decode cX2_init 50 = .ok (.aload_n 0, 1) := by decide +kernel
theorem dX2_init_51 : decode cX2_init 51 = .ok (.iconst 0, 1) := by decide +kernel
theorem dX2_init_52 : decode cX2_init 52 = .ok (.putfield 33, 3) := by decide +kernel
theorem dX2_init_55 : decode cX2_init 55 = .ok (.aload_n 0, 1) := by decide +kernel
theorem dX2_init_56 : decode cX2_init 56 = .ok (.bipush 42, 2) := by decide +kernel
theorem dX2_init_58 : decode cX2_init 58 = .ok (.newarray .int, 2) := by decide +kernel
theorem dX2_init_60 : decode cX2_init 60 = .ok (.putfield 36, 3) := by decide +kernel
theorem dX2_init_63 : decode cX2_init 63 = .ok (.aload_n 0, 1) := by decide +kernel
theorem dX2_init_64 : decode cX2_init 64 = .ok (.sipush 1764, 3) := by decide +kernel
theorem dX2_init_67 : decode cX2_init 67 = .ok (.newarray .int, 2) := by decide +kernel
theorem dX2_init_69 : decode cX2_init 69 = .ok (.putfield 39, 3) := by decide +kernel
theorem dX2_init_72 : decode cX2_init 72 = .ok (.aload_n 0, 1) := by decide +kernel
theorem dX2_init_73 : decode cX2_init 73 = .ok (.bipush 42, 2) := by decide +kernel
theorem dX2_init_75 : decode cX2_init 75 = .ok (.newarray .int, 2) := by decide +kernel
theorem dX2_init_77 : decode cX2_init 77 = .ok (.putfield 42, 3) := by decide +kernel
theorem dX2_init_80 : decode cX2_init 80 = .ok (.aload_n 0, 1) := by decide +kernel
theorem dX2_init_81 : decode cX2_init 81 = .ok (.bipush 42, 2) := by decide +kernel
theorem dX2_init_83 : decode cX2_init 83 = .ok (.newarray .int, 2) := by decide +kernel
theorem dX2_init_85 : decode cX2_init 85 = .ok (.putfield 45, 3) := by decide +kernel
theorem dX2_init_88 : decode cX2_init 88 = .ok (.aload_n 0, 1) := by decide +kernel
theorem dX2_init_89 : decode cX2_init 89 = .ok (.bipush 42, 2) := by decide +kernel
theorem dX2_init_91 : decode cX2_init 91 = .ok (.newarray .int, 2) := by decide +kernel
theorem dX2_init_93 : decode cX2_init 93 = .ok (.putfield 48, 3) := by decide +kernel
theorem dX2_init_96 : decode cX2_init 96 = .ok (.return_, 1) := by decide +kernel
set_option maxRecDepth 20000 in
theorem ggX2_prepare_X3_oddsOf : GoodIn wsX2_prepare wsX3_oddsOf := goodIn_r _ [15, 16, 17, 18, 19, 20, 39, 40, 41, 42] (by decide +kernel) (by decide +kernel)
set_option maxRecDepth 20000 in
theorem gX2_prepare_X3_oddsOf : GoodIn wsX2_prepare (wsV RX2 54 RX3 yX3_oddsOf wsX3_oddsOf) := goodIn_app (goodIn_of _ (by decide +kernel)) ggX2_prepare_X3_oddsOf
set_option maxRecDepth 20000 in
theorem ggX2_prepare_J7_fill_53178 : GoodIn wsX2_prepare wsJ7_fill_53178 := goodIn_r _ [24] (by decide +kernel) (by decide +kernel)
set_option maxRecDepth 20000 in
theorem gX2_prepare_J7_fill_53178 : GoodIn wsX2_prepare (va_wsS RX2 60 yJ7_fill_53178 wsJ7_fill_53178) := goodIn_app (goodIn_of _ (by decide +kernel)) ggX2_prepare_J7_fill_53178
theorem dX2_prepare_0 : decode cX2_prepare 0 = .ok (.aload_n 0, 1) := by decide +kernel
theorem dX2_prepare_1 : decode cX2_prepare 1 = .ok (.aload_n 3, 1) := by decide +kernel
theorem dX2_prepare_2 : decode cX2_prepare 2 = .ok (.getfield 51, 3) := by decide +kernel
theorem dX2_prepare_5 : decode cX2_prepare 5 = .ok (.putfield 15, 3) := by decide +kernel
theorem dX2_prepare_8 : decode cX2_prepare 8 = .ok (.iconst 0, 1) := by decide +kernel
theorem dX2_prepare_9 : decode cX2_prepare 9 = .ok (.istore 4, 2) := by decide +kernel
theorem dX2_prepare_11 : decode cX2_prepare 11 = .ok (.iload 4, 2) := by decide +kernel
theorem dX2_prepare_13 : decode cX2_prepare 13 = .ok (.iconst 3, 1) := by decide +kernel
theorem dX2_prepare_14 : decode cX2_prepare 14 = .ok (.if_icmp .ge 110, 3) := by decide +kernel
theorem dX2_prepare_17 : decode cX2_prepare 17 = .ok (.aload_n 0, 1) := by decide +kernel
theorem dX2_prepare_18 : decode cX2_prepare 18 = .ok (.getfield 23, 3) := by decide +kernel
theorem dX2_prepare_21 : decode cX2_prepare 21 = .ok (.iload 4, 2) := by decide +kernel
theorem dX2_prepare_23 : decode cX2_prepare 23 = .ok (.iconst 0, 1) := by decide +kernel
theorem dX2_prepare_24 : decode cX2_prepare 24 = .ok (.iastore, 1) := by decide +kernel
theorem dX2_prepare_25 : decode cX2_prepare 25 = .ok (.iconst 1, 1) := by decide +kernel
theorem dX2_prepare_26 : decode cX2_prepare 26 = .ok (.istore 5, 2) := by decide +kernel
theorem dX2_prepare_28 : decode cX2_prepare 28 = .ok (.iload 5, 2) := by decide +kernel
theorem dX2_prepare_30 : decode cX2_prepare 30 = .ok (.bipush 40, 2) := by decide +kernel
theorem dX2_prepare_32 : decode cX2_prepare 32 = .ok (.if_icmp .gt 75, 3) := by decide +kernel
theorem dX2_prepare_35 : decode cX2_prepare 35 = .ok (.iconst 0, 1) := by decide +kernel
theorem dX2_prepare_36 : decode cX2_prepare 36 = .ok (.istore 6, 2) := by decide +kernel
theorem dX2_prepare_38 : decode cX2_prepare 38 = .ok (.iload 6, 2) := by decide +kernel
theorem dX2_prepare_40 : decode cX2_prepare 40 = .ok (.iconst 3, 1) := by decide +kernel
theorem dX2_prepare_41 : decode cX2_prepare 41 = .ok (.if_icmp .ge 36, 3) := by decide +kernel
theorem dX2_prepare_44 : decode cX2_prepare 44 = .ok (.aload_n 0, 1) := by decide +kernel
theorem dX2_prepare_45 : decode cX2_prepare 45 = .ok (.getfield 20, 3) := by decide +kernel
theorem dX2_prepare_48 : decode cX2_prepare 48 = .ok (.iload 4, 2) := by decide +kernel
theorem dX2_prepare_50 : decode cX2_prepare 50 = .ok (.iconst 3, 1) := by decide +kernel
theorem dX2_prepare_51 : decode cX2_prepare 51 = .ok (.imul, 1) := by decide +kernel
theorem dX2_prepare_52 : decode cX2_prepare 52 = .ok (.iload 6, 2) := by decide +kernel
theorem dX2_prepare_54 : decode cX2_prepare 54 = .ok (.iadd, 1) := by decide +kernel
theorem dX2_prepare_55 : decode cX2_prepare 55 = .ok (.aaload, 1) := by decide +kernel
theorem dX2_prepare_56 : decode cX2_prepare 56 = .ok (.iload 5, 2) := by decide +kernel
theorem dX2_prepare_58 : decode cX2_prepare 58 = .ok (.aload_n 1, 1) := by decide +kernel
theorem dX2_prepare_59 : decode cX2_prepare 59 = .ok (.iload 4, 2) := by decide +kernel
theorem dX2_prepare_61 : decode cX2_prepare 61 = .ok (.iload 5, 2) := by decide +kernel
theorem dX2_prepare_63 : decode cX2_prepare 63 = .ok (.iload 6, 2) := by decide +kernel
theorem dX2_prepare_65 : decode cX2_prepare 65 = .ok (.iload_n 2, 1) := by decide +kernel
theorem dX2_prepare_66 : decode cX2_prepare 66 = .ok (.imul, 1) := by decide +kernel
theorem dX2_prepare_67 : decode cX2_prepare 67 = .ok (.invokevirtual 54, 3) := by decide +kernel
theorem dX2_prepare_70 : decode cX2_prepare 70 = .ok (.iastore, 1) := by decide +kernel
theorem dX2_prepare_71 : decode cX2_prepare 71 = .ok (.iinc 6 1, 3) := by decide +kernel
theorem dX2_prepare_74 : decode cX2_prepare 74 = .ok (.goto (-36), 3) := by decide +kernel
theorem dX2_prepare_77 : decode cX2_prepare 77 = .ok (.aload_n 0, 1) := by decide +kernel
theorem dX2_prepare_78 : decode cX2_prepare 78 = .ok (.getfield 20, 3) := by decide +kernel
theorem dX2_prepare_81 : decode cX2_prepare 81 = .ok (.iload 4, 2) := by decide +kernel
theorem dX2_prepare_83 : decode cX2_prepare 83 = .ok (.iconst 3, 1) := by decide +kernel
theorem dX2_prepare_84 : decode cX2_prepare 84 = .ok (.imul, 1) := by decide +kernel
theorem dX2_prepare_85 : decode cX2_prepare 85 = .ok (.aaload, 1) := by decide +kernel
theorem dX2_prepare_86 : decode cX2_prepare 86 = .ok (.iload 5, 2) := by decide +kernel
theorem dX2_prepare_88 : decode cX2_prepare 88 = .ok (.iaload, 1) := by decide +kernel
theorem dX2_prepare_89 : decode cX2_prepare 89 = .ok (.ifCond .le 12, 3) := by decide +kernel
theorem dX2_prepare_92 : decode cX2_prepare 92 = .ok (.aload_n 0, 1) := by decide +kernel
theorem dX2_prepare_93 : decode cX2_prepare 93 = .ok (.getfield 23, 3) := by decide +kernel
theorem dX2_prepare_96 : decode cX2_prepare 96 = .ok (.iload 4, 2) := by decide +kernel
theorem dX2_prepare_98 : decode cX2_prepare 98 = .ok (.iload 5, 2) := by decide +kernel
theorem dX2_prepare_100 : decode cX2_prepare 100 = .ok (.iastore, 1) := by decide +kernel
theorem dX2_prepare_101 : decode cX2_prepare 101 = .ok (.iinc 5 1, 3) := by decide +kernel
theorem dX2_prepare_104 : decode cX2_prepare 104 = .ok (.goto (-76), 3) := by decide +kernel
theorem dX2_prepare_107 : decode cX2_prepare 107 = .ok (.aload_n 0, 1) := by decide +kernel
theorem dX2_prepare_108 : decode cX2_prepare 108 = .ok (.getfield 27, 3) := by decide +kernel
theorem dX2_prepare_111 : decode cX2_prepare 111 = .ok (.iload 4, 2) := by decide +kernel
theorem dX2_prepare_113 : decode cX2_prepare 113 = .ok (.aaload, 1) := by decide +kernel
theorem dX2_prepare_114 : decode cX2_prepare 114 = .ok (.iconst (-1), 1) := by decide +kernel
theorem dX2_prepare_115 : decode cX2_prepare 115 = .ok (.invokestatic 60, 3) := by decide +kernel
theorem dX2_prepare_118 : decode cX2_prepare 118 = .ok (.iinc 4 1, 3) := by decide +kernel
theorem dX2_prepare_121 : decode cX2_prepare 121 = .ok (.goto (-110), 3) := by decide +kernel
theorem dX2_prepare_124 : decode cX2_prepare 124 = .ok (.aload_n 3, 1) := by decide +kernel
theorem dX2_prepare_125 : decode cX2_prepare 125 = .ok (.getfield 66, 3) := by decide +kernel
theorem dX2_prepare_128 : decode cX2_prepare 128 = .ok (.iconst 0, 1) := by decide +kernel
theorem dX2_prepare_129 : decode cX2_prepare 129 = .ok (.aload_n 0, 1) := by decide +kernel
theorem dX2_prepare_130 : decode cX2_prepare 130 = .ok (.getfield 27, 3) := by decide +kernel
theorem dX2_prepare_133 : decode cX2_prepare 133 = .ok (.iconst 3, 1) := by decide +kernel
theorem dX2_prepare_134 : decode cX2_prepare 134 = .ok (.aaload, 1) := by decide +kernel
theorem dX2_prepare_135 : decode cX2_prepare 135 = .ok (.iconst 0, 1) := by decide +kernel
theorem dX2_prepare_136 : decode cX2_prepare 136 = .ok (.sipush 242, 3) := by decide +kernel
theorem dX2_prepare_139 : decode cX2_prepare 139 = .ok (.invokestatic 69, 3) := by decide +kernel
theorem dX2_prepare_142 : decode cX2_prepare 142 = .ok (.return_, 1) := by decide +kernel
set_option maxRecDepth 20000 in
theorem ggX2_valueFrom_X2_startOf : GoodIn wsX2_valueFrom wsX2_startOf := goodIn_r _ [14, 15, 16, 17, 18, 13, 19, 20, 21, 22, 23, 24, 3, 25, 26, 27, 28, 1, 29, 30, 31, 32, 33, 34, 35, 36, 37, 38, 39, 40, 41, 42, 43, 44, 45, 46, 47, 10, 11, 12, 48, 49, 50, 51, 52, 53, 54, 55, 56, 57, 58, 68, 69, 70, 71, 72, 73, 74, 75, 76, 77, 78, 79] (by decide +kernel) (by decide +kernel)
set_option maxRecDepth 20000 in
theorem gX2_valueFrom_X2_startOf : GoodIn wsX2_valueFrom (wsV RX2 82 RX2 yX2_startOf wsX2_startOf) := goodIn_app (goodIn_of _ (by decide +kernel)) ggX2_valueFrom_X2_startOf
set_option maxRecDepth 20000 in
theorem ggX2_valueFrom_X5_hasTry : GoodIn wsX2_valueFrom wsX5_hasTry := goodIn_r _ [63, 64, 65, 66, 67, 80, 81, 82, 83, 84, 85, 86, 87] (by decide +kernel) (by decide +kernel)
set_option maxRecDepth 20000 in
theorem gX2_valueFrom_X5_hasTry : GoodIn wsX2_valueFrom (wsV RX2 89 RX5 yX5_hasTry wsX5_hasTry) := goodIn_app (goodIn_of _ (by decide +kernel)) ggX2_valueFrom_X5_hasTry
set_option maxRecDepth 20000 in
theorem ggX2_valueFrom_X2_fillTables : GoodIn wsX2_valueFrom wsX2_fillTables := goodIn_r _ [47, 23, 24, 33, 15, 10, 11, 12, 13, 48, 49, 50, 51, 38, 42, 25, 26, 27, 28, 41, 3, 43, 52, 53, 54, 55, 56, 57, 58, 39, 40, 14, 16, 17, 18, 19, 20, 21, 22, 1, 29, 30, 31, 32, 34, 35, 36, 37, 44, 45, 46, 68, 69, 70, 71, 72, 73, 74, 75, 76, 77, 78, 79] (by decide +kernel) (by decide +kernel)
set_option maxRecDepth 20000 in
theorem gX2_valueFrom_X2_fillTables : GoodIn wsX2_valueFrom (wsV RX2 93 RX2 yX2_fillTables wsX2_fillTables) := goodIn_app (goodIn_of _ (by decide +kernel)) ggX2_valueFrom_X2_fillTables
set_option maxRecDepth 20000 in
theorem ggX2_valueFrom_X2_choose : GoodIn wsX2_valueFrom wsX2_choose := goodIn_r _ [22, 23, 24, 3, 25, 26, 27, 28, 1, 29, 30, 31, 13, 32, 33, 15, 34, 35, 36, 37, 38, 39, 40, 41, 42, 43, 44, 45, 46, 68, 69, 70, 71, 72, 73, 74, 75, 76, 77, 78, 79] (by decide +kernel) (by decide +kernel)
set_option maxRecDepth 20000 in
theorem gX2_valueFrom_X2_choose : GoodIn wsX2_valueFrom (wsV RX2 106 RX2 yX2_choose wsX2_choose) := goodIn_app (goodIn_of _ (by decide +kernel)) ggX2_valueFrom_X2_choose
theorem dX2_valueFrom_0 : decode cX2_valueFrom 0 = .ok (.aload_n 0, 1) := by decide +kernel
theorem dX2_valueFrom_1 : decode cX2_valueFrom 1 = .ok (.iconst 0, 1) := by decide +kernel
theorem dX2_valueFrom_2 : decode cX2_valueFrom 2 = .ok (.putfield 9, 3) := by decide +kernel
theorem dX2_valueFrom_5 : decode cX2_valueFrom 5 = .ok (.aload_n 1, 1) := by decide +kernel
theorem dX2_valueFrom_6 : decode cX2_valueFrom 6 = .ok (.getfield 75, 3) := by decide +kernel
theorem dX2_valueFrom_9 : decode cX2_valueFrom 9 = .ok (.ifCond .eq 8, 3) := by decide +kernel
theorem dX2_valueFrom_12 : decode cX2_valueFrom 12 = .ok (.aload_n 0, 1) := by decide +kernel
theorem dX2_valueFrom_13 : decode cX2_valueFrom 13 = .ok (.getfield 15, 3) := by decide +kernel
theorem dX2_valueFrom_16 : decode cX2_valueFrom 16 = .ok (.ireturn, 1) := by decide +kernel
theorem dX2_valueFrom_17 : decode cX2_valueFrom 17 = .ok (.aload_n 1, 1) := by decide +kernel
theorem dX2_valueFrom_18 : decode cX2_valueFrom 18 = .ok (.getfield 80, 3) := by decide +kernel
theorem dX2_valueFrom_21 : decode cX2_valueFrom 21 = .ok (.iconst 3, 1) := by decide +kernel
theorem dX2_valueFrom_22 : decode cX2_valueFrom 22 = .ok (.if_icmp .lt 13, 3) := by decide +kernel
theorem dX2_valueFrom_25 : decode cX2_valueFrom 25 = .ok (.aload_n 0, 1) := by decide +kernel
theorem dX2_valueFrom_26 : decode cX2_valueFrom 26 = .ok (.iconst 3, 1) := by decide +kernel
theorem dX2_valueFrom_27 : decode cX2_valueFrom 27 = .ok (.aload_n 1, 1) := by decide +kernel
theorem dX2_valueFrom_28 : decode cX2_valueFrom 28 = .ok (.getfield 81, 3) := by decide +kernel
theorem dX2_valueFrom_31 : decode cX2_valueFrom 31 = .ok (.invokevirtual 82, 3) := by decide +kernel
theorem dX2_valueFrom_34 : decode cX2_valueFrom 34 = .ok (.ireturn, 1) := by decide +kernel
theorem dX2_valueFrom_35 : decode cX2_valueFrom 35 = .ok (.aload_n 1, 1) := by decide +kernel
theorem dX2_valueFrom_36 : decode cX2_valueFrom 36 = .ok (.getfield 86, 3) := by decide +kernel
theorem dX2_valueFrom_39 : decode cX2_valueFrom 39 = .ok (.ifCond .ne 10, 3) := by decide +kernel
theorem dX2_valueFrom_42 : decode cX2_valueFrom 42 = .ok (.aload_n 0, 1) := by decide +kernel
theorem dX2_valueFrom_43 : decode cX2_valueFrom 43 = .ok (.getfield 15, 3) := by decide +kernel
theorem dX2_valueFrom_46 : decode cX2_valueFrom 46 = .ok (.goto 22, 3) := by decide +kernel
theorem dX2_valueFrom_49 : decode cX2_valueFrom 49 = .ok (.aload_n 0, 1) := by decide +kernel
theorem dX2_valueFrom_50 : decode cX2_valueFrom 50 = .ok (.aload_n 1, 1) := by decide +kernel
theorem dX2_valueFrom_51 : decode cX2_valueFrom 51 = .ok (.getfield 80, 3) := by decide +kernel
theorem dX2_valueFrom_54 : decode cX2_valueFrom 54 = .ok (.iconst 1, 1) := by decide +kernel
theorem dX2_valueFrom_55 : decode cX2_valueFrom 55 = .ok (.iadd, 1) := by decide +kernel
theorem dX2_valueFrom_56 : decode cX2_valueFrom 56 = .ok (.aload_n 1, 1) := by decide +kernel
theorem dX2_valueFrom_57 : decode cX2_valueFrom 57 = .ok (.getfield 81, 3) := by decide +kernel
theorem dX2_valueFrom_60 : decode cX2_valueFrom 60 = .ok (.aload_n 1, 1) := by decide +kernel
theorem dX2_valueFrom_61 : decode cX2_valueFrom 61 = .ok (.getfield 86, 3) := by decide +kernel
theorem dX2_valueFrom_64 : decode cX2_valueFrom 64 = .ok (.iadd, 1) := by decide +kernel
theorem dX2_valueFrom_65 : decode cX2_valueFrom 65 = .ok (.invokevirtual 82, 3) := by decide +kernel
theorem dX2_valueFrom_68 : decode cX2_valueFrom 68 = .ok (.istore_n 2, 1) := by decide +kernel
theorem dX2_valueFrom_69 : decode cX2_valueFrom 69 = .ok (.aload_n 1, 1) := by decide +kernel
theorem dX2_valueFrom_70 : decode cX2_valueFrom 70 = .ok (.invokevirtual 89, 3) := by decide +kernel
theorem dX2_valueFrom_73 : decode cX2_valueFrom 73 = .ok (.ifCond .ne 5, 3) := by decide +kernel
theorem dX2_valueFrom_76 : decode cX2_valueFrom 76 = .ok (.iload_n 2, 1) := by decide +kernel
theorem dX2_valueFrom_77 : decode cX2_valueFrom 77 = .ok (.ireturn, 1) := by decide +kernel
theorem dX2_valueFrom_78 : decode cX2_valueFrom 78 = .ok (.aload_n 0, 1) := by decide +kernel
theorem dX2_valueFrom_79 : decode cX2_valueFrom 79 = .ok (.aload_n 1, 1) := by decide +kernel
theorem dX2_valueFrom_80 : decode cX2_valueFrom 80 = .ok (.getfield 80, 3) := by decide +kernel
theorem dX2_valueFrom_83 : decode cX2_valueFrom 83 = .ok (.aload_n 1, 1) := by decide +kernel
theorem dX2_valueFrom_84 : decode cX2_valueFrom 84 = .ok (.getfield 81, 3) := by decide +kernel
theorem dX2_valueFrom_87 : decode cX2_valueFrom 87 = .ok (.invokevirtual 93, 3) := by decide +kernel
theorem dX2_valueFrom_90 : decode cX2_valueFrom 90 = .ok (.aload_n 0, 1) := by decide +kernel
theorem dX2_valueFrom_91 : decode cX2_valueFrom 91 = .ok (.aload_n 1, 1) := by decide +kernel
theorem dX2_valueFrom_92 : decode cX2_valueFrom 92 = .ok (.getfield 97, 3) := by decide +kernel
theorem dX2_valueFrom_95 : decode cX2_valueFrom 95 = .ok (.aload_n 1, 1) := by decide +kernel
theorem dX2_valueFrom_96 : decode cX2_valueFrom 96 = .ok (.getfield 100, 3) := by decide +kernel
theorem dX2_valueFrom_99 : decode cX2_valueFrom 99 = .ok (.aload_n 1, 1) := by decide +kernel
theorem dX2_valueFrom_100 : decode cX2_valueFrom 100 = .ok (.getfield 86, 3) := by decide +kernel
theorem dX2_valueFrom_103 : decode cX2_valueFrom 103 = .ok (.aload_n 1, 1) := by decide +kernel
theorem dX2_valueFrom_104 : decode cX2_valueFrom 104 = .ok (.getfield 103, 3) := by decide +kernel
theorem dX2_valueFrom_107 : decode cX2_valueFrom 107 = .ok (.invokevirtual 106, 3) := by decide +kernel
theorem dX2_valueFrom_110 : decode cX2_valueFrom 110 = .ok (.ireturn, 1) := by decide +kernel
set_option maxRecDepth 20000 in
theorem ggX2_startOf_X2_fillTables : GoodIn wsX2_startOf wsX2_fillTables := goodIn_r _ [36, 10, 11, 22, 1, 37, 38, 39, 5, 40, 41, 42, 43, 27, 31, 13, 14, 15, 16, 30, 12, 32, 44, 45, 46, 47, 48, 49, 50, 28, 29, 0, 2, 3, 4, 6, 7, 8, 9, 17, 18, 19, 20, 21, 23, 24, 25, 26, 33, 34, 35, 51, 52, 53, 54, 55, 56, 57, 58, 59, 60, 61, 62] (by decide +kernel) (by decide +kernel)
set_option maxRecDepth 20000 in
theorem gX2_startOf_X2_fillTables : GoodIn wsX2_startOf (wsV RX2 93 RX2 yX2_fillTables wsX2_fillTables) := goodIn_app (goodIn_of _ (by decide +kernel)) ggX2_startOf_X2_fillTables
set_option maxRecDepth 20000 in
theorem ggX2_startOf_X2_choose : GoodIn wsX2_startOf wsX2_choose := goodIn_r _ [9, 10, 11, 12, 13, 14, 15, 16, 17, 18, 19, 20, 5, 21, 22, 1, 23, 24, 25, 26, 27, 28, 29, 30, 31, 32, 33, 34, 35, 51, 52, 53, 54, 55, 56, 57, 58, 59, 60, 61, 62] (by decide +kernel) (by decide +kernel)
set_option maxRecDepth 20000 in
theorem gX2_startOf_X2_choose : GoodIn wsX2_startOf (wsV RX2 106 RX2 yX2_choose wsX2_choose) := goodIn_app (goodIn_of _ (by decide +kernel)) ggX2_startOf_X2_choose
theorem dX2_startOf_0 : decode cX2_startOf 0 = .ok (.iload_n 1, 1) := by decide +kernel
theorem dX2_startOf_1 : decode cX2_startOf 1 = .ok (.ifCond .lt 19, 3) := by decide +kernel
theorem dX2_startOf_4 : decode cX2_startOf 4 = .ok (.iload_n 1, 1) := by decide +kernel
theorem dX2_startOf_5 : decode cX2_startOf 5 = .ok (.iconst 3, 1) := by decide +kernel
theorem dX2_startOf_6 : decode cX2_startOf 6 = .ok (.if_icmp .gt 14, 3) := by decide +kernel
theorem dX2_startOf_9 : decode cX2_startOf 9 = .ok (.iload_n 2, 1) := by decide +kernel
theorem dX2_startOf_10 : decode cX2_startOf 10 = .ok (.ifCond .lt 10, 3) := by decide +kernel
theorem dX2_startOf_13 : decode cX2_startOf 13 = .ok (.iload_n 2, 1) := by decide +kernel
theorem dX2_startOf_14 : decode cX2_startOf 14 = .ok (.sipush 242, 3) := by decide +kernel
theorem dX2_startOf_17 : decode cX2_startOf 17 = .ok (.if_icmp .lt 5, 3) := by decide +kernel
theorem dX2_startOf_20 : decode cX2_startOf 20 = .ok (.iconst 0, 1) := by decide +kernel
theorem dX2_startOf_21 : decode cX2_startOf 21 = .ok (.ireturn, 1) := by decide +kernel
theorem dX2_startOf_22 : decode cX2_startOf 22 = .ok (.iload_n 1, 1) := by decide +kernel
theorem dX2_startOf_23 : decode cX2_startOf 23 = .ok (.iconst 3, 1) := by decide +kernel
theorem dX2_startOf_24 : decode cX2_startOf 24 = .ok (.if_icmp .ge 36, 3) := by decide +kernel
theorem dX2_startOf_27 : decode cX2_startOf 27 = .ok (.aload_n 0, 1) := by decide +kernel
theorem dX2_startOf_28 : decode cX2_startOf 28 = .ok (.getfield 27, 3) := by decide +kernel
theorem dX2_startOf_31 : decode cX2_startOf 31 = .ok (.iload_n 1, 1) := by decide +kernel
theorem dX2_startOf_32 : decode cX2_startOf 32 = .ok (.aaload, 1) := by decide +kernel
theorem dX2_startOf_33 : decode cX2_startOf 33 = .ok (.iload_n 2, 1) := by decide +kernel
theorem dX2_startOf_34 : decode cX2_startOf 34 = .ok (.iaload, 1) := by decide +kernel
theorem dX2_startOf_35 : decode cX2_startOf 35 = .ok (.ifCond .ge 25, 3) := by decide +kernel
theorem dX2_startOf_38 : decode cX2_startOf 38 = .ok (.aload_n 0, 1) := by decide +kernel
theorem dX2_startOf_39 : decode cX2_startOf 39 = .ok (.iload_n 1, 1) := by decide +kernel
theorem dX2_startOf_40 : decode cX2_startOf 40 = .ok (.iload_n 2, 1) := by decide +kernel
theorem dX2_startOf_41 : decode cX2_startOf 41 = .ok (.invokevirtual 93, 3) := by decide +kernel
theorem dX2_startOf_44 : decode cX2_startOf 44 = .ok (.aload_n 0, 1) := by decide +kernel
theorem dX2_startOf_45 : decode cX2_startOf 45 = .ok (.getfield 27, 3) := by decide +kernel
theorem dX2_startOf_48 : decode cX2_startOf 48 = .ok (.iload_n 1, 1) := by decide +kernel
theorem dX2_startOf_49 : decode cX2_startOf 49 = .ok (.aaload, 1) := by decide +kernel
theorem dX2_startOf_50 : decode cX2_startOf 50 = .ok (.iload_n 2, 1) := by decide +kernel
theorem dX2_startOf_51 : decode cX2_startOf 51 = .ok (.aload_n 0, 1) := by decide +kernel
theorem dX2_startOf_52 : decode cX2_startOf 52 = .ok (.iconst 3, 1) := by decide +kernel
theorem dX2_startOf_53 : decode cX2_startOf 53 = .ok (.iconst 0, 1) := by decide +kernel
theorem dX2_startOf_54 : decode cX2_startOf 54 = .ok (.iconst 0, 1) := by decide +kernel
theorem dX2_startOf_55 : decode cX2_startOf 55 = .ok (.iconst 1, 1) := by decide +kernel
theorem dX2_startOf_56 : decode cX2_startOf 56 = .ok (.invokevirtual 106, 3) := by decide +kernel
theorem dX2_startOf_59 : decode cX2_startOf 59 = .ok (.iastore, 1) := by decide +kernel
theorem dX2_startOf_60 : decode cX2_startOf 60 = .ok (.aload_n 0, 1) := by decide +kernel
theorem dX2_startOf_61 : decode cX2_startOf 61 = .ok (.getfield 27, 3) := by decide +kernel
theorem dX2_startOf_64 : decode cX2_startOf 64 = .ok (.iload_n 1, 1) := by decide +kernel
theorem dX2_startOf_65 : decode cX2_startOf 65 = .ok (.aaload, 1) := by decide +kernel
theorem dX2_startOf_66 : decode cX2_startOf 66 = .ok (.iload_n 2, 1) := by decide +kernel
theorem dX2_startOf_67 : decode cX2_startOf 67 = .ok (.iaload, 1) := by decide +kernel
theorem dX2_startOf_68 : decode cX2_startOf 68 = .ok (.ireturn, 1) := by decide +kernel
set_option maxRecDepth 20000 in
theorem ggX2_fillTables_X2_startOf : GoodIn wsX2_fillTables wsX2_startOf := goodIn_r _ [31, 4, 32, 33, 34, 8, 35, 36, 37, 38, 1, 2, 20, 15, 16, 17, 18, 39, 40, 41, 42, 43, 3, 44, 45, 46, 47, 13, 29, 30, 19, 14, 21, 48, 49, 50, 0, 5, 6, 7, 9, 10, 11, 12, 22, 23, 24, 25, 26, 27, 28, 51, 52, 53, 54, 55, 56, 57, 58, 59, 60, 61, 62] (by decide +kernel) (by decide +kernel)
set_option maxRecDepth 20000 in
theorem gX2_fillTables_X2_startOf : GoodIn wsX2_fillTables (wsV RX2 82 RX2 yX2_startOf wsX2_startOf) := goodIn_app (goodIn_of _ (by decide +kernel)) ggX2_fillTables_X2_startOf
set_option maxRecDepth 20000 in
theorem ggX2_fillTables_X2_fillOne : GoodIn wsX2_fillTables wsX2_fillOne := goodIn_r _ [12, 13, 2, 3, 14, 15, 16, 17, 18, 19, 20, 21, 22, 23, 8, 24, 51, 52, 53, 54, 55, 56, 57, 58, 59, 60, 61, 62] (by decide +kernel) (by decide +kernel)
set_option maxRecDepth 20000 in
theorem gX2_fillTables_X2_fillOne : GoodIn wsX2_fillTables (wsV RX2 110 RX2 yX2_fillOne wsX2_fillOne) := goodIn_app (goodIn_of _ (by decide +kernel)) ggX2_fillTables_X2_fillOne
set_option maxRecDepth 20000 in
theorem ggX2_fillTables_X2_fillTwo : GoodIn wsX2_fillTables wsX2_fillTwo := goodIn_r _ [28, 13, 2, 3, 14, 19, 15, 16, 17, 18, 29, 20, 21, 30, 22, 23, 8, 24, 51, 52, 53, 54, 55, 56, 57, 58, 59, 60, 61, 62] (by decide +kernel) (by decide +kernel)
set_option maxRecDepth 20000 in
theorem gX2_fillTables_X2_fillTwo : GoodIn wsX2_fillTables (wsV RX2 114 RX2 yX2_fillTwo wsX2_fillTwo) := goodIn_app (goodIn_of _ (by decide +kernel)) ggX2_fillTables_X2_fillTwo
theorem dX2_fillTables_0 : decode cX2_fillTables 0 = .ok (.iconst 1, 1) := by decide +kernel
theorem dX2_fillTables_1 : decode cX2_fillTables 1 = .ok (.istore_n 3, 1) := by decide +kernel
theorem dX2_fillTables_2 : decode cX2_fillTables 2 = .ok (.iload_n 3, 1) := by decide +kernel
theorem dX2_fillTables_3 : decode cX2_fillTables 3 = .ok (.aload_n 0, 1) := by decide +kernel
theorem dX2_fillTables_4 : decode cX2_fillTables 4 = .ok (.getfield 23, 3) := by decide +kernel
theorem dX2_fillTables_7 : decode cX2_fillTables 7 = .ok (.iload_n 1, 1) := by decide +kernel
theorem dX2_fillTables_8 : decode cX2_fillTables 8 = .ok (.iaload, 1) := by decide +kernel
theorem dX2_fillTables_9 : decode cX2_fillTables 9 = .ok (.if_icmp .gt 20, 3) := by decide +kernel
theorem dX2_fillTables_12 : decode cX2_fillTables 12 = .ok (.aload_n 0, 1) := by decide +kernel
theorem dX2_fillTables_13 : decode cX2_fillTables 13 = .ok (.iload_n 1, 1) := by decide +kernel
theorem dX2_fillTables_14 : decode cX2_fillTables 14 = .ok (.iconst 1, 1) := by decide +kernel
theorem dX2_fillTables_15 : decode cX2_fillTables 15 = .ok (.iadd, 1) := by decide +kernel
theorem dX2_fillTables_16 : decode cX2_fillTables 16 = .ok (.iload_n 2, 1) := by decide +kernel
theorem dX2_fillTables_17 : decode cX2_fillTables 17 = .ok (.iload_n 3, 1) := by decide +kernel
theorem dX2_fillTables_18 : decode cX2_fillTables 18 = .ok (.iadd, 1) := by decide +kernel
theorem dX2_fillTables_19 : decode cX2_fillTables 19 = .ok (.invokevirtual 82, 3) := by decide +kernel
theorem dX2_fillTables_22 : decode cX2_fillTables 22 = .ok (.pop, 1) := by decide +kernel
theorem dX2_fillTables_23 : decode cX2_fillTables 23 = .ok (.iinc 3 1, 3) := by decide +kernel
theorem dX2_fillTables_26 : decode cX2_fillTables 26 = .ok (.goto (-24), 3) := by decide +kernel
theorem dX2_fillTables_29 : decode cX2_fillTables 29 = .ok (.aload_n 0, 1) := by decide +kernel
theorem dX2_fillTables_30 : decode cX2_fillTables 30 = .ok (.iload_n 1, 1) := by decide +kernel
theorem dX2_fillTables_31 : decode cX2_fillTables 31 = .ok (.putfield 30, 3) := by decide +kernel
theorem dX2_fillTables_34 : decode cX2_fillTables 34 = .ok (.aload_n 0, 1) := by decide +kernel
theorem dX2_fillTables_35 : decode cX2_fillTables 35 = .ok (.iload_n 2, 1) := by decide +kernel
theorem dX2_fillTables_36 : decode cX2_fillTables 36 = .ok (.putfield 33, 3) := by decide +kernel
theorem dX2_fillTables_39 : decode cX2_fillTables 39 = .ok (.aload_n 0, 1) := by decide +kernel
theorem dX2_fillTables_40 : decode cX2_fillTables 40 = .ok (.aload_n 0, 1) := by decide +kernel
theorem dX2_fillTables_41 : decode cX2_fillTables 41 = .ok (.getfield 23, 3) := by decide +kernel
theorem dX2_fillTables_44 : decode cX2_fillTables 44 = .ok (.iload_n 1, 1) := by decide +kernel
theorem dX2_fillTables_45 : decode cX2_fillTables 45 = .ok (.iaload, 1) := by decide +kernel
theorem dX2_fillTables_46 : decode cX2_fillTables 46 = .ok (.aload_n 0, 1) := by decide +kernel
theorem dX2_fillTables_47 : decode cX2_fillTables 47 = .ok (.getfield 27, 3) := by decide +kernel
theorem dX2_fillTables_50 : decode cX2_fillTables 50 = .ok (.iload_n 1, 1) := by decide +kernel
theorem dX2_fillTables_51 : decode cX2_fillTables 51 = .ok (.iconst 1, 1) := by decide +kernel
theorem dX2_fillTables_52 : decode cX2_fillTables 52 = .ok (.iadd, 1) := by decide +kernel
theorem dX2_fillTables_53 : decode cX2_fillTables 53 = .ok (.aaload, 1) := by decide +kernel
theorem dX2_fillTables_54 : decode cX2_fillTables 54 = .ok (.invokevirtual 110, 3) := by decide +kernel
theorem dX2_fillTables_57 : decode cX2_fillTables 57 = .ok (.aload_n 0, 1) := by decide +kernel
theorem dX2_fillTables_58 : decode cX2_fillTables 58 = .ok (.aload_n 0, 1) := by decide +kernel
theorem dX2_fillTables_59 : decode cX2_fillTables 59 = .ok (.getfield 23, 3) := by decide +kernel
theorem dX2_fillTables_62 : decode cX2_fillTables 62 = .ok (.iload_n 1, 1) := by decide +kernel
theorem dX2_fillTables_63 : decode cX2_fillTables 63 = .ok (.iaload, 1) := by decide +kernel
theorem dX2_fillTables_64 : decode cX2_fillTables 64 = .ok (.aload_n 0, 1) := by decide +kernel
theorem dX2_fillTables_65 : decode cX2_fillTables 65 = .ok (.getfield 27, 3) := by decide +kernel
theorem dX2_fillTables_68 : decode cX2_fillTables 68 = .ok (.iload_n 1, 1) := by decide +kernel
theorem dX2_fillTables_69 : decode cX2_fillTables 69 = .ok (.iconst 1, 1) := by decide +kernel
theorem dX2_fillTables_70 : decode cX2_fillTables 70 = .ok (.iadd, 1) := by decide +kernel
theorem dX2_fillTables_71 : decode cX2_fillTables 71 = .ok (.aaload, 1) := by decide +kernel
theorem dX2_fillTables_72 : decode cX2_fillTables 72 = .ok (.invokevirtual 114, 3) := by decide +kernel
theorem dX2_fillTables_75 : decode cX2_fillTables 75 = .ok (.return_, 1) := by decide +kernel
set_option maxRecDepth 20000 in
theorem ggX2_fillOne_X2_atFirst : GoodIn wsX2_fillOne wsX2_atFirst := goodIn_r _ [15] (by decide +kernel) (by decide +kernel)
set_option maxRecDepth 20000 in
theorem gX2_fillOne_X2_atFirst : GoodIn wsX2_fillOne (va_wsS RX2 117 yX2_atFirst wsX2_atFirst) := goodIn_app (goodIn_of _ (by decide +kernel)) ggX2_fillOne_X2_atFirst
theorem dX2_fillOne_0 : decode cX2_fillOne 0 = .ok (.aload_n 0, 1) := by decide +kernel
theorem dX2_fillOne_1 : decode cX2_fillOne 1 = .ok (.getfield 20, 3) := by decide +kernel
theorem dX2_fillOne_4 : decode cX2_fillOne 4 = .ok (.aload_n 0, 1) := by decide +kernel
theorem dX2_fillOne_5 : decode cX2_fillOne 5 = .ok (.getfield 30, 3) := by decide +kernel
theorem dX2_fillOne_8 : decode cX2_fillOne 8 = .ok (.iconst 3, 1) := by decide +kernel
theorem dX2_fillOne_9 : decode cX2_fillOne 9 = .ok (.imul, 1) := by decide +kernel
theorem dX2_fillOne_10 : decode cX2_fillOne 10 = .ok (.aaload, 1) := by decide +kernel
theorem dX2_fillOne_11 : decode cX2_fillOne 11 = .ok (.astore_n 3, 1) := by decide +kernel
theorem dX2_fillOne_12 : decode cX2_fillOne 12 = .ok (.aload_n 0, 1) := by decide +kernel
theorem dX2_fillOne_13 : decode cX2_fillOne 13 = .ok (.getfield 20, 3) := by decide +kernel
theorem dX2_fillOne_16 : decode cX2_fillOne 16 = .ok (.aload_n 0, 1) := by decide +kernel
theorem dX2_fillOne_17 : decode cX2_fillOne 17 = .ok (.getfield 30, 3) := by decide +kernel
theorem dX2_fillOne_20 : decode cX2_fillOne 20 = .ok (.iconst 3, 1) := by decide +kernel
theorem dX2_fillOne_21 : decode cX2_fillOne 21 = .ok (.imul, 1) := by decide +kernel
theorem dX2_fillOne_22 : decode cX2_fillOne 22 = .ok (.iconst 1, 1) := by decide +kernel
theorem dX2_fillOne_23 : decode cX2_fillOne 23 = .ok (.iadd, 1) := by decide +kernel
theorem dX2_fillOne_24 : decode cX2_fillOne 24 = .ok (.aaload, 1) := by decide +kernel
theorem dX2_fillOne_25 : decode cX2_fillOne 25 = .ok (.astore 4, 2) := by decide +kernel
theorem dX2_fillOne_27 : decode cX2_fillOne 27 = .ok (.aload_n 0, 1) := by decide +kernel
theorem dX2_fillOne_28 : decode cX2_fillOne 28 = .ok (.getfield 20, 3) := by decide +kernel
theorem dX2_fillOne_31 : decode cX2_fillOne 31 = .ok (.aload_n 0, 1) := by decide +kernel
theorem dX2_fillOne_32 : decode cX2_fillOne 32 = .ok (.getfield 30, 3) := by decide +kernel
theorem dX2_fillOne_35 : decode cX2_fillOne 35 = .ok (.iconst 3, 1) := by decide +kernel
theorem dX2_fillOne_36 : decode cX2_fillOne 36 = .ok (.imul, 1) := by decide +kernel
theorem dX2_fillOne_37 : decode cX2_fillOne 37 = .ok (.iconst 2, 1) := by decide +kernel
theorem dX2_fillOne_38 : decode cX2_fillOne 38 = .ok (.iadd, 1) := by decide +kernel
theorem dX2_fillOne_39 : decode cX2_fillOne 39 = .ok (.aaload, 1) := by decide +kernel
theorem dX2_fillOne_40 : decode cX2_fillOne 40 = .ok (.astore 5, 2) := by decide +kernel
theorem dX2_fillOne_42 : decode cX2_fillOne 42 = .ok (.iconst 1, 1) := by decide +kernel
theorem dX2_fillOne_43 : decode cX2_fillOne 43 = .ok (.istore 6, 2) := by decide +kernel
theorem dX2_fillOne_45 : decode cX2_fillOne 45 = .ok (.iload 6, 2) := by decide +kernel
theorem dX2_fillOne_47 : decode cX2_fillOne 47 = .ok (.iload_n 1, 1) := by decide +kernel
theorem dX2_fillOne_48 : decode cX2_fillOne 48 = .ok (.if_icmp .gt 176, 3) := by decide +kernel
theorem dX2_fillOne_51 : decode cX2_fillOne 51 = .ok (.aload_n 0, 1) := by decide +kernel
theorem dX2_fillOne_52 : decode cX2_fillOne 52 = .ok (.getfield 33, 3) := by decide +kernel
theorem dX2_fillOne_55 : decode cX2_fillOne 55 = .ok (.iload_n 1, 1) := by decide +kernel
theorem dX2_fillOne_56 : decode cX2_fillOne 56 = .ok (.iadd, 1) := by decide +kernel
theorem dX2_fillOne_57 : decode cX2_fillOne 57 = .ok (.sipush 242, 3) := by decide +kernel
theorem dX2_fillOne_60 : decode cX2_fillOne 60 = .ok (.if_icmp .ge 164, 3) := by decide +kernel
theorem dX2_fillOne_63 : decode cX2_fillOne 63 = .ok (.aload_n 2, 1) := by decide +kernel
theorem dX2_fillOne_64 : decode cX2_fillOne 64 = .ok (.aload_n 0, 1) := by decide +kernel
theorem dX2_fillOne_65 : decode cX2_fillOne 65 = .ok (.getfield 33, 3) := by decide +kernel
theorem dX2_fillOne_68 : decode cX2_fillOne 68 = .ok (.iload 6, 2) := by decide +kernel
theorem dX2_fillOne_70 : decode cX2_fillOne 70 = .ok (.iadd, 1) := by decide +kernel
theorem dX2_fillOne_71 : decode cX2_fillOne 71 = .ok (.iaload, 1) := by decide +kernel
theorem dX2_fillOne_72 : decode cX2_fillOne 72 = .ok (.istore 7, 2) := by decide +kernel
theorem dX2_fillOne_74 : decode cX2_fillOne 74 = .ok (.iload_n 1, 1) := by decide +kernel
theorem dX2_fillOne_75 : decode cX2_fillOne 75 = .ok (.iload 7, 2) := by decide +kernel
theorem dX2_fillOne_77 : decode cX2_fillOne 77 = .ok (.invokestatic 117, 3) := by decide +kernel
theorem dX2_fillOne_80 : decode cX2_fillOne 80 = .ok (.istore 8, 2) := by decide +kernel
theorem dX2_fillOne_82 : decode cX2_fillOne 82 = .ok (.iload 8, 2) := by decide +kernel
theorem dX2_fillOne_84 : decode cX2_fillOne 84 = .ok (.istore 9, 2) := by decide +kernel
theorem dX2_fillOne_86 : decode cX2_fillOne 86 = .ok (.aload_n 0, 1) := by decide +kernel
theorem dX2_fillOne_87 : decode cX2_fillOne 87 = .ok (.getfield 39, 3) := by decide +kernel
theorem dX2_fillOne_90 : decode cX2_fillOne 90 = .ok (.iload 6, 2) := by decide +kernel
theorem dX2_fillOne_92 : decode cX2_fillOne 92 = .ok (.bipush 42, 2) := by decide +kernel
theorem dX2_fillOne_94 : decode cX2_fillOne 94 = .ok (.imul, 1) := by decide +kernel
theorem dX2_fillOne_95 : decode cX2_fillOne 95 = .ok (.iload_n 1, 1) := by decide +kernel
theorem dX2_fillOne_96 : decode cX2_fillOne 96 = .ok (.iadd, 1) := by decide +kernel
theorem dX2_fillOne_97 : decode cX2_fillOne 97 = .ok (.iconst 1, 1) := by decide +kernel
theorem dX2_fillOne_98 : decode cX2_fillOne 98 = .ok (.iadd, 1) := by decide +kernel
theorem dX2_fillOne_99 : decode cX2_fillOne 99 = .ok (.iload 7, 2) := by decide +kernel
theorem dX2_fillOne_101 : decode cX2_fillOne 101 = .ok (.iastore, 1) := by decide +kernel
theorem dX2_fillOne_102 : decode cX2_fillOne 102 = .ok (.iload_n 1, 1) := by decide +kernel
theorem dX2_fillOne_103 : decode cX2_fillOne 103 = .ok (.istore 10, 2) := by decide +kernel
theorem dX2_fillOne_105 : decode cX2_fillOne 105 = .ok (.iload 10, 2) := by decide +kernel
theorem dX2_fillOne_107 : decode cX2_fillOne 107 = .ok (.iload 6, 2) := by decide +kernel
theorem dX2_fillOne_109 : decode cX2_fillOne 109 = .ok (.if_icmp .le 85, 3) := by decide +kernel
theorem dX2_fillOne_112 : decode cX2_fillOne 112 = .ok (.aload_n 2, 1) := by decide +kernel
theorem dX2_fillOne_113 : decode cX2_fillOne 113 = .ok (.aload_n 0, 1) := by decide +kernel
theorem dX2_fillOne_114 : decode cX2_fillOne 114 = .ok (.getfield 33, 3) := by decide +kernel
theorem dX2_fillOne_117 : decode cX2_fillOne 117 = .ok (.iload 10, 2) := by decide +kernel
theorem dX2_fillOne_119 : decode cX2_fillOne 119 = .ok (.iadd, 1) := by decide +kernel
theorem dX2_fillOne_120 : decode cX2_fillOne 120 = .ok (.iaload, 1) := by decide +kernel
theorem dX2_fillOne_121 : decode cX2_fillOne 121 = .ok (.iload 7, 2) := by decide +kernel
theorem dX2_fillOne_123 : decode cX2_fillOne 123 = .ok (.isub, 1) := by decide +kernel
theorem dX2_fillOne_124 : decode cX2_fillOne 124 = .ok (.istore 11, 2) := by decide +kernel
theorem dX2_fillOne_126 : decode cX2_fillOne 126 = .ok (.iload 8, 2) := by decide +kernel
theorem dX2_fillOne_128 : decode cX2_fillOne 128 = .ok (.sipush 1000, 3) := by decide +kernel
theorem dX2_fillOne_131 : decode cX2_fillOne 131 = .ok (.iload 7, 2) := by decide +kernel
theorem dX2_fillOne_133 : decode cX2_fillOne 133 = .ok (.imul, 1) := by decide +kernel
theorem dX2_fillOne_134 : decode cX2_fillOne 134 = .ok (.aload_n 3, 1) := by decide +kernel
theorem dX2_fillOne_135 : decode cX2_fillOne 135 = .ok (.iload 10, 2) := by decide +kernel
theorem dX2_fillOne_137 : decode cX2_fillOne 137 = .ok (.iaload, 1) := by decide +kernel
theorem dX2_fillOne_138 : decode cX2_fillOne 138 = .ok (.iload 11, 2) := by decide +kernel
theorem dX2_fillOne_140 : decode cX2_fillOne 140 = .ok (.imul, 1) := by decide +kernel
theorem dX2_fillOne_141 : decode cX2_fillOne 141 = .ok (.iadd, 1) := by decide +kernel
theorem dX2_fillOne_142 : decode cX2_fillOne 142 = .ok (.invokestatic 120, 3) := by decide +kernel
theorem dX2_fillOne_145 : decode cX2_fillOne 145 = .ok (.istore 8, 2) := by decide +kernel
theorem dX2_fillOne_147 : decode cX2_fillOne 147 = .ok (.iload 9, 2) := by decide +kernel
theorem dX2_fillOne_149 : decode cX2_fillOne 149 = .ok (.sipush 1000, 3) := by decide +kernel
theorem dX2_fillOne_152 : decode cX2_fillOne 152 = .ok (.iload 7, 2) := by decide +kernel
theorem dX2_fillOne_154 : decode cX2_fillOne 154 = .ok (.imul, 1) := by decide +kernel
theorem dX2_fillOne_155 : decode cX2_fillOne 155 = .ok (.aload 4, 2) := by decide +kernel
theorem dX2_fillOne_157 : decode cX2_fillOne 157 = .ok (.iload 10, 2) := by decide +kernel
theorem dX2_fillOne_159 : decode cX2_fillOne 159 = .ok (.iaload, 1) := by decide +kernel
theorem dX2_fillOne_160 : decode cX2_fillOne 160 = .ok (.iload 11, 2) := by decide +kernel
theorem dX2_fillOne_162 : decode cX2_fillOne 162 = .ok (.imul, 1) := by decide +kernel
theorem dX2_fillOne_163 : decode cX2_fillOne 163 = .ok (.iadd, 1) := by decide +kernel
theorem dX2_fillOne_164 : decode cX2_fillOne 164 = .ok (.invokestatic 120, 3) := by decide +kernel
theorem dX2_fillOne_167 : decode cX2_fillOne 167 = .ok (.istore 9, 2) := by decide +kernel
theorem dX2_fillOne_169 : decode cX2_fillOne 169 = .ok (.aload_n 0, 1) := by decide +kernel
theorem dX2_fillOne_170 : decode cX2_fillOne 170 = .ok (.getfield 39, 3) := by decide +kernel
theorem dX2_fillOne_173 : decode cX2_fillOne 173 = .ok (.iload 6, 2) := by decide +kernel
theorem dX2_fillOne_175 : decode cX2_fillOne 175 = .ok (.bipush 42, 2) := by decide +kernel
theorem dX2_fillOne_177 : decode cX2_fillOne 177 = .ok (.imul, 1) := by decide +kernel
theorem dX2_fillOne_178 : decode cX2_fillOne 178 = .ok (.iload 10, 2) := by decide +kernel
theorem dX2_fillOne_180 : decode cX2_fillOne 180 = .ok (.iadd, 1) := by decide +kernel
theorem dX2_fillOne_181 : decode cX2_fillOne 181 = .ok (.iload 9, 2) := by decide +kernel
theorem dX2_fillOne_183 : decode cX2_fillOne 183 = .ok (.sipush 1000, 3) := by decide +kernel
theorem dX2_fillOne_186 : decode cX2_fillOne 186 = .ok (.idiv, 1) := by decide +kernel
theorem dX2_fillOne_187 : decode cX2_fillOne 187 = .ok (.iastore, 1) := by decide +kernel
theorem dX2_fillOne_188 : decode cX2_fillOne 188 = .ok (.iinc 10 (-1), 3) := by decide +kernel
theorem dX2_fillOne_191 : decode cX2_fillOne 191 = .ok (.goto (-86), 3) := by decide +kernel
theorem dX2_fillOne_194 : decode cX2_fillOne 194 = .ok (.aload_n 0, 1) := by decide +kernel
theorem dX2_fillOne_195 : decode cX2_fillOne 195 = .ok (.getfield 36, 3) := by decide +kernel
theorem dX2_fillOne_198 : decode cX2_fillOne 198 = .ok (.iload 6, 2) := by decide +kernel
theorem dX2_fillOne_200 : decode cX2_fillOne 200 = .ok (.iload 6, 2) := by decide +kernel
theorem dX2_fillOne_202 : decode cX2_fillOne 202 = .ok (.iload_n 1, 1) := by decide +kernel
theorem dX2_fillOne_203 : decode cX2_fillOne 203 = .ok (.if_icmp .ge 12, 3) := by decide +kernel
theorem dX2_fillOne_206 : decode cX2_fillOne 206 = .ok (.iload 8, 2) := by decide +kernel
theorem dX2_fillOne_208 : decode cX2_fillOne 208 = .ok (.sipush 1000, 3) := by decide +kernel
theorem dX2_fillOne_211 : decode cX2_fillOne 211 = .ok (.idiv, 1) := by decide +kernel
theorem dX2_fillOne_212 : decode cX2_fillOne 212 = .ok (.goto 5, 3) := by decide +kernel
theorem dX2_fillOne_215 : decode cX2_fillOne 215 = .ok (.iload 7, 2) := by decide +kernel
theorem dX2_fillOne_217 : decode cX2_fillOne 217 = .ok (.iastore, 1) := by decide +kernel
theorem dX2_fillOne_218 : decode cX2_fillOne 218 = .ok (.iinc 6 1, 3) := by decide +kernel
theorem dX2_fillOne_221 : decode cX2_fillOne 221 = .ok (.goto (-176), 3) := by decide +kernel
theorem dX2_fillOne_224 : decode cX2_fillOne 224 = .ok (.iload_n 1, 1) := by decide +kernel
theorem dX2_fillOne_225 : decode cX2_fillOne 225 = .ok (.aload_n 0, 1) := by decide +kernel
theorem dX2_fillOne_226 : decode cX2_fillOne 226 = .ok (.getfield 15, 3) := by decide +kernel
theorem dX2_fillOne_229 : decode cX2_fillOne 229 = .ok (.invokestatic 117, 3) := by decide +kernel
theorem dX2_fillOne_232 : decode cX2_fillOne 232 = .ok (.istore 6, 2) := by decide +kernel
theorem dX2_fillOne_234 : decode cX2_fillOne 234 = .ok (.iload_n 1, 1) := by decide +kernel
theorem dX2_fillOne_235 : decode cX2_fillOne 235 = .ok (.istore 7, 2) := by decide +kernel
theorem dX2_fillOne_237 : decode cX2_fillOne 237 = .ok (.iload 7, 2) := by decide +kernel
theorem dX2_fillOne_239 : decode cX2_fillOne 239 = .ok (.ifCond .le 70, 3) := by decide +kernel
theorem dX2_fillOne_242 : decode cX2_fillOne 242 = .ok (.aload_n 0, 1) := by decide +kernel
theorem dX2_fillOne_243 : decode cX2_fillOne 243 = .ok (.getfield 33, 3) := by decide +kernel
theorem dX2_fillOne_246 : decode cX2_fillOne 246 = .ok (.iload_n 1, 1) := by decide +kernel
theorem dX2_fillOne_247 : decode cX2_fillOne 247 = .ok (.iadd, 1) := by decide +kernel
theorem dX2_fillOne_248 : decode cX2_fillOne 248 = .ok (.sipush 242, 3) := by decide +kernel
theorem dX2_fillOne_251 : decode cX2_fillOne 251 = .ok (.if_icmp .ge 58, 3) := by decide +kernel
theorem dX2_fillOne_254 : decode cX2_fillOne 254 = .ok (.iload 6, 2) := by decide +kernel
theorem dX2_fillOne_256 : decode cX2_fillOne 256 = .ok (.sipush 1000, 3) := by decide +kernel
theorem dX2_fillOne_259 : decode cX2_fillOne 259 = .ok (.aload_n 0, 1) := by decide +kernel
theorem dX2_fillOne_260 : decode cX2_fillOne 260 = .ok (.getfield 15, 3) := by decide +kernel
theorem dX2_fillOne_263 : decode cX2_fillOne 263 = .ok (.imul, 1) := by decide +kernel
theorem dX2_fillOne_264 : decode cX2_fillOne 264 = .ok (.aload 5, 2) := by decide +kernel
theorem dX2_fillOne_266 : decode cX2_fillOne 266 = .ok (.iload 7, 2) := by decide +kernel
theorem dX2_fillOne_268 : decode cX2_fillOne 268 = .ok (.iaload, 1) := by decide +kernel
theorem dX2_fillOne_269 : decode cX2_fillOne 269 = .ok (.aload_n 2, 1) := by decide +kernel
theorem dX2_fillOne_270 : decode cX2_fillOne 270 = .ok (.aload_n 0, 1) := by decide +kernel
theorem dX2_fillOne_271 : decode cX2_fillOne 271 = .ok (.getfield 33, 3) := by decide +kernel
theorem dX2_fillOne_274 : decode cX2_fillOne 274 = .ok (.iload 7, 2) := by decide +kernel
theorem dX2_fillOne_276 : decode cX2_fillOne 276 = .ok (.iadd, 1) := by decide +kernel
theorem dX2_fillOne_277 : decode cX2_fillOne 277 = .ok (.iaload, 1) := by decide +kernel
theorem dX2_fillOne_278 : decode cX2_fillOne 278 = .ok (.aload_n 0, 1) := by decide +kernel
theorem dX2_fillOne_279 : decode cX2_fillOne 279 = .ok (.getfield 15, 3) := by decide +kernel
theorem dX2_fillOne_282 : decode cX2_fillOne 282 = .ok (.isub, 1) := by decide +kernel
theorem dX2_fillOne_283 : decode cX2_fillOne 283 = .ok (.imul, 1) := by decide +kernel
theorem dX2_fillOne_284 : decode cX2_fillOne 284 = .ok (.iadd, 1) := by decide +kernel
theorem dX2_fillOne_285 : decode cX2_fillOne 285 = .ok (.invokestatic 120, 3) := by decide +kernel
theorem dX2_fillOne_288 : decode cX2_fillOne 288 = .ok (.istore 6, 2) := by decide +kernel
theorem dX2_fillOne_290 : decode cX2_fillOne 290 = .ok (.aload_n 0, 1) := by decide +kernel
theorem dX2_fillOne_291 : decode cX2_fillOne 291 = .ok (.getfield 42, 3) := by decide +kernel
theorem dX2_fillOne_294 : decode cX2_fillOne 294 = .ok (.iload 7, 2) := by decide +kernel
theorem dX2_fillOne_296 : decode cX2_fillOne 296 = .ok (.iload 6, 2) := by decide +kernel
theorem dX2_fillOne_298 : decode cX2_fillOne 298 = .ok (.sipush 1000, 3) := by decide +kernel
theorem dX2_fillOne_301 : decode cX2_fillOne 301 = .ok (.idiv, 1) := by decide +kernel
theorem dX2_fillOne_302 : decode cX2_fillOne 302 = .ok (.iastore, 1) := by decide +kernel
theorem dX2_fillOne_303 : decode cX2_fillOne 303 = .ok (.iinc 7 (-1), 3) := by decide +kernel
theorem dX2_fillOne_306 : decode cX2_fillOne 306 = .ok (.goto (-69), 3) := by decide +kernel
theorem dX2_fillOne_309 : decode cX2_fillOne 309 = .ok (.return_, 1) := by decide +kernel
set_option maxRecDepth 20000 in
theorem ggX2_fillTwo_X2_atFirst : GoodIn wsX2_fillTwo wsX2_atFirst := goodIn_r _ [17] (by decide +kernel) (by decide +kernel)
set_option maxRecDepth 20000 in
theorem gX2_fillTwo_X2_atFirst : GoodIn wsX2_fillTwo (va_wsS RX2 117 yX2_atFirst wsX2_atFirst) := goodIn_app (goodIn_of _ (by decide +kernel)) ggX2_fillTwo_X2_atFirst
theorem dX2_fillTwo_0 : decode cX2_fillTwo 0 = .ok (.aload_n 0, 1) := by decide +kernel
theorem dX2_fillTwo_1 : decode cX2_fillTwo 1 = .ok (.getfield 20, 3) := by decide +kernel
theorem dX2_fillTwo_4 : decode cX2_fillTwo 4 = .ok (.aload_n 0, 1) := by decide +kernel
theorem dX2_fillTwo_5 : decode cX2_fillTwo 5 = .ok (.getfield 30, 3) := by decide +kernel
theorem dX2_fillTwo_8 : decode cX2_fillTwo 8 = .ok (.iconst 3, 1) := by decide +kernel
theorem dX2_fillTwo_9 : decode cX2_fillTwo 9 = .ok (.imul, 1) := by decide +kernel
theorem dX2_fillTwo_10 : decode cX2_fillTwo 10 = .ok (.aaload, 1) := by decide +kernel
theorem dX2_fillTwo_11 : decode cX2_fillTwo 11 = .ok (.astore_n 3, 1) := by decide +kernel
theorem dX2_fillTwo_12 : decode cX2_fillTwo 12 = .ok (.aload_n 0, 1) := by decide +kernel
theorem dX2_fillTwo_13 : decode cX2_fillTwo 13 = .ok (.getfield 20, 3) := by decide +kernel
theorem dX2_fillTwo_16 : decode cX2_fillTwo 16 = .ok (.aload_n 0, 1) := by decide +kernel
theorem dX2_fillTwo_17 : decode cX2_fillTwo 17 = .ok (.getfield 30, 3) := by decide +kernel
theorem dX2_fillTwo_20 : decode cX2_fillTwo 20 = .ok (.iconst 3, 1) := by decide +kernel
theorem dX2_fillTwo_21 : decode cX2_fillTwo 21 = .ok (.imul, 1) := by decide +kernel
theorem dX2_fillTwo_22 : decode cX2_fillTwo 22 = .ok (.iconst 1, 1) := by decide +kernel
theorem dX2_fillTwo_23 : decode cX2_fillTwo 23 = .ok (.iadd, 1) := by decide +kernel
theorem dX2_fillTwo_24 : decode cX2_fillTwo 24 = .ok (.aaload, 1) := by decide +kernel
theorem dX2_fillTwo_25 : decode cX2_fillTwo 25 = .ok (.astore 4, 2) := by decide +kernel
theorem dX2_fillTwo_27 : decode cX2_fillTwo 27 = .ok (.iconst 1, 1) := by decide +kernel
theorem dX2_fillTwo_28 : decode cX2_fillTwo 28 = .ok (.istore 5, 2) := by decide +kernel
theorem dX2_fillTwo_30 : decode cX2_fillTwo 30 = .ok (.iload 5, 2) := by decide +kernel
theorem dX2_fillTwo_32 : decode cX2_fillTwo 32 = .ok (.iload_n 1, 1) := by decide +kernel
theorem dX2_fillTwo_33 : decode cX2_fillTwo 33 = .ok (.if_icmp .gt 127, 3) := by decide +kernel
theorem dX2_fillTwo_36 : decode cX2_fillTwo 36 = .ok (.aload_n 0, 1) := by decide +kernel
theorem dX2_fillTwo_37 : decode cX2_fillTwo 37 = .ok (.getfield 33, 3) := by decide +kernel
theorem dX2_fillTwo_40 : decode cX2_fillTwo 40 = .ok (.iload_n 1, 1) := by decide +kernel
theorem dX2_fillTwo_41 : decode cX2_fillTwo 41 = .ok (.iadd, 1) := by decide +kernel
theorem dX2_fillTwo_42 : decode cX2_fillTwo 42 = .ok (.sipush 242, 3) := by decide +kernel
theorem dX2_fillTwo_45 : decode cX2_fillTwo 45 = .ok (.if_icmp .ge 115, 3) := by decide +kernel
theorem dX2_fillTwo_48 : decode cX2_fillTwo 48 = .ok (.iload_n 1, 1) := by decide +kernel
theorem dX2_fillTwo_49 : decode cX2_fillTwo 49 = .ok (.aload_n 2, 1) := by decide +kernel
theorem dX2_fillTwo_50 : decode cX2_fillTwo 50 = .ok (.aload_n 0, 1) := by decide +kernel
theorem dX2_fillTwo_51 : decode cX2_fillTwo 51 = .ok (.getfield 33, 3) := by decide +kernel
theorem dX2_fillTwo_54 : decode cX2_fillTwo 54 = .ok (.iload 5, 2) := by decide +kernel
theorem dX2_fillTwo_56 : decode cX2_fillTwo 56 = .ok (.iadd, 1) := by decide +kernel
theorem dX2_fillTwo_57 : decode cX2_fillTwo 57 = .ok (.iaload, 1) := by decide +kernel
theorem dX2_fillTwo_58 : decode cX2_fillTwo 58 = .ok (.invokestatic 117, 3) := by decide +kernel
theorem dX2_fillTwo_61 : decode cX2_fillTwo 61 = .ok (.istore 6, 2) := by decide +kernel
theorem dX2_fillTwo_63 : decode cX2_fillTwo 63 = .ok (.iload_n 1, 1) := by decide +kernel
theorem dX2_fillTwo_64 : decode cX2_fillTwo 64 = .ok (.istore 7, 2) := by decide +kernel
theorem dX2_fillTwo_66 : decode cX2_fillTwo 66 = .ok (.iload 7, 2) := by decide +kernel
theorem dX2_fillTwo_68 : decode cX2_fillTwo 68 = .ok (.iload 5, 2) := by decide +kernel
theorem dX2_fillTwo_70 : decode cX2_fillTwo 70 = .ok (.if_icmp .le 53, 3) := by decide +kernel
theorem dX2_fillTwo_73 : decode cX2_fillTwo 73 = .ok (.aload_n 0, 1) := by decide +kernel
theorem dX2_fillTwo_74 : decode cX2_fillTwo 74 = .ok (.getfield 39, 3) := by decide +kernel
theorem dX2_fillTwo_77 : decode cX2_fillTwo 77 = .ok (.iload 5, 2) := by decide +kernel
theorem dX2_fillTwo_79 : decode cX2_fillTwo 79 = .ok (.bipush 42, 2) := by decide +kernel
theorem dX2_fillTwo_81 : decode cX2_fillTwo 81 = .ok (.imul, 1) := by decide +kernel
theorem dX2_fillTwo_82 : decode cX2_fillTwo 82 = .ok (.iload 7, 2) := by decide +kernel
theorem dX2_fillTwo_84 : decode cX2_fillTwo 84 = .ok (.iadd, 1) := by decide +kernel
theorem dX2_fillTwo_85 : decode cX2_fillTwo 85 = .ok (.iaload, 1) := by decide +kernel
theorem dX2_fillTwo_86 : decode cX2_fillTwo 86 = .ok (.istore 8, 2) := by decide +kernel
theorem dX2_fillTwo_88 : decode cX2_fillTwo 88 = .ok (.iload 6, 2) := by decide +kernel
theorem dX2_fillTwo_90 : decode cX2_fillTwo 90 = .ok (.sipush 1000, 3) := by decide +kernel
theorem dX2_fillTwo_93 : decode cX2_fillTwo 93 = .ok (.iload 8, 2) := by decide +kernel
theorem dX2_fillTwo_95 : decode cX2_fillTwo 95 = .ok (.imul, 1) := by decide +kernel
theorem dX2_fillTwo_96 : decode cX2_fillTwo 96 = .ok (.aload_n 3, 1) := by decide +kernel
theorem dX2_fillTwo_97 : decode cX2_fillTwo 97 = .ok (.iload 7, 2) := by decide +kernel
theorem dX2_fillTwo_99 : decode cX2_fillTwo 99 = .ok (.iaload, 1) := by decide +kernel
theorem dX2_fillTwo_100 : decode cX2_fillTwo 100 = .ok (.aload_n 0, 1) := by decide +kernel
theorem dX2_fillTwo_101 : decode cX2_fillTwo 101 = .ok (.getfield 36, 3) := by decide +kernel
theorem dX2_fillTwo_104 : decode cX2_fillTwo 104 = .ok (.iload 7, 2) := by decide +kernel
theorem dX2_fillTwo_106 : decode cX2_fillTwo 106 = .ok (.iaload, 1) := by decide +kernel
theorem dX2_fillTwo_107 : decode cX2_fillTwo 107 = .ok (.iload 8, 2) := by decide +kernel
theorem dX2_fillTwo_109 : decode cX2_fillTwo 109 = .ok (.isub, 1) := by decide +kernel
theorem dX2_fillTwo_110 : decode cX2_fillTwo 110 = .ok (.imul, 1) := by decide +kernel
theorem dX2_fillTwo_111 : decode cX2_fillTwo 111 = .ok (.iadd, 1) := by decide +kernel
theorem dX2_fillTwo_112 : decode cX2_fillTwo 112 = .ok (.invokestatic 120, 3) := by decide +kernel
theorem dX2_fillTwo_115 : decode cX2_fillTwo 115 = .ok (.istore 6, 2) := by decide +kernel
theorem dX2_fillTwo_117 : decode cX2_fillTwo 117 = .ok (.iinc 7 (-1), 3) := by decide +kernel
theorem dX2_fillTwo_120 : decode cX2_fillTwo 120 = .ok (.goto (-54), 3) := by decide +kernel
theorem dX2_fillTwo_123 : decode cX2_fillTwo 123 = .ok (.aload_n 0, 1) := by decide +kernel
theorem dX2_fillTwo_124 : decode cX2_fillTwo 124 = .ok (.getfield 45, 3) := by decide +kernel
theorem dX2_fillTwo_127 : decode cX2_fillTwo 127 = .ok (.iload 5, 2) := by decide +kernel
theorem dX2_fillTwo_129 : decode cX2_fillTwo 129 = .ok (.iload 5, 2) := by decide +kernel
theorem dX2_fillTwo_131 : decode cX2_fillTwo 131 = .ok (.iload_n 1, 1) := by decide +kernel
theorem dX2_fillTwo_132 : decode cX2_fillTwo 132 = .ok (.if_icmp .ge 12, 3) := by decide +kernel
theorem dX2_fillTwo_135 : decode cX2_fillTwo 135 = .ok (.iload 6, 2) := by decide +kernel
theorem dX2_fillTwo_137 : decode cX2_fillTwo 137 = .ok (.sipush 1000, 3) := by decide +kernel
theorem dX2_fillTwo_140 : decode cX2_fillTwo 140 = .ok (.idiv, 1) := by decide +kernel
theorem dX2_fillTwo_141 : decode cX2_fillTwo 141 = .ok (.goto 12, 3) := by decide +kernel
theorem dX2_fillTwo_144 : decode cX2_fillTwo 144 = .ok (.aload_n 2, 1) := by decide +kernel
theorem dX2_fillTwo_145 : decode cX2_fillTwo 145 = .ok (.aload_n 0, 1) := by decide +kernel
theorem dX2_fillTwo_146 : decode cX2_fillTwo 146 = .ok (.getfield 33, 3) := by decide +kernel
theorem dX2_fillTwo_149 : decode cX2_fillTwo 149 = .ok (.iload 5, 2) := by decide +kernel
theorem dX2_fillTwo_151 : decode cX2_fillTwo 151 = .ok (.iadd, 1) := by decide +kernel
theorem dX2_fillTwo_152 : decode cX2_fillTwo 152 = .ok (.iaload, 1) := by decide +kernel
theorem dX2_fillTwo_153 : decode cX2_fillTwo 153 = .ok (.iastore, 1) := by decide +kernel
theorem dX2_fillTwo_154 : decode cX2_fillTwo 154 = .ok (.iinc 5 1, 3) := by decide +kernel
theorem dX2_fillTwo_157 : decode cX2_fillTwo 157 = .ok (.goto (-127), 3) := by decide +kernel
theorem dX2_fillTwo_160 : decode cX2_fillTwo 160 = .ok (.iload_n 1, 1) := by decide +kernel
theorem dX2_fillTwo_161 : decode cX2_fillTwo 161 = .ok (.aload_n 0, 1) := by decide +kernel
theorem dX2_fillTwo_162 : decode cX2_fillTwo 162 = .ok (.getfield 15, 3) := by decide +kernel
theorem dX2_fillTwo_165 : decode cX2_fillTwo 165 = .ok (.invokestatic 117, 3) := by decide +kernel
theorem dX2_fillTwo_168 : decode cX2_fillTwo 168 = .ok (.istore 5, 2) := by decide +kernel
theorem dX2_fillTwo_170 : decode cX2_fillTwo 170 = .ok (.iload_n 1, 1) := by decide +kernel
theorem dX2_fillTwo_171 : decode cX2_fillTwo 171 = .ok (.istore 6, 2) := by decide +kernel
theorem dX2_fillTwo_173 : decode cX2_fillTwo 173 = .ok (.iload 6, 2) := by decide +kernel
theorem dX2_fillTwo_175 : decode cX2_fillTwo 175 = .ok (.ifCond .le 69, 3) := by decide +kernel
theorem dX2_fillTwo_178 : decode cX2_fillTwo 178 = .ok (.aload_n 0, 1) := by decide +kernel
theorem dX2_fillTwo_179 : decode cX2_fillTwo 179 = .ok (.getfield 42, 3) := by decide +kernel
theorem dX2_fillTwo_182 : decode cX2_fillTwo 182 = .ok (.iload 6, 2) := by decide +kernel
theorem dX2_fillTwo_184 : decode cX2_fillTwo 184 = .ok (.iaload, 1) := by decide +kernel
theorem dX2_fillTwo_185 : decode cX2_fillTwo 185 = .ok (.istore 7, 2) := by decide +kernel
theorem dX2_fillTwo_187 : decode cX2_fillTwo 187 = .ok (.iload 5, 2) := by decide +kernel
theorem dX2_fillTwo_189 : decode cX2_fillTwo 189 = .ok (.sipush 1000, 3) := by decide +kernel
theorem dX2_fillTwo_192 : decode cX2_fillTwo 192 = .ok (.iload 7, 2) := by decide +kernel
theorem dX2_fillTwo_194 : decode cX2_fillTwo 194 = .ok (.imul, 1) := by decide +kernel
theorem dX2_fillTwo_195 : decode cX2_fillTwo 195 = .ok (.aload 4, 2) := by decide +kernel
theorem dX2_fillTwo_197 : decode cX2_fillTwo 197 = .ok (.iload 6, 2) := by decide +kernel
theorem dX2_fillTwo_199 : decode cX2_fillTwo 199 = .ok (.iaload, 1) := by decide +kernel
theorem dX2_fillTwo_200 : decode cX2_fillTwo 200 = .ok (.aload_n 0, 1) := by decide +kernel
theorem dX2_fillTwo_201 : decode cX2_fillTwo 201 = .ok (.getfield 39, 3) := by decide +kernel
theorem dX2_fillTwo_204 : decode cX2_fillTwo 204 = .ok (.iload 6, 2) := by decide +kernel
theorem dX2_fillTwo_206 : decode cX2_fillTwo 206 = .ok (.bipush 42, 2) := by decide +kernel
theorem dX2_fillTwo_208 : decode cX2_fillTwo 208 = .ok (.imul, 1) := by decide +kernel
theorem dX2_fillTwo_209 : decode cX2_fillTwo 209 = .ok (.iload 6, 2) := by decide +kernel
theorem dX2_fillTwo_211 : decode cX2_fillTwo 211 = .ok (.iadd, 1) := by decide +kernel
theorem dX2_fillTwo_212 : decode cX2_fillTwo 212 = .ok (.iconst 1, 1) := by decide +kernel
theorem dX2_fillTwo_213 : decode cX2_fillTwo 213 = .ok (.iadd, 1) := by decide +kernel
theorem dX2_fillTwo_214 : decode cX2_fillTwo 214 = .ok (.iaload, 1) := by decide +kernel
theorem dX2_fillTwo_215 : decode cX2_fillTwo 215 = .ok (.iload 7, 2) := by decide +kernel
theorem dX2_fillTwo_217 : decode cX2_fillTwo 217 = .ok (.isub, 1) := by decide +kernel
theorem dX2_fillTwo_218 : decode cX2_fillTwo 218 = .ok (.imul, 1) := by decide +kernel
theorem dX2_fillTwo_219 : decode cX2_fillTwo 219 = .ok (.iadd, 1) := by decide +kernel
theorem dX2_fillTwo_220 : decode cX2_fillTwo 220 = .ok (.invokestatic 120, 3) := by decide +kernel
theorem dX2_fillTwo_223 : decode cX2_fillTwo 223 = .ok (.istore 5, 2) := by decide +kernel
theorem dX2_fillTwo_225 : decode cX2_fillTwo 225 = .ok (.aload_n 0, 1) := by decide +kernel
theorem dX2_fillTwo_226 : decode cX2_fillTwo 226 = .ok (.getfield 48, 3) := by decide +kernel
theorem dX2_fillTwo_229 : decode cX2_fillTwo 229 = .ok (.iload 6, 2) := by decide +kernel
theorem dX2_fillTwo_231 : decode cX2_fillTwo 231 = .ok (.iload 5, 2) := by decide +kernel
theorem dX2_fillTwo_233 : decode cX2_fillTwo 233 = .ok (.sipush 1000, 3) := by decide +kernel
theorem dX2_fillTwo_236 : decode cX2_fillTwo 236 = .ok (.idiv, 1) := by decide +kernel
theorem dX2_fillTwo_237 : decode cX2_fillTwo 237 = .ok (.iastore, 1) := by decide +kernel
theorem dX2_fillTwo_238 : decode cX2_fillTwo 238 = .ok (.iinc 6 (-1), 3) := by decide +kernel
theorem dX2_fillTwo_241 : decode cX2_fillTwo 241 = .ok (.goto (-68), 3) := by decide +kernel
theorem dX2_fillTwo_244 : decode cX2_fillTwo 244 = .ok (.return_, 1) := by decide +kernel
theorem dX2_atFirst_0 : decode cX2_atFirst 0 = .ok (.iload_n 0, 1) := by decide +kernel
theorem dX2_atFirst_1 : decode cX2_atFirst 1 = .ok (.bipush 40, 2) := by decide +kernel
theorem dX2_atFirst_3 : decode cX2_atFirst 3 = .ok (.if_icmp .ge 11, 3) := by decide +kernel
theorem dX2_atFirst_6 : decode cX2_atFirst 6 = .ok (.sipush 1000, 3) := by decide +kernel
theorem dX2_atFirst_9 : decode cX2_atFirst 9 = .ok (.iload_n 1, 1) := by decide +kernel
theorem dX2_atFirst_10 : decode cX2_atFirst 10 = .ok (.imul, 1) := by decide +kernel
theorem dX2_atFirst_11 : decode cX2_atFirst 11 = .ok (.goto 4, 3) := by decide +kernel
theorem dX2_atFirst_14 : decode cX2_atFirst 14 = .ok (.iconst (-1), 1) := by decide +kernel
theorem dX2_atFirst_15 : decode cX2_atFirst 15 = .ok (.ireturn, 1) := by decide +kernel
set_option maxRecDepth 20000 in
theorem ggX2_choose_X2_endOf : GoodIn wsX2_choose wsX2_endOf := goodIn_r _ [13, 14, 15, 2, 29, 30, 31, 32, 33, 34, 35, 36, 37, 38, 39, 40] (by decide +kernel) (by decide +kernel)
set_option maxRecDepth 20000 in
theorem gX2_choose_X2_endOf : GoodIn wsX2_choose (wsV RX2 125 RX2 yX2_endOf wsX2_endOf) := goodIn_app (goodIn_of _ (by decide +kernel)) ggX2_choose_X2_endOf
set_option maxRecDepth 20000 in
theorem ggX2_choose_X2_valueAt : GoodIn wsX2_choose wsX2_valueAt := goodIn_r _ [19, 20, 2, 3, 21, 22, 23, 24, 25, 9, 10, 11, 12, 13, 14, 15, 26, 27, 28, 29, 30, 31, 32, 33, 34, 35, 36, 37, 38, 39, 40] (by decide +kernel) (by decide +kernel)
set_option maxRecDepth 20000 in
theorem gX2_choose_X2_valueAt : GoodIn wsX2_choose (wsV RX2 129 RX2 yX2_valueAt wsX2_valueAt) := goodIn_app (goodIn_of _ (by decide +kernel)) ggX2_choose_X2_valueAt
theorem dX2_choose_0 : decode cX2_choose 0 = .ok (.aload_n 0, 1) := by decide +kernel
theorem dX2_choose_1 : decode cX2_choose 1 = .ok (.getfield 23, 3) := by decide +kernel
theorem dX2_choose_4 : decode cX2_choose 4 = .ok (.aload_n 0, 1) := by decide +kernel
theorem dX2_choose_5 : decode cX2_choose 5 = .ok (.getfield 30, 3) := by decide +kernel
theorem dX2_choose_8 : decode cX2_choose 8 = .ok (.iaload, 1) := by decide +kernel
theorem dX2_choose_9 : decode cX2_choose 9 = .ok (.istore 5, 2) := by decide +kernel
theorem dX2_choose_11 : decode cX2_choose 11 = .ok (.iload_n 3, 1) := by decide +kernel
theorem dX2_choose_12 : decode cX2_choose 12 = .ok (.ifCond .ne 10, 3) := by decide +kernel
theorem dX2_choose_15 : decode cX2_choose 15 = .ok (.aload_n 0, 1) := by decide +kernel
theorem dX2_choose_16 : decode cX2_choose 16 = .ok (.getfield 15, 3) := by decide +kernel
theorem dX2_choose_19 : decode cX2_choose 19 = .ok (.goto 8, 3) := by decide +kernel
theorem dX2_choose_22 : decode cX2_choose 22 = .ok (.aload_n 0, 1) := by decide +kernel
theorem dX2_choose_23 : decode cX2_choose 23 = .ok (.iload_n 3, 1) := by decide +kernel
theorem dX2_choose_24 : decode cX2_choose 24 = .ok (.invokevirtual 125, 3) := by decide +kernel
theorem dX2_choose_27 : decode cX2_choose 27 = .ok (.istore 6, 2) := by decide +kernel
theorem dX2_choose_29 : decode cX2_choose 29 = .ok (.aload_n 0, 1) := by decide +kernel
theorem dX2_choose_30 : decode cX2_choose 30 = .ok (.iload 4, 2) := by decide +kernel
theorem dX2_choose_32 : decode cX2_choose 32 = .ok (.iload 5, 2) := by decide +kernel
theorem dX2_choose_34 : decode cX2_choose 34 = .ok (.iconst 1, 1) := by decide +kernel
theorem dX2_choose_35 : decode cX2_choose 35 = .ok (.iadd, 1) := by decide +kernel
theorem dX2_choose_36 : decode cX2_choose 36 = .ok (.invokestatic 120, 3) := by decide +kernel
theorem dX2_choose_39 : decode cX2_choose 39 = .ok (.putfield 9, 3) := by decide +kernel
theorem dX2_choose_42 : decode cX2_choose 42 = .ok (.iload 4, 2) := by decide +kernel
theorem dX2_choose_44 : decode cX2_choose 44 = .ok (.iload 5, 2) := by decide +kernel
theorem dX2_choose_46 : decode cX2_choose 46 = .ok (.if_icmp .gt 10, 3) := by decide +kernel
theorem dX2_choose_49 : decode cX2_choose 49 = .ok (.iload 5, 2) := by decide +kernel
theorem dX2_choose_51 : decode cX2_choose 51 = .ok (.bipush 40, 2) := by decide +kernel
theorem dX2_choose_53 : decode cX2_choose 53 = .ok (.if_icmp .ge 8, 3) := by decide +kernel
theorem dX2_choose_56 : decode cX2_choose 56 = .ok (.iload 6, 2) := by decide +kernel
theorem dX2_choose_58 : decode cX2_choose 58 = .ok (.goto 4, 3) := by decide +kernel
theorem dX2_choose_61 : decode cX2_choose 61 = .ok (.iconst (-1), 1) := by decide +kernel
theorem dX2_choose_62 : decode cX2_choose 62 = .ok (.istore 7, 2) := by decide +kernel
theorem dX2_choose_64 : decode cX2_choose 64 = .ok (.iload 5, 2) := by decide +kernel
theorem dX2_choose_66 : decode cX2_choose 66 = .ok (.istore 8, 2) := by decide +kernel
theorem dX2_choose_68 : decode cX2_choose 68 = .ok (.iload 8, 2) := by decide +kernel
theorem dX2_choose_70 : decode cX2_choose 70 = .ok (.iload 4, 2) := by decide +kernel
theorem dX2_choose_72 : decode cX2_choose 72 = .ok (.if_icmp .lt 43, 3) := by decide +kernel
theorem dX2_choose_75 : decode cX2_choose 75 = .ok (.iload 8, 2) := by decide +kernel
theorem dX2_choose_77 : decode cX2_choose 77 = .ok (.iconst 1, 1) := by decide +kernel
theorem dX2_choose_78 : decode cX2_choose 78 = .ok (.if_icmp .lt 37, 3) := by decide +kernel
theorem dX2_choose_81 : decode cX2_choose 81 = .ok (.aload_n 0, 1) := by decide +kernel
theorem dX2_choose_82 : decode cX2_choose 82 = .ok (.iload_n 1, 1) := by decide +kernel
theorem dX2_choose_83 : decode cX2_choose 83 = .ok (.iload_n 2, 1) := by decide +kernel
theorem dX2_choose_84 : decode cX2_choose 84 = .ok (.iload_n 3, 1) := by decide +kernel
theorem dX2_choose_85 : decode cX2_choose 85 = .ok (.iload 8, 2) := by decide +kernel
theorem dX2_choose_87 : decode cX2_choose 87 = .ok (.invokevirtual 129, 3) := by decide +kernel
theorem dX2_choose_90 : decode cX2_choose 90 = .ok (.istore 9, 2) := by decide +kernel
theorem dX2_choose_92 : decode cX2_choose 92 = .ok (.iload 9, 2) := by decide +kernel
theorem dX2_choose_94 : decode cX2_choose 94 = .ok (.iload 7, 2) := by decide +kernel
theorem dX2_choose_96 : decode cX2_choose 96 = .ok (.if_icmp .lt 13, 3) := by decide +kernel
theorem dX2_choose_99 : decode cX2_choose 99 = .ok (.iload 9, 2) := by decide +kernel
theorem dX2_choose_101 : decode cX2_choose 101 = .ok (.istore 7, 2) := by decide +kernel
theorem dX2_choose_103 : decode cX2_choose 103 = .ok (.aload_n 0, 1) := by decide +kernel
theorem dX2_choose_104 : decode cX2_choose 104 = .ok (.iload 8, 2) := by decide +kernel
theorem dX2_choose_106 : decode cX2_choose 106 = .ok (.putfield 9, 3) := by decide +kernel
theorem dX2_choose_109 : decode cX2_choose 109 = .ok (.iinc 8 (-1), 3) := by decide +kernel
theorem dX2_choose_112 : decode cX2_choose 112 = .ok (.goto (-44), 3) := by decide +kernel
theorem dX2_choose_115 : decode cX2_choose 115 = .ok (.iload 7, 2) := by decide +kernel
theorem dX2_choose_117 : decode cX2_choose 117 = .ok (.ireturn, 1) := by decide +kernel
theorem dX2_endOf_0 : decode cX2_endOf 0 = .ok (.aload_n 0, 1) := by decide +kernel
theorem dX2_endOf_1 : decode cX2_endOf 1 = .ok (.getfield 33, 3) := by decide +kernel
theorem dX2_endOf_4 : decode cX2_endOf 4 = .ok (.iload_n 1, 1) := by decide +kernel
theorem dX2_endOf_5 : decode cX2_endOf 5 = .ok (.iadd, 1) := by decide +kernel
theorem dX2_endOf_6 : decode cX2_endOf 6 = .ok (.istore_n 2, 1) := by decide +kernel
theorem dX2_endOf_7 : decode cX2_endOf 7 = .ok (.iload_n 2, 1) := by decide +kernel
theorem dX2_endOf_8 : decode cX2_endOf 8 = .ok (.ifCond .lt 10, 3) := by decide +kernel
theorem dX2_endOf_11 : decode cX2_endOf 11 = .ok (.iload_n 2, 1) := by decide +kernel
theorem dX2_endOf_12 : decode cX2_endOf 12 = .ok (.sipush 242, 3) := by decide +kernel
theorem dX2_endOf_15 : decode cX2_endOf 15 = .ok (.if_icmp .lt 7, 3) := by decide +kernel
theorem dX2_endOf_18 : decode cX2_endOf 18 = .ok (.iconst 0, 1) := by decide +kernel
theorem dX2_endOf_19 : decode cX2_endOf 19 = .ok (.goto 16, 3) := by decide +kernel
theorem dX2_endOf_22 : decode cX2_endOf 22 = .ok (.aload_n 0, 1) := by decide +kernel
theorem dX2_endOf_23 : decode cX2_endOf 23 = .ok (.getfield 27, 3) := by decide +kernel
theorem dX2_endOf_26 : decode cX2_endOf 26 = .ok (.aload_n 0, 1) := by decide +kernel
theorem dX2_endOf_27 : decode cX2_endOf 27 = .ok (.getfield 30, 3) := by decide +kernel
theorem dX2_endOf_30 : decode cX2_endOf 30 = .ok (.iconst 1, 1) := by decide +kernel
theorem dX2_endOf_31 : decode cX2_endOf 31 = .ok (.iadd, 1) := by decide +kernel
theorem dX2_endOf_32 : decode cX2_endOf 32 = .ok (.aaload, 1) := by decide +kernel
theorem dX2_endOf_33 : decode cX2_endOf 33 = .ok (.iload_n 2, 1) := by decide +kernel
theorem dX2_endOf_34 : decode cX2_endOf 34 = .ok (.iaload, 1) := by decide +kernel
theorem dX2_endOf_35 : decode cX2_endOf 35 = .ok (.ireturn, 1) := by decide +kernel
set_option maxRecDepth 20000 in
theorem ggX2_valueAt_X2_endOf : GoodIn wsX2_valueAt wsX2_endOf := goodIn_r _ [13, 14, 15, 2, 19, 20, 21, 22, 23, 24, 25, 26, 27, 28, 29, 30] (by decide +kernel) (by decide +kernel)
set_option maxRecDepth 20000 in
theorem gX2_valueAt_X2_endOf : GoodIn wsX2_valueAt (wsV RX2 125 RX2 yX2_endOf wsX2_endOf) := goodIn_app (goodIn_of _ (by decide +kernel)) ggX2_valueAt_X2_endOf
set_option maxRecDepth 20000 in
theorem ggX2_valueAt_X8_mix : GoodIn wsX2_valueAt wsX8_mix := goodIn_r _ [18] (by decide +kernel) (by decide +kernel)
set_option maxRecDepth 20000 in
theorem gX2_valueAt_X8_mix_n132 : GoodIn wsX2_valueAt (wsX8_mix) := ggX2_valueAt_X8_mix
theorem dX2_valueAt_0 : decode cX2_valueAt 0 = .ok (.iload_n 2, 1) := by decide +kernel
theorem dX2_valueAt_1 : decode cX2_valueAt 1 = .ok (.ifCond .lt 18, 3) := by decide +kernel
theorem dX2_valueAt_4 : decode cX2_valueAt 4 = .ok (.iload_n 2, 1) := by decide +kernel
theorem dX2_valueAt_5 : decode cX2_valueAt 5 = .ok (.iconst 3, 1) := by decide +kernel
theorem dX2_valueAt_6 : decode cX2_valueAt 6 = .ok (.if_icmp .ge 13, 3) := by decide +kernel
theorem dX2_valueAt_9 : decode cX2_valueAt 9 = .ok (.iload_n 3, 1) := by decide +kernel
theorem dX2_valueAt_10 : decode cX2_valueAt 10 = .ok (.ifCond .lt 9, 3) := by decide +kernel
theorem dX2_valueAt_13 : decode cX2_valueAt 13 = .ok (.iload_n 3, 1) := by decide +kernel
theorem dX2_valueAt_14 : decode cX2_valueAt 14 = .ok (.bipush 40, 2) := by decide +kernel
theorem dX2_valueAt_16 : decode cX2_valueAt 16 = .ok (.if_icmp .le 5, 3) := by decide +kernel
theorem dX2_valueAt_19 : decode cX2_valueAt 19 = .ok (.iconst 0, 1) := by decide +kernel
theorem dX2_valueAt_20 : decode cX2_valueAt 20 = .ok (.ireturn, 1) := by decide +kernel
theorem dX2_valueAt_21 : decode cX2_valueAt 21 = .ok (.aload_n 0, 1) := by decide +kernel
theorem dX2_valueAt_22 : decode cX2_valueAt 22 = .ok (.getfield 20, 3) := by decide +kernel
theorem dX2_valueAt_25 : decode cX2_valueAt 25 = .ok (.aload_n 0, 1) := by decide +kernel
theorem dX2_valueAt_26 : decode cX2_valueAt 26 = .ok (.getfield 30, 3) := by decide +kernel
theorem dX2_valueAt_29 : decode cX2_valueAt 29 = .ok (.iconst 3, 1) := by decide +kernel
theorem dX2_valueAt_30 : decode cX2_valueAt 30 = .ok (.imul, 1) := by decide +kernel
theorem dX2_valueAt_31 : decode cX2_valueAt 31 = .ok (.iload_n 2, 1) := by decide +kernel
theorem dX2_valueAt_32 : decode cX2_valueAt 32 = .ok (.iadd, 1) := by decide +kernel
theorem dX2_valueAt_33 : decode cX2_valueAt 33 = .ok (.aaload, 1) := by decide +kernel
theorem dX2_valueAt_34 : decode cX2_valueAt 34 = .ok (.iload 4, 2) := by decide +kernel
theorem dX2_valueAt_36 : decode cX2_valueAt 36 = .ok (.iaload, 1) := by decide +kernel
theorem dX2_valueAt_37 : decode cX2_valueAt 37 = .ok (.istore 5, 2) := by decide +kernel
theorem dX2_valueAt_39 : decode cX2_valueAt 39 = .ok (.iload_n 1, 1) := by decide +kernel
theorem dX2_valueAt_40 : decode cX2_valueAt 40 = .ok (.iconst 1, 1) := by decide +kernel
theorem dX2_valueAt_41 : decode cX2_valueAt 41 = .ok (.if_icmp .gt 31, 3) := by decide +kernel
theorem dX2_valueAt_44 : decode cX2_valueAt 44 = .ok (.iload 5, 2) := by decide +kernel
theorem dX2_valueAt_46 : decode cX2_valueAt 46 = .ok (.aload_n 0, 1) := by decide +kernel
theorem dX2_valueAt_47 : decode cX2_valueAt 47 = .ok (.iload 4, 2) := by decide +kernel
theorem dX2_valueAt_49 : decode cX2_valueAt 49 = .ok (.invokevirtual 125, 3) := by decide +kernel
theorem dX2_valueAt_52 : decode cX2_valueAt 52 = .ok (.iload_n 3, 1) := by decide +kernel
theorem dX2_valueAt_53 : decode cX2_valueAt 53 = .ok (.ifCond .ne 10, 3) := by decide +kernel
theorem dX2_valueAt_56 : decode cX2_valueAt 56 = .ok (.aload_n 0, 1) := by decide +kernel
theorem dX2_valueAt_57 : decode cX2_valueAt 57 = .ok (.getfield 15, 3) := by decide +kernel
theorem dX2_valueAt_60 : decode cX2_valueAt 60 = .ok (.goto 8, 3) := by decide +kernel
theorem dX2_valueAt_63 : decode cX2_valueAt 63 = .ok (.aload_n 0, 1) := by decide +kernel
theorem dX2_valueAt_64 : decode cX2_valueAt 64 = .ok (.iload_n 3, 1) := by decide +kernel
theorem dX2_valueAt_65 : decode cX2_valueAt 65 = .ok (.invokevirtual 125, 3) := by decide +kernel
theorem dX2_valueAt_68 : decode cX2_valueAt 68 = .ok (.invokestatic 132, 3) := by decide +kernel
theorem dX2_valueAt_71 : decode cX2_valueAt 71 = .ok (.ireturn, 1) := by decide +kernel
theorem dX2_valueAt_72 : decode cX2_valueAt 72 = .ok (.iload_n 1, 1) := by decide +kernel
theorem dX2_valueAt_73 : decode cX2_valueAt 73 = .ok (.iconst 3, 1) := by decide +kernel
theorem dX2_valueAt_74 : decode cX2_valueAt 74 = .ok (.if_icmp .lt 23, 3) := by decide +kernel
theorem dX2_valueAt_77 : decode cX2_valueAt 77 = .ok (.iload 5, 2) := by decide +kernel
theorem dX2_valueAt_79 : decode cX2_valueAt 79 = .ok (.aload_n 0, 1) := by decide +kernel
theorem dX2_valueAt_80 : decode cX2_valueAt 80 = .ok (.getfield 45, 3) := by decide +kernel
theorem dX2_valueAt_83 : decode cX2_valueAt 83 = .ok (.iload 4, 2) := by decide +kernel
theorem dX2_valueAt_85 : decode cX2_valueAt 85 = .ok (.iaload, 1) := by decide +kernel
theorem dX2_valueAt_86 : decode cX2_valueAt 86 = .ok (.aload_n 0, 1) := by decide +kernel
theorem dX2_valueAt_87 : decode cX2_valueAt 87 = .ok (.getfield 48, 3) := by decide +kernel
theorem dX2_valueAt_90 : decode cX2_valueAt 90 = .ok (.iload 4, 2) := by decide +kernel
theorem dX2_valueAt_92 : decode cX2_valueAt 92 = .ok (.iaload, 1) := by decide +kernel
theorem dX2_valueAt_93 : decode cX2_valueAt 93 = .ok (.invokestatic 132, 3) := by decide +kernel
theorem dX2_valueAt_96 : decode cX2_valueAt 96 = .ok (.ireturn, 1) := by decide +kernel
theorem dX2_valueAt_97 : decode cX2_valueAt 97 = .ok (.iload_n 2, 1) := by decide +kernel
theorem dX2_valueAt_98 : decode cX2_valueAt 98 = .ok (.ifCond .ne 28, 3) := by decide +kernel
theorem dX2_valueAt_101 : decode cX2_valueAt 101 = .ok (.iload 5, 2) := by decide +kernel
theorem dX2_valueAt_103 : decode cX2_valueAt 103 = .ok (.aload_n 0, 1) := by decide +kernel
theorem dX2_valueAt_104 : decode cX2_valueAt 104 = .ok (.getfield 36, 3) := by decide +kernel
theorem dX2_valueAt_107 : decode cX2_valueAt 107 = .ok (.iload 4, 2) := by decide +kernel
theorem dX2_valueAt_109 : decode cX2_valueAt 109 = .ok (.iaload, 1) := by decide +kernel
theorem dX2_valueAt_110 : decode cX2_valueAt 110 = .ok (.aload_n 0, 1) := by decide +kernel
theorem dX2_valueAt_111 : decode cX2_valueAt 111 = .ok (.getfield 39, 3) := by decide +kernel
theorem dX2_valueAt_114 : decode cX2_valueAt 114 = .ok (.iload_n 3, 1) := by decide +kernel
theorem dX2_valueAt_115 : decode cX2_valueAt 115 = .ok (.bipush 42, 2) := by decide +kernel
theorem dX2_valueAt_117 : decode cX2_valueAt 117 = .ok (.imul, 1) := by decide +kernel
theorem dX2_valueAt_118 : decode cX2_valueAt 118 = .ok (.iload 4, 2) := by decide +kernel
theorem dX2_valueAt_120 : decode cX2_valueAt 120 = .ok (.iadd, 1) := by decide +kernel
theorem dX2_valueAt_121 : decode cX2_valueAt 121 = .ok (.iaload, 1) := by decide +kernel
theorem dX2_valueAt_122 : decode cX2_valueAt 122 = .ok (.invokestatic 132, 3) := by decide +kernel
theorem dX2_valueAt_125 : decode cX2_valueAt 125 = .ok (.ireturn, 1) := by decide +kernel
theorem dX2_valueAt_126 : decode cX2_valueAt 126 = .ok (.iload 5, 2) := by decide +kernel
theorem dX2_valueAt_128 : decode cX2_valueAt 128 = .ok (.aload_n 0, 1) := by decide +kernel
theorem dX2_valueAt_129 : decode cX2_valueAt 129 = .ok (.getfield 39, 3) := by decide +kernel
theorem dX2_valueAt_132 : decode cX2_valueAt 132 = .ok (.iload 4, 2) := by decide +kernel
theorem dX2_valueAt_134 : decode cX2_valueAt 134 = .ok (.bipush 42, 2) := by decide +kernel
theorem dX2_valueAt_136 : decode cX2_valueAt 136 = .ok (.imul, 1) := by decide +kernel
theorem dX2_valueAt_137 : decode cX2_valueAt 137 = .ok (.iload 4, 2) := by decide +kernel
theorem dX2_valueAt_139 : decode cX2_valueAt 139 = .ok (.iadd, 1) := by decide +kernel
theorem dX2_valueAt_140 : decode cX2_valueAt 140 = .ok (.iconst 1, 1) := by decide +kernel
theorem dX2_valueAt_141 : decode cX2_valueAt 141 = .ok (.iadd, 1) := by decide +kernel
theorem dX2_valueAt_142 : decode cX2_valueAt 142 = .ok (.iaload, 1) := by decide +kernel
theorem dX2_valueAt_143 : decode cX2_valueAt 143 = .ok (.aload_n 0, 1) := by decide +kernel
theorem dX2_valueAt_144 : decode cX2_valueAt 144 = .ok (.getfield 42, 3) := by decide +kernel
theorem dX2_valueAt_147 : decode cX2_valueAt 147 = .ok (.iload 4, 2) := by decide +kernel
theorem dX2_valueAt_149 : decode cX2_valueAt 149 = .ok (.iaload, 1) := by decide +kernel
theorem dX2_valueAt_150 : decode cX2_valueAt 150 = .ok (.invokestatic 132, 3) := by decide +kernel
theorem dX2_valueAt_153 : decode cX2_valueAt 153 = .ok (.ireturn, 1) := by decide +kernel
theorem dX3_init_0 : decode cX3_init 0 = .ok (.aload_n 0, 1) := by decide +kernel
theorem dX3_init_1 : decode cX3_init 1 = .ok (.invokespecial 3, 3) := by decide +kernel
theorem dX3_init_4 : decode cX3_init 4 = .ok (.aload_n 0, 1) := by decide +kernel
theorem dX3_init_5 : decode cX3_init 5 = .ok (.bipush 123, 2) := by decide +kernel
theorem dX3_init_7 : decode cX3_init 7 = .ok (.newarray .int, 2) := by decide +kernel
theorem dX3_init_9 : decode cX3_init 9 = .ok (.putfield 9, 3) := by decide +kernel
theorem dX3_init_12 : decode cX3_init 12 = .ok (.aload_n 0, 1) := by decide +kernel
theorem dX3_init_13 : decode cX3_init 13 = .ok (.bipush 9, 2) := by decide +kernel
theorem dX3_init_15 : decode cX3_init 15 = .ok (.newarray .int, 2) := by decide +kernel
theorem dX3_init_17 : decode cX3_init 17 = .ok (.putfield 15, 3) := by decide +kernel
theorem dX3_init_20 : decode cX3_init 20 = .ok (.return_, 1) := by decide +kernel
theorem dX3_oddsOf_0 : decode cX3_oddsOf 0 = .ok (.iload_n 1, 1) := by decide +kernel
theorem dX3_oddsOf_1 : decode cX3_oddsOf 1 = .ok (.ifCond .lt 19, 3) := by decide +kernel
theorem dX3_oddsOf_4 : decode cX3_oddsOf 4 = .ok (.iload_n 1, 1) := by decide +kernel
theorem dX3_oddsOf_5 : decode cX3_oddsOf 5 = .ok (.iconst 3, 1) := by decide +kernel
theorem dX3_oddsOf_6 : decode cX3_oddsOf 6 = .ok (.if_icmp .ge 14, 3) := by decide +kernel
theorem dX3_oddsOf_9 : decode cX3_oddsOf 9 = .ok (.iload_n 2, 1) := by decide +kernel
theorem dX3_oddsOf_10 : decode cX3_oddsOf 10 = .ok (.iconst 1, 1) := by decide +kernel
theorem dX3_oddsOf_11 : decode cX3_oddsOf 11 = .ok (.if_icmp .lt 9, 3) := by decide +kernel
theorem dX3_oddsOf_14 : decode cX3_oddsOf 14 = .ok (.iload_n 2, 1) := by decide +kernel
theorem dX3_oddsOf_15 : decode cX3_oddsOf 15 = .ok (.bipush 40, 2) := by decide +kernel
theorem dX3_oddsOf_17 : decode cX3_oddsOf 17 = .ok (.if_icmp .le 5, 3) := by decide +kernel
theorem dX3_oddsOf_20 : decode cX3_oddsOf 20 = .ok (.iconst 0, 1) := by decide +kernel
theorem dX3_oddsOf_21 : decode cX3_oddsOf 21 = .ok (.ireturn, 1) := by decide +kernel
theorem dX3_oddsOf_22 : decode cX3_oddsOf 22 = .ok (.iconst 0, 1) := by decide +kernel
theorem dX3_oddsOf_23 : decode cX3_oddsOf 23 = .ok (.aload_n 0, 1) := by decide +kernel
theorem dX3_oddsOf_24 : decode cX3_oddsOf 24 = .ok (.getfield 9, 3) := by decide +kernel
theorem dX3_oddsOf_27 : decode cX3_oddsOf 27 = .ok (.iload_n 1, 1) := by decide +kernel
theorem dX3_oddsOf_28 : decode cX3_oddsOf 28 = .ok (.bipush 41, 2) := by decide +kernel
theorem dX3_oddsOf_30 : decode cX3_oddsOf 30 = .ok (.imul, 1) := by decide +kernel
theorem dX3_oddsOf_31 : decode cX3_oddsOf 31 = .ok (.iload_n 2, 1) := by decide +kernel
theorem dX3_oddsOf_32 : decode cX3_oddsOf 32 = .ok (.iadd, 1) := by decide +kernel
theorem dX3_oddsOf_33 : decode cX3_oddsOf 33 = .ok (.iaload, 1) := by decide +kernel
theorem dX3_oddsOf_34 : decode cX3_oddsOf 34 = .ok (.iload_n 3, 1) := by decide +kernel
theorem dX3_oddsOf_35 : decode cX3_oddsOf 35 = .ok (.isub, 1) := by decide +kernel
theorem dX3_oddsOf_36 : decode cX3_oddsOf 36 = .ok (.invokestatic 18, 3) := by decide +kernel
theorem dX3_oddsOf_39 : decode cX3_oddsOf 39 = .ok (.ireturn, 1) := by decide +kernel
theorem dX3_leadsLike_0 : decode cX3_leadsLike 0 = .ok (.aload_n 0, 1) := by decide +kernel
theorem dX3_leadsLike_1 : decode cX3_leadsLike 1 = .ok (.getfield 24, 3) := by decide +kernel
theorem dX3_leadsLike_4 : decode cX3_leadsLike 4 = .ok (.aload_n 1, 1) := by decide +kernel
theorem dX3_leadsLike_5 : decode cX3_leadsLike 5 = .ok (.getfield 24, 3) := by decide +kernel
theorem dX3_leadsLike_8 : decode cX3_leadsLike 8 = .ok (.if_icmp .eq 22, 3) := by decide +kernel
theorem dX3_leadsLike_11 : decode cX3_leadsLike 11 = .ok (.aload_n 0, 1) := by decide +kernel
theorem dX3_leadsLike_12 : decode cX3_leadsLike 12 = .ok (.getfield 24, 3) := by decide +kernel
theorem dX3_leadsLike_15 : decode cX3_leadsLike 15 = .ok (.aload_n 1, 1) := by decide +kernel
theorem dX3_leadsLike_16 : decode cX3_leadsLike 16 = .ok (.getfield 24, 3) := by decide +kernel
theorem dX3_leadsLike_19 : decode cX3_leadsLike 19 = .ok (.if_icmp .ge 7, 3) := by decide +kernel
theorem dX3_leadsLike_22 : decode cX3_leadsLike 22 = .ok (.iconst 1, 1) := by decide +kernel
theorem dX3_leadsLike_23 : decode cX3_leadsLike 23 = .ok (.goto 23, 3) := by decide +kernel
theorem dX3_leadsLike_26 : decode cX3_leadsLike 26 = .ok (.iconst 0, 1) := by decide +kernel
theorem dX3_leadsLike_27 : decode cX3_leadsLike 27 = .ok (.goto 19, 3) := by decide +kernel
theorem dX3_leadsLike_30 : decode cX3_leadsLike 30 = .ok (.aload_n 0, 1) := by decide +kernel
theorem dX3_leadsLike_31 : decode cX3_leadsLike 31 = .ok (.getfield 28, 3) := by decide +kernel
theorem dX3_leadsLike_34 : decode cX3_leadsLike 34 = .ok (.aload_n 1, 1) := by decide +kernel
theorem dX3_leadsLike_35 : decode cX3_leadsLike 35 = .ok (.getfield 28, 3) := by decide +kernel
theorem dX3_leadsLike_38 : decode cX3_leadsLike 38 = .ok (.if_icmp .ge 7, 3) := by decide +kernel
theorem dX3_leadsLike_41 : decode cX3_leadsLike 41 = .ok (.iconst 1, 1) := by decide +kernel
theorem dX3_leadsLike_42 : decode cX3_leadsLike 42 = .ok (.goto 4, 3) := by decide +kernel
theorem dX3_leadsLike_45 : decode cX3_leadsLike 45 = .ok (.iconst 0, 1) := by decide +kernel
theorem dX3_leadsLike_46 : decode cX3_leadsLike 46 = .ok (.ireturn, 1) := by decide +kernel
theorem dX3_clearTable_0 : decode cX3_clearTable 0 = .ok (.iconst 0, 1) := by decide +kernel
theorem dX3_clearTable_1 : decode cX3_clearTable 1 = .ok (.istore_n 2, 1) := by decide +kernel
theorem dX3_clearTable_2 : decode cX3_clearTable 2 = .ok (.iload_n 2, 1) := by decide +kernel
theorem dX3_clearTable_3 : decode cX3_clearTable 3 = .ok (.bipush 40, 2) := by decide +kernel
theorem dX3_clearTable_5 : decode cX3_clearTable 5 = .ok (.if_icmp .gt 21, 3) := by decide +kernel
theorem dX3_clearTable_8 : decode cX3_clearTable 8 = .ok (.aload_n 0, 1) := by decide +kernel
theorem dX3_clearTable_9 : decode cX3_clearTable 9 = .ok (.getfield 9, 3) := by decide +kernel
theorem dX3_clearTable_12 : decode cX3_clearTable 12 = .ok (.iload_n 1, 1) := by decide +kernel
theorem dX3_clearTable_13 : decode cX3_clearTable 13 = .ok (.bipush 41, 2) := by decide +kernel
theorem dX3_clearTable_15 : decode cX3_clearTable 15 = .ok (.imul, 1) := by decide +kernel
theorem dX3_clearTable_16 : decode cX3_clearTable 16 = .ok (.iload_n 2, 1) := by decide +kernel
theorem dX3_clearTable_17 : decode cX3_clearTable 17 = .ok (.iadd, 1) := by decide +kernel
theorem dX3_clearTable_18 : decode cX3_clearTable 18 = .ok (.iconst 0, 1) := by decide +kernel
theorem dX3_clearTable_19 : decode cX3_clearTable 19 = .ok (.iastore, 1) := by decide +kernel
theorem dX3_clearTable_20 : decode cX3_clearTable 20 = .ok (.iinc 2 1, 3) := by decide +kernel
theorem dX3_clearTable_23 : decode cX3_clearTable 23 = .ok (.goto (-21), 3) := by decide +kernel
theorem dX3_clearTable_26 : decode cX3_clearTable 26 = .ok (.return_, 1) := by decide +kernel
