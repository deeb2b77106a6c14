set_option maxRecDepth 20000 in
theorem gX9_slot_X9_leastOf : GoodIn wsX9_slot (wsV RX9 249 RX9 yX9_leastOf wsX9_leastOf) := goodIn_app (goodIn_of _ (by decide +kernel)) ggX9_slot_X9_leastOf
set_option maxRecDepth 20000 in
theorem ggX9_slot_X9_sets : GoodIn wsX9_slot wsX9_sets := goodIn_r _ [39, 19, 52, 53, 54, 55, 56, 57, 58, 59, 60, 61, 62, 63, 64, 65, 66, 67, 68, 69, 70, 71, 72, 73, 74, 75, 76, 77, 78, 79, 80, 81, 82, 83, 84, 85, 86, 87, 88, 89, 90, 91] (by decide +kernel) (by decide +kernel)
set_option maxRecDepth 20000 in
theorem gX9_slot_X9_sets : GoodIn wsX9_slot (wsV RX9 109 RX9 yX9_sets wsX9_sets) := goodIn_app (goodIn_of _ (by decide +kernel)) ggX9_slot_X9_sets
set_option maxRecDepth 20000 in
theorem ggX9_slot_X9_calledAhead : GoodIn wsX9_slot wsX9_calledAhead := goodIn_r _ [43, 7, 11, 12, 13, 5, 14, 15, 16, 17, 18, 19, 20, 21, 22, 23, 24, 25, 26, 27, 44, 45, 46, 47, 48, 49, 50, 51, 52, 53, 54, 55, 56, 57, 58, 59, 60, 61, 62, 63, 64, 65, 66, 67, 68, 69, 70, 71, 72, 73, 74, 75, 76, 77, 78, 79, 80, 81, 82, 83, 84, 85, 86, 87, 88, 89, 90, 91] (by decide +kernel) (by decide +kernel)
set_option maxRecDepth 20000 in
theorem gX9_slot_X9_calledAhead : GoodIn wsX9_slot (wsV RX9 252 RX9 yX9_calledAhead wsX9_calledAhead) := goodIn_app (goodIn_of _ (by decide +kernel)) ggX9_slot_X9_calledAhead
theorem dX9_slot_0 : decode cX9_slot 0 = .ok (.aload_n 0, 1) := by decide +kernel
theorem dX9_slot_1 : decode cX9_slot 1 = .ok (.iconst 0, 1) := by decide +kernel
theorem dX9_slot_2 : decode cX9_slot 2 = .ok (.putfield 77, 3) := by decide +kernel
theorem dX9_slot_5 : decode cX9_slot 5 = .ok (.aload_n 0, 1) := by decide +kernel
theorem dX9_slot_6 : decode cX9_slot 6 = .ok (.iload_n 1, 1) := by decide +kernel
theorem dX9_slot_7 : decode cX9_slot 7 = .ok (.invokevirtual 233, 3) := by decide +kernel
theorem dX9_slot_10 : decode cX9_slot 10 = .ok (.ifCond .eq 7, 3) := by decide +kernel
theorem dX9_slot_13 : decode cX9_slot 13 = .ok (.iload_n 2, 1) := by decide +kernel
theorem dX9_slot_14 : decode cX9_slot 14 = .ok (.ifCond .ge 5, 3) := by decide +kernel
theorem dX9_slot_17 : decode cX9_slot 17 = .ok (.iconst (-1), 1) := by decide +kernel
theorem dX9_slot_18 : decode cX9_slot 18 = .ok (.ireturn, 1) := by decide +kernel
theorem dX9_slot_19 : decode cX9_slot 19 = .ok (.aload_n 0, 1) := by decide +kernel
theorem dX9_slot_20 : decode cX9_slot 20 = .ok (.iload_n 1, 1) := by decide +kernel
theorem dX9_slot_21 : decode cX9_slot 21 = .ok (.invokevirtual 140, 3) := by decide +kernel
theorem dX9_slot_24 : decode cX9_slot 24 = .ok (.ifCond .ne 6, 3) := by decide +kernel
theorem dX9_slot_27 : decode cX9_slot 27 = .ok (.bipush (-2), 2) := by decide +kernel
theorem dX9_slot_29 : decode cX9_slot 29 = .ok (.ireturn, 1) := by decide +kernel
theorem dX9_slot_30 : decode cX9_slot 30 = .ok (.aload_n 0, 1) := by decide +kernel
theorem dX9_slot_31 : decode cX9_slot 31 = .ok (.iload_n 1, 1) := by decide +kernel
theorem dX9_slot_32 : decode cX9_slot 32 = .ok (.iconst 0, 1) := by decide +kernel
theorem dX9_slot_33 : decode cX9_slot 33 = .ok (.invokevirtual 106, 3) := by decide +kernel
theorem dX9_slot_36 : decode cX9_slot 36 = .ok (.istore_n 3, 1) := by decide +kernel
theorem dX9_slot_37 : decode cX9_slot 37 = .ok (.bipush (-3), 2) := by decide +kernel
theorem dX9_slot_39 : decode cX9_slot 39 = .ok (.istore 4, 2) := by decide +kernel
theorem dX9_slot_41 : decode cX9_slot 41 = .ok (.bipush 40, 2) := by decide +kernel
theorem dX9_slot_43 : decode cX9_slot 43 = .ok (.istore 5, 2) := by decide +kernel
theorem dX9_slot_45 : decode cX9_slot 45 = .ok (.iload 5, 2) := by decide +kernel
theorem dX9_slot_47 : decode cX9_slot 47 = .ok (.aload_n 0, 1) := by decide +kernel
theorem dX9_slot_48 : decode cX9_slot 48 = .ok (.iload_n 1, 1) := by decide +kernel
theorem dX9_slot_49 : decode cX9_slot 49 = .ok (.invokevirtual 249, 3) := by decide +kernel
theorem dX9_slot_52 : decode cX9_slot 52 = .ok (.if_icmp .lt 35, 3) := by decide +kernel
theorem dX9_slot_55 : decode cX9_slot 55 = .ok (.aload_n 0, 1) := by decide +kernel
theorem dX9_slot_56 : decode cX9_slot 56 = .ok (.iload_n 1, 1) := by decide +kernel
theorem dX9_slot_57 : decode cX9_slot 57 = .ok (.iconst 0, 1) := by decide +kernel
theorem dX9_slot_58 : decode cX9_slot 58 = .ok (.iload 5, 2) := by decide +kernel
theorem dX9_slot_60 : decode cX9_slot 60 = .ok (.invokevirtual 109, 3) := by decide +kernel
theorem dX9_slot_63 : decode cX9_slot 63 = .ok (.aload_n 0, 1) := by decide +kernel
theorem dX9_slot_64 : decode cX9_slot 64 = .ok (.iload_n 1, 1) := by decide +kernel
theorem dX9_slot_65 : decode cX9_slot 65 = .ok (.invokevirtual 252, 3) := by decide +kernel
theorem dX9_slot_68 : decode cX9_slot 68 = .ok (.iload_n 2, 1) := by decide +kernel
theorem dX9_slot_69 : decode cX9_slot 69 = .ok (.if_icmp .ne 8, 3) := by decide +kernel
theorem dX9_slot_72 : decode cX9_slot 72 = .ok (.iload 5, 2) := by decide +kernel
theorem dX9_slot_74 : decode cX9_slot 74 = .ok (.goto 5, 3) := by decide +kernel
theorem dX9_slot_77 : decode cX9_slot 77 = .ok (.iload 4, 2) := by decide +kernel
theorem dX9_slot_79 : decode cX9_slot 79 = .ok (.istore 4, 2) := by decide +kernel
theorem dX9_slot_81 : decode cX9_slot 81 = .ok (.iinc 5 (-1), 3) := by decide +kernel
theorem dX9_slot_84 : decode cX9_slot 84 = .ok (.goto (-39), 3) := by decide +kernel
theorem dX9_slot_87 : decode cX9_slot 87 = .ok (.aload_n 0, 1) := by decide +kernel
theorem dX9_slot_88 : decode cX9_slot 88 = .ok (.iload_n 1, 1) := by decide +kernel
theorem dX9_slot_89 : decode cX9_slot 89 = .ok (.iconst 0, 1) := by decide +kernel
theorem dX9_slot_90 : decode cX9_slot 90 = .ok (.iload_n 3, 1) := by decide +kernel
theorem dX9_slot_91 : decode cX9_slot 91 = .ok (.invokevirtual 109, 3) := by decide +kernel
theorem dX9_slot_94 : decode cX9_slot 94 = .ok (.iload 4, 2) := by decide +kernel
theorem dX9_slot_96 : decode cX9_slot 96 = .ok (.ireturn, 1) := by decide +kernel
set_option maxRecDepth 20000 in
theorem ggX9_needs_X9_isLifter : GoodIn wsX9_needs wsX9_isLifter := goodIn_r _ [11, 12, 13, 14, 10, 15, 50, 51, 52, 53, 54, 55, 56, 57, 58, 59, 60, 61, 62, 63, 64, 65, 66, 67, 68, 69, 70, 71, 72, 73, 74, 75, 76, 77, 78, 79, 80, 81, 82, 83, 84, 85, 86, 87, 88, 89] (by decide +kernel) (by decide +kernel)
set_option maxRecDepth 20000 in
theorem gX9_needs_X9_isLifter : GoodIn wsX9_needs (wsV RX9 233 RX9 yX9_isLifter wsX9_isLifter) := goodIn_app (goodIn_of _ (by decide +kernel)) ggX9_needs_X9_isLifter
set_option maxRecDepth 20000 in
theorem ggX9_needs_X9_isAhead : GoodIn wsX9_needs wsX9_isAhead := goodIn_r _ [19, 20, 21, 22, 10, 23, 24, 25, 26, 27, 2, 28, 29, 30, 31, 32, 33, 34, 35, 36, 37, 50, 51, 52, 53, 54, 55, 56, 57, 58, 59, 60, 61, 62, 63, 64, 65, 66, 67, 68, 69, 70, 71, 72, 73, 74, 75, 76, 77, 78, 79, 80, 81, 82, 83, 84, 85, 86, 87, 88, 89] (by decide +kernel) (by decide +kernel)
set_option maxRecDepth 20000 in
theorem gX9_needs_X9_isAhead : GoodIn wsX9_needs (wsV RX9 174 RX9 yX9_isAhead wsX9_isAhead) := goodIn_app (goodIn_of _ (by decide +kernel)) ggX9_needs_X9_isAhead
set_option maxRecDepth 20000 in
theorem ggX9_needs_X9_leastOf : GoodIn wsX9_needs wsX9_leastOf := goodIn_r _ [41, 2, 3, 4, 5, 6, 24, 25, 26, 10, 27, 20, 21, 22, 23, 42, 43, 44, 45, 50, 51, 52, 53, 54, 55, 56, 57, 58, 59, 60, 61, 62, 63, 64, 65, 66, 67, 68, 69, 70, 71, 72, 73, 74, 75, 76, 77, 78, 79, 80, 81, 82, 83, 84, 85, 86, 87, 88, 89] (by decide +kernel) (by decide +kernel)
set_option maxRecDepth 20000 in
theorem gX9_needs_X9_leastOf : GoodIn wsX9_needs (wsV RX9 249 RX9 yX9_leastOf wsX9_leastOf) := goodIn_app (goodIn_of _ (by decide +kernel)) ggX9_needs_X9_leastOf
set_option maxRecDepth 20000 in
theorem ggX9_needs_X9_of : GoodIn wsX9_needs wsX9_of := goodIn_r _ [27, 2, 50, 51, 52, 53, 54, 55, 56, 57, 58, 59, 60, 61, 62, 63, 64, 65, 66, 67, 68, 69, 70, 71, 72, 73, 74, 75, 76, 77, 78, 79, 80, 81, 82, 83, 84, 85, 86, 87, 88, 89] (by decide +kernel) (by decide +kernel)
set_option maxRecDepth 20000 in
theorem gX9_needs_X9_of : GoodIn wsX9_needs (wsV RX9 106 RX9 yX9_of wsX9_of) := goodIn_app (goodIn_of _ (by decide +kernel)) ggX9_needs_X9_of
set_option maxRecDepth 20000 in
theorem ggX9_needs_X9_sets : GoodIn wsX9_needs wsX9_sets := goodIn_r _ [49, 2, 50, 51, 52, 53, 54, 55, 56, 57, 58, 59, 60, 61, 62, 63, 64, 65, 66, 67, 68, 69, 70, 71, 72, 73, 74, 75, 76, 77, 78, 79, 80, 81, 82, 83, 84, 85, 86, 87, 88, 89] (by decide +kernel) (by decide +kernel)
set_option maxRecDepth 20000 in
theorem gX9_needs_X9_sets : GoodIn wsX9_needs (wsV RX9 109 RX9 yX9_sets wsX9_sets) := goodIn_app (goodIn_of _ (by decide +kernel)) ggX9_needs_X9_sets
theorem dX9_needs_0 : decode cX9_needs 0 = .ok (.aload_n 0, 1) := by decide +kernel
theorem dX9_needs_1 : decode cX9_needs 1 = .ok (.iconst 0, 1) := by decide +kernel
theorem dX9_needs_2 : decode cX9_needs 2 = .ok (.putfield 77, 3) := by decide +kernel
theorem dX9_needs_5 : decode cX9_needs 5 = .ok (.aload_n 0, 1) := by decide +kernel
theorem dX9_needs_6 : decode cX9_needs 6 = .ok (.iload_n 1, 1) := by decide +kernel
theorem dX9_needs_7 : decode cX9_needs 7 = .ok (.invokevirtual 233, 3) := by decide +kernel
theorem dX9_needs_10 : decode cX9_needs 10 = .ok (.ifCond .eq 16, 3) := by decide +kernel
theorem dX9_needs_13 : decode cX9_needs 13 = .ok (.aload_n 0, 1) := by decide +kernel
theorem dX9_needs_14 : decode cX9_needs 14 = .ok (.iload_n 2, 1) := by decide +kernel
theorem dX9_needs_15 : decode cX9_needs 15 = .ok (.invokevirtual 233, 3) := by decide +kernel
theorem dX9_needs_18 : decode cX9_needs 18 = .ok (.ifCond .eq 8, 3) := by decide +kernel
theorem dX9_needs_21 : decode cX9_needs 21 = .ok (.iload_n 1, 1) := by decide +kernel
theorem dX9_needs_22 : decode cX9_needs 22 = .ok (.iload_n 2, 1) := by decide +kernel
theorem dX9_needs_23 : decode cX9_needs 23 = .ok (.if_icmp .ne 5, 3) := by decide +kernel
theorem dX9_needs_26 : decode cX9_needs 26 = .ok (.iconst (-1), 1) := by decide +kernel
theorem dX9_needs_27 : decode cX9_needs 27 = .ok (.ireturn, 1) := by decide +kernel
theorem dX9_needs_28 : decode cX9_needs 28 = .ok (.aload_n 0, 1) := by decide +kernel
theorem dX9_needs_29 : decode cX9_needs 29 = .ok (.iload_n 1, 1) := by decide +kernel
theorem dX9_needs_30 : decode cX9_needs 30 = .ok (.iload_n 2, 1) := by decide +kernel
theorem dX9_needs_31 : decode cX9_needs 31 = .ok (.invokevirtual 174, 3) := by decide +kernel
theorem dX9_needs_34 : decode cX9_needs 34 = .ok (.ifCond .eq 5, 3) := by decide +kernel
theorem dX9_needs_37 : decode cX9_needs 37 = .ok (.iconst 0, 1) := by decide +kernel
theorem dX9_needs_38 : decode cX9_needs 38 = .ok (.ireturn, 1) := by decide +kernel
theorem dX9_needs_39 : decode cX9_needs 39 = .ok (.aload_n 0, 1) := by decide +kernel
theorem dX9_needs_40 : decode cX9_needs 40 = .ok (.iload_n 1, 1) := by decide +kernel
theorem dX9_needs_41 : decode cX9_needs 41 = .ok (.invokevirtual 249, 3) := by decide +kernel
theorem dX9_needs_44 : decode cX9_needs 44 = .ok (.ifCond .ne 6, 3) := by decide +kernel
theorem dX9_needs_47 : decode cX9_needs 47 = .ok (.bipush (-2), 2) := by decide +kernel
theorem dX9_needs_49 : decode cX9_needs 49 = .ok (.ireturn, 1) := by decide +kernel
theorem dX9_needs_50 : decode cX9_needs 50 = .ok (.bipush 7, 2) := by decide +kernel
theorem dX9_needs_52 : decode cX9_needs 52 = .ok (.aload_n 0, 1) := by decide +kernel
theorem dX9_needs_53 : decode cX9_needs 53 = .ok (.getfield 32, 3) := by decide +kernel
theorem dX9_needs_56 : decode cX9_needs 56 = .ok (.iconst 0, 1) := by decide +kernel
theorem dX9_needs_57 : decode cX9_needs 57 = .ok (.iaload, 1) := by decide +kernel
theorem dX9_needs_58 : decode cX9_needs 58 = .ok (.iadd, 1) := by decide +kernel
theorem dX9_needs_59 : decode cX9_needs 59 = .ok (.istore_n 3, 1) := by decide +kernel
theorem dX9_needs_60 : decode cX9_needs 60 = .ok (.aload_n 0, 1) := by decide +kernel
theorem dX9_needs_61 : decode cX9_needs 61 = .ok (.iload_n 1, 1) := by decide +kernel
theorem dX9_needs_62 : decode cX9_needs 62 = .ok (.iload_n 3, 1) := by decide +kernel
theorem dX9_needs_63 : decode cX9_needs 63 = .ok (.invokevirtual 106, 3) := by decide +kernel
theorem dX9_needs_66 : decode cX9_needs 66 = .ok (.istore 4, 2) := by decide +kernel
theorem dX9_needs_68 : decode cX9_needs 68 = .ok (.bipush (-3), 2) := by decide +kernel
theorem dX9_needs_70 : decode cX9_needs 70 = .ok (.istore 5, 2) := by decide +kernel
theorem dX9_needs_72 : decode cX9_needs 72 = .ok (.bipush 40, 2) := by decide +kernel
theorem dX9_needs_74 : decode cX9_needs 74 = .ok (.istore 6, 2) := by decide +kernel
theorem dX9_needs_76 : decode cX9_needs 76 = .ok (.iload 6, 2) := by decide +kernel
theorem dX9_needs_78 : decode cX9_needs 78 = .ok (.aload_n 0, 1) := by decide +kernel
theorem dX9_needs_79 : decode cX9_needs 79 = .ok (.iload_n 1, 1) := by decide +kernel
theorem dX9_needs_80 : decode cX9_needs 80 = .ok (.invokevirtual 249, 3) := by decide +kernel
theorem dX9_needs_83 : decode cX9_needs 83 = .ok (.if_icmp .lt 40, 3) := by decide +kernel
theorem dX9_needs_86 : decode cX9_needs 86 = .ok (.aload_n 0, 1) := by decide +kernel
theorem dX9_needs_87 : decode cX9_needs 87 = .ok (.iload_n 1, 1) := by decide +kernel
theorem dX9_needs_88 : decode cX9_needs 88 = .ok (.iload_n 3, 1) := by decide +kernel
theorem dX9_needs_89 : decode cX9_needs 89 = .ok (.iload 4, 2) := by decide +kernel
theorem dX9_needs_91 : decode cX9_needs 91 = .ok (.iload 6, 2) := by decide +kernel
theorem dX9_needs_93 : decode cX9_needs 93 = .ok (.invokestatic 100, 3) := by decide +kernel
theorem dX9_needs_96 : decode cX9_needs 96 = .ok (.invokevirtual 109, 3) := by decide +kernel
theorem dX9_needs_99 : decode cX9_needs 99 = .ok (.aload_n 0, 1) := by decide +kernel
theorem dX9_needs_100 : decode cX9_needs 100 = .ok (.iload_n 1, 1) := by decide +kernel
theorem dX9_needs_101 : decode cX9_needs 101 = .ok (.iload_n 2, 1) := by decide +kernel
theorem dX9_needs_102 : decode cX9_needs 102 = .ok (.invokevirtual 174, 3) := by decide +kernel
theorem dX9_needs_105 : decode cX9_needs 105 = .ok (.ifCond .eq 8, 3) := by decide +kernel
theorem dX9_needs_108 : decode cX9_needs 108 = .ok (.iload 6, 2) := by decide +kernel
theorem dX9_needs_110 : decode cX9_needs 110 = .ok (.goto 5, 3) := by decide +kernel
theorem dX9_needs_113 : decode cX9_needs 113 = .ok (.iload 5, 2) := by decide +kernel
theorem dX9_needs_115 : decode cX9_needs 115 = .ok (.istore 5, 2) := by decide +kernel
theorem dX9_needs_117 : decode cX9_needs 117 = .ok (.iinc 6 (-1), 3) := by decide +kernel
theorem dX9_needs_120 : decode cX9_needs 120 = .ok (.goto (-44), 3) := by decide +kernel
theorem dX9_needs_123 : decode cX9_needs 123 = .ok (.aload_n 0, 1) := by decide +kernel
theorem dX9_needs_124 : decode cX9_needs 124 = .ok (.iload_n 1, 1) := by decide +kernel
theorem dX9_needs_125 : decode cX9_needs 125 = .ok (.iload_n 3, 1) := by decide +kernel
theorem dX9_needs_126 : decode cX9_needs 126 = .ok (.iload 4, 2) := by decide +kernel
theorem dX9_needs_128 : decode cX9_needs 128 = .ok (.invokevirtual 109, 3) := by decide +kernel
theorem dX9_needs_131 : decode cX9_needs 131 = .ok (.iload 5, 2) := by decide +kernel
theorem dX9_needs_133 : decode cX9_needs 133 = .ok (.ireturn, 1) := by decide +kernel
theorem dX9_aimsMass_0 : decode cX9_aimsMass 0 = .ok (.iconst 0, 1) := by decide +kernel
theorem dX9_aimsMass_1 : decode cX9_aimsMass 1 = .ok (.istore_n 1, 1) := by decide +kernel
theorem dX9_aimsMass_2 : decode cX9_aimsMass 2 = .ok (.iload_n 1, 1) := by decide +kernel
theorem dX9_aimsMass_3 : decode cX9_aimsMass 3 = .ok (.bipush 121, 2) := by decide +kernel
theorem dX9_aimsMass_5 : decode cX9_aimsMass 5 = .ok (.if_icmp .ge 20, 3) := by decide +kernel
theorem dX9_aimsMass_8 : decode cX9_aimsMass 8 = .ok (.aload_n 0, 1) := by decide +kernel
theorem dX9_aimsMass_9 : decode cX9_aimsMass 9 = .ok (.getfield 56, 3) := by decide +kernel
theorem dX9_aimsMass_12 : decode cX9_aimsMass 12 = .ok (.iload_n 1, 1) := by decide +kernel
theorem dX9_aimsMass_13 : decode cX9_aimsMass 13 = .ok (.sipush 1000, 3) := by decide +kernel
theorem dX9_aimsMass_16 : decode cX9_aimsMass 16 = .ok (.iload_n 1, 1) := by decide +kernel
theorem dX9_aimsMass_17 : decode cX9_aimsMass 17 = .ok (.imul, 1) := by decide +kernel
theorem dX9_aimsMass_18 : decode cX9_aimsMass 18 = .ok (.iastore, 1) := by decide +kernel
theorem dX9_aimsMass_19 : decode cX9_aimsMass 19 = .ok (.iinc 1 1, 3) := by decide +kernel
theorem dX9_aimsMass_22 : decode cX9_aimsMass 22 = .ok (.goto (-20), 3) := by decide +kernel
theorem dX9_aimsMass_25 : decode cX9_aimsMass 25 = .ok (.return_, 1) := by decide +kernel
theorem dX9_aimsReach_0 : decode cX9_aimsReach 0 = .ok (.iconst 0, 1) := by decide +kernel
theorem dX9_aimsReach_1 : decode cX9_aimsReach 1 = .ok (.istore_n 2, 1) := by decide +kernel
theorem dX9_aimsReach_2 : decode cX9_aimsReach 2 = .ok (.iload_n 2, 1) := by decide +kernel
theorem dX9_aimsReach_3 : decode cX9_aimsReach 3 = .ok (.bipush 121, 2) := by decide +kernel
theorem dX9_aimsReach_5 : decode cX9_aimsReach 5 = .ok (.if_icmp .ge 27, 3) := by decide +kernel
theorem dX9_aimsReach_8 : decode cX9_aimsReach 8 = .ok (.aload_n 0, 1) := by decide +kernel
theorem dX9_aimsReach_9 : decode cX9_aimsReach 9 = .ok (.getfield 56, 3) := by decide +kernel
theorem dX9_aimsReach_12 : decode cX9_aimsReach 12 = .ok (.iload_n 2, 1) := by decide +kernel
theorem dX9_aimsReach_13 : decode cX9_aimsReach 13 = .ok (.iload_n 2, 1) := by decide +kernel
theorem dX9_aimsReach_14 : decode cX9_aimsReach 14 = .ok (.iload_n 1, 1) := by decide +kernel
theorem dX9_aimsReach_15 : decode cX9_aimsReach 15 = .ok (.if_icmp .lt 9, 3) := by decide +kernel
theorem dX9_aimsReach_18 : decode cX9_aimsReach 18 = .ok (.ldc_w 264, 3) := by decide +kernel
theorem dX9_aimsReach_21 : decode cX9_aimsReach 21 = .ok (.goto 4, 3) := by decide +kernel
theorem dX9_aimsReach_24 : decode cX9_aimsReach 24 = .ok (.iconst 0, 1) := by decide +kernel
theorem dX9_aimsReach_25 : decode cX9_aimsReach 25 = .ok (.iastore, 1) := by decide +kernel
theorem dX9_aimsReach_26 : decode cX9_aimsReach 26 = .ok (.iinc 2 1, 3) := by decide +kernel
theorem dX9_aimsReach_29 : decode cX9_aimsReach 29 = .ok (.goto (-27), 3) := by decide +kernel
theorem dX9_aimsReach_32 : decode cX9_aimsReach 32 = .ok (.return_, 1) := by decide +kernel
theorem dX9_expected_0 : decode cX9_expected 0 = .ok (.iload_n 0, 1) := by decide +kernel
theorem dX9_expected_1 : decode cX9_expected 1 = .ok (.i2l, 1) := by decide +kernel
theorem dX9_expected_2 : decode cX9_expected 2 = .ok (.iload_n 1, 1) := by decide +kernel
theorem dX9_expected_3 : decode cX9_expected 3 = .ok (.i2l, 1) := by decide +kernel
theorem dX9_expected_4 : decode cX9_expected 4 = .ok (.lmul, 1) := by decide +kernel
theorem dX9_expected_5 : decode cX9_expected 5 = .ok (.sipush 1000, 3) := by decide +kernel
theorem dX9_expected_8 : decode cX9_expected 8 = .ok (.iload_n 0, 1) := by decide +kernel
theorem dX9_expected_9 : decode cX9_expected 9 = .ok (.isub, 1) := by decide +kernel
theorem dX9_expected_10 : decode cX9_expected 10 = .ok (.i2l, 1) := by decide +kernel
theorem dX9_expected_11 : decode cX9_expected 11 = .ok (.iload_n 2, 1) := by decide +kernel
theorem dX9_expected_12 : decode cX9_expected 12 = .ok (.i2l, 1) := by decide +kernel
theorem dX9_expected_13 : decode cX9_expected 13 = .ok (.lmul, 1) := by decide +kernel
theorem dX9_expected_14 : decode cX9_expected 14 = .ok (.ladd, 1) := by decide +kernel
theorem dX9_expected_15 : decode cX9_expected 15 = .ok (.ldc2_w 265, 3) := by decide +kernel
theorem dX9_expected_18 : decode cX9_expected 18 = .ok (.ldiv, 1) := by decide +kernel
theorem dX9_expected_19 : decode cX9_expected 19 = .ok (.l2i, 1) := by decide +kernel
theorem dX9_expected_20 : decode cX9_expected 20 = .ok (.ireturn, 1) := by decide +kernel
set_option maxRecDepth 20000 in
theorem ggX9_planned_X9_plannedBehind : GoodIn wsX9_planned wsX9_plannedBehind := goodIn_r _ [37, 38, 13, 14, 15, 8, 16, 17, 18, 19, 20, 0, 1, 2, 3, 4, 5, 6, 7, 9, 10, 11, 12, 21, 22, 23, 24, 25, 26, 27, 28, 29, 30, 31, 32, 33, 34, 35, 36, 39, 40, 41, 42, 43, 44, 45, 46, 47, 48, 49, 50, 51, 52, 53, 54, 55, 56, 57, 58, 59, 60, 61, 62, 63, 64, 65, 66, 67, 68, 69, 70, 71, 72, 73, 74, 75, 76, 77, 78] (by decide +kernel) (by decide +kernel)
set_option maxRecDepth 20000 in
theorem gX9_planned_X9_plannedBehind : GoodIn wsX9_planned (wsV RX9 267 RX9 yX9_plannedBehind wsX9_plannedBehind) := goodIn_app (goodIn_of _ (by decide +kernel)) ggX9_planned_X9_plannedBehind
set_option maxRecDepth 20000 in
theorem ggX9_planned_X9_asksThen : GoodIn wsX9_planned wsX9_asksThen := goodIn_r _ [12, 13, 14, 15, 8, 16, 17, 39, 40, 41, 42, 43, 44, 45, 46, 47, 48, 49, 50, 51, 52, 53, 54, 55, 56, 57, 58, 59, 60, 61, 62, 63, 64, 65, 66, 67, 68, 69, 70, 71, 72, 73, 74, 75, 76, 77, 78] (by decide +kernel) (by decide +kernel)
set_option maxRecDepth 20000 in
theorem gX9_planned_X9_asksThen : GoodIn wsX9_planned (wsV RX9 153 RX9 yX9_asksThen wsX9_asksThen) := goodIn_app (goodIn_of _ (by decide +kernel)) ggX9_planned_X9_asksThen
set_option maxRecDepth 20000 in
theorem ggX9_planned_X9_planned : GoodIn wsX9_planned wsX9_planned := goodIn_r _ [0, 1, 2, 3, 4, 5, 6, 7, 8, 9, 10, 11, 12, 13, 14, 15, 16, 17, 18, 19, 20, 21, 22, 23, 24, 25, 26, 27, 28, 29, 30, 31, 32, 33, 34, 35, 36, 37, 38, 39, 40, 41, 42, 43, 44, 45, 46, 47, 48, 49, 50, 51, 52, 53, 54, 55, 56, 57, 58, 59, 60, 61, 62, 63, 64, 65, 66, 67, 68, 69, 70, 71, 72, 73, 74, 75, 76, 77, 78] (by decide +kernel) (by decide +kernel)
set_option maxRecDepth 20000 in
theorem gX9_planned_X9_planned : GoodIn wsX9_planned (wsV RX9 270 RX9 yX9_planned wsX9_planned) := goodIn_app (goodIn_of _ (by decide +kernel)) ggX9_planned_X9_planned
set_option maxRecDepth 20000 in
theorem ggX9_planned_X9_oddsOf : GoodIn wsX9_planned wsX9_oddsOf := goodIn_r _ [24, 25, 1, 2, 3, 4, 26, 27, 28, 8, 29, 30, 31, 32, 39, 40, 41, 42, 43, 44, 45, 46, 47, 48, 49, 50, 51, 52, 53, 54, 55, 56, 57, 58, 59, 60, 61, 62, 63, 64, 65, 66, 67, 68, 69, 70, 71, 72, 73, 74, 75, 76, 77, 78] (by decide +kernel) (by decide +kernel)
set_option maxRecDepth 20000 in
theorem gX9_planned_X9_oddsOf : GoodIn wsX9_planned (wsV RX9 245 RX9 yX9_oddsOf wsX9_oddsOf) := goodIn_app (goodIn_of _ (by decide +kernel)) ggX9_planned_X9_oddsOf
set_option maxRecDepth 20000 in
theorem ggX9_planned_X9_expected : GoodIn wsX9_planned wsX9_expected := goodIn_r _ [35, 36] (by decide +kernel) (by decide +kernel)
set_option maxRecDepth 20000 in
theorem gX9_planned_X9_expected : GoodIn wsX9_planned (va_wsS RX9 274 yX9_expected wsX9_expected) := goodIn_app (goodIn_of _ (by decide +kernel)) ggX9_planned_X9_expected
