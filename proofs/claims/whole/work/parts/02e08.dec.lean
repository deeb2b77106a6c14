set_option maxRecDepth 20000 in
theorem ggX8_often_X4_placeOf : GoodIn wsX8_often wsX4_placeOf := goodIn_r _ [88, 15, 89, 90, 91, 13, 92, 25, 46, 93, 94, 95, 96, 28, 97, 98, 99, 55, 100, 101, 102, 122, 123, 124, 125, 126, 127, 128, 129, 130, 131, 132, 133, 134, 135, 136, 137, 138, 139, 140, 141] (by decide +kernel) (by decide +kernel)
set_option maxRecDepth 20000 in
theorem gX8_often_X4_placeOf : GoodIn wsX8_often (wsV RX8 181 RX4 yX4_placeOf wsX4_placeOf) := goodIn_app (goodIn_of _ (by decide +kernel)) ggX8_often_X4_placeOf
set_option maxRecDepth 20000 in
theorem ggX8_often_X4_sumOf : GoodIn wsX8_often wsX4_sumOf := goodIn_r _ [96, 25, 28, 122, 123, 124, 125, 126, 127, 128, 129, 130, 131, 132, 133, 134, 135, 136, 137] (by decide +kernel) (by decide +kernel)
set_option maxRecDepth 20000 in
theorem gX8_often_X4_sumOf : GoodIn wsX8_often (wsV RX8 147 RX4 yX4_sumOf wsX4_sumOf) := goodIn_app (goodIn_of _ (by decide +kernel)) ggX8_often_X4_sumOf
set_option maxRecDepth 20000 in
theorem ggX8_often_X8_tellTwo : GoodIn wsX8_often wsX8_tellTwo := goodIn_r _ [107, 108, 109, 110, 111, 112, 113, 114, 115, 116, 117, 118, 119, 120, 121] (by decide +kernel) (by decide +kernel)
set_option maxRecDepth 20000 in
theorem gX8_often_X8_tellTwo : GoodIn wsX8_often (wsV RX8 157 RX8 yX8_tellTwo wsX8_tellTwo) := goodIn_app (goodIn_of _ (by decide +kernel)) ggX8_often_X8_tellTwo
theorem dX8_often_0 : decode cX8_often 0 = .ok (.aload_n 0, 1) := by decide +kernel
theorem dX8_often_1 : decode cX8_often 1 = .ok (.iload_n 1, 1) := by decide +kernel
theorem dX8_often_2 : decode cX8_often 2 = .ok (.invokevirtual 97, 3) := by decide +kernel
theorem dX8_often_5 : decode cX8_often 5 = .ok (.ifCond .eq 14, 3) := by decide +kernel
theorem dX8_often_8 : decode cX8_often 8 = .ok (.iload_n 2, 1) := by decide +kernel
theorem dX8_often_9 : decode cX8_often 9 = .ok (.iconst 1, 1) := by decide +kernel
theorem dX8_often_10 : decode cX8_often 10 = .ok (.if_icmp .lt 9, 3) := by decide +kernel
theorem dX8_often_13 : decode cX8_often 13 = .ok (.iload_n 2, 1) := by decide +kernel
theorem dX8_often_14 : decode cX8_often 14 = .ok (.bipush 50, 2) := by decide +kernel
theorem dX8_often_16 : decode cX8_often 16 = .ok (.if_icmp .le 5, 3) := by decide +kernel
theorem dX8_often_19 : decode cX8_often 19 = .ok (.iconst (-1), 1) := by decide +kernel
theorem dX8_often_20 : decode cX8_often 20 = .ok (.ireturn, 1) := by decide +kernel
theorem dX8_often_21 : decode cX8_often 21 = .ok (.iload_n 3, 1) := by decide +kernel
theorem dX8_often_22 : decode cX8_often 22 = .ok (.istore 4, 2) := by decide +kernel
theorem dX8_often_24 : decode cX8_often 24 = .ok (.iconst 0, 1) := by decide +kernel
theorem dX8_often_25 : decode cX8_often 25 = .ok (.istore 5, 2) := by decide +kernel
theorem dX8_often_27 : decode cX8_often 27 = .ok (.iconst 0, 1) := by decide +kernel
theorem dX8_often_28 : decode cX8_often 28 = .ok (.istore 6, 2) := by decide +kernel
theorem dX8_often_30 : decode cX8_often 30 = .ok (.iconst 0, 1) := by decide +kernel
theorem dX8_often_31 : decode cX8_often 31 = .ok (.istore 7, 2) := by decide +kernel
theorem dX8_often_33 : decode cX8_often 33 = .ok (.iconst 0, 1) := by decide +kernel
theorem dX8_often_34 : decode cX8_often 34 = .ok (.istore 8, 2) := by decide +kernel
theorem dX8_often_36 : decode cX8_often 36 = .ok (.iload 8, 2) := by decide +kernel
theorem dX8_often_38 : decode cX8_often 38 = .ok (.iload_n 2, 1) := by decide +kernel
theorem dX8_often_39 : decode cX8_often 39 = .ok (.if_icmp .ge 76, 3) := by decide +kernel
theorem dX8_often_42 : decode cX8_often 42 = .ok (.aload_n 0, 1) := by decide +kernel
theorem dX8_often_43 : decode cX8_often 43 = .ok (.getfield 32, 3) := by decide +kernel
theorem dX8_often_46 : decode cX8_often 46 = .ok (.aload_n 0, 1) := by decide +kernel
theorem dX8_often_47 : decode cX8_often 47 = .ok (.getfield 28, 3) := by decide +kernel
theorem dX8_often_50 : decode cX8_often 50 = .ok (.invokevirtual 256, 3) := by decide +kernel
theorem dX8_often_53 : decode cX8_often 53 = .ok (.aload_n 0, 1) := by decide +kernel
theorem dX8_often_54 : decode cX8_often 54 = .ok (.getfield 32, 3) := by decide +kernel
theorem dX8_often_57 : decode cX8_often 57 = .ok (.iload 4, 2) := by decide +kernel
theorem dX8_often_59 : decode cX8_often 59 = .ok (.invokevirtual 253, 3) := by decide +kernel
theorem dX8_often_62 : decode cX8_often 62 = .ok (.istore 4, 2) := by decide +kernel
theorem dX8_often_64 : decode cX8_often 64 = .ok (.aload_n 0, 1) := by decide +kernel
theorem dX8_often_65 : decode cX8_often 65 = .ok (.getfield 32, 3) := by decide +kernel
theorem dX8_often_68 : decode cX8_often 68 = .ok (.getfield 143, 3) := by decide +kernel
theorem dX8_often_71 : decode cX8_often 71 = .ok (.iload_n 1, 1) := by decide +kernel
theorem dX8_often_72 : decode cX8_often 72 = .ok (.baload, 1) := by decide +kernel
theorem dX8_often_73 : decode cX8_often 73 = .ok (.ifCond .eq 9, 3) := by decide +kernel
theorem dX8_often_76 : decode cX8_often 76 = .ok (.iinc 6 1, 3) := by decide +kernel
theorem dX8_often_79 : decode cX8_often 79 = .ok (.goto 17, 3) := by decide +kernel
theorem dX8_often_82 : decode cX8_often 82 = .ok (.aload_n 0, 1) := by decide +kernel
theorem dX8_often_83 : decode cX8_often 83 = .ok (.getfield 32, 3) := by decide +kernel
theorem dX8_often_86 : decode cX8_often 86 = .ok (.iload_n 1, 1) := by decide +kernel
theorem dX8_often_87 : decode cX8_often 87 = .ok (.invokevirtual 181, 3) := by decide +kernel
theorem dX8_often_90 : decode cX8_often 90 = .ok (.ifCond .ne 6, 3) := by decide +kernel
theorem dX8_often_93 : decode cX8_often 93 = .ok (.iinc 5 1, 3) := by decide +kernel
theorem dX8_often_96 : decode cX8_often 96 = .ok (.iload 7, 2) := by decide +kernel
theorem dX8_often_98 : decode cX8_often 98 = .ok (.aload_n 0, 1) := by decide +kernel
theorem dX8_often_99 : decode cX8_often 99 = .ok (.getfield 32, 3) := by decide +kernel
theorem dX8_often_102 : decode cX8_often 102 = .ok (.iload_n 1, 1) := by decide +kernel
theorem dX8_often_103 : decode cX8_often 103 = .ok (.invokevirtual 147, 3) := by decide +kernel
theorem dX8_often_106 : decode cX8_often 106 = .ok (.iadd, 1) := by decide +kernel
theorem dX8_often_107 : decode cX8_often 107 = .ok (.istore 7, 2) := by decide +kernel
theorem dX8_often_109 : decode cX8_often 109 = .ok (.iinc 8 1, 3) := by decide +kernel
theorem dX8_often_112 : decode cX8_often 112 = .ok (.goto (-76), 3) := by decide +kernel
theorem dX8_often_115 : decode cX8_often 115 = .ok (.aload_n 0, 1) := by decide +kernel
theorem dX8_often_116 : decode cX8_often 116 = .ok (.iload 6, 2) := by decide +kernel
theorem dX8_often_118 : decode cX8_often 118 = .ok (.iload 7, 2) := by decide +kernel
theorem dX8_often_120 : decode cX8_often 120 = .ok (.invokevirtual 157, 3) := by decide +kernel
theorem dX8_often_123 : decode cX8_often 123 = .ok (.iload 5, 2) := by decide +kernel
theorem dX8_often_125 : decode cX8_often 125 = .ok (.ireturn, 1) := by decide +kernel
set_option maxRecDepth 20000 in
theorem ggX8_count_X4_outBits : GoodIn wsX8_count wsX4_outBits := goodIn_r _ [16, 17, 18, 31, 32, 33, 34, 35, 36, 37, 38, 39, 40, 41, 42, 43, 44, 45, 46] (by decide +kernel) (by decide +kernel)
set_option maxRecDepth 20000 in
theorem gX8_count_X4_outBits : GoodIn wsX8_count (wsV RX8 272 RX4 yX4_outBits wsX4_outBits) := goodIn_app (goodIn_of _ (by decide +kernel)) ggX8_count_X4_outBits
theorem dX8_count_0 : decode cX8_count 0 = .ok (.iload_n 1, 1) := by decide +kernel
theorem dX8_count_1 : decode cX8_count 1 = .ok (.tableswitch 132 0 9 #[55, 63, 71, 79, 87, 95, 103, 111, 116, 124], 55) := by decide +kernel
theorem dX8_count_56 : decode cX8_count 56 = .ok (.aload_n 0, 1) := by decide +kernel
theorem dX8_count_57 : decode cX8_count 57 = .ok (.getfield 28, 3) := by decide +kernel
theorem dX8_count_60 : decode cX8_count 60 = .ok (.getfield 87, 3) := by decide +kernel
theorem dX8_count_63 : decode cX8_count 63 = .ok (.ireturn, 1) := by decide +kernel
theorem dX8_count_64 : decode cX8_count 64 = .ok (.aload_n 0, 1) := by decide +kernel
theorem dX8_count_65 : decode cX8_count 65 = .ok (.getfield 28, 3) := by decide +kernel
theorem dX8_count_68 : decode cX8_count 68 = .ok (.getfield 260, 3) := by decide +kernel
theorem dX8_count_71 : decode cX8_count 71 = .ok (.ireturn, 1) := by decide +kernel
theorem dX8_count_72 : decode cX8_count 72 = .ok (.aload_n 0, 1) := by decide +kernel
theorem dX8_count_73 : decode cX8_count 73 = .ok (.getfield 28, 3) := by decide +kernel
theorem dX8_count_76 : decode cX8_count 76 = .ok (.getfield 263, 3) := by decide +kernel
theorem dX8_count_79 : decode cX8_count 79 = .ok (.ireturn, 1) := by decide +kernel
theorem dX8_count_80 : decode cX8_count 80 = .ok (.aload_n 0, 1) := by decide +kernel
theorem dX8_count_81 : decode cX8_count 81 = .ok (.getfield 28, 3) := by decide +kernel
theorem dX8_count_84 : decode cX8_count 84 = .ok (.getfield 266, 3) := by decide +kernel
theorem dX8_count_87 : decode cX8_count 87 = .ok (.ireturn, 1) := by decide +kernel
theorem dX8_count_88 : decode cX8_count 88 = .ok (.aload_n 0, 1) := by decide +kernel
theorem dX8_count_89 : decode cX8_count 89 = .ok (.getfield 28, 3) := by decide +kernel
theorem dX8_count_92 : decode cX8_count 92 = .ok (.getfield 172, 3) := by decide +kernel
theorem dX8_count_95 : decode cX8_count 95 = .ok (.ireturn, 1) := by decide +kernel
theorem dX8_count_96 : decode cX8_count 96 = .ok (.aload_n 0, 1) := by decide +kernel
theorem dX8_count_97 : decode cX8_count 97 = .ok (.getfield 28, 3) := by decide +kernel
theorem dX8_count_100 : decode cX8_count 100 = .ok (.getfield 269, 3) := by decide +kernel
theorem dX8_count_103 : decode cX8_count 103 = .ok (.ireturn, 1) := by decide +kernel
theorem dX8_count_104 : decode cX8_count 104 = .ok (.aload_n 0, 1) := by decide +kernel
theorem dX8_count_105 : decode cX8_count 105 = .ok (.getfield 28, 3) := by decide +kernel
theorem dX8_count_108 : decode cX8_count 108 = .ok (.getfield 111, 3) := by decide +kernel
theorem dX8_count_111 : decode cX8_count 111 = .ok (.ireturn, 1) := by decide +kernel
theorem dX8_count_112 : decode cX8_count 112 = .ok (.aload_n 0, 1) := by decide +kernel
theorem dX8_count_113 : decode cX8_count 113 = .ok (.getfield 65, 3) := by decide +kernel
theorem dX8_count_116 : decode cX8_count 116 = .ok (.ireturn, 1) := by decide +kernel
theorem dX8_count_117 : decode cX8_count 117 = .ok (.aload_n 0, 1) := by decide +kernel
theorem dX8_count_118 : decode cX8_count 118 = .ok (.getfield 12, 3) := by decide +kernel
theorem dX8_count_121 : decode cX8_count 121 = .ok (.getfield 81, 3) := by decide +kernel
theorem dX8_count_124 : decode cX8_count 124 = .ok (.ireturn, 1) := by decide +kernel
theorem dX8_count_125 : decode cX8_count 125 = .ok (.aload_n 0, 1) := by decide +kernel
theorem dX8_count_126 : decode cX8_count 126 = .ok (.getfield 28, 3) := by decide +kernel
theorem dX8_count_129 : decode cX8_count 129 = .ok (.invokevirtual 272, 3) := by decide +kernel
theorem dX8_count_132 : decode cX8_count 132 = .ok (.ireturn, 1) := by decide +kernel
theorem dX8_count_133 : decode cX8_count 133 = .ok (.iconst (-1), 1) := by decide +kernel
theorem dX8_count_134 : decode cX8_count 134 = .ok (.ireturn, 1) := by decide +kernel
theorem dX8_row_0 : decode cX8_row 0 = .ok (.iload_n 1, 1) := by decide +kernel
theorem dX8_row_1 : decode cX8_row 1 = .ok (.ifCond .lt 20, 3) := by decide +kernel
theorem dX8_row_4 : decode cX8_row 4 = .ok (.iload_n 1, 1) := by decide +kernel
theorem dX8_row_5 : decode cX8_row 5 = .ok (.aload_n 0, 1) := by decide +kernel
theorem dX8_row_6 : decode cX8_row 6 = .ok (.getfield 65, 3) := by decide +kernel
theorem dX8_row_9 : decode cX8_row 9 = .ok (.if_icmp .ge 12, 3) := by decide +kernel
theorem dX8_row_12 : decode cX8_row 12 = .ok (.iload_n 1, 1) := by decide +kernel
theorem dX8_row_13 : decode cX8_row 13 = .ok (.aload_n 0, 1) := by decide +kernel
theorem dX8_row_14 : decode cX8_row 14 = .ok (.getfield 61, 3) := by decide +kernel
theorem dX8_row_17 : decode cX8_row 17 = .ok (.arraylength, 1) := by decide +kernel
theorem dX8_row_18 : decode cX8_row 18 = .ok (.if_icmp .lt 11, 3) := by decide +kernel
theorem dX8_row_21 : decode cX8_row 21 = .ok (.new 275, 3) := by decide +kernel
theorem dX8_row_24 : decode cX8_row 24 = .ok (.dup, 1) := by decide +kernel
theorem dX8_row_25 : decode cX8_row 25 = .ok (.invokespecial 277, 3) := by decide +kernel
theorem dX8_row_28 : decode cX8_row 28 = .ok (.athrow, 1) := by decide +kernel
theorem dX8_row_29 : decode cX8_row 29 = .ok (.aload_n 0, 1) := by decide +kernel
theorem dX8_row_30 : decode cX8_row 30 = .ok (.getfield 61, 3) := by decide +kernel
theorem dX8_row_33 : decode cX8_row 33 = .ok (.iload_n 1, 1) := by decide +kernel
theorem dX8_row_34 : decode cX8_row 34 = .ok (.laload, 1) := by decide +kernel
theorem dX8_row_35 : decode cX8_row 35 = .ok (.lreturn, 1) := by decide +kernel
theorem dX8_isLifter_0 : decode cX8_isLifter 0 = .ok (.iload_n 1, 1) := by decide +kernel
theorem dX8_isLifter_1 : decode cX8_isLifter 1 = .ok (.ifCond .lt 18, 3) := by decide +kernel
theorem dX8_isLifter_4 : decode cX8_isLifter 4 = .ok (.iload_n 1, 1) := by decide +kernel
theorem dX8_isLifter_5 : decode cX8_isLifter 5 = .ok (.aload_n 0, 1) := by decide +kernel
theorem dX8_isLifter_6 : decode cX8_isLifter 6 = .ok (.getfield 28, 3) := by decide +kernel
theorem dX8_isLifter_9 : decode cX8_isLifter 9 = .ok (.getfield 87, 3) := by decide +kernel
theorem dX8_isLifter_12 : decode cX8_isLifter 12 = .ok (.if_icmp .ge 7, 3) := by decide +kernel
theorem dX8_isLifter_15 : decode cX8_isLifter 15 = .ok (.iconst 1, 1) := by decide +kernel
theorem dX8_isLifter_16 : decode cX8_isLifter 16 = .ok (.goto 4, 3) := by decide +kernel
theorem dX8_isLifter_19 : decode cX8_isLifter 19 = .ok (.iconst 0, 1) := by decide +kernel
theorem dX8_isLifter_20 : decode cX8_isLifter 20 = .ok (.ireturn, 1) := by decide +kernel
theorem dX8_isLift_0 : decode cX8_isLift 0 = .ok (.iload_n 0, 1) := by decide +kernel
theorem dX8_isLift_1 : decode cX8_isLift 1 = .ok (.ifCond .lt 12, 3) := by decide +kernel
theorem dX8_isLift_4 : decode cX8_isLift 4 = .ok (.iload_n 0, 1) := by decide +kernel
theorem dX8_isLift_5 : decode cX8_isLift 5 = .ok (.iconst 3, 1) := by decide +kernel
theorem dX8_isLift_6 : decode cX8_isLift 6 = .ok (.if_icmp .ge 7, 3) := by decide +kernel
theorem dX8_isLift_9 : decode cX8_isLift 9 = .ok (.iconst 1, 1) := by decide +kernel
theorem dX8_isLift_10 : decode cX8_isLift 10 = .ok (.goto 4, 3) := by decide +kernel
theorem dX8_isLift_13 : decode cX8_isLift 13 = .ok (.iconst 0, 1) := by decide +kernel
theorem dX8_isLift_14 : decode cX8_isLift 14 = .ok (.ireturn, 1) := by decide +kernel
theorem dX8_isLoad_0 : decode cX8_isLoad 0 = .ok (.iload_n 0, 1) := by decide +kernel
theorem dX8_isLoad_1 : decode cX8_isLoad 1 = .ok (.iconst 1, 1) := by decide +kernel
theorem dX8_isLoad_2 : decode cX8_isLoad 2 = .ok (.if_icmp .lt 13, 3) := by decide +kernel
theorem dX8_isLoad_5 : decode cX8_isLoad 5 = .ok (.iload_n 0, 1) := by decide +kernel
theorem dX8_isLoad_6 : decode cX8_isLoad 6 = .ok (.bipush 40, 2) := by decide +kernel
theorem dX8_isLoad_8 : decode cX8_isLoad 8 = .ok (.if_icmp .gt 7, 3) := by decide +kernel
theorem dX8_isLoad_11 : decode cX8_isLoad 11 = .ok (.iconst 1, 1) := by decide +kernel
theorem dX8_isLoad_12 : decode cX8_isLoad 12 = .ok (.goto 4, 3) := by decide +kernel
theorem dX8_isLoad_15 : decode cX8_isLoad 15 = .ok (.iconst 0, 1) := by decide +kernel
theorem dX8_isLoad_16 : decode cX8_isLoad 16 = .ok (.ireturn, 1) := by decide +kernel
theorem dX8_isAimed_0 : decode cX8_isAimed 0 = .ok (.iload_n 0, 1) := by decide +kernel
theorem dX8_isAimed_1 : decode cX8_isAimed 1 = .ok (.ifCond .lt 13, 3) := by decide +kernel
theorem dX8_isAimed_4 : decode cX8_isAimed 4 = .ok (.iload_n 0, 1) := by decide +kernel
theorem dX8_isAimed_5 : decode cX8_isAimed 5 = .ok (.bipush 121, 2) := by decide +kernel
theorem dX8_isAimed_7 : decode cX8_isAimed 7 = .ok (.if_icmp .gt 7, 3) := by decide +kernel
theorem dX8_isAimed_10 : decode cX8_isAimed 10 = .ok (.iconst 1, 1) := by decide +kernel
theorem dX8_isAimed_11 : decode cX8_isAimed 11 = .ok (.goto 4, 3) := by decide +kernel
theorem dX8_isAimed_14 : decode cX8_isAimed 14 = .ok (.iconst 0, 1) := by decide +kernel
theorem dX8_isAimed_15 : decode cX8_isAimed 15 = .ok (.ireturn, 1) := by decide +kernel
set_option maxRecDepth 20000 in
theorem ggX8_isPlan_X8_isLoad : GoodIn wsX8_isPlan wsX8_isLoad := goodIn_r _ [4] (by decide +kernel) (by decide +kernel)
set_option maxRecDepth 20000 in
theorem gX8_isPlan_X8_isLoad : GoodIn wsX8_isPlan (va_wsS RX8 114 yX8_isLoad wsX8_isLoad) := goodIn_app (goodIn_of _ (by decide +kernel)) ggX8_isPlan_X8_isLoad
theorem dX8_isPlan_0 : decode cX8_isPlan 0 = .ok (.iload_n 0, 1) := by decide +kernel
theorem dX8_isPlan_1 : decode cX8_isPlan 1 = .ok (.tableswitch 65 0 2 #[27, 32, 49], 27) := by decide +kernel
theorem dX8_isPlan_28 : decode cX8_isPlan 28 = .ok (.iload_n 1, 1) := by decide +kernel
theorem dX8_isPlan_29 : decode cX8_isPlan 29 = .ok (.invokestatic 114, 3) := by decide +kernel
theorem dX8_isPlan_32 : decode cX8_isPlan 32 = .ok (.ireturn, 1) := by decide +kernel
theorem dX8_isPlan_33 : decode cX8_isPlan 33 = .ok (.iload_n 1, 1) := by decide +kernel
theorem dX8_isPlan_34 : decode cX8_isPlan 34 = .ok (.iconst 1, 1) := by decide +kernel
theorem dX8_isPlan_35 : decode cX8_isPlan 35 = .ok (.if_icmp .lt 13, 3) := by decide +kernel
theorem dX8_isPlan_38 : decode cX8_isPlan 38 = .ok (.iload_n 1, 1) := by decide +kernel
theorem dX8_isPlan_39 : decode cX8_isPlan 39 = .ok (.bipush 9, 2) := by decide +kernel
theorem dX8_isPlan_41 : decode cX8_isPlan 41 = .ok (.if_icmp .gt 7, 3) := by decide +kernel
theorem dX8_isPlan_44 : decode cX8_isPlan 44 = .ok (.iconst 1, 1) := by decide +kernel
theorem dX8_isPlan_45 : decode cX8_isPlan 45 = .ok (.goto 4, 3) := by decide +kernel
theorem dX8_isPlan_48 : decode cX8_isPlan 48 = .ok (.iconst 0, 1) := by decide +kernel
theorem dX8_isPlan_49 : decode cX8_isPlan 49 = .ok (.ireturn, 1) := by decide +kernel
theorem dX8_isPlan_50 : decode cX8_isPlan 50 = .ok (.iload_n 1, 1) := by decide +kernel
theorem dX8_isPlan_51 : decode cX8_isPlan 51 = .ok (.ifCond .lt 13, 3) := by decide +kernel
theorem dX8_isPlan_54 : decode cX8_isPlan 54 = .ok (.iload_n 1, 1) := by decide +kernel
theorem dX8_isPlan_55 : decode cX8_isPlan 55 = .ok (.bipush 9, 2) := by decide +kernel
theorem dX8_isPlan_57 : decode cX8_isPlan 57 = .ok (.if_icmp .gt 7, 3) := by decide +kernel
theorem dX8_isPlan_60 : decode cX8_isPlan 60 = .ok (.iconst 1, 1) := by decide +kernel
theorem dX8_isPlan_61 : decode cX8_isPlan 61 = .ok (.goto 4, 3) := by decide +kernel
theorem dX8_isPlan_64 : decode cX8_isPlan 64 = .ok (.iconst 0, 1) := by decide +kernel
theorem dX8_isPlan_65 : decode cX8_isPlan 65 = .ok (.ireturn, 1) := by decide +kernel
theorem dX8_isPlan_66 : decode cX8_isPlan 66 = .ok (.iconst 0, 1) := by decide +kernel
theorem dX8_isPlan_67 : decode cX8_isPlan 67 = .ok (.ireturn, 1) := by decide +kernel
theorem dX8_tellTwo_0 : decode cX8_tellTwo 0 = .ok (.aload_n 0, 1) := by decide +kernel
theorem dX8_tellTwo_1 : decode cX8_tellTwo 1 = .ok (.getfield 61, 3) := by decide +kernel
theorem dX8_tellTwo_4 : decode cX8_tellTwo 4 = .ok (.iconst 0, 1) := by decide +kernel
theorem dX8_tellTwo_5 : decode cX8_tellTwo 5 = .ok (.iload_n 1, 1) := by decide +kernel
theorem dX8_tellTwo_6 : decode cX8_tellTwo 6 = .ok (.i2l, 1) := by decide +kernel
theorem dX8_tellTwo_7 : decode cX8_tellTwo 7 = .ok (.lastore, 1) := by decide +kernel
theorem dX8_tellTwo_8 : decode cX8_tellTwo 8 = .ok (.aload_n 0, 1) := by decide +kernel
theorem dX8_tellTwo_9 : decode cX8_tellTwo 9 = .ok (.getfield 61, 3) := by decide +kernel
theorem dX8_tellTwo_12 : decode cX8_tellTwo 12 = .ok (.iconst 1, 1) := by decide +kernel
theorem dX8_tellTwo_13 : decode cX8_tellTwo 13 = .ok (.iload_n 2, 1) := by decide +kernel
theorem dX8_tellTwo_14 : decode cX8_tellTwo 14 = .ok (.i2l, 1) := by decide +kernel
theorem dX8_tellTwo_15 : decode cX8_tellTwo 15 = .ok (.lastore, 1) := by decide +kernel
theorem dX8_tellTwo_16 : decode cX8_tellTwo 16 = .ok (.aload_n 0, 1) := by decide +kernel
theorem dX8_tellTwo_17 : decode cX8_tellTwo 17 = .ok (.iconst 2, 1) := by decide +kernel
theorem dX8_tellTwo_18 : decode cX8_tellTwo 18 = .ok (.putfield 65, 3) := by decide +kernel
theorem dX8_tellTwo_21 : decode cX8_tellTwo 21 = .ok (.return_, 1) := by decide +kernel
set_option maxRecDepth 20000 in
theorem ggX8_tellPlaces_X4_placeOf : GoodIn wsX8_tellPlaces wsX4_placeOf := goodIn_r _ [9, 10, 11, 12, 13, 8, 14, 15, 16, 17, 18, 19, 20, 21, 22, 23, 24, 25, 26, 27, 28, 41, 42, 43, 44, 45, 46, 47, 48, 49, 50, 51, 52, 53, 54, 55, 56, 57, 58, 59, 60] (by decide +kernel) (by decide +kernel)
set_option maxRecDepth 20000 in
theorem gX8_tellPlaces_X4_placeOf : GoodIn wsX8_tellPlaces (wsV RX8 181 RX4 yX4_placeOf wsX4_placeOf) := goodIn_app (goodIn_of _ (by decide +kernel)) ggX8_tellPlaces_X4_placeOf
theorem dX8_tellPlaces_0 : decode cX8_tellPlaces 0 = .ok (.iconst 0, 1) := by decide +kernel
theorem dX8_tellPlaces_1 : decode cX8_tellPlaces 1 = .ok (.istore_n 1, 1) := by decide +kernel
theorem dX8_tellPlaces_2 : decode cX8_tellPlaces 2 = .ok (.iload_n 1, 1) := by decide +kernel
theorem dX8_tellPlaces_3 : decode cX8_tellPlaces 3 = .ok (.aload_n 0, 1) := by decide +kernel
theorem dX8_tellPlaces_4 : decode cX8_tellPlaces 4 = .ok (.getfield 28, 3) := by decide +kernel
theorem dX8_tellPlaces_7 : decode cX8_tellPlaces 7 = .ok (.getfield 87, 3) := by decide +kernel
theorem dX8_tellPlaces_10 : decode cX8_tellPlaces 10 = .ok (.if_icmp .ge 24, 3) := by decide +kernel
theorem dX8_tellPlaces_13 : decode cX8_tellPlaces 13 = .ok (.aload_n 0, 1) := by decide +kernel
theorem dX8_tellPlaces_14 : decode cX8_tellPlaces 14 = .ok (.getfield 61, 3) := by decide +kernel
theorem dX8_tellPlaces_17 : decode cX8_tellPlaces 17 = .ok (.aload_n 0, 1) := by decide +kernel
theorem dX8_tellPlaces_18 : decode cX8_tellPlaces 18 = .ok (.getfield 28, 3) := by decide +kernel
theorem dX8_tellPlaces_21 : decode cX8_tellPlaces 21 = .ok (.iload_n 1, 1) := by decide +kernel
theorem dX8_tellPlaces_22 : decode cX8_tellPlaces 22 = .ok (.invokevirtual 181, 3) := by decide +kernel
theorem dX8_tellPlaces_25 : decode cX8_tellPlaces 25 = .ok (.iload_n 1, 1) := by decide +kernel
theorem dX8_tellPlaces_26 : decode cX8_tellPlaces 26 = .ok (.i2l, 1) := by decide +kernel
theorem dX8_tellPlaces_27 : decode cX8_tellPlaces 27 = .ok (.lastore, 1) := by decide +kernel
theorem dX8_tellPlaces_28 : decode cX8_tellPlaces 28 = .ok (.iinc 1 1, 3) := by decide +kernel
theorem dX8_tellPlaces_31 : decode cX8_tellPlaces 31 = .ok (.goto (-29), 3) := by decide +kernel
theorem dX8_tellPlaces_34 : decode cX8_tellPlaces 34 = .ok (.aload_n 0, 1) := by decide +kernel
theorem dX8_tellPlaces_35 : decode cX8_tellPlaces 35 = .ok (.aload_n 0, 1) := by decide +kernel
theorem dX8_tellPlaces_36 : decode cX8_tellPlaces 36 = .ok (.getfield 28, 3) := by decide +kernel
theorem dX8_tellPlaces_39 : decode cX8_tellPlaces 39 = .ok (.getfield 87, 3) := by decide +kernel
theorem dX8_tellPlaces_42 : decode cX8_tellPlaces 42 = .ok (.putfield 65, 3) := by decide +kernel
theorem dX8_tellPlaces_45 : decode cX8_tellPlaces 45 = .ok (.return_, 1) := by decide +kernel
theorem dX8_mix_0 : decode cX8_mix 0 = .ok (.iload_n 0, 1) := by decide +kernel
theorem dX8_mix_1 : decode cX8_mix 1 = .ok (.iload_n 1, 1) := by decide +kernel
theorem dX8_mix_2 : decode cX8_mix 2 = .ok (.imul, 1) := by decide +kernel
theorem dX8_mix_3 : decode cX8_mix 3 = .ok (.sipush 1000, 3) := by decide +kernel
theorem dX8_mix_6 : decode cX8_mix 6 = .ok (.iload_n 0, 1) := by decide +kernel
theorem dX8_mix_7 : decode cX8_mix 7 = .ok (.isub, 1) := by decide +kernel
theorem dX8_mix_8 : decode cX8_mix 8 = .ok (.iload_n 2, 1) := by decide +kernel
theorem dX8_mix_9 : decode cX8_mix 9 = .ok (.imul, 1) := by decide +kernel
theorem dX8_mix_10 : decode cX8_mix 10 = .ok (.iadd, 1) := by decide +kernel
theorem dX8_mix_11 : decode cX8_mix 11 = .ok (.sipush 1000, 3) := by decide +kernel
theorem dX8_mix_14 : decode cX8_mix 14 = .ok (.idiv, 1) := by decide +kernel
theorem dX8_mix_15 : decode cX8_mix 15 = .ok (.ireturn, 1) := by decide +kernel
set_option maxRecDepth 20000 in
theorem ggX8_allFail_X3_oddsOf : GoodIn wsX8_allFail wsX3_oddsOf := goodIn_r _ [9, 10, 11, 12, 13, 14, 43, 44, 45, 46] (by decide +kernel) (by decide +kernel)
set_option maxRecDepth 20000 in
theorem gX8_allFail_X3_oddsOf : GoodIn wsX8_allFail (wsV RX8 117 RX3 yX3_oddsOf wsX3_oddsOf) := goodIn_app (goodIn_of _ (by decide +kernel)) ggX8_allFail_X3_oddsOf
theorem dX8_allFail_0 : decode cX8_allFail 0 = .ok (.ldc 213, 2) := by decide +kernel
theorem dX8_allFail_2 : decode cX8_allFail 2 = .ok (.istore 5, 2) := by decide +kernel
theorem dX8_allFail_4 : decode cX8_allFail 4 = .ok (.iload_n 3, 1) := by decide +kernel
theorem dX8_allFail_5 : decode cX8_allFail 5 = .ok (.istore 6, 2) := by decide +kernel
theorem dX8_allFail_7 : decode cX8_allFail 7 = .ok (.iconst 0, 1) := by decide +kernel
theorem dX8_allFail_8 : decode cX8_allFail 8 = .ok (.istore 7, 2) := by decide +kernel
theorem dX8_allFail_10 : decode cX8_allFail 10 = .ok (.iload 7, 2) := by decide +kernel
theorem dX8_allFail_12 : decode cX8_allFail 12 = .ok (.iconst 3, 1) := by decide +kernel
theorem dX8_allFail_13 : decode cX8_allFail 13 = .ok (.if_icmp .ge 58, 3) := by decide +kernel
theorem dX8_allFail_16 : decode cX8_allFail 16 = .ok (.iload 6, 2) := by decide +kernel
theorem dX8_allFail_18 : decode cX8_allFail 18 = .ok (.bipush 40, 2) := by decide +kernel
theorem dX8_allFail_20 : decode cX8_allFail 20 = .ok (.if_icmp .gt 51, 3) := by decide +kernel
theorem dX8_allFail_23 : decode cX8_allFail 23 = .ok (.iload 5, 2) := by decide +kernel
theorem dX8_allFail_25 : decode cX8_allFail 25 = .ok (.sipush 1000, 3) := by decide +kernel
theorem dX8_allFail_28 : decode cX8_allFail 28 = .ok (.aload_n 0, 1) := by decide +kernel
theorem dX8_allFail_29 : decode cX8_allFail 29 = .ok (.getfield 18, 3) := by decide +kernel
theorem dX8_allFail_32 : decode cX8_allFail 32 = .ok (.iload_n 1, 1) := by decide +kernel
theorem dX8_allFail_33 : decode cX8_allFail 33 = .ok (.aaload, 1) := by decide +kernel
theorem dX8_allFail_34 : decode cX8_allFail 34 = .ok (.iload_n 2, 1) := by decide +kernel
theorem dX8_allFail_35 : decode cX8_allFail 35 = .ok (.iload 6, 2) := by decide +kernel
theorem dX8_allFail_37 : decode cX8_allFail 37 = .ok (.iload 7, 2) := by decide +kernel
theorem dX8_allFail_39 : decode cX8_allFail 39 = .ok (.aload_n 0, 1) := by decide +kernel
theorem dX8_allFail_40 : decode cX8_allFail 40 = .ok (.getfield 28, 3) := by decide +kernel
theorem dX8_allFail_43 : decode cX8_allFail 43 = .ok (.getfield 111, 3) := by decide +kernel
theorem dX8_allFail_46 : decode cX8_allFail 46 = .ok (.imul, 1) := by decide +kernel
theorem dX8_allFail_47 : decode cX8_allFail 47 = .ok (.invokevirtual 117, 3) := by decide +kernel
theorem dX8_allFail_50 : decode cX8_allFail 50 = .ok (.isub, 1) := by decide +kernel
theorem dX8_allFail_51 : decode cX8_allFail 51 = .ok (.imul, 1) := by decide +kernel
theorem dX8_allFail_52 : decode cX8_allFail 52 = .ok (.sipush 1000, 3) := by decide +kernel
theorem dX8_allFail_55 : decode cX8_allFail 55 = .ok (.idiv, 1) := by decide +kernel
theorem dX8_allFail_56 : decode cX8_allFail 56 = .ok (.istore 5, 2) := by decide +kernel
theorem dX8_allFail_58 : decode cX8_allFail 58 = .ok (.iload 6, 2) := by decide +kernel
theorem dX8_allFail_60 : decode cX8_allFail 60 = .ok (.iload 4, 2) := by decide +kernel
theorem dX8_allFail_62 : decode cX8_allFail 62 = .ok (.iadd, 1) := by decide +kernel
theorem dX8_allFail_63 : decode cX8_allFail 63 = .ok (.istore 6, 2) := by decide +kernel
theorem dX8_allFail_65 : decode cX8_allFail 65 = .ok (.iinc 7 1, 3) := by decide +kernel
