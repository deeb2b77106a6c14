theorem dX4_wouldLead_15 : decode cX4_wouldLead 15 = .ok (.iconst 3, 1) := by decide +kernel
theorem dX4_wouldLead_16 : decode cX4_wouldLead 16 = .ok (.imul, 1) := by decide +kernel
theorem dX4_wouldLead_17 : decode cX4_wouldLead 17 = .ok (.aload_n 0, 1) := by decide +kernel
theorem dX4_wouldLead_18 : decode cX4_wouldLead 18 = .ok (.getfield 18, 3) := by decide +kernel
theorem dX4_wouldLead_21 : decode cX4_wouldLead 21 = .ok (.iadd, 1) := by decide +kernel
theorem dX4_wouldLead_22 : decode cX4_wouldLead 22 = .ok (.iaload, 1) := by decide +kernel
theorem dX4_wouldLead_23 : decode cX4_wouldLead 23 = .ok (.istore 4, 2) := by decide +kernel
theorem dX4_wouldLead_25 : decode cX4_wouldLead 25 = .ok (.aload_n 0, 1) := by decide +kernel
theorem dX4_wouldLead_26 : decode cX4_wouldLead 26 = .ok (.iload_n 1, 1) := by decide +kernel
theorem dX4_wouldLead_27 : decode cX4_wouldLead 27 = .ok (.invokevirtual 114, 3) := by decide +kernel
theorem dX4_wouldLead_30 : decode cX4_wouldLead 30 = .ok (.iload 4, 2) := by decide +kernel
theorem dX4_wouldLead_32 : decode cX4_wouldLead 32 = .ok (.isub, 1) := by decide +kernel
theorem dX4_wouldLead_33 : decode cX4_wouldLead 33 = .ok (.iload 4, 2) := by decide +kernel
theorem dX4_wouldLead_35 : decode cX4_wouldLead 35 = .ok (.iload_n 2, 1) := by decide +kernel
theorem dX4_wouldLead_36 : decode cX4_wouldLead 36 = .ok (.invokestatic 93, 3) := by decide +kernel
theorem dX4_wouldLead_39 : decode cX4_wouldLead 39 = .ok (.iadd, 1) := by decide +kernel
theorem dX4_wouldLead_40 : decode cX4_wouldLead 40 = .ok (.istore 5, 2) := by decide +kernel
theorem dX4_wouldLead_42 : decode cX4_wouldLead 42 = .ok (.aload_n 0, 1) := by decide +kernel
theorem dX4_wouldLead_43 : decode cX4_wouldLead 43 = .ok (.iload_n 3, 1) := by decide +kernel
theorem dX4_wouldLead_44 : decode cX4_wouldLead 44 = .ok (.invokevirtual 114, 3) := by decide +kernel
theorem dX4_wouldLead_47 : decode cX4_wouldLead 47 = .ok (.istore 6, 2) := by decide +kernel
theorem dX4_wouldLead_49 : decode cX4_wouldLead 49 = .ok (.iload 5, 2) := by decide +kernel
theorem dX4_wouldLead_51 : decode cX4_wouldLead 51 = .ok (.iload 6, 2) := by decide +kernel
theorem dX4_wouldLead_53 : decode cX4_wouldLead 53 = .ok (.if_icmp .eq 18, 3) := by decide +kernel
theorem dX4_wouldLead_56 : decode cX4_wouldLead 56 = .ok (.iload 5, 2) := by decide +kernel
theorem dX4_wouldLead_58 : decode cX4_wouldLead 58 = .ok (.iload 6, 2) := by decide +kernel
theorem dX4_wouldLead_60 : decode cX4_wouldLead 60 = .ok (.if_icmp .le 7, 3) := by decide +kernel
theorem dX4_wouldLead_63 : decode cX4_wouldLead 63 = .ok (.iconst 1, 1) := by decide +kernel
theorem dX4_wouldLead_64 : decode cX4_wouldLead 64 = .ok (.goto 22, 3) := by decide +kernel
theorem dX4_wouldLead_67 : decode cX4_wouldLead 67 = .ok (.iconst 0, 1) := by decide +kernel
theorem dX4_wouldLead_68 : decode cX4_wouldLead 68 = .ok (.goto 18, 3) := by decide +kernel
theorem dX4_wouldLead_71 : decode cX4_wouldLead 71 = .ok (.aload_n 0, 1) := by decide +kernel
theorem dX4_wouldLead_72 : decode cX4_wouldLead 72 = .ok (.getfield 59, 3) := by decide +kernel
theorem dX4_wouldLead_75 : decode cX4_wouldLead 75 = .ok (.iload_n 1, 1) := by decide +kernel
theorem dX4_wouldLead_76 : decode cX4_wouldLead 76 = .ok (.aaload, 1) := by decide +kernel
theorem dX4_wouldLead_77 : decode cX4_wouldLead 77 = .ok (.aload_n 0, 1) := by decide +kernel
theorem dX4_wouldLead_78 : decode cX4_wouldLead 78 = .ok (.getfield 59, 3) := by decide +kernel
theorem dX4_wouldLead_81 : decode cX4_wouldLead 81 = .ok (.iload_n 3, 1) := by decide +kernel
theorem dX4_wouldLead_82 : decode cX4_wouldLead 82 = .ok (.aaload, 1) := by decide +kernel
theorem dX4_wouldLead_83 : decode cX4_wouldLead 83 = .ok (.invokevirtual 117, 3) := by decide +kernel
theorem dX4_wouldLead_86 : decode cX4_wouldLead 86 = .ok (.ireturn, 1) := by decide +kernel
theorem dX4_placeOf_0 : decode cX4_placeOf 0 = .ok (.iconst 0, 1) := by decide +kernel
theorem dX4_placeOf_1 : decode cX4_placeOf 1 = .ok (.istore_n 2, 1) := by decide +kernel
theorem dX4_placeOf_2 : decode cX4_placeOf 2 = .ok (.iconst 0, 1) := by decide +kernel
theorem dX4_placeOf_3 : decode cX4_placeOf 3 = .ok (.istore_n 3, 1) := by decide +kernel
theorem dX4_placeOf_4 : decode cX4_placeOf 4 = .ok (.iload_n 3, 1) := by decide +kernel
theorem dX4_placeOf_5 : decode cX4_placeOf 5 = .ok (.aload_n 0, 1) := by decide +kernel
theorem dX4_placeOf_6 : decode cX4_placeOf 6 = .ok (.getfield 9, 3) := by decide +kernel
theorem dX4_placeOf_9 : decode cX4_placeOf 9 = .ok (.if_icmp .ge 26, 3) := by decide +kernel
theorem dX4_placeOf_12 : decode cX4_placeOf 12 = .ok (.iload_n 3, 1) := by decide +kernel
theorem dX4_placeOf_13 : decode cX4_placeOf 13 = .ok (.iload_n 1, 1) := by decide +kernel
theorem dX4_placeOf_14 : decode cX4_placeOf 14 = .ok (.if_icmp .eq 15, 3) := by decide +kernel
theorem dX4_placeOf_17 : decode cX4_placeOf 17 = .ok (.aload_n 0, 1) := by decide +kernel
theorem dX4_placeOf_18 : decode cX4_placeOf 18 = .ok (.iload_n 3, 1) := by decide +kernel
theorem dX4_placeOf_19 : decode cX4_placeOf 19 = .ok (.iload_n 1, 1) := by decide +kernel
theorem dX4_placeOf_20 : decode cX4_placeOf 20 = .ok (.invokevirtual 121, 3) := by decide +kernel
theorem dX4_placeOf_23 : decode cX4_placeOf 23 = .ok (.ifCond .eq 6, 3) := by decide +kernel
theorem dX4_placeOf_26 : decode cX4_placeOf 26 = .ok (.iinc 2 1, 3) := by decide +kernel
theorem dX4_placeOf_29 : decode cX4_placeOf 29 = .ok (.iinc 3 1, 3) := by decide +kernel
theorem dX4_placeOf_32 : decode cX4_placeOf 32 = .ok (.goto (-28), 3) := by decide +kernel
theorem dX4_placeOf_35 : decode cX4_placeOf 35 = .ok (.iload_n 2, 1) := by decide +kernel
theorem dX4_placeOf_36 : decode cX4_placeOf 36 = .ok (.ireturn, 1) := by decide +kernel
theorem dX4_outBits_0 : decode cX4_outBits 0 = .ok (.iconst 0, 1) := by decide +kernel
theorem dX4_outBits_1 : decode cX4_outBits 1 = .ok (.istore_n 1, 1) := by decide +kernel
theorem dX4_outBits_2 : decode cX4_outBits 2 = .ok (.iconst 0, 1) := by decide +kernel
theorem dX4_outBits_3 : decode cX4_outBits 3 = .ok (.istore_n 2, 1) := by decide +kernel
theorem dX4_outBits_4 : decode cX4_outBits 4 = .ok (.iload_n 2, 1) := by decide +kernel
theorem dX4_outBits_5 : decode cX4_outBits 5 = .ok (.aload_n 0, 1) := by decide +kernel
theorem dX4_outBits_6 : decode cX4_outBits 6 = .ok (.getfield 9, 3) := by decide +kernel
theorem dX4_outBits_9 : decode cX4_outBits 9 = .ok (.if_icmp .ge 24, 3) := by decide +kernel
theorem dX4_outBits_12 : decode cX4_outBits 12 = .ok (.aload_n 0, 1) := by decide +kernel
theorem dX4_outBits_13 : decode cX4_outBits 13 = .ok (.getfield 38, 3) := by decide +kernel
theorem dX4_outBits_16 : decode cX4_outBits 16 = .ok (.iload_n 2, 1) := by decide +kernel
theorem dX4_outBits_17 : decode cX4_outBits 17 = .ok (.baload, 1) := by decide +kernel
theorem dX4_outBits_18 : decode cX4_outBits 18 = .ok (.ifCond .eq 9, 3) := by decide +kernel
theorem dX4_outBits_21 : decode cX4_outBits 21 = .ok (.iload_n 1, 1) := by decide +kernel
theorem dX4_outBits_22 : decode cX4_outBits 22 = .ok (.iconst 1, 1) := by decide +kernel
theorem dX4_outBits_23 : decode cX4_outBits 23 = .ok (.iload_n 2, 1) := by decide +kernel
theorem dX4_outBits_24 : decode cX4_outBits 24 = .ok (.ishl, 1) := by decide +kernel
theorem dX4_outBits_25 : decode cX4_outBits 25 = .ok (.ior, 1) := by decide +kernel
theorem dX4_outBits_26 : decode cX4_outBits 26 = .ok (.istore_n 1, 1) := by decide +kernel
theorem dX4_outBits_27 : decode cX4_outBits 27 = .ok (.iinc 2 1, 3) := by decide +kernel
theorem dX4_outBits_30 : decode cX4_outBits 30 = .ok (.goto (-26), 3) := by decide +kernel
theorem dX4_outBits_33 : decode cX4_outBits 33 = .ok (.iload_n 1, 1) := by decide +kernel
theorem dX4_outBits_34 : decode cX4_outBits 34 = .ok (.ireturn, 1) := by decide +kernel
theorem dX4_copy_0 : decode cX4_copy 0 = .ok (.aload_n 0, 1) := by decide +kernel
theorem dX4_copy_1 : decode cX4_copy 1 = .ok (.aload_n 1, 1) := by decide +kernel
theorem dX4_copy_2 : decode cX4_copy 2 = .ok (.getfield 9, 3) := by decide +kernel
theorem dX4_copy_5 : decode cX4_copy 5 = .ok (.putfield 9, 3) := by decide +kernel
theorem dX4_copy_8 : decode cX4_copy 8 = .ok (.aload_n 0, 1) := by decide +kernel
theorem dX4_copy_9 : decode cX4_copy 9 = .ok (.aload_n 1, 1) := by decide +kernel
theorem dX4_copy_10 : decode cX4_copy 10 = .ok (.getfield 15, 3) := by decide +kernel
theorem dX4_copy_13 : decode cX4_copy 13 = .ok (.putfield 15, 3) := by decide +kernel
theorem dX4_copy_16 : decode cX4_copy 16 = .ok (.aload_n 0, 1) := by decide +kernel
theorem dX4_copy_17 : decode cX4_copy 17 = .ok (.aload_n 1, 1) := by decide +kernel
theorem dX4_copy_18 : decode cX4_copy 18 = .ok (.getfield 18, 3) := by decide +kernel
theorem dX4_copy_21 : decode cX4_copy 21 = .ok (.putfield 18, 3) := by decide +kernel
theorem dX4_copy_24 : decode cX4_copy 24 = .ok (.aload_n 0, 1) := by decide +kernel
theorem dX4_copy_25 : decode cX4_copy 25 = .ok (.aload_n 1, 1) := by decide +kernel
theorem dX4_copy_26 : decode cX4_copy 26 = .ok (.getfield 21, 3) := by decide +kernel
theorem dX4_copy_29 : decode cX4_copy 29 = .ok (.putfield 21, 3) := by decide +kernel
theorem dX4_copy_32 : decode cX4_copy 32 = .ok (.aload_n 0, 1) := by decide +kernel
theorem dX4_copy_33 : decode cX4_copy 33 = .ok (.aload_n 1, 1) := by decide +kernel
theorem dX4_copy_34 : decode cX4_copy 34 = .ok (.getfield 24, 3) := by decide +kernel
theorem dX4_copy_37 : decode cX4_copy 37 = .ok (.putfield 24, 3) := by decide +kernel
theorem dX4_copy_40 : decode cX4_copy 40 = .ok (.aload_n 0, 1) := by decide +kernel
theorem dX4_copy_41 : decode cX4_copy 41 = .ok (.aload_n 1, 1) := by decide +kernel
theorem dX4_copy_42 : decode cX4_copy 42 = .ok (.getfield 53, 3) := by decide +kernel
theorem dX4_copy_45 : decode cX4_copy 45 = .ok (.putfield 53, 3) := by decide +kernel
theorem dX4_copy_48 : decode cX4_copy 48 = .ok (.aload_n 0, 1) := by decide +kernel
theorem dX4_copy_49 : decode cX4_copy 49 = .ok (.aload_n 1, 1) := by decide +kernel
theorem dX4_copy_50 : decode cX4_copy 50 = .ok (.getfield 56, 3) := by decide +kernel
theorem dX4_copy_53 : decode cX4_copy 53 = .ok (.putfield 56, 3) := by decide +kernel
theorem dX4_copy_56 : decode cX4_copy 56 = .ok (.iconst 0, 1) := by decide +kernel
theorem dX4_copy_57 : decode cX4_copy 57 = .ok (.istore_n 2, 1) := by decide +kernel
theorem dX4_copy_58 : decode cX4_copy 58 = .ok (.iload_n 2, 1) := by decide +kernel
theorem dX4_copy_59 : decode cX4_copy 59 = .ok (.bipush 6, 2) := by decide +kernel
theorem dX4_copy_61 : decode cX4_copy 61 = .ok (.if_icmp .ge 81, 3) := by decide +kernel
theorem dX4_copy_64 : decode cX4_copy 64 = .ok (.aload_n 0, 1) := by decide +kernel
theorem dX4_copy_65 : decode cX4_copy 65 = .ok (.getfield 27, 3) := by decide +kernel
theorem dX4_copy_68 : decode cX4_copy 68 = .ok (.iload_n 2, 1) := by decide +kernel
theorem dX4_copy_69 : decode cX4_copy 69 = .ok (.aload_n 1, 1) := by decide +kernel
theorem dX4_copy_70 : decode cX4_copy 70 = .ok (.getfield 27, 3) := by decide +kernel
theorem dX4_copy_73 : decode cX4_copy 73 = .ok (.iload_n 2, 1) := by decide +kernel
theorem dX4_copy_74 : decode cX4_copy 74 = .ok (.iaload, 1) := by decide +kernel
theorem dX4_copy_75 : decode cX4_copy 75 = .ok (.iastore, 1) := by decide +kernel
theorem dX4_copy_76 : decode cX4_copy 76 = .ok (.aload_n 0, 1) := by decide +kernel
theorem dX4_copy_77 : decode cX4_copy 77 = .ok (.getfield 31, 3) := by decide +kernel
theorem dX4_copy_80 : decode cX4_copy 80 = .ok (.iload_n 2, 1) := by decide +kernel
theorem dX4_copy_81 : decode cX4_copy 81 = .ok (.aload_n 1, 1) := by decide +kernel
theorem dX4_copy_82 : decode cX4_copy 82 = .ok (.getfield 31, 3) := by decide +kernel
theorem dX4_copy_85 : decode cX4_copy 85 = .ok (.iload_n 2, 1) := by decide +kernel
theorem dX4_copy_86 : decode cX4_copy 86 = .ok (.baload, 1) := by decide +kernel
theorem dX4_copy_87 : decode cX4_copy 87 = .ok (.bastore, 1) := by decide +kernel
theorem dX4_copy_88 : decode cX4_copy 88 = .ok (.aload_n 0, 1) := by decide +kernel
theorem dX4_copy_89 : decode cX4_copy 89 = .ok (.getfield 35, 3) := by decide +kernel
theorem dX4_copy_92 : decode cX4_copy 92 = .ok (.iload_n 2, 1) := by decide +kernel
theorem dX4_copy_93 : decode cX4_copy 93 = .ok (.aload_n 1, 1) := by decide +kernel
theorem dX4_copy_94 : decode cX4_copy 94 = .ok (.getfield 35, 3) := by decide +kernel
theorem dX4_copy_97 : decode cX4_copy 97 = .ok (.iload_n 2, 1) := by decide +kernel
theorem dX4_copy_98 : decode cX4_copy 98 = .ok (.iaload, 1) := by decide +kernel
theorem dX4_copy_99 : decode cX4_copy 99 = .ok (.iastore, 1) := by decide +kernel
theorem dX4_copy_100 : decode cX4_copy 100 = .ok (.aload_n 0, 1) := by decide +kernel
theorem dX4_copy_101 : decode cX4_copy 101 = .ok (.getfield 38, 3) := by decide +kernel
theorem dX4_copy_104 : decode cX4_copy 104 = .ok (.iload_n 2, 1) := by decide +kernel
theorem dX4_copy_105 : decode cX4_copy 105 = .ok (.aload_n 1, 1) := by decide +kernel
theorem dX4_copy_106 : decode cX4_copy 106 = .ok (.getfield 38, 3) := by decide +kernel
theorem dX4_copy_109 : decode cX4_copy 109 = .ok (.iload_n 2, 1) := by decide +kernel
theorem dX4_copy_110 : decode cX4_copy 110 = .ok (.baload, 1) := by decide +kernel
theorem dX4_copy_111 : decode cX4_copy 111 = .ok (.bastore, 1) := by decide +kernel
theorem dX4_copy_112 : decode cX4_copy 112 = .ok (.aload_n 0, 1) := by decide +kernel
theorem dX4_copy_113 : decode cX4_copy 113 = .ok (.getfield 44, 3) := by decide +kernel
theorem dX4_copy_116 : decode cX4_copy 116 = .ok (.iload_n 2, 1) := by decide +kernel
theorem dX4_copy_117 : decode cX4_copy 117 = .ok (.aload_n 1, 1) := by decide +kernel
theorem dX4_copy_118 : decode cX4_copy 118 = .ok (.getfield 44, 3) := by decide +kernel
theorem dX4_copy_121 : decode cX4_copy 121 = .ok (.iload_n 2, 1) := by decide +kernel
theorem dX4_copy_122 : decode cX4_copy 122 = .ok (.iaload, 1) := by decide +kernel
theorem dX4_copy_123 : decode cX4_copy 123 = .ok (.iastore, 1) := by decide +kernel
theorem dX4_copy_124 : decode cX4_copy 124 = .ok (.aload_n 0, 1) := by decide +kernel
theorem dX4_copy_125 : decode cX4_copy 125 = .ok (.getfield 47, 3) := by decide +kernel
theorem dX4_copy_128 : decode cX4_copy 128 = .ok (.iload_n 2, 1) := by decide +kernel
theorem dX4_copy_129 : decode cX4_copy 129 = .ok (.aload_n 1, 1) := by decide +kernel
theorem dX4_copy_130 : decode cX4_copy 130 = .ok (.getfield 47, 3) := by decide +kernel
theorem dX4_copy_133 : decode cX4_copy 133 = .ok (.iload_n 2, 1) := by decide +kernel
theorem dX4_copy_134 : decode cX4_copy 134 = .ok (.iaload, 1) := by decide +kernel
theorem dX4_copy_135 : decode cX4_copy 135 = .ok (.iastore, 1) := by decide +kernel
theorem dX4_copy_136 : decode cX4_copy 136 = .ok (.iinc 2 1, 3) := by decide +kernel
theorem dX4_copy_139 : decode cX4_copy 139 = .ok (.goto (-81), 3) := by decide +kernel
theorem dX4_copy_142 : decode cX4_copy 142 = .ok (.iconst 0, 1) := by decide +kernel
theorem dX4_copy_143 : decode cX4_copy 143 = .ok (.istore_n 2, 1) := by decide +kernel
theorem dX4_copy_144 : decode cX4_copy 144 = .ok (.iload_n 2, 1) := by decide +kernel
theorem dX4_copy_145 : decode cX4_copy 145 = .ok (.aload_n 0, 1) := by decide +kernel
theorem dX4_copy_146 : decode cX4_copy 146 = .ok (.getfield 41, 3) := by decide +kernel
theorem dX4_copy_149 : decode cX4_copy 149 = .ok (.arraylength, 1) := by decide +kernel
theorem dX4_copy_150 : decode cX4_copy 150 = .ok (.if_icmp .ge 21, 3) := by decide +kernel
theorem dX4_copy_153 : decode cX4_copy 153 = .ok (.aload_n 0, 1) := by decide +kernel
theorem dX4_copy_154 : decode cX4_copy 154 = .ok (.getfield 41, 3) := by decide +kernel
theorem dX4_copy_157 : decode cX4_copy 157 = .ok (.iload_n 2, 1) := by decide +kernel
theorem dX4_copy_158 : decode cX4_copy 158 = .ok (.aload_n 1, 1) := by decide +kernel
theorem dX4_copy_159 : decode cX4_copy 159 = .ok (.getfield 41, 3) := by decide +kernel
theorem dX4_copy_162 : decode cX4_copy 162 = .ok (.iload_n 2, 1) := by decide +kernel
theorem dX4_copy_163 : decode cX4_copy 163 = .ok (.iaload, 1) := by decide +kernel
theorem dX4_copy_164 : decode cX4_copy 164 = .ok (.iastore, 1) := by decide +kernel
theorem dX4_copy_165 : decode cX4_copy 165 = .ok (.iinc 2 1, 3) := by decide +kernel
theorem dX4_copy_168 : decode cX4_copy 168 = .ok (.goto (-24), 3) := by decide +kernel
theorem dX4_copy_171 : decode cX4_copy 171 = .ok (.return_, 1) := by decide +kernel
theorem dX5_init_0 : decode cX5_init 0 = .ok (.aload_n 0, 1) := by decide +kernel
theorem dX5_init_1 : decode cX5_init 1 = .ok (.invokespecial 3, 3) := by decide +kernel
theorem dX5_init_4 : decode cX5_init 4 = .ok (.return_, 1) := by decide +kernel
theorem dX5_look_0 : decode cX5_look 0 = .ok (.aload_n 0, 1) := by decide +kernel
theorem dX5_look_1 : decode cX5_look 1 = .ok (.aload_n 1, 1) := by decide +kernel
theorem dX5_look_2 : decode cX5_look 2 = .ok (.getfield 9, 3) := by decide +kernel
theorem dX5_look_5 : decode cX5_look 5 = .ok (.iload_n 2, 1) := by decide +kernel
theorem dX5_look_6 : decode cX5_look 6 = .ok (.baload, 1) := by decide +kernel
theorem dX5_look_7 : decode cX5_look 7 = .ok (.putfield 15, 3) := by decide +kernel
theorem dX5_look_10 : decode cX5_look 10 = .ok (.aload_n 0, 1) := by decide +kernel
theorem dX5_look_11 : decode cX5_look 11 = .ok (.aload_n 1, 1) := by decide +kernel
theorem dX5_look_12 : decode cX5_look 12 = .ok (.getfield 20, 3) := by decide +kernel
theorem dX5_look_15 : decode cX5_look 15 = .ok (.putfield 24, 3) := by decide +kernel
theorem dX5_look_18 : decode cX5_look 18 = .ok (.aload_n 0, 1) := by decide +kernel
theorem dX5_look_19 : decode cX5_look 19 = .ok (.aload_n 0, 1) := by decide +kernel
theorem dX5_look_20 : decode cX5_look 20 = .ok (.getfield 24, 3) := by decide +kernel
theorem dX5_look_23 : decode cX5_look 23 = .ok (.iconst 3, 1) := by decide +kernel
theorem dX5_look_24 : decode cX5_look 24 = .ok (.if_icmp .ge 19, 3) := by decide +kernel
theorem dX5_look_27 : decode cX5_look 27 = .ok (.aload_n 1, 1) := by decide +kernel
theorem dX5_look_28 : decode cX5_look 28 = .ok (.getfield 25, 3) := by decide +kernel
theorem dX5_look_31 : decode cX5_look 31 = .ok (.iload_n 2, 1) := by decide +kernel
theorem dX5_look_32 : decode cX5_look 32 = .ok (.iconst 3, 1) := by decide +kernel
theorem dX5_look_33 : decode cX5_look 33 = .ok (.imul, 1) := by decide +kernel
theorem dX5_look_34 : decode cX5_look 34 = .ok (.aload_n 0, 1) := by decide +kernel
theorem dX5_look_35 : decode cX5_look 35 = .ok (.getfield 24, 3) := by decide +kernel
theorem dX5_look_38 : decode cX5_look 38 = .ok (.iadd, 1) := by decide +kernel
theorem dX5_look_39 : decode cX5_look 39 = .ok (.iaload, 1) := by decide +kernel
theorem dX5_look_40 : decode cX5_look 40 = .ok (.goto 4, 3) := by decide +kernel
theorem dX5_look_43 : decode cX5_look 43 = .ok (.iconst 0, 1) := by decide +kernel
theorem dX5_look_44 : decode cX5_look 44 = .ok (.putfield 29, 3) := by decide +kernel
theorem dX5_look_47 : decode cX5_look 47 = .ok (.aload_n 0, 1) := by decide +kernel
theorem dX5_look_48 : decode cX5_look 48 = .ok (.aload_n 1, 1) := by decide +kernel
theorem dX5_look_49 : decode cX5_look 49 = .ok (.iload_n 2, 1) := by decide +kernel
theorem dX5_look_50 : decode cX5_look 50 = .ok (.invokevirtual 31, 3) := by decide +kernel
theorem dX5_look_53 : decode cX5_look 53 = .ok (.aload_n 0, 1) := by decide +kernel
theorem dX5_look_54 : decode cX5_look 54 = .ok (.getfield 15, 3) := by decide +kernel
theorem dX5_look_57 : decode cX5_look 57 = .ok (.ifCond .eq 7, 3) := by decide +kernel
theorem dX5_look_60 : decode cX5_look 60 = .ok (.iconst 0, 1) := by decide +kernel
theorem dX5_look_61 : decode cX5_look 61 = .ok (.goto 7, 3) := by decide +kernel
theorem dX5_look_64 : decode cX5_look 64 = .ok (.aload_n 0, 1) := by decide +kernel
theorem dX5_look_65 : decode cX5_look 65 = .ok (.getfield 29, 3) := by decide +kernel
theorem dX5_look_68 : decode cX5_look 68 = .ok (.isub, 1) := by decide +kernel
theorem dX5_look_69 : decode cX5_look 69 = .ok (.putfield 35, 3) := by decide +kernel
theorem dX5_look_72 : decode cX5_look 72 = .ok (.aload_n 0, 1) := by decide +kernel
theorem dX5_look_73 : decode cX5_look 73 = .ok (.aload_n 1, 1) := by decide +kernel
theorem dX5_look_74 : decode cX5_look 74 = .ok (.getfield 38, 3) := by decide +kernel
theorem dX5_look_77 : decode cX5_look 77 = .ok (.iload_n 2, 1) := by decide +kernel
theorem dX5_look_78 : decode cX5_look 78 = .ok (.iaload, 1) := by decide +kernel
theorem dX5_look_79 : decode cX5_look 79 = .ok (.putfield 41, 3) := by decide +kernel
theorem dX5_look_82 : decode cX5_look 82 = .ok (.aload_n 0, 1) := by decide +kernel
theorem dX5_look_83 : decode cX5_look 83 = .ok (.aload_n 1, 1) := by decide +kernel
theorem dX5_look_84 : decode cX5_look 84 = .ok (.getfield 43, 3) := by decide +kernel
theorem dX5_look_87 : decode cX5_look 87 = .ok (.iload_n 2, 1) := by decide +kernel
theorem dX5_look_88 : decode cX5_look 88 = .ok (.iaload, 1) := by decide +kernel
theorem dX5_look_89 : decode cX5_look 89 = .ok (.putfield 46, 3) := by decide +kernel
theorem dX5_look_92 : decode cX5_look 92 = .ok (.aload_n 0, 1) := by decide +kernel
theorem dX5_look_93 : decode cX5_look 93 = .ok (.aload_n 1, 1) := by decide +kernel
theorem dX5_look_94 : decode cX5_look 94 = .ok (.iload_n 2, 1) := by decide +kernel
theorem dX5_look_95 : decode cX5_look 95 = .ok (.invokevirtual 48, 3) := by decide +kernel
theorem dX5_look_98 : decode cX5_look 98 = .ok (.putfield 51, 3) := by decide +kernel
theorem dX5_look_101 : decode cX5_look 101 = .ok (.aload_n 0, 1) := by decide +kernel
theorem dX5_look_102 : decode cX5_look 102 = .ok (.aload_n 0, 1) := by decide +kernel
theorem dX5_look_103 : decode cX5_look 103 = .ok (.getfield 46, 3) := by decide +kernel
theorem dX5_look_106 : decode cX5_look 106 = .ok (.ifCond .ne 7, 3) := by decide +kernel
theorem dX5_look_109 : decode cX5_look 109 = .ok (.iconst 0, 1) := by decide +kernel
theorem dX5_look_110 : decode cX5_look 110 = .ok (.goto 24, 3) := by decide +kernel
theorem dX5_look_113 : decode cX5_look 113 = .ok (.iconst 3, 1) := by decide +kernel
theorem dX5_look_114 : decode cX5_look 114 = .ok (.aload_n 1, 1) := by decide +kernel
theorem dX5_look_115 : decode cX5_look 115 = .ok (.getfield 54, 3) := by decide +kernel
theorem dX5_look_118 : decode cX5_look 118 = .ok (.isub, 1) := by decide +kernel
theorem dX5_look_119 : decode cX5_look 119 = .ok (.aload_n 1, 1) := by decide +kernel
theorem dX5_look_120 : decode cX5_look 120 = .ok (.getfield 57, 3) := by decide +kernel
theorem dX5_look_123 : decode cX5_look 123 = .ok (.iload_n 2, 1) := by decide +kernel
theorem dX5_look_124 : decode cX5_look 124 = .ok (.baload, 1) := by decide +kernel
theorem dX5_look_125 : decode cX5_look 125 = .ok (.ifCond .eq 7, 3) := by decide +kernel
theorem dX5_look_128 : decode cX5_look 128 = .ok (.iconst 1, 1) := by decide +kernel
theorem dX5_look_129 : decode cX5_look 129 = .ok (.goto 4, 3) := by decide +kernel
theorem dX5_look_132 : decode cX5_look 132 = .ok (.iconst 0, 1) := by decide +kernel
theorem dX5_look_133 : decode cX5_look 133 = .ok (.isub, 1) := by decide +kernel
theorem dX5_look_134 : decode cX5_look 134 = .ok (.putfield 60, 3) := by decide +kernel
theorem dX5_look_137 : decode cX5_look 137 = .ok (.return_, 1) := by decide +kernel
theorem dX5_hasTry_0 : decode cX5_hasTry 0 = .ok (.aload_n 0, 1) := by decide +kernel
theorem dX5_hasTry_1 : decode cX5_hasTry 1 = .ok (.getfield 15, 3) := by decide +kernel
theorem dX5_hasTry_4 : decode cX5_hasTry 4 = .ok (.ifCond .ne 31, 3) := by decide +kernel
theorem dX5_hasTry_7 : decode cX5_hasTry 7 = .ok (.aload_n 0, 1) := by decide +kernel
theorem dX5_hasTry_8 : decode cX5_hasTry 8 = .ok (.getfield 24, 3) := by decide +kernel
theorem dX5_hasTry_11 : decode cX5_hasTry 11 = .ok (.iconst 3, 1) := by decide +kernel
theorem dX5_hasTry_12 : decode cX5_hasTry 12 = .ok (.if_icmp .ge 23, 3) := by decide +kernel
theorem dX5_hasTry_15 : decode cX5_hasTry 15 = .ok (.aload_n 0, 1) := by decide +kernel
theorem dX5_hasTry_16 : decode cX5_hasTry 16 = .ok (.getfield 60, 3) := by decide +kernel
theorem dX5_hasTry_19 : decode cX5_hasTry 19 = .ok (.ifCond .le 16, 3) := by decide +kernel
theorem dX5_hasTry_22 : decode cX5_hasTry 22 = .ok (.aload_n 0, 1) := by decide +kernel
theorem dX5_hasTry_23 : decode cX5_hasTry 23 = .ok (.getfield 51, 3) := by decide +kernel
theorem dX5_hasTry_26 : decode cX5_hasTry 26 = .ok (.bipush 40, 2) := by decide +kernel
theorem dX5_hasTry_28 : decode cX5_hasTry 28 = .ok (.if_icmp .gt 7, 3) := by decide +kernel
theorem dX5_hasTry_31 : decode cX5_hasTry 31 = .ok (.iconst 1, 1) := by decide +kernel
theorem dX5_hasTry_32 : decode cX5_hasTry 32 = .ok (.goto 4, 3) := by decide +kernel
theorem dX5_hasTry_35 : decode cX5_hasTry 35 = .ok (.iconst 0, 1) := by decide +kernel
theorem dX5_hasTry_36 : decode cX5_hasTry 36 = .ok (.ireturn, 1) := by decide +kernel
theorem dX5_findTry_0 : decode cX5_findTry 0 = .ok (.iconst 0, 1) := by decide +kernel
theorem dX5_findTry_1 : decode cX5_findTry 1 = .ok (.istore_n 1, 1) := by decide +kernel
theorem dX5_findTry_2 : decode cX5_findTry 2 = .ok (.iload_n 1, 1) := by decide +kernel
theorem dX5_findTry_3 : decode cX5_findTry 3 = .ok (.iconst 3, 1) := by decide +kernel
theorem dX5_findTry_4 : decode cX5_findTry 4 = .ok (.if_icmp .ge 89, 3) := by decide +kernel
theorem dX5_findTry_7 : decode cX5_findTry 7 = .ok (.aload_n 0, 1) := by decide +kernel
theorem dX5_findTry_8 : decode cX5_findTry 8 = .ok (.getfield 15, 3) := by decide +kernel
theorem dX5_findTry_11 : decode cX5_findTry 11 = .ok (.ifCond .ne 82, 3) := by decide +kernel
theorem dX5_findTry_14 : decode cX5_findTry 14 = .ok (.aload_n 0, 1) := by decide +kernel
theorem dX5_findTry_15 : decode cX5_findTry 15 = .ok (.getfield 24, 3) := by decide +kernel
theorem dX5_findTry_18 : decode cX5_findTry 18 = .ok (.iconst 3, 1) := by decide +kernel
theorem dX5_findTry_19 : decode cX5_findTry 19 = .ok (.if_icmp .ge 74, 3) := by decide +kernel
theorem dX5_findTry_22 : decode cX5_findTry 22 = .ok (.aload_n 0, 1) := by decide +kernel
theorem dX5_findTry_23 : decode cX5_findTry 23 = .ok (.invokevirtual 63, 3) := by decide +kernel
theorem dX5_findTry_26 : decode cX5_findTry 26 = .ok (.ifCond .ne 67, 3) := by decide +kernel
theorem dX5_findTry_29 : decode cX5_findTry 29 = .ok (.aload_n 0, 1) := by decide +kernel
theorem dX5_findTry_30 : decode cX5_findTry 30 = .ok (.getfield 29, 3) := by decide +kernel
theorem dX5_findTry_33 : decode cX5_findTry 33 = .ok (.ifCond .ne 11, 3) := by decide +kernel
theorem dX5_findTry_36 : decode cX5_findTry 36 = .ok (.aload_n 0, 1) := by decide +kernel
theorem dX5_findTry_37 : decode cX5_findTry 37 = .ok (.iconst 1, 1) := by decide +kernel
theorem dX5_findTry_38 : decode cX5_findTry 38 = .ok (.putfield 15, 3) := by decide +kernel
theorem dX5_findTry_41 : decode cX5_findTry 41 = .ok (.goto 46, 3) := by decide +kernel
theorem dX5_findTry_44 : decode cX5_findTry 44 = .ok (.aload_n 0, 1) := by decide +kernel
theorem dX5_findTry_45 : decode cX5_findTry 45 = .ok (.dup, 1) := by decide +kernel
theorem dX5_findTry_46 : decode cX5_findTry 46 = .ok (.getfield 35, 3) := by decide +kernel
theorem dX5_findTry_49 : decode cX5_findTry 49 = .ok (.aload_n 0, 1) := by decide +kernel
theorem dX5_findTry_50 : decode cX5_findTry 50 = .ok (.getfield 29, 3) := by decide +kernel
theorem dX5_findTry_53 : decode cX5_findTry 53 = .ok (.iadd, 1) := by decide +kernel
theorem dX5_findTry_54 : decode cX5_findTry 54 = .ok (.putfield 35, 3) := by decide +kernel
theorem dX5_findTry_57 : decode cX5_findTry 57 = .ok (.aload_n 0, 1) := by decide +kernel
theorem dX5_findTry_58 : decode cX5_findTry 58 = .ok (.dup, 1) := by decide +kernel
theorem dX5_findTry_59 : decode cX5_findTry 59 = .ok (.getfield 24, 3) := by decide +kernel
theorem dX5_findTry_62 : decode cX5_findTry 62 = .ok (.iconst 1, 1) := by decide +kernel
theorem dX5_findTry_63 : decode cX5_findTry 63 = .ok (.iadd, 1) := by decide +kernel
theorem dX5_findTry_64 : decode cX5_findTry 64 = .ok (.putfield 24, 3) := by decide +kernel
theorem dX5_findTry_67 : decode cX5_findTry 67 = .ok (.aload_n 0, 1) := by decide +kernel
theorem dX5_findTry_68 : decode cX5_findTry 68 = .ok (.iconst 0, 1) := by decide +kernel
theorem dX5_findTry_69 : decode cX5_findTry 69 = .ok (.putfield 29, 3) := by decide +kernel
theorem dX5_findTry_72 : decode cX5_findTry 72 = .ok (.aload_n 0, 1) := by decide +kernel
theorem dX5_findTry_73 : decode cX5_findTry 73 = .ok (.iconst 0, 1) := by decide +kernel
theorem dX5_findTry_74 : decode cX5_findTry 74 = .ok (.putfield 41, 3) := by decide +kernel
theorem dX5_findTry_77 : decode cX5_findTry 77 = .ok (.aload_n 0, 1) := by decide +kernel
theorem dX5_findTry_78 : decode cX5_findTry 78 = .ok (.iconst 1, 1) := by decide +kernel
theorem dX5_findTry_79 : decode cX5_findTry 79 = .ok (.putfield 51, 3) := by decide +kernel
theorem dX5_findTry_82 : decode cX5_findTry 82 = .ok (.aload_n 0, 1) := by decide +kernel
theorem dX5_findTry_83 : decode cX5_findTry 83 = .ok (.iconst 3, 1) := by decide +kernel
theorem dX5_findTry_84 : decode cX5_findTry 84 = .ok (.putfield 60, 3) := by decide +kernel
theorem dX5_findTry_87 : decode cX5_findTry 87 = .ok (.iinc 1 1, 3) := by decide +kernel
theorem dX5_findTry_90 : decode cX5_findTry 90 = .ok (.goto (-88), 3) := by decide +kernel
theorem dX5_findTry_93 : decode cX5_findTry 93 = .ok (.aload_n 0, 1) := by decide +kernel
theorem dX5_findTry_94 : decode cX5_findTry 94 = .ok (.invokevirtual 63, 3) := by decide +kernel
theorem dX5_findTry_97 : decode cX5_findTry 97 = .ok (.ireturn, 1) := by decide +kernel
theorem dX5_take_0 : decode cX5_take 0 = .ok (.aload_n 0, 1) := by decide +kernel
theorem dX5_take_1 : decode cX5_take 1 = .ok (.dup, 1) := by decide +kernel
theorem dX5_take_2 : decode cX5_take 2 = .ok (.getfield 60, 3) := by decide +kernel
theorem dX5_take_5 : decode cX5_take 5 = .ok (.iconst 1, 1) := by decide +kernel
theorem dX5_take_6 : decode cX5_take 6 = .ok (.isub, 1) := by decide +kernel
theorem dX5_take_7 : decode cX5_take 7 = .ok (.putfield 60, 3) := by decide +kernel
theorem dX5_take_10 : decode cX5_take 10 = .ok (.iload_n 2, 1) := by decide +kernel
theorem dX5_take_11 : decode cX5_take 11 = .ok (.ifCond .eq 18, 3) := by decide +kernel
theorem dX5_take_14 : decode cX5_take 14 = .ok (.aload_n 0, 1) := by decide +kernel
theorem dX5_take_15 : decode cX5_take 15 = .ok (.iload_n 1, 1) := by decide +kernel
theorem dX5_take_16 : decode cX5_take 16 = .ok (.putfield 29, 3) := by decide +kernel
theorem dX5_take_19 : decode cX5_take 19 = .ok (.aload_n 0, 1) := by decide +kernel
theorem dX5_take_20 : decode cX5_take 20 = .ok (.iload_n 1, 1) := by decide +kernel
theorem dX5_take_21 : decode cX5_take 21 = .ok (.iconst 1, 1) := by decide +kernel
theorem dX5_take_22 : decode cX5_take 22 = .ok (.iadd, 1) := by decide +kernel
theorem dX5_take_23 : decode cX5_take 23 = .ok (.putfield 51, 3) := by decide +kernel
theorem dX5_take_26 : decode cX5_take 26 = .ok (.goto 18, 3) := by decide +kernel
theorem dX5_take_29 : decode cX5_take 29 = .ok (.aload_n 0, 1) := by decide +kernel
theorem dX5_take_30 : decode cX5_take 30 = .ok (.dup, 1) := by decide +kernel
theorem dX5_take_31 : decode cX5_take 31 = .ok (.getfield 41, 3) := by decide +kernel
theorem dX5_take_34 : decode cX5_take 34 = .ok (.iconst 1, 1) := by decide +kernel
theorem dX5_take_35 : decode cX5_take 35 = .ok (.iadd, 1) := by decide +kernel
theorem dX5_take_36 : decode cX5_take 36 = .ok (.putfield 41, 3) := by decide +kernel
theorem dX5_take_39 : decode cX5_take 39 = .ok (.aload_n 0, 1) := by decide +kernel
theorem dX5_take_40 : decode cX5_take 40 = .ok (.iload_n 1, 1) := by decide +kernel
theorem dX5_take_41 : decode cX5_take 41 = .ok (.putfield 51, 3) := by decide +kernel
theorem dX5_take_44 : decode cX5_take 44 = .ok (.return_, 1) := by decide +kernel
theorem dX6_init_0 : decode cX6_init 0 = .ok (.aload_n 0, 1) := by decide +kernel
theorem dX6_init_1 : decode cX6_init 1 = .ok (.invokespecial 3, 3) := by decide +kernel
theorem dX6_init_4 : decode cX6_init 4 = .ok (.aload_n 0, 1) := by decide +kernel
theorem dX6_init_5 : decode cX6_init 5 = .ok (.aconst_null, 1) := by decide +kernel
theorem dX6_init_6 : decode cX6_init 6 = .ok (.putfield 9, 3) := by decide +kernel
theorem dX6_init_9 : decode cX6_init 9 = .ok (.aload_n 0, 1) := by decide +kernel
theorem dX6_init_10 : decode cX6_init 10 = .ok (.iconst 0, 1) := by decide +kernel
theorem dX6_init_11 : decode cX6_init 11 = .ok (.putfield 15, 3) := by decide +kernel
theorem dX6_init_14 : decode cX6_init 14 = .ok (.aload_n 0, 1) := by decide +kernel
theorem dX6_init_15 : decode cX6_init 15 = .ok (.aconst_null, 1) := by decide +kernel
theorem dX6_init_16 : decode cX6_init 16 = .ok (.putfield 19, 3) := by decide +kernel
theorem dX6_init_19 : decode cX6_init 19 = .ok (.aload_n 0, 1) := by decide +kernel
theorem dX6_init_20 : decode cX6_init 20 = .ok (.iconst 3, 1) := by decide +kernel
theorem dX6_init_21 : decode cX6_init 21 = .ok (.sipush 242, 3) := by decide +kernel
theorem dX6_init_24 : decode cX6_init 24 = .ok (.multianewarray 23 2, 4) := by decide +kernel
theorem dX6_init_28 : decode cX6_init 28 = .ok (.putfield 25, 3) := by decide +kernel
theorem dX6_init_31 : decode cX6_init 31 = .ok (.return_, 1) := by decide +kernel
theorem dX6_prepare_0 : decode cX6_prepare 0 = .ok (.aload_n 0, 1) := by decide +kernel
theorem dX6_prepare_1 : decode cX6_prepare 1 = .ok (.aload_n 1, 1) := by decide +kernel
theorem dX6_prepare_2 : decode cX6_prepare 2 = .ok (.putfield 9, 3) := by decide +kernel
theorem dX6_prepare_5 : decode cX6_prepare 5 = .ok (.aload_n 0, 1) := by decide +kernel
theorem dX6_prepare_6 : decode cX6_prepare 6 = .ok (.iload_n 2, 1) := by decide +kernel
theorem dX6_prepare_7 : decode cX6_prepare 7 = .ok (.putfield 15, 3) := by decide +kernel
theorem dX6_prepare_10 : decode cX6_prepare 10 = .ok (.aload_n 0, 1) := by decide +kernel
theorem dX6_prepare_11 : decode cX6_prepare 11 = .ok (.aload_n 3, 1) := by decide +kernel
theorem dX6_prepare_12 : decode cX6_prepare 12 = .ok (.putfield 19, 3) := by decide +kernel
theorem dX6_prepare_15 : decode cX6_prepare 15 = .ok (.iconst 0, 1) := by decide +kernel
theorem dX6_prepare_16 : decode cX6_prepare 16 = .ok (.istore 4, 2) := by decide +kernel
theorem dX6_prepare_18 : decode cX6_prepare 18 = .ok (.iload 4, 2) := by decide +kernel
theorem dX6_prepare_20 : decode cX6_prepare 20 = .ok (.iconst 3, 1) := by decide +kernel
theorem dX6_prepare_21 : decode cX6_prepare 21 = .ok (.if_icmp .ge 20, 3) := by decide +kernel
theorem dX6_prepare_24 : decode cX6_prepare 24 = .ok (.aload_n 0, 1) := by decide +kernel
theorem dX6_prepare_25 : decode cX6_prepare 25 = .ok (.getfield 25, 3) := by decide +kernel
theorem dX6_prepare_28 : decode cX6_prepare 28 = .ok (.iload 4, 2) := by decide +kernel
theorem dX6_prepare_30 : decode cX6_prepare 30 = .ok (.aaload, 1) := by decide +kernel
theorem dX6_prepare_31 : decode cX6_prepare 31 = .ok (.iconst (-1), 1) := by decide +kernel
theorem dX6_prepare_32 : decode cX6_prepare 32 = .ok (.invokestatic 28, 3) := by decide +kernel
theorem dX6_prepare_35 : decode cX6_prepare 35 = .ok (.iinc 4 1, 3) := by decide +kernel
theorem dX6_prepare_38 : decode cX6_prepare 38 = .ok (.goto (-20), 3) := by decide +kernel
theorem dX6_prepare_41 : decode cX6_prepare 41 = .ok (.return_, 1) := by decide +kernel
theorem dX6_valueFrom_0 : decode cX6_valueFrom 0 = .ok (.aload_n 0, 1) := by decide +kernel
theorem dX6_valueFrom_1 : decode cX6_valueFrom 1 = .ok (.getfield 9, 3) := by decide +kernel
theorem dX6_valueFrom_4 : decode cX6_valueFrom 4 = .ok (.ifnull 10, 3) := by decide +kernel
theorem dX6_valueFrom_7 : decode cX6_valueFrom 7 = .ok (.aload_n 0, 1) := by decide +kernel
theorem dX6_valueFrom_8 : decode cX6_valueFrom 8 = .ok (.getfield 19, 3) := by decide +kernel
theorem dX6_valueFrom_11 : decode cX6_valueFrom 11 = .ok (.ifnonnull 5, 3) := by decide +kernel
theorem dX6_valueFrom_14 : decode cX6_valueFrom 14 = .ok (.iconst 0, 1) := by decide +kernel
theorem dX6_valueFrom_15 : decode cX6_valueFrom 15 = .ok (.ireturn, 1) := by decide +kernel
theorem dX6_valueFrom_16 : decode cX6_valueFrom 16 = .ok (.aload_n 1, 1) := by decide +kernel
theorem dX6_valueFrom_17 : decode cX6_valueFrom 17 = .ok (.getfield 34, 3) := by decide +kernel
theorem dX6_valueFrom_20 : decode cX6_valueFrom 20 = .ok (.ifCond .eq 11, 3) := by decide +kernel
theorem dX6_valueFrom_23 : decode cX6_valueFrom 23 = .ok (.aload_n 0, 1) := by decide +kernel
theorem dX6_valueFrom_24 : decode cX6_valueFrom 24 = .ok (.getfield 19, 3) := by decide +kernel
theorem dX6_valueFrom_27 : decode cX6_valueFrom 27 = .ok (.getfield 40, 3) := by decide +kernel
theorem dX6_valueFrom_30 : decode cX6_valueFrom 30 = .ok (.ireturn, 1) := by decide +kernel
theorem dX6_valueFrom_31 : decode cX6_valueFrom 31 = .ok (.aload_n 1, 1) := by decide +kernel
theorem dX6_valueFrom_32 : decode cX6_valueFrom 32 = .ok (.getfield 44, 3) := by decide +kernel
theorem dX6_valueFrom_35 : decode cX6_valueFrom 35 = .ok (.iconst 3, 1) := by decide +kernel
theorem dX6_valueFrom_36 : decode cX6_valueFrom 36 = .ok (.if_icmp .lt 16, 3) := by decide +kernel
theorem dX6_valueFrom_39 : decode cX6_valueFrom 39 = .ok (.aload_n 0, 1) := by decide +kernel
theorem dX6_valueFrom_40 : decode cX6_valueFrom 40 = .ok (.aload_n 1, 1) := by decide +kernel
theorem dX6_valueFrom_41 : decode cX6_valueFrom 41 = .ok (.getfield 44, 3) := by decide +kernel
theorem dX6_valueFrom_44 : decode cX6_valueFrom 44 = .ok (.aload_n 1, 1) := by decide +kernel
theorem dX6_valueFrom_45 : decode cX6_valueFrom 45 = .ok (.getfield 47, 3) := by decide +kernel
theorem dX6_valueFrom_48 : decode cX6_valueFrom 48 = .ok (.invokevirtual 50, 3) := by decide +kernel
theorem dX6_valueFrom_51 : decode cX6_valueFrom 51 = .ok (.ireturn, 1) := by decide +kernel
theorem dX6_valueFrom_52 : decode cX6_valueFrom 52 = .ok (.aload_n 0, 1) := by decide +kernel
theorem dX6_valueFrom_53 : decode cX6_valueFrom 53 = .ok (.aload_n 1, 1) := by decide +kernel
theorem dX6_valueFrom_54 : decode cX6_valueFrom 54 = .ok (.getfield 44, 3) := by decide +kernel
theorem dX6_valueFrom_57 : decode cX6_valueFrom 57 = .ok (.aload_n 1, 1) := by decide +kernel
theorem dX6_valueFrom_58 : decode cX6_valueFrom 58 = .ok (.getfield 47, 3) := by decide +kernel
theorem dX6_valueFrom_61 : decode cX6_valueFrom 61 = .ok (.aload_n 1, 1) := by decide +kernel
theorem dX6_valueFrom_62 : decode cX6_valueFrom 62 = .ok (.getfield 54, 3) := by decide +kernel
theorem dX6_valueFrom_65 : decode cX6_valueFrom 65 = .ok (.aload_n 1, 1) := by decide +kernel
theorem dX6_valueFrom_66 : decode cX6_valueFrom 66 = .ok (.getfield 57, 3) := by decide +kernel
theorem dX6_valueFrom_69 : decode cX6_valueFrom 69 = .ok (.aload_n 1, 1) := by decide +kernel
theorem dX6_valueFrom_70 : decode cX6_valueFrom 70 = .ok (.getfield 60, 3) := by decide +kernel
theorem dX6_valueFrom_73 : decode cX6_valueFrom 73 = .ok (.aload_n 1, 1) := by decide +kernel
theorem dX6_valueFrom_74 : decode cX6_valueFrom 74 = .ok (.getfield 63, 3) := by decide +kernel
theorem dX6_valueFrom_77 : decode cX6_valueFrom 77 = .ok (.invokevirtual 66, 3) := by decide +kernel
theorem dX6_valueFrom_80 : decode cX6_valueFrom 80 = .ok (.ireturn, 1) := by decide +kernel
theorem dX6_startOf_0 : decode cX6_startOf 0 = .ok (.iload_n 2, 1) := by decide +kernel
theorem dX6_startOf_1 : decode cX6_startOf 1 = .ok (.ifCond .lt 10, 3) := by decide +kernel
theorem dX6_startOf_4 : decode cX6_startOf 4 = .ok (.iload_n 2, 1) := by decide +kernel
theorem dX6_startOf_5 : decode cX6_startOf 5 = .ok (.sipush 242, 3) := by decide +kernel
theorem dX6_startOf_8 : decode cX6_startOf 8 = .ok (.if_icmp .lt 5, 3) := by decide +kernel
theorem dX6_startOf_11 : decode cX6_startOf 11 = .ok (.iconst 0, 1) := by decide +kernel
theorem dX6_startOf_12 : decode cX6_startOf 12 = .ok (.ireturn, 1) := by decide +kernel
theorem dX6_startOf_13 : decode cX6_startOf 13 = .ok (.iload_n 1, 1) := by decide +kernel
theorem dX6_startOf_14 : decode cX6_startOf 14 = .ok (.iconst 3, 1) := by decide +kernel
theorem dX6_startOf_15 : decode cX6_startOf 15 = .ok (.if_icmp .lt 13, 3) := by decide +kernel
theorem dX6_startOf_18 : decode cX6_startOf 18 = .ok (.aload_n 0, 1) := by decide +kernel
theorem dX6_startOf_19 : decode cX6_startOf 19 = .ok (.getfield 19, 3) := by decide +kernel
theorem dX6_startOf_22 : decode cX6_startOf 22 = .ok (.getfield 70, 3) := by decide +kernel
theorem dX6_startOf_25 : decode cX6_startOf 25 = .ok (.iload_n 2, 1) := by decide +kernel
theorem dX6_startOf_26 : decode cX6_startOf 26 = .ok (.iaload, 1) := by decide +kernel
theorem dX6_startOf_27 : decode cX6_startOf 27 = .ok (.ireturn, 1) := by decide +kernel
theorem dX6_startOf_28 : decode cX6_startOf 28 = .ok (.aload_n 0, 1) := by decide +kernel
theorem dX6_startOf_29 : decode cX6_startOf 29 = .ok (.getfield 25, 3) := by decide +kernel
theorem dX6_startOf_32 : decode cX6_startOf 32 = .ok (.iload_n 1, 1) := by decide +kernel
theorem dX6_startOf_33 : decode cX6_startOf 33 = .ok (.aaload, 1) := by decide +kernel
theorem dX6_startOf_34 : decode cX6_startOf 34 = .ok (.iload_n 2, 1) := by decide +kernel
theorem dX6_startOf_35 : decode cX6_startOf 35 = .ok (.iaload, 1) := by decide +kernel
theorem dX6_startOf_36 : decode cX6_startOf 36 = .ok (.ifCond .ge 31, 3) := by decide +kernel
theorem dX6_startOf_39 : decode cX6_startOf 39 = .ok (.aload_n 0, 1) := by decide +kernel
theorem dX6_startOf_40 : decode cX6_startOf 40 = .ok (.getfield 25, 3) := by decide +kernel
theorem dX6_startOf_43 : decode cX6_startOf 43 = .ok (.iload_n 1, 1) := by decide +kernel
theorem dX6_startOf_44 : decode cX6_startOf 44 = .ok (.aaload, 1) := by decide +kernel
theorem dX6_startOf_45 : decode cX6_startOf 45 = .ok (.iload_n 2, 1) := by decide +kernel
theorem dX6_startOf_46 : decode cX6_startOf 46 = .ok (.aload_n 0, 1) := by decide +kernel
theorem dX6_startOf_47 : decode cX6_startOf 47 = .ok (.iload_n 1, 1) := by decide +kernel
theorem dX6_startOf_48 : decode cX6_startOf 48 = .ok (.iload_n 2, 1) := by decide +kernel
theorem dX6_startOf_49 : decode cX6_startOf 49 = .ok (.aload_n 0, 1) := by decide +kernel
theorem dX6_startOf_50 : decode cX6_startOf 50 = .ok (.getfield 9, 3) := by decide +kernel
theorem dX6_startOf_53 : decode cX6_startOf 53 = .ok (.getfield 74, 3) := by decide +kernel
theorem dX6_startOf_56 : decode cX6_startOf 56 = .ok (.iload_n 1, 1) := by decide +kernel
theorem dX6_startOf_57 : decode cX6_startOf 57 = .ok (.iconst 3, 1) := by decide +kernel
theorem dX6_startOf_58 : decode cX6_startOf 58 = .ok (.imul, 1) := by decide +kernel
theorem dX6_startOf_59 : decode cX6_startOf 59 = .ok (.iaload, 1) := by decide +kernel
theorem dX6_startOf_60 : decode cX6_startOf 60 = .ok (.iconst 0, 1) := by decide +kernel
theorem dX6_startOf_61 : decode cX6_startOf 61 = .ok (.iconst 0, 1) := by decide +kernel
theorem dX6_startOf_62 : decode cX6_startOf 62 = .ok (.iconst 3, 1) := by decide +kernel
theorem dX6_startOf_63 : decode cX6_startOf 63 = .ok (.invokevirtual 66, 3) := by decide +kernel
theorem dX6_startOf_66 : decode cX6_startOf 66 = .ok (.iastore, 1) := by decide +kernel
theorem dX6_startOf_67 : decode cX6_startOf 67 = .ok (.aload_n 0, 1) := by decide +kernel
theorem dX6_startOf_68 : decode cX6_startOf 68 = .ok (.getfield 25, 3) := by decide +kernel
theorem dX6_startOf_71 : decode cX6_startOf 71 = .ok (.iload_n 1, 1) := by decide +kernel
theorem dX6_startOf_72 : decode cX6_startOf 72 = .ok (.aaload, 1) := by decide +kernel
theorem dX6_startOf_73 : decode cX6_startOf 73 = .ok (.iload_n 2, 1) := by decide +kernel
theorem dX6_startOf_74 : decode cX6_startOf 74 = .ok (.iaload, 1) := by decide +kernel
theorem dX6_startOf_75 : decode cX6_startOf 75 = .ok (.ireturn, 1) := by decide +kernel
theorem dX6_valueOfTry_0 : decode cX6_valueOfTry 0 = .ok (.iload 6, 2) := by decide +kernel
theorem dX6_valueOfTry_2 : decode cX6_valueOfTry 2 = .ok (.ifCond .le 14, 3) := by decide +kernel
theorem dX6_valueOfTry_5 : decode cX6_valueOfTry 5 = .ok (.iload_n 3, 1) := by decide +kernel
theorem dX6_valueOfTry_6 : decode cX6_valueOfTry 6 = .ok (.iconst 1, 1) := by decide +kernel
theorem dX6_valueOfTry_7 : decode cX6_valueOfTry 7 = .ok (.if_icmp .lt 9, 3) := by decide +kernel
theorem dX6_valueOfTry_10 : decode cX6_valueOfTry 10 = .ok (.iload_n 3, 1) := by decide +kernel
theorem dX6_valueOfTry_11 : decode cX6_valueOfTry 11 = .ok (.bipush 40, 2) := by decide +kernel
theorem dX6_valueOfTry_13 : decode cX6_valueOfTry 13 = .ok (.if_icmp .le 30, 3) := by decide +kernel
theorem dX6_valueOfTry_16 : decode cX6_valueOfTry 16 = .ok (.iload 4, 2) := by decide +kernel
theorem dX6_valueOfTry_18 : decode cX6_valueOfTry 18 = .ok (.ifCond .ne 13, 3) := by decide +kernel
theorem dX6_valueOfTry_21 : decode cX6_valueOfTry 21 = .ok (.aload_n 0, 1) := by decide +kernel
theorem dX6_valueOfTry_22 : decode cX6_valueOfTry 22 = .ok (.getfield 19, 3) := by decide +kernel
theorem dX6_valueOfTry_25 : decode cX6_valueOfTry 25 = .ok (.getfield 40, 3) := by decide +kernel
theorem dX6_valueOfTry_28 : decode cX6_valueOfTry 28 = .ok (.goto 14, 3) := by decide +kernel
theorem dX6_valueOfTry_31 : decode cX6_valueOfTry 31 = .ok (.aload_n 0, 1) := by decide +kernel
theorem dX6_valueOfTry_32 : decode cX6_valueOfTry 32 = .ok (.iload_n 1, 1) := by decide +kernel
theorem dX6_valueOfTry_33 : decode cX6_valueOfTry 33 = .ok (.iconst 1, 1) := by decide +kernel
theorem dX6_valueOfTry_34 : decode cX6_valueOfTry 34 = .ok (.iadd, 1) := by decide +kernel
theorem dX6_valueOfTry_35 : decode cX6_valueOfTry 35 = .ok (.iload_n 2, 1) := by decide +kernel
theorem dX6_valueOfTry_36 : decode cX6_valueOfTry 36 = .ok (.iload 4, 2) := by decide +kernel
theorem dX6_valueOfTry_38 : decode cX6_valueOfTry 38 = .ok (.iadd, 1) := by decide +kernel
theorem dX6_valueOfTry_39 : decode cX6_valueOfTry 39 = .ok (.invokevirtual 50, 3) := by decide +kernel
theorem dX6_valueOfTry_42 : decode cX6_valueOfTry 42 = .ok (.ireturn, 1) := by decide +kernel
theorem dX6_valueOfTry_43 : decode cX6_valueOfTry 43 = .ok (.aload_n 0, 1) := by decide +kernel
theorem dX6_valueOfTry_44 : decode cX6_valueOfTry 44 = .ok (.iload_n 1, 1) := by decide +kernel
theorem dX6_valueOfTry_45 : decode cX6_valueOfTry 45 = .ok (.iload_n 2, 1) := by decide +kernel
theorem dX6_valueOfTry_46 : decode cX6_valueOfTry 46 = .ok (.iload_n 3, 1) := by decide +kernel
theorem dX6_valueOfTry_47 : decode cX6_valueOfTry 47 = .ok (.aload_n 0, 1) := by decide +kernel
theorem dX6_valueOfTry_48 : decode cX6_valueOfTry 48 = .ok (.getfield 9, 3) := by decide +kernel
theorem dX6_valueOfTry_51 : decode cX6_valueOfTry 51 = .ok (.getfield 74, 3) := by decide +kernel
theorem dX6_valueOfTry_54 : decode cX6_valueOfTry 54 = .ok (.iload_n 1, 1) := by decide +kernel
theorem dX6_valueOfTry_55 : decode cX6_valueOfTry 55 = .ok (.iconst 3, 1) := by decide +kernel
theorem dX6_valueOfTry_56 : decode cX6_valueOfTry 56 = .ok (.imul, 1) := by decide +kernel
theorem dX6_valueOfTry_57 : decode cX6_valueOfTry 57 = .ok (.iconst 1, 1) := by decide +kernel
theorem dX6_valueOfTry_58 : decode cX6_valueOfTry 58 = .ok (.iadd, 1) := by decide +kernel
theorem dX6_valueOfTry_59 : decode cX6_valueOfTry 59 = .ok (.iaload, 1) := by decide +kernel
theorem dX6_valueOfTry_60 : decode cX6_valueOfTry 60 = .ok (.iadd, 1) := by decide +kernel
theorem dX6_valueOfTry_61 : decode cX6_valueOfTry 61 = .ok (.iload 4, 2) := by decide +kernel
theorem dX6_valueOfTry_63 : decode cX6_valueOfTry 63 = .ok (.iload_n 3, 1) := by decide +kernel
theorem dX6_valueOfTry_64 : decode cX6_valueOfTry 64 = .ok (.invokestatic 79, 3) := by decide +kernel
theorem dX6_valueOfTry_67 : decode cX6_valueOfTry 67 = .ok (.iload 5, 2) := by decide +kernel
theorem dX6_valueOfTry_69 : decode cX6_valueOfTry 69 = .ok (.iload 6, 2) := by decide +kernel
theorem dX6_valueOfTry_71 : decode cX6_valueOfTry 71 = .ok (.iconst 1, 1) := by decide +kernel
theorem dX6_valueOfTry_72 : decode cX6_valueOfTry 72 = .ok (.isub, 1) := by decide +kernel
theorem dX6_valueOfTry_73 : decode cX6_valueOfTry 73 = .ok (.invokevirtual 66, 3) := by decide +kernel
theorem dX6_valueOfTry_76 : decode cX6_valueOfTry 76 = .ok (.istore 7, 2) := by decide +kernel
theorem dX6_valueOfTry_78 : decode cX6_valueOfTry 78 = .ok (.aload_n 0, 1) := by decide +kernel
theorem dX6_valueOfTry_79 : decode cX6_valueOfTry 79 = .ok (.iload_n 1, 1) := by decide +kernel
theorem dX6_valueOfTry_80 : decode cX6_valueOfTry 80 = .ok (.iload_n 2, 1) := by decide +kernel
theorem dX6_valueOfTry_81 : decode cX6_valueOfTry 81 = .ok (.iload_n 3, 1) := by decide +kernel
theorem dX6_valueOfTry_82 : decode cX6_valueOfTry 82 = .ok (.aload_n 0, 1) := by decide +kernel
theorem dX6_valueOfTry_83 : decode cX6_valueOfTry 83 = .ok (.getfield 9, 3) := by decide +kernel
theorem dX6_valueOfTry_86 : decode cX6_valueOfTry 86 = .ok (.getfield 74, 3) := by decide +kernel
theorem dX6_valueOfTry_89 : decode cX6_valueOfTry 89 = .ok (.iload_n 1, 1) := by decide +kernel
theorem dX6_valueOfTry_90 : decode cX6_valueOfTry 90 = .ok (.iconst 3, 1) := by decide +kernel
theorem dX6_valueOfTry_91 : decode cX6_valueOfTry 91 = .ok (.imul, 1) := by decide +kernel
theorem dX6_valueOfTry_92 : decode cX6_valueOfTry 92 = .ok (.iconst 2, 1) := by decide +kernel
theorem dX6_valueOfTry_93 : decode cX6_valueOfTry 93 = .ok (.iadd, 1) := by decide +kernel
theorem dX6_valueOfTry_94 : decode cX6_valueOfTry 94 = .ok (.iaload, 1) := by decide +kernel
theorem dX6_valueOfTry_95 : decode cX6_valueOfTry 95 = .ok (.iadd, 1) := by decide +kernel
theorem dX6_valueOfTry_96 : decode cX6_valueOfTry 96 = .ok (.iload 4, 2) := by decide +kernel
theorem dX6_valueOfTry_98 : decode cX6_valueOfTry 98 = .ok (.iload 5, 2) := by decide +kernel
theorem dX6_valueOfTry_100 : decode cX6_valueOfTry 100 = .ok (.iconst 1, 1) := by decide +kernel
theorem dX6_valueOfTry_101 : decode cX6_valueOfTry 101 = .ok (.iadd, 1) := by decide +kernel
theorem dX6_valueOfTry_102 : decode cX6_valueOfTry 102 = .ok (.iload 6, 2) := by decide +kernel
theorem dX6_valueOfTry_104 : decode cX6_valueOfTry 104 = .ok (.iconst 1, 1) := by decide +kernel
theorem dX6_valueOfTry_105 : decode cX6_valueOfTry 105 = .ok (.isub, 1) := by decide +kernel
theorem dX6_valueOfTry_106 : decode cX6_valueOfTry 106 = .ok (.invokevirtual 66, 3) := by decide +kernel
theorem dX6_valueOfTry_109 : decode cX6_valueOfTry 109 = .ok (.istore 8, 2) := by decide +kernel
theorem dX6_valueOfTry_111 : decode cX6_valueOfTry 111 = .ok (.aload_n 0, 1) := by decide +kernel
theorem dX6_valueOfTry_112 : decode cX6_valueOfTry 112 = .ok (.getfield 9, 3) := by decide +kernel
theorem dX6_valueOfTry_115 : decode cX6_valueOfTry 115 = .ok (.iload_n 1, 1) := by decide +kernel
theorem dX6_valueOfTry_116 : decode cX6_valueOfTry 116 = .ok (.iload_n 3, 1) := by decide +kernel
theorem dX6_valueOfTry_117 : decode cX6_valueOfTry 117 = .ok (.iload 5, 2) := by decide +kernel
theorem dX6_valueOfTry_119 : decode cX6_valueOfTry 119 = .ok (.aload_n 0, 1) := by decide +kernel
theorem dX6_valueOfTry_120 : decode cX6_valueOfTry 120 = .ok (.getfield 15, 3) := by decide +kernel
theorem dX6_valueOfTry_123 : decode cX6_valueOfTry 123 = .ok (.imul, 1) := by decide +kernel
theorem dX6_valueOfTry_124 : decode cX6_valueOfTry 124 = .ok (.invokevirtual 84, 3) := by decide +kernel
theorem dX6_valueOfTry_127 : decode cX6_valueOfTry 127 = .ok (.iload 7, 2) := by decide +kernel
theorem dX6_valueOfTry_129 : decode cX6_valueOfTry 129 = .ok (.iload 8, 2) := by decide +kernel
theorem dX6_valueOfTry_131 : decode cX6_valueOfTry 131 = .ok (.invokestatic 88, 3) := by decide +kernel
theorem dX6_valueOfTry_134 : decode cX6_valueOfTry 134 = .ok (.ireturn, 1) := by decide +kernel
theorem dX7_init_0 : decode cX7_init 0 = .ok (.aload_n 0, 1) := by decide +kernel
theorem dX7_init_1 : decode cX7_init 1 = .ok (.invokespecial 3, 3) := by decide +kernel
theorem dX7_init_4 : decode cX7_init 4 = .ok (.aload_n 0, 1) := by decide +kernel
theorem dX7_init_5 : decode cX7_init 5 = .ok (.sipush 240, 3) := by decide +kernel
theorem dX7_init_8 : decode cX7_init 8 = .ok (.newarray .char, 2) := by decide +kernel
theorem dX7_init_10 : decode cX7_init 10 = .ok (.putfield 9, 3) := by decide +kernel
theorem dX7_init_13 : decode cX7_init 13 = .ok (.aload_n 0, 1) := by decide +kernel
theorem dX7_init_14 : decode cX7_init 14 = .ok (.iconst 0, 1) := by decide +kernel
theorem dX7_init_15 : decode cX7_init 15 = .ok (.putfield 15, 3) := by decide +kernel
theorem dX7_init_18 : decode cX7_init 18 = .ok (.aload_n 0, 1) := by decide +kernel
theorem dX7_init_19 : decode cX7_init 19 = .ok (.iconst 0, 1) := by decide +kernel
theorem dX7_init_20 : decode cX7_init 20 = .ok (.putfield 19, 3) := by decide +kernel
theorem dX7_init_23 : decode cX7_init 23 = .ok (.aload_n 0, 1) := by decide +kernel
theorem dX7_init_24 : decode cX7_init 24 = .ok (.iconst (-1), 1) := by decide +kernel
theorem dX7_init_25 : decode cX7_init 25 = .ok (.putfield 22, 3) := by decide +kernel
theorem dX7_init_28 : decode cX7_init 28 = .ok (.return_, 1) := by decide +kernel
theorem dX7_append_0 : decode cX7_append 0 = .ok (.aload_n 0, 1) := by decide +kernel
theorem dX7_append_1 : decode cX7_append 1 = .ok (.getfield 15, 3) := by decide +kernel
theorem dX7_append_4 : decode cX7_append 4 = .ok (.iconst 4, 1) := by decide +kernel
theorem dX7_append_5 : decode cX7_append 5 = .ok (.iadd, 1) := by decide +kernel
theorem dX7_append_6 : decode cX7_append 6 = .ok (.aload_n 0, 1) := by decide +kernel
theorem dX7_append_7 : decode cX7_append 7 = .ok (.getfield 9, 3) := by decide +kernel
theorem dX7_append_10 : decode cX7_append 10 = .ok (.arraylength, 1) := by decide +kernel
theorem dX7_append_11 : decode cX7_append 11 = .ok (.if_icmp .le 5, 3) := by decide +kernel
theorem dX7_append_14 : decode cX7_append 14 = .ok (.iconst 0, 1) := by decide +kernel
theorem dX7_append_15 : decode cX7_append 15 = .ok (.ireturn, 1) := by decide +kernel
theorem dX7_append_16 : decode cX7_append 16 = .ok (.bipush 24, 2) := by decide +kernel
theorem dX7_append_18 : decode cX7_append 18 = .ok (.istore_n 2, 1) := by decide +kernel
theorem dX7_append_19 : decode cX7_append 19 = .ok (.iload_n 2, 1) := by decide +kernel
theorem dX7_append_20 : decode cX7_append 20 = .ok (.ifCond .lt 36, 3) := by decide +kernel
theorem dX7_append_23 : decode cX7_append 23 = .ok (.aload_n 0, 1) := by decide +kernel
theorem dX7_append_24 : decode cX7_append 24 = .ok (.getfield 9, 3) := by decide +kernel
theorem dX7_append_27 : decode cX7_append 27 = .ok (.aload_n 0, 1) := by decide +kernel
theorem dX7_append_28 : decode cX7_append 28 = .ok (.getfield 15, 3) := by decide +kernel
theorem dX7_append_31 : decode cX7_append 31 = .ok (.iload_n 1, 1) := by decide +kernel
theorem dX7_append_32 : decode cX7_append 32 = .ok (.iload_n 2, 1) := by decide +kernel
theorem dX7_append_33 : decode cX7_append 33 = .ok (.iushr, 1) := by decide +kernel
theorem dX7_append_34 : decode cX7_append 34 = .ok (.sipush 255, 3) := by decide +kernel
theorem dX7_append_37 : decode cX7_append 37 = .ok (.iand, 1) := by decide +kernel
theorem dX7_append_38 : decode cX7_append 38 = .ok (.i2c, 1) := by decide +kernel
theorem dX7_append_39 : decode cX7_append 39 = .ok (.castore, 1) := by decide +kernel
theorem dX7_append_40 : decode cX7_append 40 = .ok (.aload_n 0, 1) := by decide +kernel
theorem dX7_append_41 : decode cX7_append 41 = .ok (.dup, 1) := by decide +kernel
theorem dX7_append_42 : decode cX7_append 42 = .ok (.getfield 15, 3) := by decide +kernel
theorem dX7_append_45 : decode cX7_append 45 = .ok (.iconst 1, 1) := by decide +kernel
theorem dX7_append_46 : decode cX7_append 46 = .ok (.iadd, 1) := by decide +kernel
theorem dX7_append_47 : decode cX7_append 47 = .ok (.putfield 15, 3) := by decide +kernel
theorem dX7_append_50 : decode cX7_append 50 = .ok (.iinc 2 (-8), 3) := by decide +kernel
theorem dX7_append_53 : decode cX7_append 53 = .ok (.goto (-34), 3) := by decide +kernel
theorem dX7_append_56 : decode cX7_append 56 = .ok (.iconst 1, 1) := by decide +kernel
theorem dX7_append_57 : decode cX7_append 57 = .ok (.ireturn, 1) := by decide +kernel
theorem dX7_shorten_0 : decode cX7_shorten 0 = .ok (.iload_n 1, 1) := by decide +kernel
theorem dX7_shorten_1 : decode cX7_shorten 1 = .ok (.ifCond .lt 11, 3) := by decide +kernel
theorem dX7_shorten_4 : decode cX7_shorten 4 = .ok (.iload_n 1, 1) := by decide +kernel
theorem dX7_shorten_5 : decode cX7_shorten 5 = .ok (.aload_n 0, 1) := by decide +kernel
theorem dX7_shorten_6 : decode cX7_shorten 6 = .ok (.getfield 15, 3) := by decide +kernel
theorem dX7_shorten_9 : decode cX7_shorten 9 = .ok (.if_icmp .le 5, 3) := by decide +kernel
theorem dX7_shorten_12 : decode cX7_shorten 12 = .ok (.iconst 0, 1) := by decide +kernel
theorem dX7_shorten_13 : decode cX7_shorten 13 = .ok (.ireturn, 1) := by decide +kernel
theorem dX7_shorten_14 : decode cX7_shorten 14 = .ok (.aload_n 0, 1) := by decide +kernel
theorem dX7_shorten_15 : decode cX7_shorten 15 = .ok (.iload_n 1, 1) := by decide +kernel
theorem dX7_shorten_16 : decode cX7_shorten 16 = .ok (.putfield 15, 3) := by decide +kernel
theorem dX7_shorten_19 : decode cX7_shorten 19 = .ok (.iconst 1, 1) := by decide +kernel
theorem dX7_shorten_20 : decode cX7_shorten 20 = .ok (.ireturn, 1) := by decide +kernel
theorem dX7_readLifter_0 : decode cX7_readLifter 0 = .ok (.aload_n 0, 1) := by decide +kernel
theorem dX7_readLifter_1 : decode cX7_readLifter 1 = .ok (.iconst 0, 1) := by decide +kernel
theorem dX7_readLifter_2 : decode cX7_readLifter 2 = .ok (.putfield 19, 3) := by decide +kernel
theorem dX7_readLifter_5 : decode cX7_readLifter 5 = .ok (.aload_n 0, 1) := by decide +kernel
theorem dX7_readLifter_6 : decode cX7_readLifter 6 = .ok (.iconst (-1), 1) := by decide +kernel
theorem dX7_readLifter_7 : decode cX7_readLifter 7 = .ok (.putfield 22, 3) := by decide +kernel
theorem dX7_readLifter_10 : decode cX7_readLifter 10 = .ok (.iload_n 2, 1) := by decide +kernel
theorem dX7_readLifter_11 : decode cX7_readLifter 11 = .ok (.ifCond .lt 9, 3) := by decide +kernel
theorem dX7_readLifter_14 : decode cX7_readLifter 14 = .ok (.iload_n 2, 1) := by decide +kernel
theorem dX7_readLifter_15 : decode cX7_readLifter 15 = .ok (.aload_n 1, 1) := by decide +kernel
theorem dX7_readLifter_16 : decode cX7_readLifter 16 = .ok (.arraylength, 1) := by decide +kernel
theorem dX7_readLifter_17 : decode cX7_readLifter 17 = .ok (.if_icmp .lt 5, 3) := by decide +kernel
theorem dX7_readLifter_20 : decode cX7_readLifter 20 = .ok (.iconst 0, 1) := by decide +kernel
theorem dX7_readLifter_21 : decode cX7_readLifter 21 = .ok (.ireturn, 1) := by decide +kernel
theorem dX7_readLifter_22 : decode cX7_readLifter 22 = .ok (.aload_n 1, 1) := by decide +kernel
theorem dX7_readLifter_23 : decode cX7_readLifter 23 = .ok (.iload_n 2, 1) := by decide +kernel
theorem dX7_readLifter_24 : decode cX7_readLifter 24 = .ok (.aaload, 1) := by decide +kernel
theorem dX7_readLifter_25 : decode cX7_readLifter 25 = .ok (.astore_n 3, 1) := by decide +kernel
theorem dX7_readLifter_26 : decode cX7_readLifter 26 = .ok (.aload_n 3, 1) := by decide +kernel
theorem dX7_readLifter_27 : decode cX7_readLifter 27 = .ok (.aload_n 0, 1) := by decide +kernel
theorem dX7_readLifter_28 : decode cX7_readLifter 28 = .ok (.iconst 1, 1) := by decide +kernel
theorem dX7_readLifter_29 : decode cX7_readLifter 29 = .ok (.sipush 200, 3) := by decide +kernel
theorem dX7_readLifter_32 : decode cX7_readLifter 32 = .ok (.invokevirtual 25, 3) := by decide +kernel
theorem dX7_readLifter_35 : decode cX7_readLifter 35 = .ok (.putfield 29, 3) := by decide +kernel
theorem dX7_readLifter_38 : decode cX7_readLifter 38 = .ok (.aload_n 0, 1) := by decide +kernel
theorem dX7_readLifter_39 : decode cX7_readLifter 39 = .ok (.bipush 44, 2) := by decide +kernel
theorem dX7_readLifter_41 : decode cX7_readLifter 41 = .ok (.invokevirtual 34, 3) := by decide +kernel
theorem dX7_readLifter_44 : decode cX7_readLifter 44 = .ok (.aload_n 3, 1) := by decide +kernel
theorem dX7_readLifter_45 : decode cX7_readLifter 45 = .ok (.aload_n 0, 1) := by decide +kernel
theorem dX7_readLifter_46 : decode cX7_readLifter 46 = .ok (.iconst 0, 1) := by decide +kernel
theorem dX7_readLifter_47 : decode cX7_readLifter 47 = .ok (.bipush 99, 2) := by decide +kernel
theorem dX7_readLifter_49 : decode cX7_readLifter 49 = .ok (.invokevirtual 25, 3) := by decide +kernel
theorem dX7_readLifter_52 : decode cX7_readLifter 52 = .ok (.putfield 38, 3) := by decide +kernel
theorem dX7_readLifter_55 : decode cX7_readLifter 55 = .ok (.iconst 0, 1) := by decide +kernel
theorem dX7_readLifter_56 : decode cX7_readLifter 56 = .ok (.istore 4, 2) := by decide +kernel
theorem dX7_readLifter_58 : decode cX7_readLifter 58 = .ok (.iload 4, 2) := by decide +kernel
theorem dX7_readLifter_60 : decode cX7_readLifter 60 = .ok (.iload_n 2, 1) := by decide +kernel
theorem dX7_readLifter_61 : decode cX7_readLifter 61 = .ok (.if_icmp .ge 40, 3) := by decide +kernel
theorem dX7_readLifter_64 : decode cX7_readLifter 64 = .ok (.aload_n 0, 1) := by decide +kernel
theorem dX7_readLifter_65 : decode cX7_readLifter 65 = .ok (.getfield 22, 3) := by decide +kernel
theorem dX7_readLifter_68 : decode cX7_readLifter 68 = .ok (.ifCond .ge 33, 3) := by decide +kernel
theorem dX7_readLifter_71 : decode cX7_readLifter 71 = .ok (.aload_n 1, 1) := by decide +kernel
theorem dX7_readLifter_72 : decode cX7_readLifter 72 = .ok (.iload 4, 2) := by decide +kernel
theorem dX7_readLifter_74 : decode cX7_readLifter 74 = .ok (.aaload, 1) := by decide +kernel
theorem dX7_readLifter_75 : decode cX7_readLifter 75 = .ok (.getfield 38, 3) := by decide +kernel
theorem dX7_readLifter_78 : decode cX7_readLifter 78 = .ok (.aload_n 3, 1) := by decide +kernel
theorem dX7_readLifter_79 : decode cX7_readLifter 79 = .ok (.getfield 38, 3) := by decide +kernel
theorem dX7_readLifter_82 : decode cX7_readLifter 82 = .ok (.if_icmp .ne 13, 3) := by decide +kernel
theorem dX7_readLifter_85 : decode cX7_readLifter 85 = .ok (.aload_n 0, 1) := by decide +kernel
theorem dX7_readLifter_86 : decode cX7_readLifter 86 = .ok (.aload_n 0, 1) := by decide +kernel
theorem dX7_readLifter_87 : decode cX7_readLifter 87 = .ok (.getfield 19, 3) := by decide +kernel
theorem dX7_readLifter_90 : decode cX7_readLifter 90 = .ok (.iconst 1, 1) := by decide +kernel
theorem dX7_readLifter_91 : decode cX7_readLifter 91 = .ok (.isub, 1) := by decide +kernel
theorem dX7_readLifter_92 : decode cX7_readLifter 92 = .ok (.putfield 22, 3) := by decide +kernel
theorem dX7_readLifter_95 : decode cX7_readLifter 95 = .ok (.iinc 4 1, 3) := by decide +kernel
theorem dX7_readLifter_98 : decode cX7_readLifter 98 = .ok (.goto (-40), 3) := by decide +kernel
theorem dX7_readLifter_101 : decode cX7_readLifter 101 = .ok (.iconst 0, 1) := by decide +kernel
theorem dX7_readLifter_102 : decode cX7_readLifter 102 = .ok (.istore 4, 2) := by decide +kernel
theorem dX7_readLifter_104 : decode cX7_readLifter 104 = .ok (.iload 4, 2) := by decide +kernel
theorem dX7_readLifter_106 : decode cX7_readLifter 106 = .ok (.iconst 3, 1) := by decide +kernel
theorem dX7_readLifter_107 : decode cX7_readLifter 107 = .ok (.if_icmp .ge 99, 3) := by decide +kernel
theorem dX7_readLifter_110 : decode cX7_readLifter 110 = .ok (.aload_n 0, 1) := by decide +kernel
theorem dX7_readLifter_111 : decode cX7_readLifter 111 = .ok (.getfield 22, 3) := by decide +kernel
theorem dX7_readLifter_114 : decode cX7_readLifter 114 = .ok (.ifCond .ge 92, 3) := by decide +kernel
theorem dX7_readLifter_117 : decode cX7_readLifter 117 = .ok (.aload_n 0, 1) := by decide +kernel
theorem dX7_readLifter_118 : decode cX7_readLifter 118 = .ok (.bipush 59, 2) := by decide +kernel
theorem dX7_readLifter_120 : decode cX7_readLifter 120 = .ok (.invokevirtual 34, 3) := by decide +kernel
theorem dX7_readLifter_123 : decode cX7_readLifter 123 = .ok (.aload_n 0, 1) := by decide +kernel
theorem dX7_readLifter_124 : decode cX7_readLifter 124 = .ok (.aload_n 3, 1) := by decide +kernel
theorem dX7_readLifter_125 : decode cX7_readLifter 125 = .ok (.iload 4, 2) := by decide +kernel
theorem dX7_readLifter_127 : decode cX7_readLifter 127 = .ok (.invokevirtual 41, 3) := by decide +kernel
theorem dX7_readLifter_130 : decode cX7_readLifter 130 = .ok (.aload_n 0, 1) := by decide +kernel
theorem dX7_readLifter_131 : decode cX7_readLifter 131 = .ok (.bipush 47, 2) := by decide +kernel
theorem dX7_readLifter_133 : decode cX7_readLifter 133 = .ok (.invokevirtual 34, 3) := by decide +kernel
theorem dX7_readLifter_136 : decode cX7_readLifter 136 = .ok (.aload_n 3, 1) := by decide +kernel
theorem dX7_readLifter_137 : decode cX7_readLifter 137 = .ok (.getfield 45, 3) := by decide +kernel
theorem dX7_readLifter_140 : decode cX7_readLifter 140 = .ok (.iload 4, 2) := by decide +kernel
theorem dX7_readLifter_142 : decode cX7_readLifter 142 = .ok (.iconst 3, 1) := by decide +kernel
theorem dX7_readLifter_143 : decode cX7_readLifter 143 = .ok (.imul, 1) := by decide +kernel
theorem dX7_readLifter_144 : decode cX7_readLifter 144 = .ok (.aload_n 0, 1) := by decide +kernel
theorem dX7_readLifter_145 : decode cX7_readLifter 145 = .ok (.iconst 1, 1) := by decide +kernel
theorem dX7_readLifter_146 : decode cX7_readLifter 146 = .ok (.bipush 40, 2) := by decide +kernel
theorem dX7_readLifter_148 : decode cX7_readLifter 148 = .ok (.invokevirtual 25, 3) := by decide +kernel
theorem dX7_readLifter_151 : decode cX7_readLifter 151 = .ok (.iastore, 1) := by decide +kernel
theorem dX7_readLifter_152 : decode cX7_readLifter 152 = .ok (.aload_n 0, 1) := by decide +kernel
theorem dX7_readLifter_153 : decode cX7_readLifter 153 = .ok (.bipush 43, 2) := by decide +kernel
theorem dX7_readLifter_155 : decode cX7_readLifter 155 = .ok (.invokevirtual 34, 3) := by decide +kernel
theorem dX7_readLifter_158 : decode cX7_readLifter 158 = .ok (.aload_n 3, 1) := by decide +kernel
theorem dX7_readLifter_159 : decode cX7_readLifter 159 = .ok (.getfield 45, 3) := by decide +kernel
theorem dX7_readLifter_162 : decode cX7_readLifter 162 = .ok (.iload 4, 2) := by decide +kernel
theorem dX7_readLifter_164 : decode cX7_readLifter 164 = .ok (.iconst 3, 1) := by decide +kernel
theorem dX7_readLifter_165 : decode cX7_readLifter 165 = .ok (.imul, 1) := by decide +kernel
theorem dX7_readLifter_166 : decode cX7_readLifter 166 = .ok (.iconst 1, 1) := by decide +kernel
theorem dX7_readLifter_167 : decode cX7_readLifter 167 = .ok (.iadd, 1) := by decide +kernel
theorem dX7_readLifter_168 : decode cX7_readLifter 168 = .ok (.aload_n 0, 1) := by decide +kernel
theorem dX7_readLifter_169 : decode cX7_readLifter 169 = .ok (.iconst 1, 1) := by decide +kernel
theorem dX7_readLifter_170 : decode cX7_readLifter 170 = .ok (.bipush 9, 2) := by decide +kernel
theorem dX7_readLifter_172 : decode cX7_readLifter 172 = .ok (.invokevirtual 25, 3) := by decide +kernel
theorem dX7_readLifter_175 : decode cX7_readLifter 175 = .ok (.iastore, 1) := by decide +kernel
theorem dX7_readLifter_176 : decode cX7_readLifter 176 = .ok (.aload_n 0, 1) := by decide +kernel
theorem dX7_readLifter_177 : decode cX7_readLifter 177 = .ok (.bipush 43, 2) := by decide +kernel
theorem dX7_readLifter_179 : decode cX7_readLifter 179 = .ok (.invokevirtual 34, 3) := by decide +kernel
theorem dX7_readLifter_182 : decode cX7_readLifter 182 = .ok (.aload_n 3, 1) := by decide +kernel
theorem dX7_readLifter_183 : decode cX7_readLifter 183 = .ok (.getfield 45, 3) := by decide +kernel
theorem dX7_readLifter_186 : decode cX7_readLifter 186 = .ok (.iload 4, 2) := by decide +kernel
theorem dX7_readLifter_188 : decode cX7_readLifter 188 = .ok (.iconst 3, 1) := by decide +kernel
theorem dX7_readLifter_189 : decode cX7_readLifter 189 = .ok (.imul, 1) := by decide +kernel
theorem dX7_readLifter_190 : decode cX7_readLifter 190 = .ok (.iconst 2, 1) := by decide +kernel
theorem dX7_readLifter_191 : decode cX7_readLifter 191 = .ok (.iadd, 1) := by decide +kernel
theorem dX7_readLifter_192 : decode cX7_readLifter 192 = .ok (.aload_n 0, 1) := by decide +kernel
theorem dX7_readLifter_193 : decode cX7_readLifter 193 = .ok (.iconst 0, 1) := by decide +kernel
theorem dX7_readLifter_194 : decode cX7_readLifter 194 = .ok (.bipush 9, 2) := by decide +kernel
theorem dX7_readLifter_196 : decode cX7_readLifter 196 = .ok (.invokevirtual 25, 3) := by decide +kernel
theorem dX7_readLifter_199 : decode cX7_readLifter 199 = .ok (.iastore, 1) := by decide +kernel
theorem dX7_readLifter_200 : decode cX7_readLifter 200 = .ok (.iinc 4 1, 3) := by decide +kernel
theorem dX7_readLifter_203 : decode cX7_readLifter 203 = .ok (.goto (-99), 3) := by decide +kernel
theorem dX7_readLifter_206 : decode cX7_readLifter 206 = .ok (.aload_n 0, 1) := by decide +kernel
theorem dX7_readLifter_207 : decode cX7_readLifter 207 = .ok (.getfield 22, 3) := by decide +kernel
theorem dX7_readLifter_210 : decode cX7_readLifter 210 = .ok (.ifCond .ge 22, 3) := by decide +kernel
theorem dX7_readLifter_213 : decode cX7_readLifter 213 = .ok (.aload_n 0, 1) := by decide +kernel
theorem dX7_readLifter_214 : decode cX7_readLifter 214 = .ok (.getfield 19, 3) := by decide +kernel
theorem dX7_readLifter_217 : decode cX7_readLifter 217 = .ok (.aload_n 0, 1) := by decide +kernel
theorem dX7_readLifter_218 : decode cX7_readLifter 218 = .ok (.getfield 15, 3) := by decide +kernel
theorem dX7_readLifter_221 : decode cX7_readLifter 221 = .ok (.if_icmp .ge 11, 3) := by decide +kernel
theorem dX7_readLifter_224 : decode cX7_readLifter 224 = .ok (.aload_n 0, 1) := by decide +kernel
theorem dX7_readLifter_225 : decode cX7_readLifter 225 = .ok (.aload_n 0, 1) := by decide +kernel
theorem dX7_readLifter_226 : decode cX7_readLifter 226 = .ok (.getfield 19, 3) := by decide +kernel
theorem dX7_readLifter_229 : decode cX7_readLifter 229 = .ok (.putfield 22, 3) := by decide +kernel
theorem dX7_readLifter_232 : decode cX7_readLifter 232 = .ok (.aload_n 0, 1) := by decide +kernel
theorem dX7_readLifter_233 : decode cX7_readLifter 233 = .ok (.getfield 22, 3) := by decide +kernel
theorem dX7_readLifter_236 : decode cX7_readLifter 236 = .ok (.ireturn, 1) := by decide +kernel
theorem dX7_readTable_0 : decode cX7_readTable 0 = .ok (.aload_n 1, 1) := by decide +kernel
theorem dX7_readTable_1 : decode cX7_readTable 1 = .ok (.iload_n 2, 1) := by decide +kernel
theorem dX7_readTable_2 : decode cX7_readTable 2 = .ok (.invokevirtual 49, 3) := by decide +kernel
theorem dX7_readTable_5 : decode cX7_readTable 5 = .ok (.iconst 0, 1) := by decide +kernel
theorem dX7_readTable_6 : decode cX7_readTable 6 = .ok (.istore_n 3, 1) := by decide +kernel
theorem dX7_readTable_7 : decode cX7_readTable 7 = .ok (.sipush 1000, 3) := by decide +kernel
theorem dX7_readTable_10 : decode cX7_readTable 10 = .ok (.istore 4, 2) := by decide +kernel
theorem dX7_readTable_12 : decode cX7_readTable 12 = .ok (.iconst 0, 1) := by decide +kernel
theorem dX7_readTable_13 : decode cX7_readTable 13 = .ok (.istore 5, 2) := by decide +kernel
theorem dX7_readTable_15 : decode cX7_readTable 15 = .ok (.iload 5, 2) := by decide +kernel
theorem dX7_readTable_17 : decode cX7_readTable 17 = .ok (.bipush 6, 2) := by decide +kernel
theorem dX7_readTable_19 : decode cX7_readTable 19 = .ok (.if_icmp .ge 120, 3) := by decide +kernel
theorem dX7_readTable_22 : decode cX7_readTable 22 = .ok (.aload_n 0, 1) := by decide +kernel
theorem dX7_readTable_23 : decode cX7_readTable 23 = .ok (.getfield 22, 3) := by decide +kernel
theorem dX7_readTable_26 : decode cX7_readTable 26 = .ok (.ifCond .ge 113, 3) := by decide +kernel
theorem dX7_readTable_29 : decode cX7_readTable 29 = .ok (.iload 5, 2) := by decide +kernel
theorem dX7_readTable_31 : decode cX7_readTable 31 = .ok (.ifCond .le 39, 3) := by decide +kernel
theorem dX7_readTable_34 : decode cX7_readTable 34 = .ok (.aload_n 0, 1) := by decide +kernel
theorem dX7_readTable_35 : decode cX7_readTable 35 = .ok (.getfield 19, 3) := by decide +kernel
theorem dX7_readTable_38 : decode cX7_readTable 38 = .ok (.aload_n 0, 1) := by decide +kernel
theorem dX7_readTable_39 : decode cX7_readTable 39 = .ok (.getfield 15, 3) := by decide +kernel
theorem dX7_readTable_42 : decode cX7_readTable 42 = .ok (.if_icmp .ge 17, 3) := by decide +kernel
theorem dX7_readTable_45 : decode cX7_readTable 45 = .ok (.aload_n 0, 1) := by decide +kernel
theorem dX7_readTable_46 : decode cX7_readTable 46 = .ok (.getfield 9, 3) := by decide +kernel
theorem dX7_readTable_49 : decode cX7_readTable 49 = .ok (.aload_n 0, 1) := by decide +kernel
theorem dX7_readTable_50 : decode cX7_readTable 50 = .ok (.getfield 19, 3) := by decide +kernel
theorem dX7_readTable_53 : decode cX7_readTable 53 = .ok (.caload, 1) := by decide +kernel
theorem dX7_readTable_54 : decode cX7_readTable 54 = .ok (.bipush 44, 2) := by decide +kernel
theorem dX7_readTable_56 : decode cX7_readTable 56 = .ok (.if_icmp .eq 4, 3) := by decide +kernel
theorem dX7_readTable_59 : decode cX7_readTable 59 = .ok (.return_, 1) := by decide +kernel
theorem dX7_readTable_60 : decode cX7_readTable 60 = .ok (.aload_n 0, 1) := by decide +kernel
theorem dX7_readTable_61 : decode cX7_readTable 61 = .ok (.dup, 1) := by decide +kernel
theorem dX7_readTable_62 : decode cX7_readTable 62 = .ok (.getfield 19, 3) := by decide +kernel
theorem dX7_readTable_65 : decode cX7_readTable 65 = .ok (.iconst 1, 1) := by decide +kernel
theorem dX7_readTable_66 : decode cX7_readTable 66 = .ok (.iadd, 1) := by decide +kernel
theorem dX7_readTable_67 : decode cX7_readTable 67 = .ok (.putfield 19, 3) := by decide +kernel
theorem dX7_readTable_70 : decode cX7_readTable 70 = .ok (.aload_n 0, 1) := by decide +kernel
theorem dX7_readTable_71 : decode cX7_readTable 71 = .ok (.iload_n 3, 1) := by decide +kernel
theorem dX7_readTable_72 : decode cX7_readTable 72 = .ok (.iconst 1, 1) := by decide +kernel
theorem dX7_readTable_73 : decode cX7_readTable 73 = .ok (.iadd, 1) := by decide +kernel
theorem dX7_readTable_74 : decode cX7_readTable 74 = .ok (.bipush 40, 2) := by decide +kernel
theorem dX7_readTable_76 : decode cX7_readTable 76 = .ok (.invokevirtual 25, 3) := by decide +kernel
theorem dX7_readTable_79 : decode cX7_readTable 79 = .ok (.istore 6, 2) := by decide +kernel
theorem dX7_readTable_81 : decode cX7_readTable 81 = .ok (.aload_n 0, 1) := by decide +kernel
theorem dX7_readTable_82 : decode cX7_readTable 82 = .ok (.bipush 61, 2) := by decide +kernel
theorem dX7_readTable_84 : decode cX7_readTable 84 = .ok (.invokevirtual 34, 3) := by decide +kernel
theorem dX7_readTable_87 : decode cX7_readTable 87 = .ok (.aload_n 0, 1) := by decide +kernel
theorem dX7_readTable_88 : decode cX7_readTable 88 = .ok (.iconst 0, 1) := by decide +kernel
theorem dX7_readTable_89 : decode cX7_readTable 89 = .ok (.iload 4, 2) := by decide +kernel
theorem dX7_readTable_91 : decode cX7_readTable 91 = .ok (.invokevirtual 25, 3) := by decide +kernel
theorem dX7_readTable_94 : decode cX7_readTable 94 = .ok (.istore 7, 2) := by decide +kernel
theorem dX7_readTable_96 : decode cX7_readTable 96 = .ok (.aload_n 0, 1) := by decide +kernel
theorem dX7_readTable_97 : decode cX7_readTable 97 = .ok (.getfield 22, 3) := by decide +kernel
theorem dX7_readTable_100 : decode cX7_readTable 100 = .ok (.ifCond .lt 4, 3) := by decide +kernel
theorem dX7_readTable_103 : decode cX7_readTable 103 = .ok (.return_, 1) := by decide +kernel
theorem dX7_readTable_104 : decode cX7_readTable 104 = .ok (.aload_n 1, 1) := by decide +kernel
theorem dX7_readTable_105 : decode cX7_readTable 105 = .ok (.iload_n 2, 1) := by decide +kernel
theorem dX7_readTable_106 : decode cX7_readTable 106 = .ok (.iload_n 3, 1) := by decide +kernel
theorem dX7_readTable_107 : decode cX7_readTable 107 = .ok (.iload 5, 2) := by decide +kernel
theorem dX7_readTable_109 : decode cX7_readTable 109 = .ok (.ifCond .ne 8, 3) := by decide +kernel
theorem dX7_readTable_112 : decode cX7_readTable 112 = .ok (.iload 7, 2) := by decide +kernel
theorem dX7_readTable_114 : decode cX7_readTable 114 = .ok (.goto 5, 3) := by decide +kernel
theorem dX7_readTable_117 : decode cX7_readTable 117 = .ok (.iload 4, 2) := by decide +kernel
theorem dX7_readTable_119 : decode cX7_readTable 119 = .ok (.iload 6, 2) := by decide +kernel
theorem dX7_readTable_121 : decode cX7_readTable 121 = .ok (.iload 7, 2) := by decide +kernel
theorem dX7_readTable_123 : decode cX7_readTable 123 = .ok (.invokevirtual 53, 3) := by decide +kernel
theorem dX7_readTable_126 : decode cX7_readTable 126 = .ok (.iload 6, 2) := by decide +kernel
theorem dX7_readTable_128 : decode cX7_readTable 128 = .ok (.istore_n 3, 1) := by decide +kernel
theorem dX7_readTable_129 : decode cX7_readTable 129 = .ok (.iload 7, 2) := by decide +kernel
theorem dX7_readTable_131 : decode cX7_readTable 131 = .ok (.istore 4, 2) := by decide +kernel
theorem dX7_readTable_133 : decode cX7_readTable 133 = .ok (.iinc 5 1, 3) := by decide +kernel
theorem dX7_readTable_136 : decode cX7_readTable 136 = .ok (.goto (-121), 3) := by decide +kernel
theorem dX7_readTable_139 : decode cX7_readTable 139 = .ok (.return_, 1) := by decide +kernel
theorem dX7_readSign_0 : decode cX7_readSign 0 = .ok (.aload_n 0, 1) := by decide +kernel
theorem dX7_readSign_1 : decode cX7_readSign 1 = .ok (.getfield 22, 3) := by decide +kernel
theorem dX7_readSign_4 : decode cX7_readSign 4 = .ok (.ifCond .lt 4, 3) := by decide +kernel
theorem dX7_readSign_7 : decode cX7_readSign 7 = .ok (.return_, 1) := by decide +kernel
theorem dX7_readSign_8 : decode cX7_readSign 8 = .ok (.aload_n 0, 1) := by decide +kernel
theorem dX7_readSign_9 : decode cX7_readSign 9 = .ok (.getfield 19, 3) := by decide +kernel
theorem dX7_readSign_12 : decode cX7_readSign 12 = .ok (.aload_n 0, 1) := by decide +kernel
theorem dX7_readSign_13 : decode cX7_readSign 13 = .ok (.getfield 15, 3) := by decide +kernel
theorem dX7_readSign_16 : decode cX7_readSign 16 = .ok (.if_icmp .ge 16, 3) := by decide +kernel
theorem dX7_readSign_19 : decode cX7_readSign 19 = .ok (.aload_n 0, 1) := by decide +kernel
theorem dX7_readSign_20 : decode cX7_readSign 20 = .ok (.getfield 9, 3) := by decide +kernel
theorem dX7_readSign_23 : decode cX7_readSign 23 = .ok (.aload_n 0, 1) := by decide +kernel
theorem dX7_readSign_24 : decode cX7_readSign 24 = .ok (.getfield 19, 3) := by decide +kernel
theorem dX7_readSign_27 : decode cX7_readSign 27 = .ok (.caload, 1) := by decide +kernel
theorem dX7_readSign_28 : decode cX7_readSign 28 = .ok (.iload_n 1, 1) := by decide +kernel
theorem dX7_readSign_29 : decode cX7_readSign 29 = .ok (.if_icmp .eq 12, 3) := by decide +kernel
theorem dX7_readSign_32 : decode cX7_readSign 32 = .ok (.aload_n 0, 1) := by decide +kernel
theorem dX7_readSign_33 : decode cX7_readSign 33 = .ok (.aload_n 0, 1) := by decide +kernel
theorem dX7_readSign_34 : decode cX7_readSign 34 = .ok (.getfield 19, 3) := by decide +kernel
theorem dX7_readSign_37 : decode cX7_readSign 37 = .ok (.putfield 22, 3) := by decide +kernel
theorem dX7_readSign_40 : decode cX7_readSign 40 = .ok (.return_, 1) := by decide +kernel
theorem dX7_readSign_41 : decode cX7_readSign 41 = .ok (.aload_n 0, 1) := by decide +kernel
theorem dX7_readSign_42 : decode cX7_readSign 42 = .ok (.dup, 1) := by decide +kernel
theorem dX7_readSign_43 : decode cX7_readSign 43 = .ok (.getfield 19, 3) := by decide +kernel
theorem dX7_readSign_46 : decode cX7_readSign 46 = .ok (.iconst 1, 1) := by decide +kernel
theorem dX7_readSign_47 : decode cX7_readSign 47 = .ok (.iadd, 1) := by decide +kernel
theorem dX7_readSign_48 : decode cX7_readSign 48 = .ok (.putfield 19, 3) := by decide +kernel
theorem dX7_readSign_51 : decode cX7_readSign 51 = .ok (.return_, 1) := by decide +kernel
theorem dX7_readNumber_0 : decode cX7_readNumber 0 = .ok (.aload_n 0, 1) := by decide +kernel
theorem dX7_readNumber_1 : decode cX7_readNumber 1 = .ok (.getfield 22, 3) := by decide +kernel
theorem dX7_readNumber_4 : decode cX7_readNumber 4 = .ok (.ifCond .lt 5, 3) := by decide +kernel
theorem dX7_readNumber_7 : decode cX7_readNumber 7 = .ok (.iconst 0, 1) := by decide +kernel
theorem dX7_readNumber_8 : decode cX7_readNumber 8 = .ok (.ireturn, 1) := by decide +kernel
theorem dX7_readNumber_9 : decode cX7_readNumber 9 = .ok (.aload_n 0, 1) := by decide +kernel
theorem dX7_readNumber_10 : decode cX7_readNumber 10 = .ok (.getfield 19, 3) := by decide +kernel
theorem dX7_readNumber_13 : decode cX7_readNumber 13 = .ok (.istore_n 3, 1) := by decide +kernel
theorem dX7_readNumber_14 : decode cX7_readNumber 14 = .ok (.iconst 0, 1) := by decide +kernel
theorem dX7_readNumber_15 : decode cX7_readNumber 15 = .ok (.istore 4, 2) := by decide +kernel
theorem dX7_readNumber_17 : decode cX7_readNumber 17 = .ok (.aload_n 0, 1) := by decide +kernel
theorem dX7_readNumber_18 : decode cX7_readNumber 18 = .ok (.getfield 19, 3) := by decide +kernel
theorem dX7_readNumber_21 : decode cX7_readNumber 21 = .ok (.aload_n 0, 1) := by decide +kernel
theorem dX7_readNumber_22 : decode cX7_readNumber 22 = .ok (.getfield 15, 3) := by decide +kernel
theorem dX7_readNumber_25 : decode cX7_readNumber 25 = .ok (.if_icmp .ge 76, 3) := by decide +kernel
theorem dX7_readNumber_28 : decode cX7_readNumber 28 = .ok (.aload_n 0, 1) := by decide +kernel
theorem dX7_readNumber_29 : decode cX7_readNumber 29 = .ok (.getfield 19, 3) := by decide +kernel
theorem dX7_readNumber_32 : decode cX7_readNumber 32 = .ok (.iload_n 3, 1) := by decide +kernel
theorem dX7_readNumber_33 : decode cX7_readNumber 33 = .ok (.iconst 4, 1) := by decide +kernel
theorem dX7_readNumber_34 : decode cX7_readNumber 34 = .ok (.iadd, 1) := by decide +kernel
theorem dX7_readNumber_35 : decode cX7_readNumber 35 = .ok (.if_icmp .ge 66, 3) := by decide +kernel
theorem dX7_readNumber_38 : decode cX7_readNumber 38 = .ok (.aload_n 0, 1) := by decide +kernel
theorem dX7_readNumber_39 : decode cX7_readNumber 39 = .ok (.getfield 9, 3) := by decide +kernel
theorem dX7_readNumber_42 : decode cX7_readNumber 42 = .ok (.aload_n 0, 1) := by decide +kernel
theorem dX7_readNumber_43 : decode cX7_readNumber 43 = .ok (.getfield 19, 3) := by decide +kernel
theorem dX7_readNumber_46 : decode cX7_readNumber 46 = .ok (.caload, 1) := by decide +kernel
theorem dX7_readNumber_47 : decode cX7_readNumber 47 = .ok (.invokestatic 57, 3) := by decide +kernel
theorem dX7_readNumber_50 : decode cX7_readNumber 50 = .ok (.ifCond .eq 51, 3) := by decide +kernel
theorem dX7_readNumber_53 : decode cX7_readNumber 53 = .ok (.aload_n 0, 1) := by decide +kernel
theorem dX7_readNumber_54 : decode cX7_readNumber 54 = .ok (.getfield 19, 3) := by decide +kernel
theorem dX7_readNumber_57 : decode cX7_readNumber 57 = .ok (.iload_n 3, 1) := by decide +kernel
theorem dX7_readNumber_58 : decode cX7_readNumber 58 = .ok (.iconst 1, 1) := by decide +kernel
theorem dX7_readNumber_59 : decode cX7_readNumber 59 = .ok (.iadd, 1) := by decide +kernel
theorem dX7_readNumber_60 : decode cX7_readNumber 60 = .ok (.if_icmp .ne 8, 3) := by decide +kernel
theorem dX7_readNumber_63 : decode cX7_readNumber 63 = .ok (.iload 4, 2) := by decide +kernel
theorem dX7_readNumber_65 : decode cX7_readNumber 65 = .ok (.ifCond .eq 36, 3) := by decide +kernel
theorem dX7_readNumber_68 : decode cX7_readNumber 68 = .ok (.iload 4, 2) := by decide +kernel
theorem dX7_readNumber_70 : decode cX7_readNumber 70 = .ok (.bipush 10, 2) := by decide +kernel
theorem dX7_readNumber_72 : decode cX7_readNumber 72 = .ok (.imul, 1) := by decide +kernel
theorem dX7_readNumber_73 : decode cX7_readNumber 73 = .ok (.aload_n 0, 1) := by decide +kernel
theorem dX7_readNumber_74 : decode cX7_readNumber 74 = .ok (.getfield 9, 3) := by decide +kernel
theorem dX7_readNumber_77 : decode cX7_readNumber 77 = .ok (.aload_n 0, 1) := by decide +kernel
theorem dX7_readNumber_78 : decode cX7_readNumber 78 = .ok (.getfield 19, 3) := by decide +kernel
theorem dX7_readNumber_81 : decode cX7_readNumber 81 = .ok (.caload, 1) := by decide +kernel
theorem dX7_readNumber_82 : decode cX7_readNumber 82 = .ok (.iadd, 1) := by decide +kernel
theorem dX7_readNumber_83 : decode cX7_readNumber 83 = .ok (.bipush 48, 2) := by decide +kernel
theorem dX7_readNumber_85 : decode cX7_readNumber 85 = .ok (.isub, 1) := by decide +kernel
theorem dX7_readNumber_86 : decode cX7_readNumber 86 = .ok (.istore 4, 2) := by decide +kernel
theorem dX7_readNumber_88 : decode cX7_readNumber 88 = .ok (.aload_n 0, 1) := by decide +kernel
theorem dX7_readNumber_89 : decode cX7_readNumber 89 = .ok (.dup, 1) := by decide +kernel
theorem dX7_readNumber_90 : decode cX7_readNumber 90 = .ok (.getfield 19, 3) := by decide +kernel
theorem dX7_readNumber_93 : decode cX7_readNumber 93 = .ok (.iconst 1, 1) := by decide +kernel
theorem dX7_readNumber_94 : decode cX7_readNumber 94 = .ok (.iadd, 1) := by decide +kernel
theorem dX7_readNumber_95 : decode cX7_readNumber 95 = .ok (.putfield 19, 3) := by decide +kernel
theorem dX7_readNumber_98 : decode cX7_readNumber 98 = .ok (.goto (-81), 3) := by decide +kernel
theorem dX7_readNumber_101 : decode cX7_readNumber 101 = .ok (.aload_n 0, 1) := by decide +kernel
theorem dX7_readNumber_102 : decode cX7_readNumber 102 = .ok (.getfield 19, 3) := by decide +kernel
theorem dX7_readNumber_105 : decode cX7_readNumber 105 = .ok (.iload_n 3, 1) := by decide +kernel
theorem dX7_readNumber_106 : decode cX7_readNumber 106 = .ok (.if_icmp .ne 14, 3) := by decide +kernel
theorem dX7_readNumber_109 : decode cX7_readNumber 109 = .ok (.aload_n 0, 1) := by decide +kernel
theorem dX7_readNumber_110 : decode cX7_readNumber 110 = .ok (.aload_n 0, 1) := by decide +kernel
theorem dX7_readNumber_111 : decode cX7_readNumber 111 = .ok (.getfield 19, 3) := by decide +kernel
theorem dX7_readNumber_114 : decode cX7_readNumber 114 = .ok (.putfield 22, 3) := by decide +kernel
theorem dX7_readNumber_117 : decode cX7_readNumber 117 = .ok (.goto 25, 3) := by decide +kernel
theorem dX7_readNumber_120 : decode cX7_readNumber 120 = .ok (.iload 4, 2) := by decide +kernel
theorem dX7_readNumber_122 : decode cX7_readNumber 122 = .ok (.iload_n 1, 1) := by decide +kernel
theorem dX7_readNumber_123 : decode cX7_readNumber 123 = .ok (.if_icmp .lt 9, 3) := by decide +kernel
theorem dX7_readNumber_126 : decode cX7_readNumber 126 = .ok (.iload 4, 2) := by decide +kernel
theorem dX7_readNumber_128 : decode cX7_readNumber 128 = .ok (.iload_n 2, 1) := by decide +kernel
theorem dX7_readNumber_129 : decode cX7_readNumber 129 = .ok (.if_icmp .le 13, 3) := by decide +kernel
theorem dX7_readNumber_132 : decode cX7_readNumber 132 = .ok (.aload_n 0, 1) := by decide +kernel
theorem dX7_readNumber_133 : decode cX7_readNumber 133 = .ok (.aload_n 0, 1) := by decide +kernel
theorem dX7_readNumber_134 : decode cX7_readNumber 134 = .ok (.getfield 19, 3) := by decide +kernel
theorem dX7_readNumber_137 : decode cX7_readNumber 137 = .ok (.iconst 1, 1) := by decide +kernel
theorem dX7_readNumber_138 : decode cX7_readNumber 138 = .ok (.isub, 1) := by decide +kernel
theorem dX7_readNumber_139 : decode cX7_readNumber 139 = .ok (.putfield 22, 3) := by decide +kernel
theorem dX7_readNumber_142 : decode cX7_readNumber 142 = .ok (.iload 4, 2) := by decide +kernel
theorem dX7_readNumber_144 : decode cX7_readNumber 144 = .ok (.ireturn, 1) := by decide +kernel
theorem dX7_isDigit_0 : decode cX7_isDigit 0 = .ok (.iload_n 0, 1) := by decide +kernel
theorem dX7_isDigit_1 : decode cX7_isDigit 1 = .ok (.bipush 48, 2) := by decide +kernel
theorem dX7_isDigit_3 : decode cX7_isDigit 3 = .ok (.if_icmp .lt 13, 3) := by decide +kernel
theorem dX7_isDigit_6 : decode cX7_isDigit 6 = .ok (.iload_n 0, 1) := by decide +kernel
theorem dX7_isDigit_7 : decode cX7_isDigit 7 = .ok (.bipush 57, 2) := by decide +kernel
theorem dX7_isDigit_9 : decode cX7_isDigit 9 = .ok (.if_icmp .gt 7, 3) := by decide +kernel
theorem dX7_isDigit_12 : decode cX7_isDigit 12 = .ok (.iconst 1, 1) := by decide +kernel
theorem dX7_isDigit_13 : decode cX7_isDigit 13 = .ok (.goto 4, 3) := by decide +kernel
theorem dX7_isDigit_16 : decode cX7_isDigit 16 = .ok (.iconst 0, 1) := by decide +kernel
theorem dX7_isDigit_17 : decode cX7_isDigit 17 = .ok (.ireturn, 1) := by decide +kernel
theorem dX8_init_0 : decode cX8_init 0 = .ok (.aload_n 0, 1) := by decide +kernel
theorem dX8_init_1 : decode cX8_init 1 = .ok (.invokespecial 3, 3) := by decide +kernel
theorem dX8_init_4 : decode cX8_init 4 = .ok (.aload_n 0, 1) := by decide +kernel
theorem dX8_init_5 : decode cX8_init 5 = .ok (.new 9, 3) := by decide +kernel
theorem dX8_init_8 : decode cX8_init 8 = .ok (.dup, 1) := by decide +kernel
theorem dX8_init_9 : decode cX8_init 9 = .ok (.invokespecial 11, 3) := by decide +kernel
theorem dX8_init_12 : decode cX8_init 12 = .ok (.putfield 12, 3) := by decide +kernel
theorem dX8_init_15 : decode cX8_init 15 = .ok (.aload_n 0, 1) := by decide +kernel
theorem dX8_init_16 : decode cX8_init 16 = .ok (.bipush 7, 2) := by decide +kernel
theorem dX8_init_18 : decode cX8_init 18 = .ok (.anewarray 16, 3) := by decide +kernel
theorem dX8_init_21 : decode cX8_init 21 = .ok (.putfield 18, 3) := by decide +kernel
theorem dX8_init_24 : decode cX8_init 24 = .ok (.iconst 0, 1) := by decide +kernel
theorem dX8_init_25 : decode cX8_init 25 = .ok (.istore_n 1, 1) := by decide +kernel
theorem dX8_init_26 : decode cX8_init 26 = .ok (.iload_n 1, 1) := by decide +kernel
theorem dX8_init_27 : decode cX8_init 27 = .ok (.aload_n 0, 1) := by decide +kernel
theorem dX8_init_28 : decode cX8_init 28 = .ok (.getfield 18, 3) := by decide +kernel
theorem dX8_init_31 : decode cX8_init 31 = .ok (.arraylength, 1) := by decide +kernel
theorem dX8_init_32 : decode cX8_init 32 = .ok (.if_icmp .ge 22, 3) := by decide +kernel
theorem dX8_init_35 : decode cX8_init 35 = .ok (.aload_n 0, 1) := by decide +kernel
theorem dX8_init_36 : decode cX8_init 36 = .ok (.getfield 18, 3) := by decide +kernel
theorem dX8_init_39 : decode cX8_init 39 = .ok (.iload_n 1, 1) := by decide +kernel
theorem dX8_init_40 : decode cX8_init 40 = .ok (.new 16, 3) := by decide +kernel
theorem dX8_init_43 : decode cX8_init 43 = .ok (.dup, 1) := by decide +kernel
theorem dX8_init_44 : decode cX8_init 44 = .ok (.invokespecial 22, 3) := by decide +kernel
theorem dX8_init_47 : decode cX8_init 47 = .ok (.aastore, 1) := by decide +kernel
theorem dX8_init_48 : decode cX8_init 48 = .ok (.iinc 1 1, 3) := by decide +kernel
theorem dX8_init_51 : decode cX8_init 51 = .ok (.goto (-25), 3) := by decide +kernel
theorem dX8_init_54 : decode cX8_init 54 = .ok (.aload_n 0, 1) := by decide +kernel
theorem dX8_init_55 : decode cX8_init 55 = .ok (.new 23, 3) := by decide +kernel
theorem dX8_init_58 : decode cX8_init 58 = .ok (.dup, 1) := by decide +kernel
theorem dX8_init_59 : decode cX8_init 59 = .ok (.aload_n 0, 1) := by decide +kernel
theorem dX8_init_60 : decode cX8_init 60 = .ok (.getfield 18, 3) := by decide +kernel
theorem dX8_init_63 : decode cX8_init 63 = .ok (.invokespecial 25, 3) := by decide +kernel
theorem dX8_init_66 : decode cX8_init 66 = .ok (.putfield 28, 3) := by decide +kernel
theorem dX8_init_69 : decode cX8_init 69 = .ok (.aload_n 0, 1) := by decide +kernel
theorem dX8_init_70 : decode cX8_init 70 = .ok (.new 23, 3) := by decide +kernel
theorem dX8_init_73 : decode cX8_init 73 = .ok (.dup, 1) := by decide +kernel
theorem dX8_init_74 : decode cX8_init 74 = .ok (.aload_n 0, 1) := by decide +kernel
theorem dX8_init_75 : decode cX8_init 75 = .ok (.getfield 18, 3) := by decide +kernel
theorem dX8_init_78 : decode cX8_init 78 = .ok (.invokespecial 25, 3) := by decide +kernel
theorem dX8_init_81 : decode cX8_init 81 = .ok (.putfield 32, 3) := by decide +kernel
theorem dX8_init_84 : decode cX8_init 84 = .ok (.aload_n 0, 1) := by decide +kernel
theorem dX8_init_85 : decode cX8_init 85 = .ok (.new 35, 3) := by decide +kernel
theorem dX8_init_88 : decode cX8_init 88 = .ok (.dup, 1) := by decide +kernel
theorem dX8_init_89 : decode cX8_init 89 = .ok (.invokespecial 37, 3) := by decide +kernel
theorem dX8_init_92 : decode cX8_init 92 = .ok (.putfield 38, 3) := by decide +kernel
theorem dX8_init_95 : decode cX8_init 95 = .ok (.aload_n 0, 1) := by decide +kernel
theorem dX8_init_96 : decode cX8_init 96 = .ok (.new 42, 3) := by decide +kernel
theorem dX8_init_99 : decode cX8_init 99 = .ok (.dup, 1) := by decide +kernel
theorem dX8_init_100 : decode cX8_init 100 = .ok (.invokespecial 44, 3) := by decide +kernel
theorem dX8_init_103 : decode cX8_init 103 = .ok (.putfield 45, 3) := by decide +kernel
theorem dX8_init_106 : decode cX8_init 106 = .ok (.aload_n 0, 1) := by decide +kernel
theorem dX8_init_107 : decode cX8_init 107 = .ok (.new 49, 3) := by decide +kernel
theorem dX8_init_110 : decode cX8_init 110 = .ok (.dup, 1) := by decide +kernel
theorem dX8_init_111 : decode cX8_init 111 = .ok (.invokespecial 51, 3) := by decide +kernel
theorem dX8_init_114 : decode cX8_init 114 = .ok (.putfield 52, 3) := by decide +kernel
theorem dX8_init_117 : decode cX8_init 117 = .ok (.aload_n 0, 1) := by decide +kernel
theorem dX8_init_118 : decode cX8_init 118 = .ok (.bipush 6, 2) := by decide +kernel
theorem dX8_init_120 : decode cX8_init 120 = .ok (.bipush 122, 2) := by decide +kernel
theorem dX8_init_122 : decode cX8_init 122 = .ok (.multianewarray 56 2, 4) := by decide +kernel
theorem dX8_init_126 : decode cX8_init 126 = .ok (.putfield 58, 3) := by decide +kernel
theorem dX8_init_129 : decode cX8_init 129 = .ok (.aload_n 0, 1) := by decide +kernel
theorem dX8_init_130 : decode cX8_init 130 = .ok (.bipush 9, 2) := by decide +kernel
theorem dX8_init_132 : decode cX8_init 132 = .ok (.newarray .long, 2) := by decide +kernel
theorem dX8_init_134 : decode cX8_init 134 = .ok (.putfield 61, 3) := by decide +kernel
theorem dX8_init_137 : decode cX8_init 137 = .ok (.aload_n 0, 1) := by decide +kernel
theorem dX8_init_138 : decode cX8_init 138 = .ok (.iconst 0, 1) := by decide +kernel
theorem dX8_init_139 : decode cX8_init 139 = .ok (.putfield 65, 3) := by decide +kernel
theorem dX8_init_142 : decode cX8_init 142 = .ok (.aload_n 0, 1) := by decide +kernel
theorem dX8_init_143 : decode cX8_init 143 = .ok (.aconst_null, 1) := by decide +kernel
theorem dX8_init_144 : decode cX8_init 144 = .ok (.putfield 69, 3) := by decide +kernel
theorem dX8_init_147 : decode cX8_init 147 = .ok (.aload_n 0, 1) := by decide +kernel
theorem dX8_init_148 : decode cX8_init 148 = .ok (.aconst_null, 1) := by decide +kernel
theorem dX8_init_149 : decode cX8_init 149 = .ok (.putfield 73, 3) := by decide +kernel
theorem dX8_init_152 : decode cX8_init 152 = .ok (.return_, 1) := by decide +kernel
theorem dX8_sign_0 : decode cX8_sign 0 = .ok (.aload_n 0, 1) := by decide +kernel
theorem dX8_sign_1 : decode cX8_sign 1 = .ok (.getfield 12, 3) := by decide +kernel
theorem dX8_sign_4 : decode cX8_sign 4 = .ok (.iload_n 1, 1) := by decide +kernel
theorem dX8_sign_5 : decode cX8_sign 5 = .ok (.invokevirtual 77, 3) := by decide +kernel
theorem dX8_sign_8 : decode cX8_sign 8 = .ok (.ifCond .eq 13, 3) := by decide +kernel
theorem dX8_sign_11 : decode cX8_sign 11 = .ok (.aload_n 0, 1) := by decide +kernel
theorem dX8_sign_12 : decode cX8_sign 12 = .ok (.getfield 12, 3) := by decide +kernel
theorem dX8_sign_15 : decode cX8_sign 15 = .ok (.getfield 81, 3) := by decide +kernel
theorem dX8_sign_18 : decode cX8_sign 18 = .ok (.goto 4, 3) := by decide +kernel
theorem dX8_sign_21 : decode cX8_sign 21 = .ok (.iconst (-1), 1) := by decide +kernel
theorem dX8_sign_22 : decode cX8_sign 22 = .ok (.ireturn, 1) := by decide +kernel
theorem dX8_end_0 : decode cX8_end 0 = .ok (.aload_n 0, 1) := by decide +kernel
theorem dX8_end_1 : decode cX8_end 1 = .ok (.getfield 12, 3) := by decide +kernel
theorem dX8_end_4 : decode cX8_end 4 = .ok (.iload_n 1, 1) := by decide +kernel
theorem dX8_end_5 : decode cX8_end 5 = .ok (.invokevirtual 84, 3) := by decide +kernel
theorem dX8_end_8 : decode cX8_end 8 = .ok (.ireturn, 1) := by decide +kernel
theorem dX8_enters_0 : decode cX8_enters 0 = .ok (.aload_n 0, 1) := by decide +kernel
theorem dX8_enters_1 : decode cX8_enters 1 = .ok (.getfield 12, 3) := by decide +kernel
theorem dX8_enters_4 : decode cX8_enters 4 = .ok (.aload_n 0, 1) := by decide +kernel
theorem dX8_enters_5 : decode cX8_enters 5 = .ok (.getfield 18, 3) := by decide +kernel
theorem dX8_enters_8 : decode cX8_enters 8 = .ok (.aload_n 0, 1) := by decide +kernel
theorem dX8_enters_9 : decode cX8_enters 9 = .ok (.getfield 28, 3) := by decide +kernel
theorem dX8_enters_12 : decode cX8_enters 12 = .ok (.getfield 87, 3) := by decide +kernel
theorem dX8_enters_15 : decode cX8_enters 15 = .ok (.invokevirtual 90, 3) := by decide +kernel
theorem dX8_enters_18 : decode cX8_enters 18 = .ok (.istore_n 1, 1) := by decide +kernel
theorem dX8_enters_19 : decode cX8_enters 19 = .ok (.aload_n 0, 1) := by decide +kernel
theorem dX8_enters_20 : decode cX8_enters 20 = .ok (.getfield 12, 3) := by decide +kernel
theorem dX8_enters_23 : decode cX8_enters 23 = .ok (.iconst 0, 1) := by decide +kernel
theorem dX8_enters_24 : decode cX8_enters 24 = .ok (.invokevirtual 84, 3) := by decide +kernel
theorem dX8_enters_27 : decode cX8_enters 27 = .ok (.pop, 1) := by decide +kernel
theorem dX8_enters_28 : decode cX8_enters 28 = .ok (.iload_n 1, 1) := by decide +kernel
theorem dX8_enters_29 : decode cX8_enters 29 = .ok (.ifCond .lt 8, 3) := by decide +kernel
theorem dX8_enters_32 : decode cX8_enters 32 = .ok (.bipush (-21), 2) := by decide +kernel
theorem dX8_enters_34 : decode cX8_enters 34 = .ok (.iload_n 1, 1) := by decide +kernel
theorem dX8_enters_35 : decode cX8_enters 35 = .ok (.isub, 1) := by decide +kernel
theorem dX8_enters_36 : decode cX8_enters 36 = .ok (.ireturn, 1) := by decide +kernel
theorem dX8_enters_37 : decode cX8_enters 37 = .ok (.aload_n 0, 1) := by decide +kernel
theorem dX8_enters_38 : decode cX8_enters 38 = .ok (.getfield 28, 3) := by decide +kernel
theorem dX8_enters_41 : decode cX8_enters 41 = .ok (.getfield 87, 3) := by decide +kernel
theorem dX8_enters_44 : decode cX8_enters 44 = .ok (.bipush 6, 2) := by decide +kernel
theorem dX8_enters_46 : decode cX8_enters 46 = .ok (.if_icmp .lt 6, 3) := by decide +kernel
theorem dX8_enters_49 : decode cX8_enters 49 = .ok (.bipush (-2), 2) := by decide +kernel
theorem dX8_enters_51 : decode cX8_enters 51 = .ok (.ireturn, 1) := by decide +kernel
theorem dX8_enters_52 : decode cX8_enters 52 = .ok (.aload_n 0, 1) := by decide +kernel
theorem dX8_enters_53 : decode cX8_enters 53 = .ok (.getfield 28, 3) := by decide +kernel
theorem dX8_enters_56 : decode cX8_enters 56 = .ok (.dup, 1) := by decide +kernel
theorem dX8_enters_57 : decode cX8_enters 57 = .ok (.getfield 87, 3) := by decide +kernel
theorem dX8_enters_60 : decode cX8_enters 60 = .ok (.iconst 1, 1) := by decide +kernel
theorem dX8_enters_61 : decode cX8_enters 61 = .ok (.iadd, 1) := by decide +kernel
theorem dX8_enters_62 : decode cX8_enters 62 = .ok (.putfield 87, 3) := by decide +kernel
theorem dX8_enters_65 : decode cX8_enters 65 = .ok (.aload_n 0, 1) := by decide +kernel
theorem dX8_enters_66 : decode cX8_enters 66 = .ok (.getfield 28, 3) := by decide +kernel
theorem dX8_enters_69 : decode cX8_enters 69 = .ok (.invokevirtual 94, 3) := by decide +kernel
theorem dX8_enters_72 : decode cX8_enters 72 = .ok (.aload_n 0, 1) := by decide +kernel
theorem dX8_enters_73 : decode cX8_enters 73 = .ok (.getfield 28, 3) := by decide +kernel
theorem dX8_enters_76 : decode cX8_enters 76 = .ok (.getfield 87, 3) := by decide +kernel
theorem dX8_enters_79 : decode cX8_enters 79 = .ok (.iconst 1, 1) := by decide +kernel
theorem dX8_enters_80 : decode cX8_enters 80 = .ok (.isub, 1) := by decide +kernel
theorem dX8_enters_81 : decode cX8_enters 81 = .ok (.ireturn, 1) := by decide +kernel
theorem dX8_leaves_0 : decode cX8_leaves 0 = .ok (.aload_n 0, 1) := by decide +kernel
theorem dX8_leaves_1 : decode cX8_leaves 1 = .ok (.getfield 28, 3) := by decide +kernel
theorem dX8_leaves_4 : decode cX8_leaves 4 = .ok (.getfield 87, 3) := by decide +kernel
theorem dX8_leaves_7 : decode cX8_leaves 7 = .ok (.ifCond .ne 6, 3) := by decide +kernel
theorem dX8_leaves_10 : decode cX8_leaves 10 = .ok (.bipush (-2), 2) := by decide +kernel
theorem dX8_leaves_12 : decode cX8_leaves 12 = .ok (.ireturn, 1) := by decide +kernel
theorem dX8_leaves_13 : decode cX8_leaves 13 = .ok (.aload_n 0, 1) := by decide +kernel
theorem dX8_leaves_14 : decode cX8_leaves 14 = .ok (.getfield 28, 3) := by decide +kernel
theorem dX8_leaves_17 : decode cX8_leaves 17 = .ok (.dup, 1) := by decide +kernel
theorem dX8_leaves_18 : decode cX8_leaves 18 = .ok (.getfield 87, 3) := by decide +kernel
theorem dX8_leaves_21 : decode cX8_leaves 21 = .ok (.iconst 1, 1) := by decide +kernel
theorem dX8_leaves_22 : decode cX8_leaves 22 = .ok (.isub, 1) := by decide +kernel
theorem dX8_leaves_23 : decode cX8_leaves 23 = .ok (.putfield 87, 3) := by decide +kernel
theorem dX8_leaves_26 : decode cX8_leaves 26 = .ok (.aload_n 0, 1) := by decide +kernel
theorem dX8_leaves_27 : decode cX8_leaves 27 = .ok (.getfield 28, 3) := by decide +kernel
theorem dX8_leaves_30 : decode cX8_leaves 30 = .ok (.invokevirtual 94, 3) := by decide +kernel
theorem dX8_leaves_33 : decode cX8_leaves 33 = .ok (.aload_n 0, 1) := by decide +kernel
theorem dX8_leaves_34 : decode cX8_leaves 34 = .ok (.getfield 28, 3) := by decide +kernel
theorem dX8_leaves_37 : decode cX8_leaves 37 = .ok (.getfield 87, 3) := by decide +kernel
theorem dX8_leaves_40 : decode cX8_leaves 40 = .ok (.ireturn, 1) := by decide +kernel
theorem dX8_plans_0 : decode cX8_plans 0 = .ok (.aload_n 0, 1) := by decide +kernel
theorem dX8_plans_1 : decode cX8_plans 1 = .ok (.iload_n 1, 1) := by decide +kernel
theorem dX8_plans_2 : decode cX8_plans 2 = .ok (.invokevirtual 97, 3) := by decide +kernel
theorem dX8_plans_5 : decode cX8_plans 5 = .ok (.ifCond .eq 19, 3) := by decide +kernel
theorem dX8_plans_8 : decode cX8_plans 8 = .ok (.iload_n 2, 1) := by decide +kernel
theorem dX8_plans_9 : decode cX8_plans 9 = .ok (.invokestatic 100, 3) := by decide +kernel
theorem dX8_plans_12 : decode cX8_plans 12 = .ok (.ifCond .eq 12, 3) := by decide +kernel
theorem dX8_plans_15 : decode cX8_plans 15 = .ok (.iload_n 3, 1) := by decide +kernel
theorem dX8_plans_16 : decode cX8_plans 16 = .ok (.iload 4, 2) := by decide +kernel
theorem dX8_plans_18 : decode cX8_plans 18 = .ok (.invokestatic 103, 3) := by decide +kernel
theorem dX8_plans_21 : decode cX8_plans 21 = .ok (.ifCond .ne 5, 3) := by decide +kernel
theorem dX8_plans_24 : decode cX8_plans 24 = .ok (.iconst (-1), 1) := by decide +kernel
theorem dX8_plans_25 : decode cX8_plans 25 = .ok (.ireturn, 1) := by decide +kernel
theorem dX8_plans_26 : decode cX8_plans 26 = .ok (.aload_n 0, 1) := by decide +kernel
theorem dX8_plans_27 : decode cX8_plans 27 = .ok (.getfield 18, 3) := by decide +kernel
theorem dX8_plans_30 : decode cX8_plans 30 = .ok (.iload_n 1, 1) := by decide +kernel
theorem dX8_plans_31 : decode cX8_plans 31 = .ok (.aaload, 1) := by decide +kernel
theorem dX8_plans_32 : decode cX8_plans 32 = .ok (.getfield 107, 3) := by decide +kernel
theorem dX8_plans_35 : decode cX8_plans 35 = .ok (.astore 5, 2) := by decide +kernel
theorem dX8_plans_37 : decode cX8_plans 37 = .ok (.aload 5, 2) := by decide +kernel
theorem dX8_plans_39 : decode cX8_plans 39 = .ok (.iload_n 2, 1) := by decide +kernel
theorem dX8_plans_40 : decode cX8_plans 40 = .ok (.iconst 3, 1) := by decide +kernel
theorem dX8_plans_41 : decode cX8_plans 41 = .ok (.imul, 1) := by decide +kernel
theorem dX8_plans_42 : decode cX8_plans 42 = .ok (.iload_n 3, 1) := by decide +kernel
theorem dX8_plans_43 : decode cX8_plans 43 = .ok (.iadd, 1) := by decide +kernel
theorem dX8_plans_44 : decode cX8_plans 44 = .ok (.iaload, 1) := by decide +kernel
theorem dX8_plans_45 : decode cX8_plans 45 = .ok (.istore 6, 2) := by decide +kernel
theorem dX8_plans_47 : decode cX8_plans 47 = .ok (.aload 5, 2) := by decide +kernel
theorem dX8_plans_49 : decode cX8_plans 49 = .ok (.iload_n 2, 1) := by decide +kernel
theorem dX8_plans_50 : decode cX8_plans 50 = .ok (.iconst 3, 1) := by decide +kernel
theorem dX8_plans_51 : decode cX8_plans 51 = .ok (.imul, 1) := by decide +kernel
theorem dX8_plans_52 : decode cX8_plans 52 = .ok (.iload_n 3, 1) := by decide +kernel
theorem dX8_plans_53 : decode cX8_plans 53 = .ok (.iadd, 1) := by decide +kernel
theorem dX8_plans_54 : decode cX8_plans 54 = .ok (.iload 4, 2) := by decide +kernel
theorem dX8_plans_56 : decode cX8_plans 56 = .ok (.iastore, 1) := by decide +kernel
theorem dX8_plans_57 : decode cX8_plans 57 = .ok (.aload_n 0, 1) := by decide +kernel
theorem dX8_plans_58 : decode cX8_plans 58 = .ok (.getfield 28, 3) := by decide +kernel
theorem dX8_plans_61 : decode cX8_plans 61 = .ok (.invokevirtual 94, 3) := by decide +kernel
theorem dX8_plans_64 : decode cX8_plans 64 = .ok (.iload 6, 2) := by decide +kernel
theorem dX8_plans_66 : decode cX8_plans 66 = .ok (.ireturn, 1) := by decide +kernel
theorem dX8_tires_0 : decode cX8_tires 0 = .ok (.iload_n 1, 1) := by decide +kernel
theorem dX8_tires_1 : decode cX8_tires 1 = .ok (.ifCond .lt 10, 3) := by decide +kernel
theorem dX8_tires_4 : decode cX8_tires 4 = .ok (.iload_n 1, 1) := by decide +kernel
theorem dX8_tires_5 : decode cX8_tires 5 = .ok (.sipush 300, 3) := by decide +kernel
theorem dX8_tires_8 : decode cX8_tires 8 = .ok (.if_icmp .le 5, 3) := by decide +kernel
theorem dX8_tires_11 : decode cX8_tires 11 = .ok (.iconst (-1), 1) := by decide +kernel
theorem dX8_tires_12 : decode cX8_tires 12 = .ok (.ireturn, 1) := by decide +kernel
theorem dX8_tires_13 : decode cX8_tires 13 = .ok (.aload_n 0, 1) := by decide +kernel
theorem dX8_tires_14 : decode cX8_tires 14 = .ok (.getfield 28, 3) := by decide +kernel
theorem dX8_tires_17 : decode cX8_tires 17 = .ok (.getfield 111, 3) := by decide +kernel
theorem dX8_tires_20 : decode cX8_tires 20 = .ok (.istore_n 2, 1) := by decide +kernel
theorem dX8_tires_21 : decode cX8_tires 21 = .ok (.aload_n 0, 1) := by decide +kernel
theorem dX8_tires_22 : decode cX8_tires 22 = .ok (.getfield 28, 3) := by decide +kernel
theorem dX8_tires_25 : decode cX8_tires 25 = .ok (.iload_n 1, 1) := by decide +kernel
theorem dX8_tires_26 : decode cX8_tires 26 = .ok (.putfield 111, 3) := by decide +kernel
theorem dX8_tires_29 : decode cX8_tires 29 = .ok (.iload_n 2, 1) := by decide +kernel
theorem dX8_tires_30 : decode cX8_tires 30 = .ok (.ireturn, 1) := by decide +kernel
theorem dX8_begins_0 : decode cX8_begins 0 = .ok (.aload_n 0, 1) := by decide +kernel
theorem dX8_begins_1 : decode cX8_begins 1 = .ok (.getfield 28, 3) := by decide +kernel
theorem dX8_begins_4 : decode cX8_begins 4 = .ok (.invokevirtual 94, 3) := by decide +kernel
theorem dX8_begins_7 : decode cX8_begins 7 = .ok (.aload_n 0, 1) := by decide +kernel
theorem dX8_begins_8 : decode cX8_begins 8 = .ok (.getfield 28, 3) := by decide +kernel
theorem dX8_begins_11 : decode cX8_begins 11 = .ok (.getfield 87, 3) := by decide +kernel
theorem dX8_begins_14 : decode cX8_begins 14 = .ok (.ireturn, 1) := by decide +kernel
theorem dX8_odds_0 : decode cX8_odds 0 = .ok (.aload_n 0, 1) := by decide +kernel
theorem dX8_odds_1 : decode cX8_odds 1 = .ok (.iload_n 1, 1) := by decide +kernel
theorem dX8_odds_2 : decode cX8_odds 2 = .ok (.invokevirtual 97, 3) := by decide +kernel
theorem dX8_odds_5 : decode cX8_odds 5 = .ok (.ifCond .eq 28, 3) := by decide +kernel
theorem dX8_odds_8 : decode cX8_odds 8 = .ok (.iload_n 2, 1) := by decide +kernel
theorem dX8_odds_9 : decode cX8_odds 9 = .ok (.invokestatic 100, 3) := by decide +kernel
theorem dX8_odds_12 : decode cX8_odds 12 = .ok (.ifCond .eq 21, 3) := by decide +kernel
theorem dX8_odds_15 : decode cX8_odds 15 = .ok (.iload_n 3, 1) := by decide +kernel
theorem dX8_odds_16 : decode cX8_odds 16 = .ok (.invokestatic 114, 3) := by decide +kernel
theorem dX8_odds_19 : decode cX8_odds 19 = .ok (.ifCond .eq 14, 3) := by decide +kernel
theorem dX8_odds_22 : decode cX8_odds 22 = .ok (.iload 4, 2) := by decide +kernel
theorem dX8_odds_24 : decode cX8_odds 24 = .ok (.ifCond .lt 9, 3) := by decide +kernel
theorem dX8_odds_27 : decode cX8_odds 27 = .ok (.iload 4, 2) := by decide +kernel
theorem dX8_odds_29 : decode cX8_odds 29 = .ok (.iconst 2, 1) := by decide +kernel
theorem dX8_odds_30 : decode cX8_odds 30 = .ok (.if_icmp .le 5, 3) := by decide +kernel
theorem dX8_odds_33 : decode cX8_odds 33 = .ok (.iconst (-1), 1) := by decide +kernel
theorem dX8_odds_34 : decode cX8_odds 34 = .ok (.ireturn, 1) := by decide +kernel
theorem dX8_odds_35 : decode cX8_odds 35 = .ok (.aload_n 0, 1) := by decide +kernel
theorem dX8_odds_36 : decode cX8_odds 36 = .ok (.getfield 18, 3) := by decide +kernel
theorem dX8_odds_39 : decode cX8_odds 39 = .ok (.iload_n 1, 1) := by decide +kernel
theorem dX8_odds_40 : decode cX8_odds 40 = .ok (.aaload, 1) := by decide +kernel
