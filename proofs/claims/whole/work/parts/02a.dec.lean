theorem dJ9_max_7cf53_0 : decode cJ9_max_7cf53 0 = .ok (.iload_n 0, 1) := by decide +kernel
theorem dJ9_max_7cf53_1 : decode cJ9_max_7cf53 1 = .ok (.iload_n 1, 1) := by decide +kernel
theorem dJ9_max_7cf53_2 : decode cJ9_max_7cf53 2 = .ok (.if_icmp .lt 7, 3) := by decide +kernel
theorem dJ9_max_7cf53_5 : decode cJ9_max_7cf53 5 = .ok (.iload_n 0, 1) := by decide +kernel
theorem dJ9_max_7cf53_6 : decode cJ9_max_7cf53 6 = .ok (.goto 4, 3) := by decide +kernel
theorem dJ9_max_7cf53_9 : decode cJ9_max_7cf53 9 = .ok (.iload_n 1, 1) := by decide +kernel
theorem dJ9_max_7cf53_10 : decode cJ9_max_7cf53 10 = .ok (.ireturn, 1) := by decide +kernel
theorem dJ9_min_7cf53_0 : decode cJ9_min_7cf53 0 = .ok (.iload_n 0, 1) := by decide +kernel
theorem dJ9_min_7cf53_1 : decode cJ9_min_7cf53 1 = .ok (.iload_n 1, 1) := by decide +kernel
theorem dJ9_min_7cf53_2 : decode cJ9_min_7cf53 2 = .ok (.if_icmp .gt 7, 3) := by decide +kernel
theorem dJ9_min_7cf53_5 : decode cJ9_min_7cf53 5 = .ok (.iload_n 0, 1) := by decide +kernel
theorem dJ9_min_7cf53_6 : decode cJ9_min_7cf53 6 = .ok (.goto 4, 3) := by decide +kernel
theorem dJ9_min_7cf53_9 : decode cJ9_min_7cf53 9 = .ok (.iload_n 1, 1) := by decide +kernel
theorem dJ9_min_7cf53_10 : decode cJ9_min_7cf53 10 = .ok (.ireturn, 1) := by decide +kernel
theorem dJ7_fill_53178_0 : decode cJ7_fill_53178 0 = .ok (.iconst 0, 1) := by decide +kernel
theorem dJ7_fill_53178_1 : decode cJ7_fill_53178 1 = .ok (.istore_n 2, 1) := by decide +kernel
theorem dJ7_fill_53178_2 : decode cJ7_fill_53178 2 = .ok (.aload_n 0, 1) := by decide +kernel
theorem dJ7_fill_53178_3 : decode cJ7_fill_53178 3 = .ok (.arraylength, 1) := by decide +kernel
theorem dJ7_fill_53178_4 : decode cJ7_fill_53178 4 = .ok (.istore_n 3, 1) := by decide +kernel
theorem dJ7_fill_53178_5 : decode cJ7_fill_53178 5 = .ok (.iload_n 2, 1) := by decide +kernel
theorem dJ7_fill_53178_6 : decode cJ7_fill_53178 6 = .ok (.iload_n 3, 1) := by decide +kernel
theorem dJ7_fill_53178_7 : decode cJ7_fill_53178 7 = .ok (.if_icmp .ge 13, 3) := by decide +kernel
theorem dJ7_fill_53178_10 : decode cJ7_fill_53178 10 = .ok (.aload_n 0, 1) := by decide +kernel
theorem dJ7_fill_53178_11 : decode cJ7_fill_53178 11 = .ok (.iload_n 2, 1) := by decide +kernel
theorem dJ7_fill_53178_12 : decode cJ7_fill_53178 12 = .ok (.iload_n 1, 1) := by decide +kernel
theorem dJ7_fill_53178_13 : decode cJ7_fill_53178 13 = .ok (.iastore, 1) := by decide +kernel
theorem dJ7_fill_53178_14 : decode cJ7_fill_53178 14 = .ok (.iinc 2 1, 3) := by decide +kernel
theorem dJ7_fill_53178_17 : decode cJ7_fill_53178 17 = .ok (.goto (-12), 3) := by decide +kernel
theorem dJ7_fill_53178_20 : decode cJ7_fill_53178 20 = .ok (.return_, 1) := by decide +kernel
theorem dX0_init_0 : decode cX0_init 0 = .ok (.aload_n 0, 1) := by decide +kernel
theorem dX0_init_1 : decode cX0_init 1 = .ok (.invokespecial 3, 3) := by decide +kernel
theorem dX0_init_4 : decode cX0_init 4 = .ok (.aload_n 0, 1) := by decide +kernel
theorem dX0_init_5 : decode cX0_init 5 = .ok (.sipush 242, 3) := by decide +kernel
theorem dX0_init_8 : decode cX0_init 8 = .ok (.newarray .int, 2) := by decide +kernel
theorem dX0_init_10 : decode cX0_init 10 = .ok (.putfield 9, 3) := by decide +kernel
theorem dX0_init_13 : decode cX0_init 13 = .ok (.aload_n 0, 1) := by decide +kernel
theorem dX0_init_14 : decode cX0_init 14 = .ok (.iconst 0, 1) := by decide +kernel
theorem dX0_init_15 : decode cX0_init 15 = .ok (.putfield 15, 3) := by decide +kernel
theorem dX0_init_18 : decode cX0_init 18 = .ok (.return_, 1) := by decide +kernel
theorem dX0_beMass_0 : decode cX0_beMass 0 = .ok (.iconst 0, 1) := by decide +kernel
theorem dX0_beMass_1 : decode cX0_beMass 1 = .ok (.istore_n 1, 1) := by decide +kernel
theorem dX0_beMass_2 : decode cX0_beMass 2 = .ok (.iload_n 1, 1) := by decide +kernel
theorem dX0_beMass_3 : decode cX0_beMass 3 = .ok (.aload_n 0, 1) := by decide +kernel
theorem dX0_beMass_4 : decode cX0_beMass 4 = .ok (.getfield 9, 3) := by decide +kernel
theorem dX0_beMass_7 : decode cX0_beMass 7 = .ok (.arraylength, 1) := by decide +kernel
theorem dX0_beMass_8 : decode cX0_beMass 8 = .ok (.if_icmp .ge 20, 3) := by decide +kernel
theorem dX0_beMass_11 : decode cX0_beMass 11 = .ok (.aload_n 0, 1) := by decide +kernel
theorem dX0_beMass_12 : decode cX0_beMass 12 = .ok (.getfield 9, 3) := by decide +kernel
theorem dX0_beMass_15 : decode cX0_beMass 15 = .ok (.iload_n 1, 1) := by decide +kernel
theorem dX0_beMass_16 : decode cX0_beMass 16 = .ok (.sipush 1000, 3) := by decide +kernel
theorem dX0_beMass_19 : decode cX0_beMass 19 = .ok (.iload_n 1, 1) := by decide +kernel
theorem dX0_beMass_20 : decode cX0_beMass 20 = .ok (.imul, 1) := by decide +kernel
theorem dX0_beMass_21 : decode cX0_beMass 21 = .ok (.iastore, 1) := by decide +kernel
theorem dX0_beMass_22 : decode cX0_beMass 22 = .ok (.iinc 1 1, 3) := by decide +kernel
theorem dX0_beMass_25 : decode cX0_beMass 25 = .ok (.goto (-23), 3) := by decide +kernel
theorem dX0_beMass_28 : decode cX0_beMass 28 = .ok (.aload_n 0, 1) := by decide +kernel
theorem dX0_beMass_29 : decode cX0_beMass 29 = .ok (.iconst 0, 1) := by decide +kernel
theorem dX0_beMass_30 : decode cX0_beMass 30 = .ok (.putfield 15, 3) := by decide +kernel
theorem dX0_beMass_33 : decode cX0_beMass 33 = .ok (.return_, 1) := by decide +kernel
theorem dX0_beReach_0 : decode cX0_beReach 0 = .ok (.iconst 0, 1) := by decide +kernel
theorem dX0_beReach_1 : decode cX0_beReach 1 = .ok (.istore_n 2, 1) := by decide +kernel
theorem dX0_beReach_2 : decode cX0_beReach 2 = .ok (.iload_n 2, 1) := by decide +kernel
theorem dX0_beReach_3 : decode cX0_beReach 3 = .ok (.aload_n 0, 1) := by decide +kernel
theorem dX0_beReach_4 : decode cX0_beReach 4 = .ok (.getfield 9, 3) := by decide +kernel
theorem dX0_beReach_7 : decode cX0_beReach 7 = .ok (.arraylength, 1) := by decide +kernel
theorem dX0_beReach_8 : decode cX0_beReach 8 = .ok (.if_icmp .ge 26, 3) := by decide +kernel
theorem dX0_beReach_11 : decode cX0_beReach 11 = .ok (.aload_n 0, 1) := by decide +kernel
theorem dX0_beReach_12 : decode cX0_beReach 12 = .ok (.getfield 9, 3) := by decide +kernel
theorem dX0_beReach_15 : decode cX0_beReach 15 = .ok (.iload_n 2, 1) := by decide +kernel
theorem dX0_beReach_16 : decode cX0_beReach 16 = .ok (.iload_n 2, 1) := by decide +kernel
theorem dX0_beReach_17 : decode cX0_beReach 17 = .ok (.iload_n 1, 1) := by decide +kernel
theorem dX0_beReach_18 : decode cX0_beReach 18 = .ok (.if_icmp .lt 8, 3) := by decide +kernel
theorem dX0_beReach_21 : decode cX0_beReach 21 = .ok (.ldc 19, 2) := by decide +kernel
theorem dX0_beReach_23 : decode cX0_beReach 23 = .ok (.goto 4, 3) := by decide +kernel
theorem dX0_beReach_26 : decode cX0_beReach 26 = .ok (.iconst 0, 1) := by decide +kernel
theorem dX0_beReach_27 : decode cX0_beReach 27 = .ok (.iastore, 1) := by decide +kernel
theorem dX0_beReach_28 : decode cX0_beReach 28 = .ok (.iinc 2 1, 3) := by decide +kernel
theorem dX0_beReach_31 : decode cX0_beReach 31 = .ok (.goto (-29), 3) := by decide +kernel
theorem dX0_beReach_34 : decode cX0_beReach 34 = .ok (.aload_n 0, 1) := by decide +kernel
theorem dX0_beReach_35 : decode cX0_beReach 35 = .ok (.aload_n 0, 1) := by decide +kernel
theorem dX0_beReach_36 : decode cX0_beReach 36 = .ok (.getfield 9, 3) := by decide +kernel
theorem dX0_beReach_39 : decode cX0_beReach 39 = .ok (.iconst 0, 1) := by decide +kernel
theorem dX0_beReach_40 : decode cX0_beReach 40 = .ok (.iaload, 1) := by decide +kernel
theorem dX0_beReach_41 : decode cX0_beReach 41 = .ok (.putfield 15, 3) := by decide +kernel
theorem dX0_beReach_44 : decode cX0_beReach 44 = .ok (.return_, 1) := by decide +kernel
theorem dX0_beStep_0 : decode cX0_beStep 0 = .ok (.aload_n 0, 1) := by decide +kernel
theorem dX0_beStep_1 : decode cX0_beStep 1 = .ok (.bipush 121, 2) := by decide +kernel
theorem dX0_beStep_3 : decode cX0_beStep 3 = .ok (.invokevirtual 20, 3) := by decide +kernel
theorem dX0_beStep_6 : decode cX0_beStep 6 = .ok (.return_, 1) := by decide +kernel
theorem dX0_beSure_0 : decode cX0_beSure 0 = .ok (.aload_n 0, 1) := by decide +kernel
theorem dX0_beSure_1 : decode cX0_beSure 1 = .ok (.getfield 9, 3) := by decide +kernel
theorem dX0_beSure_4 : decode cX0_beSure 4 = .ok (.ldc 19, 2) := by decide +kernel
theorem dX0_beSure_6 : decode cX0_beSure 6 = .ok (.invokestatic 24, 3) := by decide +kernel
theorem dX0_beSure_9 : decode cX0_beSure 9 = .ok (.aload_n 0, 1) := by decide +kernel
theorem dX0_beSure_10 : decode cX0_beSure 10 = .ok (.getfield 9, 3) := by decide +kernel
theorem dX0_beSure_13 : decode cX0_beSure 13 = .ok (.iconst 0, 1) := by decide +kernel
theorem dX0_beSure_14 : decode cX0_beSure 14 = .ok (.iconst 0, 1) := by decide +kernel
theorem dX0_beSure_15 : decode cX0_beSure 15 = .ok (.iastore, 1) := by decide +kernel
theorem dX0_beSure_16 : decode cX0_beSure 16 = .ok (.aload_n 0, 1) := by decide +kernel
theorem dX0_beSure_17 : decode cX0_beSure 17 = .ok (.iconst 0, 1) := by decide +kernel
theorem dX0_beSure_18 : decode cX0_beSure 18 = .ok (.putfield 15, 3) := by decide +kernel
theorem dX0_beSure_21 : decode cX0_beSure 21 = .ok (.return_, 1) := by decide +kernel
theorem dX0_timesBeat_0 : decode cX0_timesBeat 0 = .ok (.iload_n 1, 1) := by decide +kernel
theorem dX0_timesBeat_1 : decode cX0_timesBeat 1 = .ok (.ifCond .eq 7, 3) := by decide +kernel
theorem dX0_timesBeat_4 : decode cX0_timesBeat 4 = .ok (.iconst 1, 1) := by decide +kernel
theorem dX0_timesBeat_5 : decode cX0_timesBeat 5 = .ok (.goto 4, 3) := by decide +kernel
theorem dX0_timesBeat_8 : decode cX0_timesBeat 8 = .ok (.iconst 0, 1) := by decide +kernel
theorem dX0_timesBeat_9 : decode cX0_timesBeat 9 = .ok (.istore_n 3, 1) := by decide +kernel
theorem dX0_timesBeat_10 : decode cX0_timesBeat 10 = .ok (.iconst 1, 1) := by decide +kernel
theorem dX0_timesBeat_11 : decode cX0_timesBeat 11 = .ok (.istore 4, 2) := by decide +kernel
theorem dX0_timesBeat_13 : decode cX0_timesBeat 13 = .ok (.iload 4, 2) := by decide +kernel
theorem dX0_timesBeat_15 : decode cX0_timesBeat 15 = .ok (.iload_n 3, 1) := by decide +kernel
theorem dX0_timesBeat_16 : decode cX0_timesBeat 16 = .ok (.iadd, 1) := by decide +kernel
theorem dX0_timesBeat_17 : decode cX0_timesBeat 17 = .ok (.aload_n 2, 1) := by decide +kernel
theorem dX0_timesBeat_18 : decode cX0_timesBeat 18 = .ok (.arraylength, 1) := by decide +kernel
theorem dX0_timesBeat_19 : decode cX0_timesBeat 19 = .ok (.if_icmp .ge 47, 3) := by decide +kernel
theorem dX0_timesBeat_22 : decode cX0_timesBeat 22 = .ok (.iload 4, 2) := by decide +kernel
theorem dX0_timesBeat_24 : decode cX0_timesBeat 24 = .ok (.bipush 120, 2) := by decide +kernel
theorem dX0_timesBeat_26 : decode cX0_timesBeat 26 = .ok (.if_icmp .gt 40, 3) := by decide +kernel
theorem dX0_timesBeat_29 : decode cX0_timesBeat 29 = .ok (.aload_n 0, 1) := by decide +kernel
theorem dX0_timesBeat_30 : decode cX0_timesBeat 30 = .ok (.getfield 9, 3) := by decide +kernel
theorem dX0_timesBeat_33 : decode cX0_timesBeat 33 = .ok (.iload 4, 2) := by decide +kernel
theorem dX0_timesBeat_35 : decode cX0_timesBeat 35 = .ok (.aload_n 0, 1) := by decide +kernel
theorem dX0_timesBeat_36 : decode cX0_timesBeat 36 = .ok (.getfield 9, 3) := by decide +kernel
theorem dX0_timesBeat_39 : decode cX0_timesBeat 39 = .ok (.iload 4, 2) := by decide +kernel
theorem dX0_timesBeat_41 : decode cX0_timesBeat 41 = .ok (.iaload, 1) := by decide +kernel
theorem dX0_timesBeat_42 : decode cX0_timesBeat 42 = .ok (.i2l, 1) := by decide +kernel
theorem dX0_timesBeat_43 : decode cX0_timesBeat 43 = .ok (.ldc 19, 2) := by decide +kernel
theorem dX0_timesBeat_45 : decode cX0_timesBeat 45 = .ok (.aload_n 2, 1) := by decide +kernel
theorem dX0_timesBeat_46 : decode cX0_timesBeat 46 = .ok (.iload 4, 2) := by decide +kernel
theorem dX0_timesBeat_48 : decode cX0_timesBeat 48 = .ok (.iload_n 3, 1) := by decide +kernel
theorem dX0_timesBeat_49 : decode cX0_timesBeat 49 = .ok (.iadd, 1) := by decide +kernel
theorem dX0_timesBeat_50 : decode cX0_timesBeat 50 = .ok (.iaload, 1) := by decide +kernel
theorem dX0_timesBeat_51 : decode cX0_timesBeat 51 = .ok (.isub, 1) := by decide +kernel
theorem dX0_timesBeat_52 : decode cX0_timesBeat 52 = .ok (.i2l, 1) := by decide +kernel
theorem dX0_timesBeat_53 : decode cX0_timesBeat 53 = .ok (.lmul, 1) := by decide +kernel
theorem dX0_timesBeat_54 : decode cX0_timesBeat 54 = .ok (.ldc2_w 30, 3) := by decide +kernel
theorem dX0_timesBeat_57 : decode cX0_timesBeat 57 = .ok (.ldiv, 1) := by decide +kernel
theorem dX0_timesBeat_58 : decode cX0_timesBeat 58 = .ok (.l2i, 1) := by decide +kernel
theorem dX0_timesBeat_59 : decode cX0_timesBeat 59 = .ok (.iastore, 1) := by decide +kernel
theorem dX0_timesBeat_60 : decode cX0_timesBeat 60 = .ok (.iinc 4 1, 3) := by decide +kernel
theorem dX0_timesBeat_63 : decode cX0_timesBeat 63 = .ok (.goto (-50), 3) := by decide +kernel
theorem dX0_timesBeat_66 : decode cX0_timesBeat 66 = .ok (.return_, 1) := by decide +kernel
theorem dX1_init_0 : decode cX1_init 0 = .ok (.aload_n 0, 1) := by decide +kernel
theorem dX1_init_1 : decode cX1_init 1 = .ok (.invokespecial 5, 3) := by decide +kernel
theorem dX1_init_4 : decode cX1_init 4 = .ok (.aload_n 0, 1) := by decide +kernel
theorem dX1_init_5 : decode cX1_init 5 = .ok (.iconst 0, 1) := by decide +kernel
theorem dX1_init_6 : decode cX1_init 6 = .ok (.putfield 11, 3) := by decide +kernel
theorem dX1_init_9 : decode cX1_init 9 = .ok (.aload_n 0, 1) := by decide +kernel
theorem dX1_init_10 : decode cX1_init 10 = .ok (.iconst 0, 1) := by decide +kernel
theorem dX1_init_11 : decode cX1_init 11 = .ok (.putfield 15, 3) := by decide +kernel
theorem dX1_init_14 : decode cX1_init 14 = .ok (.aload_n 0, 1) := by decide +kernel
theorem dX1_init_15 : decode cX1_init 15 = .ok (.iconst 1, 1) := by decide +kernel
theorem dX1_init_16 : decode cX1_init 16 = .ok (.putfield 18, 3) := by decide +kernel
theorem dX1_init_19 : decode cX1_init 19 = .ok (.aload_n 0, 1) := by decide +kernel
theorem dX1_init_20 : decode cX1_init 20 = .ok (.iconst 1, 1) := by decide +kernel
theorem dX1_init_21 : decode cX1_init 21 = .ok (.putfield 22, 3) := by decide +kernel
theorem dX1_init_24 : decode cX1_init 24 = .ok (.aload_n 0, 1) := by decide +kernel
theorem dX1_init_25 : decode cX1_init 25 = .ok (.iconst 0, 1) := by decide +kernel
theorem dX1_init_26 : decode cX1_init 26 = .ok (.putfield 25, 3) := by decide +kernel
theorem dX1_init_29 : decode cX1_init 29 = .ok (.aload_n 0, 1) := by decide +kernel
theorem dX1_init_30 : decode cX1_init 30 = .ok (.iconst 0, 1) := by decide +kernel
theorem dX1_init_31 : decode cX1_init 31 = .ok (.putfield 28, 3) := by decide +kernel
theorem dX1_init_34 : decode cX1_init 34 = .ok (.aload_n 0, 1) := by decide +kernel
theorem dX1_init_35 : decode cX1_init 35 = .ok (.iconst 0, 1) := by decide +kernel
theorem dX1_init_36 : decode cX1_init 36 = .ok (.putfield 31, 3) := by decide +kernel
theorem dX1_init_39 : decode cX1_init 39 = .ok (.aload_n 0, 1) := by decide +kernel
theorem dX1_init_40 : decode cX1_init 40 = .ok (.iconst 0, 1) := by decide +kernel
theorem dX1_init_41 : decode cX1_init 41 = .ok (.putfield 34, 3) := by decide +kernel
theorem dX1_init_44 : decode cX1_init 44 = .ok (.aload_n 0, 1) := by decide +kernel
theorem dX1_init_45 : decode cX1_init 45 = .ok (.bipush 41, 2) := by decide +kernel
theorem dX1_init_47 : decode cX1_init 47 = .ok (.newarray .int, 2) := by decide +kernel
theorem dX1_init_49 : decode cX1_init 49 = .ok (.putfield 37, 3) := by decide +kernel
theorem dX1_init_52 : decode cX1_init 52 = .ok (.aload_n 0, 1) := by decide +kernel
theorem dX1_init_53 : decode cX1_init 53 = .ok (.bipush 41, 2) := by decide +kernel
theorem dX1_init_55 : decode cX1_init 55 = .ok (.newarray .int, 2) := by decide +kernel
theorem dX1_init_57 : decode cX1_init 57 = .ok (.putfield 41, 3) := by decide +kernel
theorem dX1_init_60 : decode cX1_init 60 = .ok (.aload_n 0, 1) := by decide +kernel
theorem dX1_init_61 : decode cX1_init 61 = .ok (.sipush 1681, 3) := by decide +kernel
theorem dX1_init_64 : decode cX1_init 64 = .ok (.newarray .int, 2) := by decide +kernel
theorem dX1_init_66 : decode cX1_init 66 = .ok (.putfield 44, 3) := by decide +kernel
theorem dX1_init_69 : decode cX1_init 69 = .ok (.aload_n 0, 1) := by decide +kernel
theorem dX1_init_70 : decode cX1_init 70 = .ok (.sipush 1681, 3) := by decide +kernel
theorem dX1_init_73 : decode cX1_init 73 = .ok (.newarray .int, 2) := by decide +kernel
theorem dX1_init_75 : decode cX1_init 75 = .ok (.putfield 47, 3) := by decide +kernel
theorem dX1_init_78 : decode cX1_init 78 = .ok (.aload_n 0, 1) := by decide +kernel
theorem dX1_init_79 : decode cX1_init 79 = .ok (.sipush 1681, 3) := by decide +kernel
theorem dX1_init_82 : decode cX1_init 82 = .ok (.newarray .int, 2) := by decide +kernel
theorem dX1_init_84 : decode cX1_init 84 = .ok (.putfield 50, 3) := by decide +kernel
theorem dX1_init_87 : decode cX1_init 87 = .ok (.aload_n 0, 1) := by decide +kernel
theorem dX1_init_88 : decode cX1_init 88 = .ok (.sipush 1681, 3) := by decide +kernel
theorem dX1_init_91 : decode cX1_init 91 = .ok (.newarray .int, 2) := by decide +kernel
theorem dX1_init_93 : decode cX1_init 93 = .ok (.putfield 53, 3) := by decide +kernel
theorem dX1_init_96 : decode cX1_init 96 = .ok (.aload_n 0, 1) := by decide +kernel
theorem dX1_init_97 : decode cX1_init 97 = .ok (.sipush 15129, 3) := by decide +kernel
theorem dX1_init_100 : decode cX1_init 100 = .ok (.newarray .int, 2) := by decide +kernel
theorem dX1_init_102 : decode cX1_init 102 = .ok (.putfield 56, 3) := by decide +kernel
theorem dX1_init_105 : decode cX1_init 105 = .ok (.aload_n 0, 1) := by decide +kernel
theorem dX1_init_106 : decode cX1_init 106 = .ok (.bipush 41, 2) := by decide +kernel
theorem dX1_init_108 : decode cX1_init 108 = .ok (.newarray .int, 2) := by decide +kernel
theorem dX1_init_110 : decode cX1_init 110 = .ok (.putfield 59, 3) := by decide +kernel
theorem dX1_init_113 : decode cX1_init 113 = .ok (.return_, 1) := by decide +kernel
theorem dX1_meetUp_0 : decode cX1_meetUp 0 = .ok (.aload_n 0, 1) := by decide +kernel
theorem dX1_meetUp_1 : decode cX1_meetUp 1 = .ok (.aload_n 1, 1) := by decide +kernel
theorem dX1_meetUp_2 : decode cX1_meetUp 2 = .ok (.getfield 62, 3) := by decide +kernel
theorem dX1_meetUp_5 : decode cX1_meetUp 5 = .ok (.iload_n 2, 1) := by decide +kernel
theorem dX1_meetUp_6 : decode cX1_meetUp 6 = .ok (.aaload, 1) := by decide +kernel
theorem dX1_meetUp_7 : decode cX1_meetUp 7 = .ok (.aload_n 1, 1) := by decide +kernel
theorem dX1_meetUp_8 : decode cX1_meetUp 8 = .ok (.getfield 62, 3) := by decide +kernel
theorem dX1_meetUp_11 : decode cX1_meetUp 11 = .ok (.iload_n 3, 1) := by decide +kernel
theorem dX1_meetUp_12 : decode cX1_meetUp 12 = .ok (.aaload, 1) := by decide +kernel
theorem dX1_meetUp_13 : decode cX1_meetUp 13 = .ok (.invokevirtual 68, 3) := by decide +kernel
theorem dX1_meetUp_16 : decode cX1_meetUp 16 = .ok (.putfield 11, 3) := by decide +kernel
theorem dX1_meetUp_19 : decode cX1_meetUp 19 = .ok (.aload_n 0, 1) := by decide +kernel
theorem dX1_meetUp_20 : decode cX1_meetUp 20 = .ok (.aload_n 1, 1) := by decide +kernel
theorem dX1_meetUp_21 : decode cX1_meetUp 21 = .ok (.getfield 62, 3) := by decide +kernel
theorem dX1_meetUp_24 : decode cX1_meetUp 24 = .ok (.iload_n 2, 1) := by decide +kernel
theorem dX1_meetUp_25 : decode cX1_meetUp 25 = .ok (.aaload, 1) := by decide +kernel
theorem dX1_meetUp_26 : decode cX1_meetUp 26 = .ok (.getfield 73, 3) := by decide +kernel
theorem dX1_meetUp_29 : decode cX1_meetUp 29 = .ok (.aload_n 1, 1) := by decide +kernel
theorem dX1_meetUp_30 : decode cX1_meetUp 30 = .ok (.getfield 62, 3) := by decide +kernel
theorem dX1_meetUp_33 : decode cX1_meetUp 33 = .ok (.iload_n 3, 1) := by decide +kernel
theorem dX1_meetUp_34 : decode cX1_meetUp 34 = .ok (.aaload, 1) := by decide +kernel
theorem dX1_meetUp_35 : decode cX1_meetUp 35 = .ok (.getfield 73, 3) := by decide +kernel
theorem dX1_meetUp_38 : decode cX1_meetUp 38 = .ok (.if_icmp .ge 7, 3) := by decide +kernel
theorem dX1_meetUp_41 : decode cX1_meetUp 41 = .ok (.iconst 1, 1) := by decide +kernel
theorem dX1_meetUp_42 : decode cX1_meetUp 42 = .ok (.goto 4, 3) := by decide +kernel
theorem dX1_meetUp_45 : decode cX1_meetUp 45 = .ok (.iconst 0, 1) := by decide +kernel
theorem dX1_meetUp_46 : decode cX1_meetUp 46 = .ok (.putfield 15, 3) := by decide +kernel
theorem dX1_meetUp_49 : decode cX1_meetUp 49 = .ok (.aload_n 0, 1) := by decide +kernel
theorem dX1_meetUp_50 : decode cX1_meetUp 50 = .ok (.aload_n 1, 1) := by decide +kernel
theorem dX1_meetUp_51 : decode cX1_meetUp 51 = .ok (.getfield 76, 3) := by decide +kernel
theorem dX1_meetUp_54 : decode cX1_meetUp 54 = .ok (.iload_n 2, 1) := by decide +kernel
theorem dX1_meetUp_55 : decode cX1_meetUp 55 = .ok (.iaload, 1) := by decide +kernel
theorem dX1_meetUp_56 : decode cX1_meetUp 56 = .ok (.putfield 18, 3) := by decide +kernel
theorem dX1_meetUp_59 : decode cX1_meetUp 59 = .ok (.aload_n 0, 1) := by decide +kernel
theorem dX1_meetUp_60 : decode cX1_meetUp 60 = .ok (.aload_n 1, 1) := by decide +kernel
theorem dX1_meetUp_61 : decode cX1_meetUp 61 = .ok (.getfield 76, 3) := by decide +kernel
theorem dX1_meetUp_64 : decode cX1_meetUp 64 = .ok (.iload_n 3, 1) := by decide +kernel
theorem dX1_meetUp_65 : decode cX1_meetUp 65 = .ok (.iaload, 1) := by decide +kernel
theorem dX1_meetUp_66 : decode cX1_meetUp 66 = .ok (.putfield 22, 3) := by decide +kernel
theorem dX1_meetUp_69 : decode cX1_meetUp 69 = .ok (.aload_n 0, 1) := by decide +kernel
theorem dX1_meetUp_70 : decode cX1_meetUp 70 = .ok (.aload_n 1, 1) := by decide +kernel
theorem dX1_meetUp_71 : decode cX1_meetUp 71 = .ok (.getfield 79, 3) := by decide +kernel
theorem dX1_meetUp_74 : decode cX1_meetUp 74 = .ok (.iload_n 2, 1) := by decide +kernel
theorem dX1_meetUp_75 : decode cX1_meetUp 75 = .ok (.iconst 3, 1) := by decide +kernel
theorem dX1_meetUp_76 : decode cX1_meetUp 76 = .ok (.imul, 1) := by decide +kernel
theorem dX1_meetUp_77 : decode cX1_meetUp 77 = .ok (.iaload, 1) := by decide +kernel
theorem dX1_meetUp_78 : decode cX1_meetUp 78 = .ok (.aload_n 1, 1) := by decide +kernel
theorem dX1_meetUp_79 : decode cX1_meetUp 79 = .ok (.getfield 79, 3) := by decide +kernel
theorem dX1_meetUp_82 : decode cX1_meetUp 82 = .ok (.iload_n 2, 1) := by decide +kernel
theorem dX1_meetUp_83 : decode cX1_meetUp 83 = .ok (.iconst 3, 1) := by decide +kernel
theorem dX1_meetUp_84 : decode cX1_meetUp 84 = .ok (.imul, 1) := by decide +kernel
theorem dX1_meetUp_85 : decode cX1_meetUp 85 = .ok (.iconst 1, 1) := by decide +kernel
theorem dX1_meetUp_86 : decode cX1_meetUp 86 = .ok (.iadd, 1) := by decide +kernel
theorem dX1_meetUp_87 : decode cX1_meetUp 87 = .ok (.iaload, 1) := by decide +kernel
theorem dX1_meetUp_88 : decode cX1_meetUp 88 = .ok (.iadd, 1) := by decide +kernel
theorem dX1_meetUp_89 : decode cX1_meetUp 89 = .ok (.putfield 25, 3) := by decide +kernel
theorem dX1_meetUp_92 : decode cX1_meetUp 92 = .ok (.aload_n 0, 1) := by decide +kernel
theorem dX1_meetUp_93 : decode cX1_meetUp 93 = .ok (.aload_n 1, 1) := by decide +kernel
theorem dX1_meetUp_94 : decode cX1_meetUp 94 = .ok (.getfield 79, 3) := by decide +kernel
theorem dX1_meetUp_97 : decode cX1_meetUp 97 = .ok (.iload_n 3, 1) := by decide +kernel
theorem dX1_meetUp_98 : decode cX1_meetUp 98 = .ok (.iconst 3, 1) := by decide +kernel
theorem dX1_meetUp_99 : decode cX1_meetUp 99 = .ok (.imul, 1) := by decide +kernel
theorem dX1_meetUp_100 : decode cX1_meetUp 100 = .ok (.iaload, 1) := by decide +kernel
theorem dX1_meetUp_101 : decode cX1_meetUp 101 = .ok (.aload_n 1, 1) := by decide +kernel
theorem dX1_meetUp_102 : decode cX1_meetUp 102 = .ok (.getfield 79, 3) := by decide +kernel
theorem dX1_meetUp_105 : decode cX1_meetUp 105 = .ok (.iload_n 3, 1) := by decide +kernel
theorem dX1_meetUp_106 : decode cX1_meetUp 106 = .ok (.iconst 3, 1) := by decide +kernel
theorem dX1_meetUp_107 : decode cX1_meetUp 107 = .ok (.imul, 1) := by decide +kernel
theorem dX1_meetUp_108 : decode cX1_meetUp 108 = .ok (.iconst 1, 1) := by decide +kernel
theorem dX1_meetUp_109 : decode cX1_meetUp 109 = .ok (.iadd, 1) := by decide +kernel
theorem dX1_meetUp_110 : decode cX1_meetUp 110 = .ok (.iaload, 1) := by decide +kernel
theorem dX1_meetUp_111 : decode cX1_meetUp 111 = .ok (.iadd, 1) := by decide +kernel
theorem dX1_meetUp_112 : decode cX1_meetUp 112 = .ok (.putfield 28, 3) := by decide +kernel
theorem dX1_meetUp_115 : decode cX1_meetUp 115 = .ok (.aload_n 1, 1) := by decide +kernel
theorem dX1_meetUp_116 : decode cX1_meetUp 116 = .ok (.getfield 79, 3) := by decide +kernel
theorem dX1_meetUp_119 : decode cX1_meetUp 119 = .ok (.iload_n 2, 1) := by decide +kernel
theorem dX1_meetUp_120 : decode cX1_meetUp 120 = .ok (.iconst 3, 1) := by decide +kernel
theorem dX1_meetUp_121 : decode cX1_meetUp 121 = .ok (.imul, 1) := by decide +kernel
theorem dX1_meetUp_122 : decode cX1_meetUp 122 = .ok (.iconst 2, 1) := by decide +kernel
theorem dX1_meetUp_123 : decode cX1_meetUp 123 = .ok (.iadd, 1) := by decide +kernel
theorem dX1_meetUp_124 : decode cX1_meetUp 124 = .ok (.iaload, 1) := by decide +kernel
theorem dX1_meetUp_125 : decode cX1_meetUp 125 = .ok (.istore 4, 2) := by decide +kernel
theorem dX1_meetUp_127 : decode cX1_meetUp 127 = .ok (.aload_n 1, 1) := by decide +kernel
theorem dX1_meetUp_128 : decode cX1_meetUp 128 = .ok (.getfield 79, 3) := by decide +kernel
theorem dX1_meetUp_131 : decode cX1_meetUp 131 = .ok (.iload_n 3, 1) := by decide +kernel
theorem dX1_meetUp_132 : decode cX1_meetUp 132 = .ok (.iconst 3, 1) := by decide +kernel
theorem dX1_meetUp_133 : decode cX1_meetUp 133 = .ok (.imul, 1) := by decide +kernel
theorem dX1_meetUp_134 : decode cX1_meetUp 134 = .ok (.iconst 2, 1) := by decide +kernel
theorem dX1_meetUp_135 : decode cX1_meetUp 135 = .ok (.iadd, 1) := by decide +kernel
theorem dX1_meetUp_136 : decode cX1_meetUp 136 = .ok (.iaload, 1) := by decide +kernel
theorem dX1_meetUp_137 : decode cX1_meetUp 137 = .ok (.istore 5, 2) := by decide +kernel
theorem dX1_meetUp_139 : decode cX1_meetUp 139 = .ok (.aload_n 0, 1) := by decide +kernel
theorem dX1_meetUp_140 : decode cX1_meetUp 140 = .ok (.iload 4, 2) := by decide +kernel
theorem dX1_meetUp_142 : decode cX1_meetUp 142 = .ok (.ifCond .ne 7, 3) := by decide +kernel
theorem dX1_meetUp_145 : decode cX1_meetUp 145 = .ok (.iconst 0, 1) := by decide +kernel
theorem dX1_meetUp_146 : decode cX1_meetUp 146 = .ok (.goto 10, 3) := by decide +kernel
theorem dX1_meetUp_149 : decode cX1_meetUp 149 = .ok (.aload_n 0, 1) := by decide +kernel
theorem dX1_meetUp_150 : decode cX1_meetUp 150 = .ok (.getfield 25, 3) := by decide +kernel
theorem dX1_meetUp_153 : decode cX1_meetUp 153 = .ok (.iload 4, 2) := by decide +kernel
theorem dX1_meetUp_155 : decode cX1_meetUp 155 = .ok (.iadd, 1) := by decide +kernel
theorem dX1_meetUp_156 : decode cX1_meetUp 156 = .ok (.putfield 31, 3) := by decide +kernel
theorem dX1_meetUp_159 : decode cX1_meetUp 159 = .ok (.aload_n 0, 1) := by decide +kernel
theorem dX1_meetUp_160 : decode cX1_meetUp 160 = .ok (.iload 5, 2) := by decide +kernel
theorem dX1_meetUp_162 : decode cX1_meetUp 162 = .ok (.ifCond .ne 7, 3) := by decide +kernel
theorem dX1_meetUp_165 : decode cX1_meetUp 165 = .ok (.iconst 0, 1) := by decide +kernel
theorem dX1_meetUp_166 : decode cX1_meetUp 166 = .ok (.goto 10, 3) := by decide +kernel
theorem dX1_meetUp_169 : decode cX1_meetUp 169 = .ok (.aload_n 0, 1) := by decide +kernel
theorem dX1_meetUp_170 : decode cX1_meetUp 170 = .ok (.getfield 28, 3) := by decide +kernel
theorem dX1_meetUp_173 : decode cX1_meetUp 173 = .ok (.iload 5, 2) := by decide +kernel
theorem dX1_meetUp_175 : decode cX1_meetUp 175 = .ok (.iadd, 1) := by decide +kernel
theorem dX1_meetUp_176 : decode cX1_meetUp 176 = .ok (.putfield 34, 3) := by decide +kernel
theorem dX1_meetUp_179 : decode cX1_meetUp 179 = .ok (.iconst 1, 1) := by decide +kernel
theorem dX1_meetUp_180 : decode cX1_meetUp 180 = .ok (.istore 6, 2) := by decide +kernel
theorem dX1_meetUp_182 : decode cX1_meetUp 182 = .ok (.iload 6, 2) := by decide +kernel
theorem dX1_meetUp_184 : decode cX1_meetUp 184 = .ok (.bipush 40, 2) := by decide +kernel
theorem dX1_meetUp_186 : decode cX1_meetUp 186 = .ok (.if_icmp .gt 69, 3) := by decide +kernel
theorem dX1_meetUp_189 : decode cX1_meetUp 189 = .ok (.aload_n 0, 1) := by decide +kernel
theorem dX1_meetUp_190 : decode cX1_meetUp 190 = .ok (.getfield 37, 3) := by decide +kernel
theorem dX1_meetUp_193 : decode cX1_meetUp 193 = .ok (.iload 6, 2) := by decide +kernel
theorem dX1_meetUp_195 : decode cX1_meetUp 195 = .ok (.aload_n 1, 1) := by decide +kernel
theorem dX1_meetUp_196 : decode cX1_meetUp 196 = .ok (.getfield 62, 3) := by decide +kernel
theorem dX1_meetUp_199 : decode cX1_meetUp 199 = .ok (.iload_n 2, 1) := by decide +kernel
theorem dX1_meetUp_200 : decode cX1_meetUp 200 = .ok (.aaload, 1) := by decide +kernel
theorem dX1_meetUp_201 : decode cX1_meetUp 201 = .ok (.iconst 2, 1) := by decide +kernel
theorem dX1_meetUp_202 : decode cX1_meetUp 202 = .ok (.iload 6, 2) := by decide +kernel
theorem dX1_meetUp_204 : decode cX1_meetUp 204 = .ok (.aload_n 1, 1) := by decide +kernel
theorem dX1_meetUp_205 : decode cX1_meetUp 205 = .ok (.getfield 82, 3) := by decide +kernel
theorem dX1_meetUp_208 : decode cX1_meetUp 208 = .ok (.iload_n 2, 1) := by decide +kernel
theorem dX1_meetUp_209 : decode cX1_meetUp 209 = .ok (.iaload, 1) := by decide +kernel
theorem dX1_meetUp_210 : decode cX1_meetUp 210 = .ok (.aload_n 1, 1) := by decide +kernel
theorem dX1_meetUp_211 : decode cX1_meetUp 211 = .ok (.getfield 85, 3) := by decide +kernel
theorem dX1_meetUp_214 : decode cX1_meetUp 214 = .ok (.imul, 1) := by decide +kernel
theorem dX1_meetUp_215 : decode cX1_meetUp 215 = .ok (.invokevirtual 88, 3) := by decide +kernel
theorem dX1_meetUp_218 : decode cX1_meetUp 218 = .ok (.iastore, 1) := by decide +kernel
theorem dX1_meetUp_219 : decode cX1_meetUp 219 = .ok (.aload_n 0, 1) := by decide +kernel
theorem dX1_meetUp_220 : decode cX1_meetUp 220 = .ok (.getfield 41, 3) := by decide +kernel
theorem dX1_meetUp_223 : decode cX1_meetUp 223 = .ok (.iload 6, 2) := by decide +kernel
theorem dX1_meetUp_225 : decode cX1_meetUp 225 = .ok (.aload_n 1, 1) := by decide +kernel
theorem dX1_meetUp_226 : decode cX1_meetUp 226 = .ok (.getfield 62, 3) := by decide +kernel
theorem dX1_meetUp_229 : decode cX1_meetUp 229 = .ok (.iload_n 3, 1) := by decide +kernel
theorem dX1_meetUp_230 : decode cX1_meetUp 230 = .ok (.aaload, 1) := by decide +kernel
theorem dX1_meetUp_231 : decode cX1_meetUp 231 = .ok (.iconst 2, 1) := by decide +kernel
theorem dX1_meetUp_232 : decode cX1_meetUp 232 = .ok (.iload 6, 2) := by decide +kernel
theorem dX1_meetUp_234 : decode cX1_meetUp 234 = .ok (.aload_n 1, 1) := by decide +kernel
theorem dX1_meetUp_235 : decode cX1_meetUp 235 = .ok (.getfield 82, 3) := by decide +kernel
theorem dX1_meetUp_238 : decode cX1_meetUp 238 = .ok (.iload_n 3, 1) := by decide +kernel
theorem dX1_meetUp_239 : decode cX1_meetUp 239 = .ok (.iaload, 1) := by decide +kernel
theorem dX1_meetUp_240 : decode cX1_meetUp 240 = .ok (.aload_n 1, 1) := by decide +kernel
theorem dX1_meetUp_241 : decode cX1_meetUp 241 = .ok (.getfield 85, 3) := by decide +kernel
theorem dX1_meetUp_244 : decode cX1_meetUp 244 = .ok (.imul, 1) := by decide +kernel
theorem dX1_meetUp_245 : decode cX1_meetUp 245 = .ok (.invokevirtual 88, 3) := by decide +kernel
theorem dX1_meetUp_248 : decode cX1_meetUp 248 = .ok (.iastore, 1) := by decide +kernel
theorem dX1_meetUp_249 : decode cX1_meetUp 249 = .ok (.iinc 6 1, 3) := by decide +kernel
theorem dX1_meetUp_252 : decode cX1_meetUp 252 = .ok (.goto (-70), 3) := by decide +kernel
theorem dX1_meetUp_255 : decode cX1_meetUp 255 = .ok (.aload_n 0, 1) := by decide +kernel
theorem dX1_meetUp_256 : decode cX1_meetUp 256 = .ok (.invokevirtual 92, 3) := by decide +kernel
theorem dX1_meetUp_259 : decode cX1_meetUp 259 = .ok (.return_, 1) := by decide +kernel
theorem dX1_fillSecond_0 : decode cX1_fillSecond 0 = .ok (.iconst 0, 1) := by decide +kernel
theorem dX1_fillSecond_1 : decode cX1_fillSecond 1 = .ok (.istore_n 1, 1) := by decide +kernel
theorem dX1_fillSecond_2 : decode cX1_fillSecond 2 = .ok (.iload_n 1, 1) := by decide +kernel
theorem dX1_fillSecond_3 : decode cX1_fillSecond 3 = .ok (.bipush 40, 2) := by decide +kernel
theorem dX1_fillSecond_5 : decode cX1_fillSecond 5 = .ok (.if_icmp .gt 208, 3) := by decide +kernel
theorem dX1_fillSecond_8 : decode cX1_fillSecond 8 = .ok (.iload_n 1, 1) := by decide +kernel
theorem dX1_fillSecond_9 : decode cX1_fillSecond 9 = .ok (.ifCond .ne 10, 3) := by decide +kernel
theorem dX1_fillSecond_12 : decode cX1_fillSecond 12 = .ok (.aload_n 0, 1) := by decide +kernel
theorem dX1_fillSecond_13 : decode cX1_fillSecond 13 = .ok (.getfield 31, 3) := by decide +kernel
theorem dX1_fillSecond_16 : decode cX1_fillSecond 16 = .ok (.goto 9, 3) := by decide +kernel
theorem dX1_fillSecond_19 : decode cX1_fillSecond 19 = .ok (.aload_n 0, 1) := by decide +kernel
theorem dX1_fillSecond_20 : decode cX1_fillSecond 20 = .ok (.getfield 25, 3) := by decide +kernel
theorem dX1_fillSecond_23 : decode cX1_fillSecond 23 = .ok (.iload_n 1, 1) := by decide +kernel
theorem dX1_fillSecond_24 : decode cX1_fillSecond 24 = .ok (.iadd, 1) := by decide +kernel
theorem dX1_fillSecond_25 : decode cX1_fillSecond 25 = .ok (.istore_n 2, 1) := by decide +kernel
theorem dX1_fillSecond_26 : decode cX1_fillSecond 26 = .ok (.iload_n 1, 1) := by decide +kernel
theorem dX1_fillSecond_27 : decode cX1_fillSecond 27 = .ok (.ifCond .ne 10, 3) := by decide +kernel
theorem dX1_fillSecond_30 : decode cX1_fillSecond 30 = .ok (.aload_n 0, 1) := by decide +kernel
theorem dX1_fillSecond_31 : decode cX1_fillSecond 31 = .ok (.getfield 34, 3) := by decide +kernel
theorem dX1_fillSecond_34 : decode cX1_fillSecond 34 = .ok (.goto 9, 3) := by decide +kernel
theorem dX1_fillSecond_37 : decode cX1_fillSecond 37 = .ok (.aload_n 0, 1) := by decide +kernel
theorem dX1_fillSecond_38 : decode cX1_fillSecond 38 = .ok (.getfield 28, 3) := by decide +kernel
theorem dX1_fillSecond_41 : decode cX1_fillSecond 41 = .ok (.iload_n 1, 1) := by decide +kernel
theorem dX1_fillSecond_42 : decode cX1_fillSecond 42 = .ok (.iadd, 1) := by decide +kernel
theorem dX1_fillSecond_43 : decode cX1_fillSecond 43 = .ok (.istore_n 3, 1) := by decide +kernel
theorem dX1_fillSecond_44 : decode cX1_fillSecond 44 = .ok (.ldc 95, 2) := by decide +kernel
theorem dX1_fillSecond_46 : decode cX1_fillSecond 46 = .ok (.istore 4, 2) := by decide +kernel
theorem dX1_fillSecond_48 : decode cX1_fillSecond 48 = .ok (.iconst 0, 1) := by decide +kernel
theorem dX1_fillSecond_49 : decode cX1_fillSecond 49 = .ok (.istore 5, 2) := by decide +kernel
theorem dX1_fillSecond_51 : decode cX1_fillSecond 51 = .ok (.bipush 40, 2) := by decide +kernel
theorem dX1_fillSecond_53 : decode cX1_fillSecond 53 = .ok (.istore 6, 2) := by decide +kernel
theorem dX1_fillSecond_55 : decode cX1_fillSecond 55 = .ok (.iload 6, 2) := by decide +kernel
theorem dX1_fillSecond_57 : decode cX1_fillSecond 57 = .ok (.iconst 1, 1) := by decide +kernel
theorem dX1_fillSecond_58 : decode cX1_fillSecond 58 = .ok (.if_icmp .lt 149, 3) := by decide +kernel
theorem dX1_fillSecond_61 : decode cX1_fillSecond 61 = .ok (.aload_n 0, 1) := by decide +kernel
theorem dX1_fillSecond_62 : decode cX1_fillSecond 62 = .ok (.getfield 41, 3) := by decide +kernel
theorem dX1_fillSecond_65 : decode cX1_fillSecond 65 = .ok (.iload 6, 2) := by decide +kernel
theorem dX1_fillSecond_67 : decode cX1_fillSecond 67 = .ok (.iaload, 1) := by decide +kernel
theorem dX1_fillSecond_68 : decode cX1_fillSecond 68 = .ok (.aload_n 0, 1) := by decide +kernel
theorem dX1_fillSecond_69 : decode cX1_fillSecond 69 = .ok (.iload_n 2, 1) := by decide +kernel
theorem dX1_fillSecond_70 : decode cX1_fillSecond 70 = .ok (.aload_n 0, 1) := by decide +kernel
theorem dX1_fillSecond_71 : decode cX1_fillSecond 71 = .ok (.getfield 28, 3) := by decide +kernel
theorem dX1_fillSecond_74 : decode cX1_fillSecond 74 = .ok (.iload 6, 2) := by decide +kernel
theorem dX1_fillSecond_76 : decode cX1_fillSecond 76 = .ok (.iadd, 1) := by decide +kernel
theorem dX1_fillSecond_77 : decode cX1_fillSecond 77 = .ok (.invokevirtual 96, 3) := by decide +kernel
theorem dX1_fillSecond_80 : decode cX1_fillSecond 80 = .ok (.aload_n 0, 1) := by decide +kernel
theorem dX1_fillSecond_81 : decode cX1_fillSecond 81 = .ok (.iload_n 2, 1) := by decide +kernel
theorem dX1_fillSecond_82 : decode cX1_fillSecond 82 = .ok (.aload_n 0, 1) := by decide +kernel
theorem dX1_fillSecond_83 : decode cX1_fillSecond 83 = .ok (.getfield 34, 3) := by decide +kernel
theorem dX1_fillSecond_86 : decode cX1_fillSecond 86 = .ok (.invokevirtual 96, 3) := by decide +kernel
theorem dX1_fillSecond_89 : decode cX1_fillSecond 89 = .ok (.invokestatic 100, 3) := by decide +kernel
theorem dX1_fillSecond_92 : decode cX1_fillSecond 92 = .ok (.istore 7, 2) := by decide +kernel
theorem dX1_fillSecond_94 : decode cX1_fillSecond 94 = .ok (.aload_n 0, 1) := by decide +kernel
theorem dX1_fillSecond_95 : decode cX1_fillSecond 95 = .ok (.getfield 37, 3) := by decide +kernel
theorem dX1_fillSecond_98 : decode cX1_fillSecond 98 = .ok (.iload 6, 2) := by decide +kernel
theorem dX1_fillSecond_100 : decode cX1_fillSecond 100 = .ok (.iaload, 1) := by decide +kernel
theorem dX1_fillSecond_101 : decode cX1_fillSecond 101 = .ok (.aload_n 0, 1) := by decide +kernel
theorem dX1_fillSecond_102 : decode cX1_fillSecond 102 = .ok (.aload_n 0, 1) := by decide +kernel
theorem dX1_fillSecond_103 : decode cX1_fillSecond 103 = .ok (.getfield 25, 3) := by decide +kernel
theorem dX1_fillSecond_106 : decode cX1_fillSecond 106 = .ok (.iload 6, 2) := by decide +kernel
theorem dX1_fillSecond_108 : decode cX1_fillSecond 108 = .ok (.iadd, 1) := by decide +kernel
theorem dX1_fillSecond_109 : decode cX1_fillSecond 109 = .ok (.iload_n 3, 1) := by decide +kernel
theorem dX1_fillSecond_110 : decode cX1_fillSecond 110 = .ok (.invokevirtual 96, 3) := by decide +kernel
theorem dX1_fillSecond_113 : decode cX1_fillSecond 113 = .ok (.aload_n 0, 1) := by decide +kernel
theorem dX1_fillSecond_114 : decode cX1_fillSecond 114 = .ok (.aload_n 0, 1) := by decide +kernel
theorem dX1_fillSecond_115 : decode cX1_fillSecond 115 = .ok (.getfield 31, 3) := by decide +kernel
theorem dX1_fillSecond_118 : decode cX1_fillSecond 118 = .ok (.iload_n 3, 1) := by decide +kernel
theorem dX1_fillSecond_119 : decode cX1_fillSecond 119 = .ok (.invokevirtual 96, 3) := by decide +kernel
theorem dX1_fillSecond_122 : decode cX1_fillSecond 122 = .ok (.invokestatic 100, 3) := by decide +kernel
theorem dX1_fillSecond_125 : decode cX1_fillSecond 125 = .ok (.istore 8, 2) := by decide +kernel
theorem dX1_fillSecond_127 : decode cX1_fillSecond 127 = .ok (.iload 4, 2) := by decide +kernel
theorem dX1_fillSecond_129 : decode cX1_fillSecond 129 = .ok (.iload 7, 2) := by decide +kernel
theorem dX1_fillSecond_131 : decode cX1_fillSecond 131 = .ok (.invokestatic 103, 3) := by decide +kernel
theorem dX1_fillSecond_134 : decode cX1_fillSecond 134 = .ok (.istore 4, 2) := by decide +kernel
theorem dX1_fillSecond_136 : decode cX1_fillSecond 136 = .ok (.iload 5, 2) := by decide +kernel
theorem dX1_fillSecond_138 : decode cX1_fillSecond 138 = .ok (.iload 8, 2) := by decide +kernel
theorem dX1_fillSecond_140 : decode cX1_fillSecond 140 = .ok (.invokestatic 108, 3) := by decide +kernel
theorem dX1_fillSecond_143 : decode cX1_fillSecond 143 = .ok (.istore 5, 2) := by decide +kernel
theorem dX1_fillSecond_145 : decode cX1_fillSecond 145 = .ok (.aload_n 0, 1) := by decide +kernel
theorem dX1_fillSecond_146 : decode cX1_fillSecond 146 = .ok (.getfield 44, 3) := by decide +kernel
theorem dX1_fillSecond_149 : decode cX1_fillSecond 149 = .ok (.iload_n 1, 1) := by decide +kernel
theorem dX1_fillSecond_150 : decode cX1_fillSecond 150 = .ok (.bipush 41, 2) := by decide +kernel
theorem dX1_fillSecond_152 : decode cX1_fillSecond 152 = .ok (.imul, 1) := by decide +kernel
theorem dX1_fillSecond_153 : decode cX1_fillSecond 153 = .ok (.iload 6, 2) := by decide +kernel
theorem dX1_fillSecond_155 : decode cX1_fillSecond 155 = .ok (.iadd, 1) := by decide +kernel
theorem dX1_fillSecond_156 : decode cX1_fillSecond 156 = .ok (.iload 7, 2) := by decide +kernel
theorem dX1_fillSecond_158 : decode cX1_fillSecond 158 = .ok (.iastore, 1) := by decide +kernel
theorem dX1_fillSecond_159 : decode cX1_fillSecond 159 = .ok (.aload_n 0, 1) := by decide +kernel
theorem dX1_fillSecond_160 : decode cX1_fillSecond 160 = .ok (.getfield 47, 3) := by decide +kernel
theorem dX1_fillSecond_163 : decode cX1_fillSecond 163 = .ok (.iload_n 1, 1) := by decide +kernel
theorem dX1_fillSecond_164 : decode cX1_fillSecond 164 = .ok (.bipush 41, 2) := by decide +kernel
theorem dX1_fillSecond_166 : decode cX1_fillSecond 166 = .ok (.imul, 1) := by decide +kernel
theorem dX1_fillSecond_167 : decode cX1_fillSecond 167 = .ok (.iload 6, 2) := by decide +kernel
theorem dX1_fillSecond_169 : decode cX1_fillSecond 169 = .ok (.iadd, 1) := by decide +kernel
theorem dX1_fillSecond_170 : decode cX1_fillSecond 170 = .ok (.iload 4, 2) := by decide +kernel
theorem dX1_fillSecond_172 : decode cX1_fillSecond 172 = .ok (.iastore, 1) := by decide +kernel
theorem dX1_fillSecond_173 : decode cX1_fillSecond 173 = .ok (.aload_n 0, 1) := by decide +kernel
theorem dX1_fillSecond_174 : decode cX1_fillSecond 174 = .ok (.getfield 50, 3) := by decide +kernel
theorem dX1_fillSecond_177 : decode cX1_fillSecond 177 = .ok (.iload_n 1, 1) := by decide +kernel
theorem dX1_fillSecond_178 : decode cX1_fillSecond 178 = .ok (.bipush 41, 2) := by decide +kernel
theorem dX1_fillSecond_180 : decode cX1_fillSecond 180 = .ok (.imul, 1) := by decide +kernel
theorem dX1_fillSecond_181 : decode cX1_fillSecond 181 = .ok (.iload 6, 2) := by decide +kernel
theorem dX1_fillSecond_183 : decode cX1_fillSecond 183 = .ok (.iadd, 1) := by decide +kernel
theorem dX1_fillSecond_184 : decode cX1_fillSecond 184 = .ok (.iload 8, 2) := by decide +kernel
theorem dX1_fillSecond_186 : decode cX1_fillSecond 186 = .ok (.iastore, 1) := by decide +kernel
theorem dX1_fillSecond_187 : decode cX1_fillSecond 187 = .ok (.aload_n 0, 1) := by decide +kernel
theorem dX1_fillSecond_188 : decode cX1_fillSecond 188 = .ok (.getfield 53, 3) := by decide +kernel
theorem dX1_fillSecond_191 : decode cX1_fillSecond 191 = .ok (.iload_n 1, 1) := by decide +kernel
theorem dX1_fillSecond_192 : decode cX1_fillSecond 192 = .ok (.bipush 41, 2) := by decide +kernel
theorem dX1_fillSecond_194 : decode cX1_fillSecond 194 = .ok (.imul, 1) := by decide +kernel
theorem dX1_fillSecond_195 : decode cX1_fillSecond 195 = .ok (.iload 6, 2) := by decide +kernel
theorem dX1_fillSecond_197 : decode cX1_fillSecond 197 = .ok (.iadd, 1) := by decide +kernel
theorem dX1_fillSecond_198 : decode cX1_fillSecond 198 = .ok (.iload 5, 2) := by decide +kernel
theorem dX1_fillSecond_200 : decode cX1_fillSecond 200 = .ok (.iastore, 1) := by decide +kernel
theorem dX1_fillSecond_201 : decode cX1_fillSecond 201 = .ok (.iinc 6 (-1), 3) := by decide +kernel
theorem dX1_fillSecond_204 : decode cX1_fillSecond 204 = .ok (.goto (-149), 3) := by decide +kernel
theorem dX1_fillSecond_207 : decode cX1_fillSecond 207 = .ok (.iinc 1 1, 3) := by decide +kernel
theorem dX1_fillSecond_210 : decode cX1_fillSecond 210 = .ok (.goto (-208), 3) := by decide +kernel
theorem dX1_fillSecond_213 : decode cX1_fillSecond 213 = .ok (.return_, 1) := by decide +kernel
theorem dX1_outcome_0 : decode cX1_outcome 0 = .ok (.iload_n 1, 1) := by decide +kernel
theorem dX1_outcome_1 : decode cX1_outcome 1 = .ok (.ifCond .ne 5, 3) := by decide +kernel
theorem dX1_outcome_4 : decode cX1_outcome 4 = .ok (.iconst 0, 1) := by decide +kernel
theorem dX1_outcome_5 : decode cX1_outcome 5 = .ok (.ireturn, 1) := by decide +kernel
theorem dX1_outcome_6 : decode cX1_outcome 6 = .ok (.iload_n 1, 1) := by decide +kernel
theorem dX1_outcome_7 : decode cX1_outcome 7 = .ok (.iload_n 2, 1) := by decide +kernel
theorem dX1_outcome_8 : decode cX1_outcome 8 = .ok (.if_icmp .ne 17, 3) := by decide +kernel
theorem dX1_outcome_11 : decode cX1_outcome 11 = .ok (.aload_n 0, 1) := by decide +kernel
theorem dX1_outcome_12 : decode cX1_outcome 12 = .ok (.getfield 11, 3) := by decide +kernel
theorem dX1_outcome_15 : decode cX1_outcome 15 = .ok (.ifCond .eq 8, 3) := by decide +kernel
theorem dX1_outcome_18 : decode cX1_outcome 18 = .ok (.ldc 95, 2) := by decide +kernel
theorem dX1_outcome_20 : decode cX1_outcome 20 = .ok (.goto 4, 3) := by decide +kernel
theorem dX1_outcome_23 : decode cX1_outcome 23 = .ok (.iconst 0, 1) := by decide +kernel
theorem dX1_outcome_24 : decode cX1_outcome 24 = .ok (.ireturn, 1) := by decide +kernel
theorem dX1_outcome_25 : decode cX1_outcome 25 = .ok (.iload_n 1, 1) := by decide +kernel
theorem dX1_outcome_26 : decode cX1_outcome 26 = .ok (.iload_n 2, 1) := by decide +kernel
theorem dX1_outcome_27 : decode cX1_outcome 27 = .ok (.if_icmp .le 8, 3) := by decide +kernel
theorem dX1_outcome_30 : decode cX1_outcome 30 = .ok (.ldc 95, 2) := by decide +kernel
theorem dX1_outcome_32 : decode cX1_outcome 32 = .ok (.goto 4, 3) := by decide +kernel
theorem dX1_outcome_35 : decode cX1_outcome 35 = .ok (.iconst 0, 1) := by decide +kernel
theorem dX1_outcome_36 : decode cX1_outcome 36 = .ok (.ireturn, 1) := by decide +kernel
theorem dX1_firstCalled_0 : decode cX1_firstCalled 0 = .ok (.aload_n 0, 1) := by decide +kernel
theorem dX1_firstCalled_1 : decode cX1_firstCalled 1 = .ok (.aload_n 0, 1) := by decide +kernel
theorem dX1_firstCalled_2 : decode cX1_firstCalled 2 = .ok (.getfield 18, 3) := by decide +kernel
theorem dX1_firstCalled_5 : decode cX1_firstCalled 5 = .ok (.aload_n 0, 1) := by decide +kernel
theorem dX1_firstCalled_6 : decode cX1_firstCalled 6 = .ok (.getfield 22, 3) := by decide +kernel
theorem dX1_firstCalled_9 : decode cX1_firstCalled 9 = .ok (.invokevirtual 111, 3) := by decide +kernel
theorem dX1_firstCalled_12 : decode cX1_firstCalled 12 = .ok (.ireturn, 1) := by decide +kernel
theorem dX1_isFirst_0 : decode cX1_isFirst 0 = .ok (.iload_n 1, 1) := by decide +kernel
theorem dX1_isFirst_1 : decode cX1_isFirst 1 = .ok (.iload_n 2, 1) := by decide +kernel
theorem dX1_isFirst_2 : decode cX1_isFirst 2 = .ok (.if_icmp .eq 16, 3) := by decide +kernel
theorem dX1_isFirst_5 : decode cX1_isFirst 5 = .ok (.iload_n 1, 1) := by decide +kernel
theorem dX1_isFirst_6 : decode cX1_isFirst 6 = .ok (.iload_n 2, 1) := by decide +kernel
theorem dX1_isFirst_7 : decode cX1_isFirst 7 = .ok (.if_icmp .ge 7, 3) := by decide +kernel
theorem dX1_isFirst_10 : decode cX1_isFirst 10 = .ok (.iconst 1, 1) := by decide +kernel
theorem dX1_isFirst_11 : decode cX1_isFirst 11 = .ok (.goto 11, 3) := by decide +kernel
theorem dX1_isFirst_14 : decode cX1_isFirst 14 = .ok (.iconst 0, 1) := by decide +kernel
theorem dX1_isFirst_15 : decode cX1_isFirst 15 = .ok (.goto 7, 3) := by decide +kernel
theorem dX1_isFirst_18 : decode cX1_isFirst 18 = .ok (.aload_n 0, 1) := by decide +kernel
theorem dX1_isFirst_19 : decode cX1_isFirst 19 = .ok (.getfield 15, 3) := by decide +kernel
theorem dX1_isFirst_22 : decode cX1_isFirst 22 = .ok (.ireturn, 1) := by decide +kernel
theorem dX1_solve_0 : decode cX1_solve 0 = .ok (.iconst 0, 1) := by decide +kernel
theorem dX1_solve_1 : decode cX1_solve 1 = .ok (.istore_n 3, 1) := by decide +kernel
theorem dX1_solve_2 : decode cX1_solve 2 = .ok (.iload_n 3, 1) := by decide +kernel
theorem dX1_solve_3 : decode cX1_solve 3 = .ok (.iload_n 1, 1) := by decide +kernel
theorem dX1_solve_4 : decode cX1_solve 4 = .ok (.if_icmp .gt 42, 3) := by decide +kernel
theorem dX1_solve_7 : decode cX1_solve 7 = .ok (.iload_n 3, 1) := by decide +kernel
theorem dX1_solve_8 : decode cX1_solve 8 = .ok (.iconst 3, 1) := by decide +kernel
theorem dX1_solve_9 : decode cX1_solve 9 = .ok (.if_icmp .ge 37, 3) := by decide +kernel
theorem dX1_solve_12 : decode cX1_solve 12 = .ok (.iconst 0, 1) := by decide +kernel
theorem dX1_solve_13 : decode cX1_solve 13 = .ok (.istore 4, 2) := by decide +kernel
theorem dX1_solve_15 : decode cX1_solve 15 = .ok (.iload 4, 2) := by decide +kernel
theorem dX1_solve_17 : decode cX1_solve 17 = .ok (.iload_n 2, 1) := by decide +kernel
theorem dX1_solve_18 : decode cX1_solve 18 = .ok (.if_icmp .gt 22, 3) := by decide +kernel
theorem dX1_solve_21 : decode cX1_solve 21 = .ok (.iload 4, 2) := by decide +kernel
theorem dX1_solve_23 : decode cX1_solve 23 = .ok (.iconst 3, 1) := by decide +kernel
theorem dX1_solve_24 : decode cX1_solve 24 = .ok (.if_icmp .ge 16, 3) := by decide +kernel
theorem dX1_solve_27 : decode cX1_solve 27 = .ok (.aload_n 0, 1) := by decide +kernel
theorem dX1_solve_28 : decode cX1_solve 28 = .ok (.iload_n 3, 1) := by decide +kernel
theorem dX1_solve_29 : decode cX1_solve 29 = .ok (.iload 4, 2) := by decide +kernel
theorem dX1_solve_31 : decode cX1_solve 31 = .ok (.invokevirtual 115, 3) := by decide +kernel
theorem dX1_solve_34 : decode cX1_solve 34 = .ok (.iinc 4 1, 3) := by decide +kernel
theorem dX1_solve_37 : decode cX1_solve 37 = .ok (.goto (-22), 3) := by decide +kernel
theorem dX1_solve_40 : decode cX1_solve 40 = .ok (.iinc 3 1, 3) := by decide +kernel
theorem dX1_solve_43 : decode cX1_solve 43 = .ok (.goto (-41), 3) := by decide +kernel
theorem dX1_solve_46 : decode cX1_solve 46 = .ok (.aload_n 0, 1) := by decide +kernel
theorem dX1_solve_47 : decode cX1_solve 47 = .ok (.iload_n 1, 1) := by decide +kernel
theorem dX1_solve_48 : decode cX1_solve 48 = .ok (.iload_n 2, 1) := by decide +kernel
theorem dX1_solve_49 : decode cX1_solve 49 = .ok (.invokevirtual 119, 3) := by decide +kernel
theorem dX1_solve_52 : decode cX1_solve 52 = .ok (.ireturn, 1) := by decide +kernel
theorem dX1_valueAt_0 : decode cX1_valueAt 0 = .ok (.aload_n 0, 1) := by decide +kernel
theorem dX1_valueAt_1 : decode cX1_valueAt 1 = .ok (.getfield 56, 3) := by decide +kernel
theorem dX1_valueAt_4 : decode cX1_valueAt 4 = .ok (.iload_n 1, 1) := by decide +kernel
theorem dX1_valueAt_5 : decode cX1_valueAt 5 = .ok (.iload_n 2, 1) := by decide +kernel
theorem dX1_valueAt_6 : decode cX1_valueAt 6 = .ok (.invokestatic 122, 3) := by decide +kernel
theorem dX1_valueAt_9 : decode cX1_valueAt 9 = .ok (.aload_n 0, 1) := by decide +kernel
theorem dX1_valueAt_10 : decode cX1_valueAt 10 = .ok (.getfield 18, 3) := by decide +kernel
theorem dX1_valueAt_13 : decode cX1_valueAt 13 = .ok (.bipush 41, 2) := by decide +kernel
theorem dX1_valueAt_15 : decode cX1_valueAt 15 = .ok (.imul, 1) := by decide +kernel
theorem dX1_valueAt_16 : decode cX1_valueAt 16 = .ok (.iadd, 1) := by decide +kernel
theorem dX1_valueAt_17 : decode cX1_valueAt 17 = .ok (.aload_n 0, 1) := by decide +kernel
theorem dX1_valueAt_18 : decode cX1_valueAt 18 = .ok (.getfield 22, 3) := by decide +kernel
theorem dX1_valueAt_21 : decode cX1_valueAt 21 = .ok (.iadd, 1) := by decide +kernel
theorem dX1_valueAt_22 : decode cX1_valueAt 22 = .ok (.iaload, 1) := by decide +kernel
theorem dX1_valueAt_23 : decode cX1_valueAt 23 = .ok (.ireturn, 1) := by decide +kernel
theorem dX1_fieldOf_0 : decode cX1_fieldOf 0 = .ok (.iload_n 0, 1) := by decide +kernel
theorem dX1_fieldOf_1 : decode cX1_fieldOf 1 = .ok (.ifCond .lt 21, 3) := by decide +kernel
theorem dX1_fieldOf_4 : decode cX1_fieldOf 4 = .ok (.iload_n 0, 1) := by decide +kernel
theorem dX1_fieldOf_5 : decode cX1_fieldOf 5 = .ok (.iconst 3, 1) := by decide +kernel
theorem dX1_fieldOf_6 : decode cX1_fieldOf 6 = .ok (.if_icmp .ge 16, 3) := by decide +kernel
theorem dX1_fieldOf_9 : decode cX1_fieldOf 9 = .ok (.iload_n 1, 1) := by decide +kernel
theorem dX1_fieldOf_10 : decode cX1_fieldOf 10 = .ok (.ifCond .lt 12, 3) := by decide +kernel
theorem dX1_fieldOf_13 : decode cX1_fieldOf 13 = .ok (.iload_n 1, 1) := by decide +kernel
theorem dX1_fieldOf_14 : decode cX1_fieldOf 14 = .ok (.iconst 3, 1) := by decide +kernel
theorem dX1_fieldOf_15 : decode cX1_fieldOf 15 = .ok (.if_icmp .ge 7, 3) := by decide +kernel
theorem dX1_fieldOf_18 : decode cX1_fieldOf 18 = .ok (.iconst 1, 1) := by decide +kernel
theorem dX1_fieldOf_19 : decode cX1_fieldOf 19 = .ok (.goto 4, 3) := by decide +kernel
theorem dX1_fieldOf_22 : decode cX1_fieldOf 22 = .ok (.iconst 0, 1) := by decide +kernel
theorem dX1_fieldOf_23 : decode cX1_fieldOf 23 = .ok (.istore_n 2, 1) := by decide +kernel
theorem dX1_fieldOf_24 : decode cX1_fieldOf 24 = .ok (.iload_n 2, 1) := by decide +kernel
theorem dX1_fieldOf_25 : decode cX1_fieldOf 25 = .ok (.ifCond .eq 15, 3) := by decide +kernel
theorem dX1_fieldOf_28 : decode cX1_fieldOf 28 = .ok (.iload_n 0, 1) := by decide +kernel
theorem dX1_fieldOf_29 : decode cX1_fieldOf 29 = .ok (.iconst 3, 1) := by decide +kernel
theorem dX1_fieldOf_30 : decode cX1_fieldOf 30 = .ok (.imul, 1) := by decide +kernel
theorem dX1_fieldOf_31 : decode cX1_fieldOf 31 = .ok (.iload_n 1, 1) := by decide +kernel
theorem dX1_fieldOf_32 : decode cX1_fieldOf 32 = .ok (.iadd, 1) := by decide +kernel
theorem dX1_fieldOf_33 : decode cX1_fieldOf 33 = .ok (.sipush 1681, 3) := by decide +kernel
theorem dX1_fieldOf_36 : decode cX1_fieldOf 36 = .ok (.imul, 1) := by decide +kernel
theorem dX1_fieldOf_37 : decode cX1_fieldOf 37 = .ok (.goto 4, 3) := by decide +kernel
theorem dX1_fieldOf_40 : decode cX1_fieldOf 40 = .ok (.iconst 0, 1) := by decide +kernel
theorem dX1_fieldOf_41 : decode cX1_fieldOf 41 = .ok (.ireturn, 1) := by decide +kernel
theorem dX1_fillField_0 : decode cX1_fillField 0 = .ok (.iload_n 1, 1) := by decide +kernel
theorem dX1_fillField_1 : decode cX1_fillField 1 = .ok (.iload_n 2, 1) := by decide +kernel
theorem dX1_fillField_2 : decode cX1_fillField 2 = .ok (.invokestatic 122, 3) := by decide +kernel
theorem dX1_fillField_5 : decode cX1_fillField 5 = .ok (.istore_n 3, 1) := by decide +kernel
theorem dX1_fillField_6 : decode cX1_fillField 6 = .ok (.iload_n 1, 1) := by decide +kernel
theorem dX1_fillField_7 : decode cX1_fillField 7 = .ok (.iconst 1, 1) := by decide +kernel
theorem dX1_fillField_8 : decode cX1_fillField 8 = .ok (.isub, 1) := by decide +kernel
theorem dX1_fillField_9 : decode cX1_fillField 9 = .ok (.iload_n 2, 1) := by decide +kernel
theorem dX1_fillField_10 : decode cX1_fillField 10 = .ok (.invokestatic 122, 3) := by decide +kernel
theorem dX1_fillField_13 : decode cX1_fillField 13 = .ok (.istore 4, 2) := by decide +kernel
theorem dX1_fillField_15 : decode cX1_fillField 15 = .ok (.iload_n 1, 1) := by decide +kernel
theorem dX1_fillField_16 : decode cX1_fillField 16 = .ok (.iload_n 2, 1) := by decide +kernel
theorem dX1_fillField_17 : decode cX1_fillField 17 = .ok (.iconst 1, 1) := by decide +kernel
theorem dX1_fillField_18 : decode cX1_fillField 18 = .ok (.isub, 1) := by decide +kernel
theorem dX1_fillField_19 : decode cX1_fillField 19 = .ok (.invokestatic 122, 3) := by decide +kernel
theorem dX1_fillField_22 : decode cX1_fillField 22 = .ok (.istore 5, 2) := by decide +kernel
theorem dX1_fillField_24 : decode cX1_fillField 24 = .ok (.aload_n 0, 1) := by decide +kernel
theorem dX1_fillField_25 : decode cX1_fillField 25 = .ok (.getfield 59, 3) := by decide +kernel
theorem dX1_fillField_28 : decode cX1_fillField 28 = .ok (.iconst (-1), 1) := by decide +kernel
theorem dX1_fillField_29 : decode cX1_fillField 29 = .ok (.invokestatic 125, 3) := by decide +kernel
theorem dX1_fillField_32 : decode cX1_fillField 32 = .ok (.bipush 40, 2) := by decide +kernel
theorem dX1_fillField_34 : decode cX1_fillField 34 = .ok (.istore 6, 2) := by decide +kernel
theorem dX1_fillField_36 : decode cX1_fillField 36 = .ok (.iload 6, 2) := by decide +kernel
theorem dX1_fillField_38 : decode cX1_fillField 38 = .ok (.aload_n 0, 1) := by decide +kernel
theorem dX1_fillField_39 : decode cX1_fillField 39 = .ok (.getfield 18, 3) := by decide +kernel
theorem dX1_fillField_42 : decode cX1_fillField 42 = .ok (.if_icmp .lt 166, 3) := by decide +kernel
theorem dX1_fillField_45 : decode cX1_fillField 45 = .ok (.iload 6, 2) := by decide +kernel
theorem dX1_fillField_47 : decode cX1_fillField 47 = .ok (.iconst 1, 1) := by decide +kernel
theorem dX1_fillField_48 : decode cX1_fillField 48 = .ok (.if_icmp .lt 160, 3) := by decide +kernel
theorem dX1_fillField_51 : decode cX1_fillField 51 = .ok (.ldc 131, 2) := by decide +kernel
theorem dX1_fillField_53 : decode cX1_fillField 53 = .ok (.istore 7, 2) := by decide +kernel
theorem dX1_fillField_55 : decode cX1_fillField 55 = .ok (.bipush 40, 2) := by decide +kernel
theorem dX1_fillField_57 : decode cX1_fillField 57 = .ok (.istore 8, 2) := by decide +kernel
theorem dX1_fillField_59 : decode cX1_fillField 59 = .ok (.iload 8, 2) := by decide +kernel
theorem dX1_fillField_61 : decode cX1_fillField 61 = .ok (.aload_n 0, 1) := by decide +kernel
theorem dX1_fillField_62 : decode cX1_fillField 62 = .ok (.getfield 22, 3) := by decide +kernel
theorem dX1_fillField_65 : decode cX1_fillField 65 = .ok (.if_icmp .lt 137, 3) := by decide +kernel
theorem dX1_fillField_68 : decode cX1_fillField 68 = .ok (.iload 8, 2) := by decide +kernel
theorem dX1_fillField_70 : decode cX1_fillField 70 = .ok (.iconst 1, 1) := by decide +kernel
theorem dX1_fillField_71 : decode cX1_fillField 71 = .ok (.if_icmp .lt 131, 3) := by decide +kernel
theorem dX1_fillField_74 : decode cX1_fillField 74 = .ok (.iload 6, 2) := by decide +kernel
theorem dX1_fillField_76 : decode cX1_fillField 76 = .ok (.bipush 41, 2) := by decide +kernel
theorem dX1_fillField_78 : decode cX1_fillField 78 = .ok (.imul, 1) := by decide +kernel
theorem dX1_fillField_79 : decode cX1_fillField 79 = .ok (.iload 8, 2) := by decide +kernel
theorem dX1_fillField_81 : decode cX1_fillField 81 = .ok (.iadd, 1) := by decide +kernel
theorem dX1_fillField_82 : decode cX1_fillField 82 = .ok (.istore 9, 2) := by decide +kernel
theorem dX1_fillField_84 : decode cX1_fillField 84 = .ok (.aload_n 0, 1) := by decide +kernel
theorem dX1_fillField_85 : decode cX1_fillField 85 = .ok (.iload 6, 2) := by decide +kernel
theorem dX1_fillField_87 : decode cX1_fillField 87 = .ok (.iload 8, 2) := by decide +kernel
theorem dX1_fillField_89 : decode cX1_fillField 89 = .ok (.iload_n 1, 1) := by decide +kernel
theorem dX1_fillField_90 : decode cX1_fillField 90 = .ok (.iload_n 2, 1) := by decide +kernel
theorem dX1_fillField_91 : decode cX1_fillField 91 = .ok (.invokevirtual 132, 3) := by decide +kernel
theorem dX1_fillField_94 : decode cX1_fillField 94 = .ok (.istore 10, 2) := by decide +kernel
theorem dX1_fillField_96 : decode cX1_fillField 96 = .ok (.aload_n 0, 1) := by decide +kernel
theorem dX1_fillField_97 : decode cX1_fillField 97 = .ok (.iload 6, 2) := by decide +kernel
theorem dX1_fillField_99 : decode cX1_fillField 99 = .ok (.iload 8, 2) := by decide +kernel
theorem dX1_fillField_101 : decode cX1_fillField 101 = .ok (.invokevirtual 111, 3) := by decide +kernel
theorem dX1_fillField_104 : decode cX1_fillField 104 = .ok (.ifCond .eq 20, 3) := by decide +kernel
theorem dX1_fillField_107 : decode cX1_fillField 107 = .ok (.iload 10, 2) := by decide +kernel
theorem dX1_fillField_109 : decode cX1_fillField 109 = .ok (.aload_n 0, 1) := by decide +kernel
theorem dX1_fillField_110 : decode cX1_fillField 110 = .ok (.getfield 59, 3) := by decide +kernel
theorem dX1_fillField_113 : decode cX1_fillField 113 = .ok (.iload 8, 2) := by decide +kernel
theorem dX1_fillField_115 : decode cX1_fillField 115 = .ok (.iaload, 1) := by decide +kernel
theorem dX1_fillField_116 : decode cX1_fillField 116 = .ok (.invokestatic 108, 3) := by decide +kernel
theorem dX1_fillField_119 : decode cX1_fillField 119 = .ok (.istore 10, 2) := by decide +kernel
theorem dX1_fillField_121 : decode cX1_fillField 121 = .ok (.goto 12, 3) := by decide +kernel
theorem dX1_fillField_124 : decode cX1_fillField 124 = .ok (.iload 10, 2) := by decide +kernel
theorem dX1_fillField_126 : decode cX1_fillField 126 = .ok (.iload 7, 2) := by decide +kernel
theorem dX1_fillField_128 : decode cX1_fillField 128 = .ok (.invokestatic 103, 3) := by decide +kernel
theorem dX1_fillField_131 : decode cX1_fillField 131 = .ok (.istore 10, 2) := by decide +kernel
theorem dX1_fillField_133 : decode cX1_fillField 133 = .ok (.aload_n 0, 1) := by decide +kernel
theorem dX1_fillField_134 : decode cX1_fillField 134 = .ok (.getfield 56, 3) := by decide +kernel
theorem dX1_fillField_137 : decode cX1_fillField 137 = .ok (.iload_n 3, 1) := by decide +kernel
theorem dX1_fillField_138 : decode cX1_fillField 138 = .ok (.iload 9, 2) := by decide +kernel
theorem dX1_fillField_140 : decode cX1_fillField 140 = .ok (.iadd, 1) := by decide +kernel
theorem dX1_fillField_141 : decode cX1_fillField 141 = .ok (.iload 10, 2) := by decide +kernel
theorem dX1_fillField_143 : decode cX1_fillField 143 = .ok (.iastore, 1) := by decide +kernel
theorem dX1_fillField_144 : decode cX1_fillField 144 = .ok (.iload_n 1, 1) := by decide +kernel
theorem dX1_fillField_145 : decode cX1_fillField 145 = .ok (.ifCond .le 30, 3) := by decide +kernel
theorem dX1_fillField_148 : decode cX1_fillField 148 = .ok (.aload_n 0, 1) := by decide +kernel
theorem dX1_fillField_149 : decode cX1_fillField 149 = .ok (.getfield 59, 3) := by decide +kernel
theorem dX1_fillField_152 : decode cX1_fillField 152 = .ok (.iload 8, 2) := by decide +kernel
theorem dX1_fillField_154 : decode cX1_fillField 154 = .ok (.aload_n 0, 1) := by decide +kernel
theorem dX1_fillField_155 : decode cX1_fillField 155 = .ok (.getfield 59, 3) := by decide +kernel
theorem dX1_fillField_158 : decode cX1_fillField 158 = .ok (.iload 8, 2) := by decide +kernel
theorem dX1_fillField_160 : decode cX1_fillField 160 = .ok (.iaload, 1) := by decide +kernel
theorem dX1_fillField_161 : decode cX1_fillField 161 = .ok (.aload_n 0, 1) := by decide +kernel
theorem dX1_fillField_162 : decode cX1_fillField 162 = .ok (.getfield 56, 3) := by decide +kernel
theorem dX1_fillField_165 : decode cX1_fillField 165 = .ok (.iload 4, 2) := by decide +kernel
theorem dX1_fillField_167 : decode cX1_fillField 167 = .ok (.iload 9, 2) := by decide +kernel
theorem dX1_fillField_169 : decode cX1_fillField 169 = .ok (.iadd, 1) := by decide +kernel
theorem dX1_fillField_170 : decode cX1_fillField 170 = .ok (.iaload, 1) := by decide +kernel
theorem dX1_fillField_171 : decode cX1_fillField 171 = .ok (.invokestatic 108, 3) := by decide +kernel
theorem dX1_fillField_174 : decode cX1_fillField 174 = .ok (.iastore, 1) := by decide +kernel
theorem dX1_fillField_175 : decode cX1_fillField 175 = .ok (.iload_n 2, 1) := by decide +kernel
theorem dX1_fillField_176 : decode cX1_fillField 176 = .ok (.ifCond .le 20, 3) := by decide +kernel
theorem dX1_fillField_179 : decode cX1_fillField 179 = .ok (.iload 7, 2) := by decide +kernel
theorem dX1_fillField_181 : decode cX1_fillField 181 = .ok (.aload_n 0, 1) := by decide +kernel
theorem dX1_fillField_182 : decode cX1_fillField 182 = .ok (.getfield 56, 3) := by decide +kernel
theorem dX1_fillField_185 : decode cX1_fillField 185 = .ok (.iload 5, 2) := by decide +kernel
theorem dX1_fillField_187 : decode cX1_fillField 187 = .ok (.iload 9, 2) := by decide +kernel
theorem dX1_fillField_189 : decode cX1_fillField 189 = .ok (.iadd, 1) := by decide +kernel
theorem dX1_fillField_190 : decode cX1_fillField 190 = .ok (.iaload, 1) := by decide +kernel
theorem dX1_fillField_191 : decode cX1_fillField 191 = .ok (.invokestatic 103, 3) := by decide +kernel
theorem dX1_fillField_194 : decode cX1_fillField 194 = .ok (.istore 7, 2) := by decide +kernel
theorem dX1_fillField_196 : decode cX1_fillField 196 = .ok (.iinc 8 (-1), 3) := by decide +kernel
theorem dX1_fillField_199 : decode cX1_fillField 199 = .ok (.goto (-140), 3) := by decide +kernel
theorem dX1_fillField_202 : decode cX1_fillField 202 = .ok (.iinc 6 (-1), 3) := by decide +kernel
theorem dX1_fillField_205 : decode cX1_fillField 205 = .ok (.goto (-169), 3) := by decide +kernel
theorem dX1_fillField_208 : decode cX1_fillField 208 = .ok (.return_, 1) := by decide +kernel
theorem dX1_valueOfTry_0 : decode cX1_valueOfTry 0 = .ok (.aload_n 0, 1) := by decide +kernel
theorem dX1_valueOfTry_1 : decode cX1_valueOfTry 1 = .ok (.iload_n 1, 1) := by decide +kernel
theorem dX1_valueOfTry_2 : decode cX1_valueOfTry 2 = .ok (.iload_n 2, 1) := by decide +kernel
theorem dX1_valueOfTry_3 : decode cX1_valueOfTry 3 = .ok (.invokevirtual 111, 3) := by decide +kernel
theorem dX1_valueOfTry_6 : decode cX1_valueOfTry 6 = .ok (.ifCond .eq 44, 3) := by decide +kernel
theorem dX1_valueOfTry_9 : decode cX1_valueOfTry 9 = .ok (.iload 4, 2) := by decide +kernel
theorem dX1_valueOfTry_11 : decode cX1_valueOfTry 11 = .ok (.ifCond .le 10, 3) := by decide +kernel
theorem dX1_valueOfTry_14 : decode cX1_valueOfTry 14 = .ok (.aload_n 0, 1) := by decide +kernel
theorem dX1_valueOfTry_15 : decode cX1_valueOfTry 15 = .ok (.getfield 47, 3) := by decide +kernel
theorem dX1_valueOfTry_18 : decode cX1_valueOfTry 18 = .ok (.goto 7, 3) := by decide +kernel
theorem dX1_valueOfTry_21 : decode cX1_valueOfTry 21 = .ok (.aload_n 0, 1) := by decide +kernel
theorem dX1_valueOfTry_22 : decode cX1_valueOfTry 22 = .ok (.getfield 44, 3) := by decide +kernel
theorem dX1_valueOfTry_25 : decode cX1_valueOfTry 25 = .ok (.astore 5, 2) := by decide +kernel
theorem dX1_valueOfTry_27 : decode cX1_valueOfTry 27 = .ok (.aload_n 0, 1) := by decide +kernel
theorem dX1_valueOfTry_28 : decode cX1_valueOfTry 28 = .ok (.getfield 37, 3) := by decide +kernel
theorem dX1_valueOfTry_31 : decode cX1_valueOfTry 31 = .ok (.iload_n 1, 1) := by decide +kernel
theorem dX1_valueOfTry_32 : decode cX1_valueOfTry 32 = .ok (.iaload, 1) := by decide +kernel
theorem dX1_valueOfTry_33 : decode cX1_valueOfTry 33 = .ok (.aload 5, 2) := by decide +kernel
theorem dX1_valueOfTry_35 : decode cX1_valueOfTry 35 = .ok (.iload_n 1, 1) := by decide +kernel
theorem dX1_valueOfTry_36 : decode cX1_valueOfTry 36 = .ok (.bipush 41, 2) := by decide +kernel
theorem dX1_valueOfTry_38 : decode cX1_valueOfTry 38 = .ok (.imul, 1) := by decide +kernel
theorem dX1_valueOfTry_39 : decode cX1_valueOfTry 39 = .ok (.iload_n 2, 1) := by decide +kernel
theorem dX1_valueOfTry_40 : decode cX1_valueOfTry 40 = .ok (.iadd, 1) := by decide +kernel
theorem dX1_valueOfTry_41 : decode cX1_valueOfTry 41 = .ok (.iaload, 1) := by decide +kernel
theorem dX1_valueOfTry_42 : decode cX1_valueOfTry 42 = .ok (.aload 5, 2) := by decide +kernel
theorem dX1_valueOfTry_44 : decode cX1_valueOfTry 44 = .ok (.iload_n 2, 1) := by decide +kernel
theorem dX1_valueOfTry_45 : decode cX1_valueOfTry 45 = .ok (.iaload, 1) := by decide +kernel
theorem dX1_valueOfTry_46 : decode cX1_valueOfTry 46 = .ok (.invokestatic 100, 3) := by decide +kernel
theorem dX1_valueOfTry_49 : decode cX1_valueOfTry 49 = .ok (.ireturn, 1) := by decide +kernel
theorem dX1_valueOfTry_50 : decode cX1_valueOfTry 50 = .ok (.iload_n 3, 1) := by decide +kernel
theorem dX1_valueOfTry_51 : decode cX1_valueOfTry 51 = .ok (.ifCond .le 10, 3) := by decide +kernel
theorem dX1_valueOfTry_54 : decode cX1_valueOfTry 54 = .ok (.aload_n 0, 1) := by decide +kernel
theorem dX1_valueOfTry_55 : decode cX1_valueOfTry 55 = .ok (.getfield 53, 3) := by decide +kernel
theorem dX1_valueOfTry_58 : decode cX1_valueOfTry 58 = .ok (.goto 7, 3) := by decide +kernel
theorem dX1_valueOfTry_61 : decode cX1_valueOfTry 61 = .ok (.aload_n 0, 1) := by decide +kernel
theorem dX1_valueOfTry_62 : decode cX1_valueOfTry 62 = .ok (.getfield 50, 3) := by decide +kernel
theorem dX1_valueOfTry_65 : decode cX1_valueOfTry 65 = .ok (.astore 5, 2) := by decide +kernel
theorem dX1_valueOfTry_67 : decode cX1_valueOfTry 67 = .ok (.aload_n 0, 1) := by decide +kernel
theorem dX1_valueOfTry_68 : decode cX1_valueOfTry 68 = .ok (.getfield 41, 3) := by decide +kernel
theorem dX1_valueOfTry_71 : decode cX1_valueOfTry 71 = .ok (.iload_n 2, 1) := by decide +kernel
theorem dX1_valueOfTry_72 : decode cX1_valueOfTry 72 = .ok (.iaload, 1) := by decide +kernel
theorem dX1_valueOfTry_73 : decode cX1_valueOfTry 73 = .ok (.aload 5, 2) := by decide +kernel
theorem dX1_valueOfTry_75 : decode cX1_valueOfTry 75 = .ok (.iload_n 2, 1) := by decide +kernel
theorem dX1_valueOfTry_76 : decode cX1_valueOfTry 76 = .ok (.bipush 41, 2) := by decide +kernel
theorem dX1_valueOfTry_78 : decode cX1_valueOfTry 78 = .ok (.imul, 1) := by decide +kernel
theorem dX1_valueOfTry_79 : decode cX1_valueOfTry 79 = .ok (.iload_n 1, 1) := by decide +kernel
theorem dX1_valueOfTry_80 : decode cX1_valueOfTry 80 = .ok (.iadd, 1) := by decide +kernel
theorem dX1_valueOfTry_81 : decode cX1_valueOfTry 81 = .ok (.iaload, 1) := by decide +kernel
theorem dX1_valueOfTry_82 : decode cX1_valueOfTry 82 = .ok (.aload 5, 2) := by decide +kernel
theorem dX1_valueOfTry_84 : decode cX1_valueOfTry 84 = .ok (.iload_n 1, 1) := by decide +kernel
theorem dX1_valueOfTry_85 : decode cX1_valueOfTry 85 = .ok (.iaload, 1) := by decide +kernel
theorem dX1_valueOfTry_86 : decode cX1_valueOfTry 86 = .ok (.invokestatic 100, 3) := by decide +kernel
theorem dX1_valueOfTry_89 : decode cX1_valueOfTry 89 = .ok (.ireturn, 1) := by decide +kernel
theorem dX1_chosen_0 : decode cX1_chosen 0 = .ok (.aload_n 0, 1) := by decide +kernel
theorem dX1_chosen_1 : decode cX1_chosen 1 = .ok (.iload_n 1, 1) := by decide +kernel
theorem dX1_chosen_2 : decode cX1_chosen 2 = .ok (.iload_n 2, 1) := by decide +kernel
theorem dX1_chosen_3 : decode cX1_chosen 3 = .ok (.invokevirtual 119, 3) := by decide +kernel
theorem dX1_chosen_6 : decode cX1_chosen 6 = .ok (.istore_n 3, 1) := by decide +kernel
theorem dX1_chosen_7 : decode cX1_chosen 7 = .ok (.iload_n 3, 1) := by decide +kernel
theorem dX1_chosen_8 : decode cX1_chosen 8 = .ok (.aload_n 0, 1) := by decide +kernel
theorem dX1_chosen_9 : decode cX1_chosen 9 = .ok (.aload_n 0, 1) := by decide +kernel
theorem dX1_chosen_10 : decode cX1_chosen 10 = .ok (.getfield 18, 3) := by decide +kernel
theorem dX1_chosen_13 : decode cX1_chosen 13 = .ok (.aload_n 0, 1) := by decide +kernel
theorem dX1_chosen_14 : decode cX1_chosen 14 = .ok (.getfield 22, 3) := by decide +kernel
theorem dX1_chosen_17 : decode cX1_chosen 17 = .ok (.iload_n 1, 1) := by decide +kernel
theorem dX1_chosen_18 : decode cX1_chosen 18 = .ok (.iload_n 2, 1) := by decide +kernel
theorem dX1_chosen_19 : decode cX1_chosen 19 = .ok (.invokevirtual 132, 3) := by decide +kernel
theorem dX1_chosen_22 : decode cX1_chosen 22 = .ok (.if_icmp .ne 5, 3) := by decide +kernel
theorem dX1_chosen_25 : decode cX1_chosen 25 = .ok (.iconst 0, 1) := by decide +kernel
theorem dX1_chosen_26 : decode cX1_chosen 26 = .ok (.ireturn, 1) := by decide +kernel
theorem dX1_chosen_27 : decode cX1_chosen 27 = .ok (.aload_n 0, 1) := by decide +kernel
theorem dX1_chosen_28 : decode cX1_chosen 28 = .ok (.invokevirtual 136, 3) := by decide +kernel
theorem dX1_chosen_31 : decode cX1_chosen 31 = .ok (.istore 4, 2) := by decide +kernel
theorem dX1_chosen_33 : decode cX1_chosen 33 = .ok (.iload 4, 2) := by decide +kernel
theorem dX1_chosen_35 : decode cX1_chosen 35 = .ok (.ifCond .eq 13, 3) := by decide +kernel
theorem dX1_chosen_38 : decode cX1_chosen 38 = .ok (.iload_n 1, 1) := by decide +kernel
theorem dX1_chosen_39 : decode cX1_chosen 39 = .ok (.iconst 1, 1) := by decide +kernel
theorem dX1_chosen_40 : decode cX1_chosen 40 = .ok (.isub, 1) := by decide +kernel
theorem dX1_chosen_41 : decode cX1_chosen 41 = .ok (.iload_n 2, 1) := by decide +kernel
theorem dX1_chosen_42 : decode cX1_chosen 42 = .ok (.invokestatic 122, 3) := by decide +kernel
theorem dX1_chosen_45 : decode cX1_chosen 45 = .ok (.goto 10, 3) := by decide +kernel
theorem dX1_chosen_48 : decode cX1_chosen 48 = .ok (.iload_n 1, 1) := by decide +kernel
theorem dX1_chosen_49 : decode cX1_chosen 49 = .ok (.iload_n 2, 1) := by decide +kernel
theorem dX1_chosen_50 : decode cX1_chosen 50 = .ok (.iconst 1, 1) := by decide +kernel
theorem dX1_chosen_51 : decode cX1_chosen 51 = .ok (.isub, 1) := by decide +kernel
theorem dX1_chosen_52 : decode cX1_chosen 52 = .ok (.invokestatic 122, 3) := by decide +kernel
theorem dX1_chosen_55 : decode cX1_chosen 55 = .ok (.istore 5, 2) := by decide +kernel
theorem dX1_chosen_57 : decode cX1_chosen 57 = .ok (.iload 4, 2) := by decide +kernel
theorem dX1_chosen_59 : decode cX1_chosen 59 = .ok (.ifCond .eq 10, 3) := by decide +kernel
theorem dX1_chosen_62 : decode cX1_chosen 62 = .ok (.aload_n 0, 1) := by decide +kernel
theorem dX1_chosen_63 : decode cX1_chosen 63 = .ok (.getfield 18, 3) := by decide +kernel
theorem dX1_chosen_66 : decode cX1_chosen 66 = .ok (.goto 7, 3) := by decide +kernel
theorem dX1_chosen_69 : decode cX1_chosen 69 = .ok (.aload_n 0, 1) := by decide +kernel
theorem dX1_chosen_70 : decode cX1_chosen 70 = .ok (.getfield 22, 3) := by decide +kernel
theorem dX1_chosen_73 : decode cX1_chosen 73 = .ok (.iconst 1, 1) := by decide +kernel
theorem dX1_chosen_74 : decode cX1_chosen 74 = .ok (.iadd, 1) := by decide +kernel
theorem dX1_chosen_75 : decode cX1_chosen 75 = .ok (.istore 6, 2) := by decide +kernel
theorem dX1_chosen_77 : decode cX1_chosen 77 = .ok (.iload 6, 2) := by decide +kernel
theorem dX1_chosen_79 : decode cX1_chosen 79 = .ok (.bipush 40, 2) := by decide +kernel
theorem dX1_chosen_81 : decode cX1_chosen 81 = .ok (.if_icmp .gt 56, 3) := by decide +kernel
theorem dX1_chosen_84 : decode cX1_chosen 84 = .ok (.iload 4, 2) := by decide +kernel
theorem dX1_chosen_86 : decode cX1_chosen 86 = .ok (.ifCond .eq 16, 3) := by decide +kernel
theorem dX1_chosen_89 : decode cX1_chosen 89 = .ok (.iload 6, 2) := by decide +kernel
theorem dX1_chosen_91 : decode cX1_chosen 91 = .ok (.bipush 41, 2) := by decide +kernel
theorem dX1_chosen_93 : decode cX1_chosen 93 = .ok (.imul, 1) := by decide +kernel
theorem dX1_chosen_94 : decode cX1_chosen 94 = .ok (.aload_n 0, 1) := by decide +kernel
theorem dX1_chosen_95 : decode cX1_chosen 95 = .ok (.getfield 22, 3) := by decide +kernel
theorem dX1_chosen_98 : decode cX1_chosen 98 = .ok (.iadd, 1) := by decide +kernel
theorem dX1_chosen_99 : decode cX1_chosen 99 = .ok (.goto 13, 3) := by decide +kernel
theorem dX1_chosen_102 : decode cX1_chosen 102 = .ok (.aload_n 0, 1) := by decide +kernel
theorem dX1_chosen_103 : decode cX1_chosen 103 = .ok (.getfield 18, 3) := by decide +kernel
theorem dX1_chosen_106 : decode cX1_chosen 106 = .ok (.bipush 41, 2) := by decide +kernel
theorem dX1_chosen_108 : decode cX1_chosen 108 = .ok (.imul, 1) := by decide +kernel
theorem dX1_chosen_109 : decode cX1_chosen 109 = .ok (.iload 6, 2) := by decide +kernel
theorem dX1_chosen_111 : decode cX1_chosen 111 = .ok (.iadd, 1) := by decide +kernel
theorem dX1_chosen_112 : decode cX1_chosen 112 = .ok (.istore 7, 2) := by decide +kernel
theorem dX1_chosen_114 : decode cX1_chosen 114 = .ok (.aload_n 0, 1) := by decide +kernel
theorem dX1_chosen_115 : decode cX1_chosen 115 = .ok (.getfield 56, 3) := by decide +kernel
theorem dX1_chosen_118 : decode cX1_chosen 118 = .ok (.iload 5, 2) := by decide +kernel
theorem dX1_chosen_120 : decode cX1_chosen 120 = .ok (.iload 7, 2) := by decide +kernel
theorem dX1_chosen_122 : decode cX1_chosen 122 = .ok (.iadd, 1) := by decide +kernel
theorem dX1_chosen_123 : decode cX1_chosen 123 = .ok (.iaload, 1) := by decide +kernel
theorem dX1_chosen_124 : decode cX1_chosen 124 = .ok (.iload_n 3, 1) := by decide +kernel
theorem dX1_chosen_125 : decode cX1_chosen 125 = .ok (.if_icmp .ne 6, 3) := by decide +kernel
theorem dX1_chosen_128 : decode cX1_chosen 128 = .ok (.iload 6, 2) := by decide +kernel
theorem dX1_chosen_130 : decode cX1_chosen 130 = .ok (.ireturn, 1) := by decide +kernel
theorem dX1_chosen_131 : decode cX1_chosen 131 = .ok (.iinc 6 1, 3) := by decide +kernel
theorem dX1_chosen_134 : decode cX1_chosen 134 = .ok (.goto (-57), 3) := by decide +kernel
theorem dX1_chosen_137 : decode cX1_chosen 137 = .ok (.iconst 0, 1) := by decide +kernel
theorem dX1_chosen_138 : decode cX1_chosen 138 = .ok (.ireturn, 1) := by decide +kernel
theorem dX2_init_0 : decode cX2_init 0 = .ok (.aload_n 0, 1) := by decide +kernel
theorem dX2_init_1 : decode cX2_init 1 = .ok (.invokespecial 3, 3) := by decide +kernel
theorem dX2_init_4 : decode cX2_init 4 = .ok (.aload_n 0, 1) := by decide +kernel
theorem dX2_init_5 : decode cX2_init 5 = .ok (.iconst 0, 1) := by decide +kernel
theorem dX2_init_6 : decode cX2_init 6 = .ok (.putfield 9, 3) := by decide +kernel
theorem dX2_init_9 : decode cX2_init 9 = .ok (.aload_n 0, 1) := by decide +kernel
theorem dX2_init_10 : decode cX2_init 10 = .ok (.iconst 0, 1) := by decide +kernel
theorem dX2_init_11 : decode cX2_init 11 = .ok (.putfield 15, 3) := by decide +kernel
theorem dX2_init_14 : decode cX2_init 14 = .ok (.aload_n 0, 1) := by decide +kernel
theorem dX2_init_15 : decode cX2_init 15 = .ok (.bipush 9, 2) := by decide +kernel
theorem dX2_init_17 : decode cX2_init 17 = .ok (.bipush 42, 2) := by decide +kernel
theorem dX2_init_19 : decode cX2_init 19 = .ok (.multianewarray 18 2, 4) := by decide +kernel
theorem dX2_init_23 : decode cX2_init 23 = .ok (.putfield 20, 3) := by decide +kernel
theorem dX2_init_26 : decode cX2_init 26 = .ok (.aload_n 0, 1) := by decide +kernel
theorem dX2_init_27 : decode cX2_init 27 = .ok (.iconst 3, 1) := by decide +kernel
theorem dX2_init_28 : decode cX2_init 28 = .ok (.newarray .int, 2) := by decide +kernel
theorem dX2_init_30 : decode cX2_init 30 = .ok (.putfield 23, 3) := by decide +kernel
theorem dX2_init_33 : decode cX2_init 33 = .ok (.aload_n 0, 1) := by decide +kernel
theorem dX2_init_34 : decode cX2_init 34 = .ok (.iconst 4, 1) := by decide +kernel
theorem dX2_init_35 : decode cX2_init 35 = .ok (.sipush 242, 3) := by decide +kernel
theorem dX2_init_38 : decode cX2_init 38 = .ok (.multianewarray 18 2, 4) := by decide +kernel
theorem dX2_init_42 : decode cX2_init 42 = .ok (.putfield 27, 3) := by decide +kernel
theorem dX2_init_45 : decode cX2_init 45 = .ok (.aload_n 0, 1) := by decide +kernel
theorem dX2_init_46 : decode cX2_init 46 = .ok (.iconst 0, 1) := by decide +kernel
theorem dX2_init_47 : decode cX2_init 47 = .ok (.putfield 30, 3) := by decide +kernel
theorem dX2_init_50 : decode cX2_init 50 = .ok (.aload_n 0, 1) := by decide +kernel
theorem dX2_init_51 : decode cX2_init 51 = .ok (.iconst 0, 1) := by decide +kernel
theorem dX2_init_52 : decode cX2_init 52 = .ok (.putfield 33, 3) := by decide +kernel
theorem dX2_init_55 : decode cX2_init 55 = .ok (.aload_n 0, 1) := by decide +kernel
theorem dX2_init_56 : decode cX2_init 56 = .ok (.bipush 42, 2) := by decide +kernel
theorem dX2_init_58 : decode cX2_init 58 = .ok (.newarray .int, 2) := by decide +kernel
theorem dX2_init_60 : decode cX2_init 60 = .ok (.putfield 36, 3) := by decide +kernel
theorem dX2_init_63 : decode cX2_init 63 = .ok (.aload_n 0, 1) := by decide +kernel
theorem dX2_init_64 : decode cX2_init 64 = .ok (.sipush 1764, 3) := by decide +kernel
theorem dX2_init_67 : decode cX2_init 67 = .ok (.newarray .int, 2) := by decide +kernel
theorem dX2_init_69 : decode cX2_init 69 = .ok (.putfield 39, 3) := by decide +kernel
theorem dX2_init_72 : decode cX2_init 72 = .ok (.aload_n 0, 1) := by decide +kernel
theorem dX2_init_73 : decode cX2_init 73 = .ok (.bipush 42, 2) := by decide +kernel
theorem dX2_init_75 : decode cX2_init 75 = .ok (.newarray .int, 2) := by decide +kernel
theorem dX2_init_77 : decode cX2_init 77 = .ok (.putfield 42, 3) := by decide +kernel
theorem dX2_init_80 : decode cX2_init 80 = .ok (.aload_n 0, 1) := by decide +kernel
theorem dX2_init_81 : decode cX2_init 81 = .ok (.bipush 42, 2) := by decide +kernel
theorem dX2_init_83 : decode cX2_init 83 = .ok (.newarray .int, 2) := by decide +kernel
theorem dX2_init_85 : decode cX2_init 85 = .ok (.putfield 45, 3) := by decide +kernel
theorem dX2_init_88 : decode cX2_init 88 = .ok (.aload_n 0, 1) := by decide +kernel
theorem dX2_init_89 : decode cX2_init 89 = .ok (.bipush 42, 2) := by decide +kernel
theorem dX2_init_91 : decode cX2_init 91 = .ok (.newarray .int, 2) := by decide +kernel
theorem dX2_init_93 : decode cX2_init 93 = .ok (.putfield 48, 3) := by decide +kernel
theorem dX2_init_96 : decode cX2_init 96 = .ok (.return_, 1) := by decide +kernel
theorem dX2_prepare_0 : decode cX2_prepare 0 = .ok (.aload_n 0, 1) := by decide +kernel
theorem dX2_prepare_1 : decode cX2_prepare 1 = .ok (.aload_n 3, 1) := by decide +kernel
theorem dX2_prepare_2 : decode cX2_prepare 2 = .ok (.getfield 51, 3) := by decide +kernel
theorem dX2_prepare_5 : decode cX2_prepare 5 = .ok (.putfield 15, 3) := by decide +kernel
theorem dX2_prepare_8 : decode cX2_prepare 8 = .ok (.iconst 0, 1) := by decide +kernel
theorem dX2_prepare_9 : decode cX2_prepare 9 = .ok (.istore 4, 2) := by decide +kernel
theorem dX2_prepare_11 : decode cX2_prepare 11 = .ok (.iload 4, 2) := by decide +kernel
theorem dX2_prepare_13 : decode cX2_prepare 13 = .ok (.iconst 3, 1) := by decide +kernel
theorem dX2_prepare_14 : decode cX2_prepare 14 = .ok (.if_icmp .ge 110, 3) := by decide +kernel
theorem dX2_prepare_17 : decode cX2_prepare 17 = .ok (.aload_n 0, 1) := by decide +kernel
theorem dX2_prepare_18 : decode cX2_prepare 18 = .ok (.getfield 23, 3) := by decide +kernel
theorem dX2_prepare_21 : decode cX2_prepare 21 = .ok (.iload 4, 2) := by decide +kernel
theorem dX2_prepare_23 : decode cX2_prepare 23 = .ok (.iconst 0, 1) := by decide +kernel
theorem dX2_prepare_24 : decode cX2_prepare 24 = .ok (.iastore, 1) := by decide +kernel
theorem dX2_prepare_25 : decode cX2_prepare 25 = .ok (.iconst 1, 1) := by decide +kernel
theorem dX2_prepare_26 : decode cX2_prepare 26 = .ok (.istore 5, 2) := by decide +kernel
theorem dX2_prepare_28 : decode cX2_prepare 28 = .ok (.iload 5, 2) := by decide +kernel
theorem dX2_prepare_30 : decode cX2_prepare 30 = .ok (.bipush 40, 2) := by decide +kernel
theorem dX2_prepare_32 : decode cX2_prepare 32 = .ok (.if_icmp .gt 75, 3) := by decide +kernel
theorem dX2_prepare_35 : decode cX2_prepare 35 = .ok (.iconst 0, 1) := by decide +kernel
theorem dX2_prepare_36 : decode cX2_prepare 36 = .ok (.istore 6, 2) := by decide +kernel
theorem dX2_prepare_38 : decode cX2_prepare 38 = .ok (.iload 6, 2) := by decide +kernel
theorem dX2_prepare_40 : decode cX2_prepare 40 = .ok (.iconst 3, 1) := by decide +kernel
theorem dX2_prepare_41 : decode cX2_prepare 41 = .ok (.if_icmp .ge 36, 3) := by decide +kernel
theorem dX2_prepare_44 : decode cX2_prepare 44 = .ok (.aload_n 0, 1) := by decide +kernel
theorem dX2_prepare_45 : decode cX2_prepare 45 = .ok (.getfield 20, 3) := by decide +kernel
theorem dX2_prepare_48 : decode cX2_prepare 48 = .ok (.iload 4, 2) := by decide +kernel
theorem dX2_prepare_50 : decode cX2_prepare 50 = .ok (.iconst 3, 1) := by decide +kernel
theorem dX2_prepare_51 : decode cX2_prepare 51 = .ok (.imul, 1) := by decide +kernel
theorem dX2_prepare_52 : decode cX2_prepare 52 = .ok (.iload 6, 2) := by decide +kernel
theorem dX2_prepare_54 : decode cX2_prepare 54 = .ok (.iadd, 1) := by decide +kernel
theorem dX2_prepare_55 : decode cX2_prepare 55 = .ok (.aaload, 1) := by decide +kernel
theorem dX2_prepare_56 : decode cX2_prepare 56 = .ok (.iload 5, 2) := by decide +kernel
theorem dX2_prepare_58 : decode cX2_prepare 58 = .ok (.aload_n 1, 1) := by decide +kernel
theorem dX2_prepare_59 : decode cX2_prepare 59 = .ok (.iload 4, 2) := by decide +kernel
theorem dX2_prepare_61 : decode cX2_prepare 61 = .ok (.iload 5, 2) := by decide +kernel
theorem dX2_prepare_63 : decode cX2_prepare 63 = .ok (.iload 6, 2) := by decide +kernel
theorem dX2_prepare_65 : decode cX2_prepare 65 = .ok (.iload_n 2, 1) := by decide +kernel
theorem dX2_prepare_66 : decode cX2_prepare 66 = .ok (.imul, 1) := by decide +kernel
theorem dX2_prepare_67 : decode cX2_prepare 67 = .ok (.invokevirtual 54, 3) := by decide +kernel
theorem dX2_prepare_70 : decode cX2_prepare 70 = .ok (.iastore, 1) := by decide +kernel
theorem dX2_prepare_71 : decode cX2_prepare 71 = .ok (.iinc 6 1, 3) := by decide +kernel
theorem dX2_prepare_74 : decode cX2_prepare 74 = .ok (.goto (-36), 3) := by decide +kernel
theorem dX2_prepare_77 : decode cX2_prepare 77 = .ok (.aload_n 0, 1) := by decide +kernel
theorem dX2_prepare_78 : decode cX2_prepare 78 = .ok (.getfield 20, 3) := by decide +kernel
theorem dX2_prepare_81 : decode cX2_prepare 81 = .ok (.iload 4, 2) := by decide +kernel
theorem dX2_prepare_83 : decode cX2_prepare 83 = .ok (.iconst 3, 1) := by decide +kernel
theorem dX2_prepare_84 : decode cX2_prepare 84 = .ok (.imul, 1) := by decide +kernel
theorem dX2_prepare_85 : decode cX2_prepare 85 = .ok (.aaload, 1) := by decide +kernel
theorem dX2_prepare_86 : decode cX2_prepare 86 = .ok (.iload 5, 2) := by decide +kernel
theorem dX2_prepare_88 : decode cX2_prepare 88 = .ok (.iaload, 1) := by decide +kernel
theorem dX2_prepare_89 : decode cX2_prepare 89 = .ok (.ifCond .le 12, 3) := by decide +kernel
theorem dX2_prepare_92 : decode cX2_prepare 92 = .ok (.aload_n 0, 1) := by decide +kernel
theorem dX2_prepare_93 : decode cX2_prepare 93 = .ok (.getfield 23, 3) := by decide +kernel
theorem dX2_prepare_96 : decode cX2_prepare 96 = .ok (.iload 4, 2) := by decide +kernel
theorem dX2_prepare_98 : decode cX2_prepare 98 = .ok (.iload 5, 2) := by decide +kernel
theorem dX2_prepare_100 : decode cX2_prepare 100 = .ok (.iastore, 1) := by decide +kernel
theorem dX2_prepare_101 : decode cX2_prepare 101 = .ok (.iinc 5 1, 3) := by decide +kernel
theorem dX2_prepare_104 : decode cX2_prepare 104 = .ok (.goto (-76), 3) := by decide +kernel
theorem dX2_prepare_107 : decode cX2_prepare 107 = .ok (.aload_n 0, 1) := by decide +kernel
theorem dX2_prepare_108 : decode cX2_prepare 108 = .ok (.getfield 27, 3) := by decide +kernel
theorem dX2_prepare_111 : decode cX2_prepare 111 = .ok (.iload 4, 2) := by decide +kernel
theorem dX2_prepare_113 : decode cX2_prepare 113 = .ok (.aaload, 1) := by decide +kernel
theorem dX2_prepare_114 : decode cX2_prepare 114 = .ok (.iconst (-1), 1) := by decide +kernel
theorem dX2_prepare_115 : decode cX2_prepare 115 = .ok (.invokestatic 60, 3) := by decide +kernel
theorem dX2_prepare_118 : decode cX2_prepare 118 = .ok (.iinc 4 1, 3) := by decide +kernel
theorem dX2_prepare_121 : decode cX2_prepare 121 = .ok (.goto (-110), 3) := by decide +kernel
theorem dX2_prepare_124 : decode cX2_prepare 124 = .ok (.aload_n 3, 1) := by decide +kernel
theorem dX2_prepare_125 : decode cX2_prepare 125 = .ok (.getfield 66, 3) := by decide +kernel
theorem dX2_prepare_128 : decode cX2_prepare 128 = .ok (.iconst 0, 1) := by decide +kernel
theorem dX2_prepare_129 : decode cX2_prepare 129 = .ok (.aload_n 0, 1) := by decide +kernel
theorem dX2_prepare_130 : decode cX2_prepare 130 = .ok (.getfield 27, 3) := by decide +kernel
theorem dX2_prepare_133 : decode cX2_prepare 133 = .ok (.iconst 3, 1) := by decide +kernel
theorem dX2_prepare_134 : decode cX2_prepare 134 = .ok (.aaload, 1) := by decide +kernel
theorem dX2_prepare_135 : decode cX2_prepare 135 = .ok (.iconst 0, 1) := by decide +kernel
theorem dX2_prepare_136 : decode cX2_prepare 136 = .ok (.sipush 242, 3) := by decide +kernel
theorem dX2_prepare_139 : decode cX2_prepare 139 = .ok (.invokestatic 69, 3) := by decide +kernel
theorem dX2_prepare_142 : decode cX2_prepare 142 = .ok (.return_, 1) := by decide +kernel
theorem dX2_valueFrom_0 : decode cX2_valueFrom 0 = .ok (.aload_n 0, 1) := by decide +kernel
theorem dX2_valueFrom_1 : decode cX2_valueFrom 1 = .ok (.iconst 0, 1) := by decide +kernel
theorem dX2_valueFrom_2 : decode cX2_valueFrom 2 = .ok (.putfield 9, 3) := by decide +kernel
theorem dX2_valueFrom_5 : decode cX2_valueFrom 5 = .ok (.aload_n 1, 1) := by decide +kernel
theorem dX2_valueFrom_6 : decode cX2_valueFrom 6 = .ok (.getfield 75, 3) := by decide +kernel
theorem dX2_valueFrom_9 : decode cX2_valueFrom 9 = .ok (.ifCond .eq 8, 3) := by decide +kernel
theorem dX2_valueFrom_12 : decode cX2_valueFrom 12 = .ok (.aload_n 0, 1) := by decide +kernel
theorem dX2_valueFrom_13 : decode cX2_valueFrom 13 = .ok (.getfield 15, 3) := by decide +kernel
theorem dX2_valueFrom_16 : decode cX2_valueFrom 16 = .ok (.ireturn, 1) := by decide +kernel
theorem dX2_valueFrom_17 : decode cX2_valueFrom 17 = .ok (.aload_n 1, 1) := by decide +kernel
theorem dX2_valueFrom_18 : decode cX2_valueFrom 18 = .ok (.getfield 80, 3) := by decide +kernel
theorem dX2_valueFrom_21 : decode cX2_valueFrom 21 = .ok (.iconst 3, 1) := by decide +kernel
theorem dX2_valueFrom_22 : decode cX2_valueFrom 22 = .ok (.if_icmp .lt 13, 3) := by decide +kernel
theorem dX2_valueFrom_25 : decode cX2_valueFrom 25 = .ok (.aload_n 0, 1) := by decide +kernel
theorem dX2_valueFrom_26 : decode cX2_valueFrom 26 = .ok (.iconst 3, 1) := by decide +kernel
theorem dX2_valueFrom_27 : decode cX2_valueFrom 27 = .ok (.aload_n 1, 1) := by decide +kernel
theorem dX2_valueFrom_28 : decode cX2_valueFrom 28 = .ok (.getfield 81, 3) := by decide +kernel
theorem dX2_valueFrom_31 : decode cX2_valueFrom 31 = .ok (.invokevirtual 82, 3) := by decide +kernel
theorem dX2_valueFrom_34 : decode cX2_valueFrom 34 = .ok (.ireturn, 1) := by decide +kernel
theorem dX2_valueFrom_35 : decode cX2_valueFrom 35 = .ok (.aload_n 1, 1) := by decide +kernel
theorem dX2_valueFrom_36 : decode cX2_valueFrom 36 = .ok (.getfield 86, 3) := by decide +kernel
theorem dX2_valueFrom_39 : decode cX2_valueFrom 39 = .ok (.ifCond .ne 10, 3) := by decide +kernel
theorem dX2_valueFrom_42 : decode cX2_valueFrom 42 = .ok (.aload_n 0, 1) := by decide +kernel
theorem dX2_valueFrom_43 : decode cX2_valueFrom 43 = .ok (.getfield 15, 3) := by decide +kernel
theorem dX2_valueFrom_46 : decode cX2_valueFrom 46 = .ok (.goto 22, 3) := by decide +kernel
theorem dX2_valueFrom_49 : decode cX2_valueFrom 49 = .ok (.aload_n 0, 1) := by decide +kernel
theorem dX2_valueFrom_50 : decode cX2_valueFrom 50 = .ok (.aload_n 1, 1) := by decide +kernel
theorem dX2_valueFrom_51 : decode cX2_valueFrom 51 = .ok (.getfield 80, 3) := by decide +kernel
theorem dX2_valueFrom_54 : decode cX2_valueFrom 54 = .ok (.iconst 1, 1) := by decide +kernel
theorem dX2_valueFrom_55 : decode cX2_valueFrom 55 = .ok (.iadd, 1) := by decide +kernel
theorem dX2_valueFrom_56 : decode cX2_valueFrom 56 = .ok (.aload_n 1, 1) := by decide +kernel
theorem dX2_valueFrom_57 : decode cX2_valueFrom 57 = .ok (.getfield 81, 3) := by decide +kernel
theorem dX2_valueFrom_60 : decode cX2_valueFrom 60 = .ok (.aload_n 1, 1) := by decide +kernel
theorem dX2_valueFrom_61 : decode cX2_valueFrom 61 = .ok (.getfield 86, 3) := by decide +kernel
theorem dX2_valueFrom_64 : decode cX2_valueFrom 64 = .ok (.iadd, 1) := by decide +kernel
theorem dX2_valueFrom_65 : decode cX2_valueFrom 65 = .ok (.invokevirtual 82, 3) := by decide +kernel
theorem dX2_valueFrom_68 : decode cX2_valueFrom 68 = .ok (.istore_n 2, 1) := by decide +kernel
theorem dX2_valueFrom_69 : decode cX2_valueFrom 69 = .ok (.aload_n 1, 1) := by decide +kernel
theorem dX2_valueFrom_70 : decode cX2_valueFrom 70 = .ok (.invokevirtual 89, 3) := by decide +kernel
theorem dX2_valueFrom_73 : decode cX2_valueFrom 73 = .ok (.ifCond .ne 5, 3) := by decide +kernel
theorem dX2_valueFrom_76 : decode cX2_valueFrom 76 = .ok (.iload_n 2, 1) := by decide +kernel
theorem dX2_valueFrom_77 : decode cX2_valueFrom 77 = .ok (.ireturn, 1) := by decide +kernel
theorem dX2_valueFrom_78 : decode cX2_valueFrom 78 = .ok (.aload_n 0, 1) := by decide +kernel
theorem dX2_valueFrom_79 : decode cX2_valueFrom 79 = .ok (.aload_n 1, 1) := by decide +kernel
theorem dX2_valueFrom_80 : decode cX2_valueFrom 80 = .ok (.getfield 80, 3) := by decide +kernel
theorem dX2_valueFrom_83 : decode cX2_valueFrom 83 = .ok (.aload_n 1, 1) := by decide +kernel
theorem dX2_valueFrom_84 : decode cX2_valueFrom 84 = .ok (.getfield 81, 3) := by decide +kernel
theorem dX2_valueFrom_87 : decode cX2_valueFrom 87 = .ok (.invokevirtual 93, 3) := by decide +kernel
theorem dX2_valueFrom_90 : decode cX2_valueFrom 90 = .ok (.aload_n 0, 1) := by decide +kernel
theorem dX2_valueFrom_91 : decode cX2_valueFrom 91 = .ok (.aload_n 1, 1) := by decide +kernel
theorem dX2_valueFrom_92 : decode cX2_valueFrom 92 = .ok (.getfield 97, 3) := by decide +kernel
theorem dX2_valueFrom_95 : decode cX2_valueFrom 95 = .ok (.aload_n 1, 1) := by decide +kernel
theorem dX2_valueFrom_96 : decode cX2_valueFrom 96 = .ok (.getfield 100, 3) := by decide +kernel
theorem dX2_valueFrom_99 : decode cX2_valueFrom 99 = .ok (.aload_n 1, 1) := by decide +kernel
theorem dX2_valueFrom_100 : decode cX2_valueFrom 100 = .ok (.getfield 86, 3) := by decide +kernel
theorem dX2_valueFrom_103 : decode cX2_valueFrom 103 = .ok (.aload_n 1, 1) := by decide +kernel
theorem dX2_valueFrom_104 : decode cX2_valueFrom 104 = .ok (.getfield 103, 3) := by decide +kernel
theorem dX2_valueFrom_107 : decode cX2_valueFrom 107 = .ok (.invokevirtual 106, 3) := by decide +kernel
theorem dX2_valueFrom_110 : decode cX2_valueFrom 110 = .ok (.ireturn, 1) := by decide +kernel
theorem dX2_startOf_0 : decode cX2_startOf 0 = .ok (.iload_n 1, 1) := by decide +kernel
theorem dX2_startOf_1 : decode cX2_startOf 1 = .ok (.ifCond .lt 19, 3) := by decide +kernel
theorem dX2_startOf_4 : decode cX2_startOf 4 = .ok (.iload_n 1, 1) := by decide +kernel
theorem dX2_startOf_5 : decode cX2_startOf 5 = .ok (.iconst 3, 1) := by decide +kernel
theorem dX2_startOf_6 : decode cX2_startOf 6 = .ok (.if_icmp .gt 14, 3) := by decide +kernel
theorem dX2_startOf_9 : decode cX2_startOf 9 = .ok (.iload_n 2, 1) := by decide +kernel
theorem dX2_startOf_10 : decode cX2_startOf 10 = .ok (.ifCond .lt 10, 3) := by decide +kernel
theorem dX2_startOf_13 : decode cX2_startOf 13 = .ok (.iload_n 2, 1) := by decide +kernel
theorem dX2_startOf_14 : decode cX2_startOf 14 = .ok (.sipush 242, 3) := by decide +kernel
theorem dX2_startOf_17 : decode cX2_startOf 17 = .ok (.if_icmp .lt 5, 3) := by decide +kernel
theorem dX2_startOf_20 : decode cX2_startOf 20 = .ok (.iconst 0, 1) := by decide +kernel
theorem dX2_startOf_21 : decode cX2_startOf 21 = .ok (.ireturn, 1) := by decide +kernel
theorem dX2_startOf_22 : decode cX2_startOf 22 = .ok (.iload_n 1, 1) := by decide +kernel
theorem dX2_startOf_23 : decode cX2_startOf 23 = .ok (.iconst 3, 1) := by decide +kernel
theorem dX2_startOf_24 : decode cX2_startOf 24 = .ok (.if_icmp .ge 36, 3) := by decide +kernel
theorem dX2_startOf_27 : decode cX2_startOf 27 = .ok (.aload_n 0, 1) := by decide +kernel
theorem dX2_startOf_28 : decode cX2_startOf 28 = .ok (.getfield 27, 3) := by decide +kernel
theorem dX2_startOf_31 : decode cX2_startOf 31 = .ok (.iload_n 1, 1) := by decide +kernel
theorem dX2_startOf_32 : decode cX2_startOf 32 = .ok (.aaload, 1) := by decide +kernel
theorem dX2_startOf_33 : decode cX2_startOf 33 = .ok (.iload_n 2, 1) := by decide +kernel
theorem dX2_startOf_34 : decode cX2_startOf 34 = .ok (.iaload, 1) := by decide +kernel
theorem dX2_startOf_35 : decode cX2_startOf 35 = .ok (.ifCond .ge 25, 3) := by decide +kernel
theorem dX2_startOf_38 : decode cX2_startOf 38 = .ok (.aload_n 0, 1) := by decide +kernel
theorem dX2_startOf_39 : decode cX2_startOf 39 = .ok (.iload_n 1, 1) := by decide +kernel
theorem dX2_startOf_40 : decode cX2_startOf 40 = .ok (.iload_n 2, 1) := by decide +kernel
theorem dX2_startOf_41 : decode cX2_startOf 41 = .ok (.invokevirtual 93, 3) := by decide +kernel
theorem dX2_startOf_44 : decode cX2_startOf 44 = .ok (.aload_n 0, 1) := by decide +kernel
theorem dX2_startOf_45 : decode cX2_startOf 45 = .ok (.getfield 27, 3) := by decide +kernel
theorem dX2_startOf_48 : decode cX2_startOf 48 = .ok (.iload_n 1, 1) := by decide +kernel
theorem dX2_startOf_49 : decode cX2_startOf 49 = .ok (.aaload, 1) := by decide +kernel
theorem dX2_startOf_50 : decode cX2_startOf 50 = .ok (.iload_n 2, 1) := by decide +kernel
theorem dX2_startOf_51 : decode cX2_startOf 51 = .ok (.aload_n 0, 1) := by decide +kernel
theorem dX2_startOf_52 : decode cX2_startOf 52 = .ok (.iconst 3, 1) := by decide +kernel
theorem dX2_startOf_53 : decode cX2_startOf 53 = .ok (.iconst 0, 1) := by decide +kernel
theorem dX2_startOf_54 : decode cX2_startOf 54 = .ok (.iconst 0, 1) := by decide +kernel
theorem dX2_startOf_55 : decode cX2_startOf 55 = .ok (.iconst 1, 1) := by decide +kernel
theorem dX2_startOf_56 : decode cX2_startOf 56 = .ok (.invokevirtual 106, 3) := by decide +kernel
theorem dX2_startOf_59 : decode cX2_startOf 59 = .ok (.iastore, 1) := by decide +kernel
theorem dX2_startOf_60 : decode cX2_startOf 60 = .ok (.aload_n 0, 1) := by decide +kernel
theorem dX2_startOf_61 : decode cX2_startOf 61 = .ok (.getfield 27, 3) := by decide +kernel
theorem dX2_startOf_64 : decode cX2_startOf 64 = .ok (.iload_n 1, 1) := by decide +kernel
theorem dX2_startOf_65 : decode cX2_startOf 65 = .ok (.aaload, 1) := by decide +kernel
theorem dX2_startOf_66 : decode cX2_startOf 66 = .ok (.iload_n 2, 1) := by decide +kernel
theorem dX2_startOf_67 : decode cX2_startOf 67 = .ok (.iaload, 1) := by decide +kernel
theorem dX2_startOf_68 : decode cX2_startOf 68 = .ok (.ireturn, 1) := by decide +kernel
theorem dX2_fillTables_0 : decode cX2_fillTables 0 = .ok (.iconst 1, 1) := by decide +kernel
theorem dX2_fillTables_1 : decode cX2_fillTables 1 = .ok (.istore_n 3, 1) := by decide +kernel
theorem dX2_fillTables_2 : decode cX2_fillTables 2 = .ok (.iload_n 3, 1) := by decide +kernel
theorem dX2_fillTables_3 : decode cX2_fillTables 3 = .ok (.aload_n 0, 1) := by decide +kernel
theorem dX2_fillTables_4 : decode cX2_fillTables 4 = .ok (.getfield 23, 3) := by decide +kernel
theorem dX2_fillTables_7 : decode cX2_fillTables 7 = .ok (.iload_n 1, 1) := by decide +kernel
theorem dX2_fillTables_8 : decode cX2_fillTables 8 = .ok (.iaload, 1) := by decide +kernel
theorem dX2_fillTables_9 : decode cX2_fillTables 9 = .ok (.if_icmp .gt 20, 3) := by decide +kernel
theorem dX2_fillTables_12 : decode cX2_fillTables 12 = .ok (.aload_n 0, 1) := by decide +kernel
theorem dX2_fillTables_13 : decode cX2_fillTables 13 = .ok (.iload_n 1, 1) := by decide +kernel
theorem dX2_fillTables_14 : decode cX2_fillTables 14 = .ok (.iconst 1, 1) := by decide +kernel
theorem dX2_fillTables_15 : decode cX2_fillTables 15 = .ok (.iadd, 1) := by decide +kernel
theorem dX2_fillTables_16 : decode cX2_fillTables 16 = .ok (.iload_n 2, 1) := by decide +kernel
theorem dX2_fillTables_17 : decode cX2_fillTables 17 = .ok (.iload_n 3, 1) := by decide +kernel
theorem dX2_fillTables_18 : decode cX2_fillTables 18 = .ok (.iadd, 1) := by decide +kernel
theorem dX2_fillTables_19 : decode cX2_fillTables 19 = .ok (.invokevirtual 82, 3) := by decide +kernel
theorem dX2_fillTables_22 : decode cX2_fillTables 22 = .ok (.pop, 1) := by decide +kernel
theorem dX2_fillTables_23 : decode cX2_fillTables 23 = .ok (.iinc 3 1, 3) := by decide +kernel
theorem dX2_fillTables_26 : decode cX2_fillTables 26 = .ok (.goto (-24), 3) := by decide +kernel
theorem dX2_fillTables_29 : decode cX2_fillTables 29 = .ok (.aload_n 0, 1) := by decide +kernel
theorem dX2_fillTables_30 : decode cX2_fillTables 30 = .ok (.iload_n 1, 1) := by decide +kernel
theorem dX2_fillTables_31 : decode cX2_fillTables 31 = .ok (.putfield 30, 3) := by decide +kernel
theorem dX2_fillTables_34 : decode cX2_fillTables 34 = .ok (.aload_n 0, 1) := by decide +kernel
theorem dX2_fillTables_35 : decode cX2_fillTables 35 = .ok (.iload_n 2, 1) := by decide +kernel
theorem dX2_fillTables_36 : decode cX2_fillTables 36 = .ok (.putfield 33, 3) := by decide +kernel
theorem dX2_fillTables_39 : decode cX2_fillTables 39 = .ok (.aload_n 0, 1) := by decide +kernel
theorem dX2_fillTables_40 : decode cX2_fillTables 40 = .ok (.aload_n 0, 1) := by decide +kernel
theorem dX2_fillTables_41 : decode cX2_fillTables 41 = .ok (.getfield 23, 3) := by decide +kernel
theorem dX2_fillTables_44 : decode cX2_fillTables 44 = .ok (.iload_n 1, 1) := by decide +kernel
theorem dX2_fillTables_45 : decode cX2_fillTables 45 = .ok (.iaload, 1) := by decide +kernel
theorem dX2_fillTables_46 : decode cX2_fillTables 46 = .ok (.aload_n 0, 1) := by decide +kernel
theorem dX2_fillTables_47 : decode cX2_fillTables 47 = .ok (.getfield 27, 3) := by decide +kernel
theorem dX2_fillTables_50 : decode cX2_fillTables 50 = .ok (.iload_n 1, 1) := by decide +kernel
theorem dX2_fillTables_51 : decode cX2_fillTables 51 = .ok (.iconst 1, 1) := by decide +kernel
theorem dX2_fillTables_52 : decode cX2_fillTables 52 = .ok (.iadd, 1) := by decide +kernel
theorem dX2_fillTables_53 : decode cX2_fillTables 53 = .ok (.aaload, 1) := by decide +kernel
theorem dX2_fillTables_54 : decode cX2_fillTables 54 = .ok (.invokevirtual 110, 3) := by decide +kernel
theorem dX2_fillTables_57 : decode cX2_fillTables 57 = .ok (.aload_n 0, 1) := by decide +kernel
theorem dX2_fillTables_58 : decode cX2_fillTables 58 = .ok (.aload_n 0, 1) := by decide +kernel
theorem dX2_fillTables_59 : decode cX2_fillTables 59 = .ok (.getfield 23, 3) := by decide +kernel
theorem dX2_fillTables_62 : decode cX2_fillTables 62 = .ok (.iload_n 1, 1) := by decide +kernel
theorem dX2_fillTables_63 : decode cX2_fillTables 63 = .ok (.iaload, 1) := by decide +kernel
theorem dX2_fillTables_64 : decode cX2_fillTables 64 = .ok (.aload_n 0, 1) := by decide +kernel
theorem dX2_fillTables_65 : decode cX2_fillTables 65 = .ok (.getfield 27, 3) := by decide +kernel
theorem dX2_fillTables_68 : decode cX2_fillTables 68 = .ok (.iload_n 1, 1) := by decide +kernel
theorem dX2_fillTables_69 : decode cX2_fillTables 69 = .ok (.iconst 1, 1) := by decide +kernel
theorem dX2_fillTables_70 : decode cX2_fillTables 70 = .ok (.iadd, 1) := by decide +kernel
theorem dX2_fillTables_71 : decode cX2_fillTables 71 = .ok (.aaload, 1) := by decide +kernel
theorem dX2_fillTables_72 : decode cX2_fillTables 72 = .ok (.invokevirtual 114, 3) := by decide +kernel
theorem dX2_fillTables_75 : decode cX2_fillTables 75 = .ok (.return_, 1) := by decide +kernel
theorem dX2_fillOne_0 : decode cX2_fillOne 0 = .ok (.aload_n 0, 1) := by decide +kernel
theorem dX2_fillOne_1 : decode cX2_fillOne 1 = .ok (.getfield 20, 3) := by decide +kernel
theorem dX2_fillOne_4 : decode cX2_fillOne 4 = .ok (.aload_n 0, 1) := by decide +kernel
theorem dX2_fillOne_5 : decode cX2_fillOne 5 = .ok (.getfield 30, 3) := by decide +kernel
theorem dX2_fillOne_8 : decode cX2_fillOne 8 = .ok (.iconst 3, 1) := by decide +kernel
theorem dX2_fillOne_9 : decode cX2_fillOne 9 = .ok (.imul, 1) := by decide +kernel
theorem dX2_fillOne_10 : decode cX2_fillOne 10 = .ok (.aaload, 1) := by decide +kernel
theorem dX2_fillOne_11 : decode cX2_fillOne 11 = .ok (.astore_n 3, 1) := by decide +kernel
theorem dX2_fillOne_12 : decode cX2_fillOne 12 = .ok (.aload_n 0, 1) := by decide +kernel
theorem dX2_fillOne_13 : decode cX2_fillOne 13 = .ok (.getfield 20, 3) := by decide +kernel
theorem dX2_fillOne_16 : decode cX2_fillOne 16 = .ok (.aload_n 0, 1) := by decide +kernel
theorem dX2_fillOne_17 : decode cX2_fillOne 17 = .ok (.getfield 30, 3) := by decide +kernel
theorem dX2_fillOne_20 : decode cX2_fillOne 20 = .ok (.iconst 3, 1) := by decide +kernel
theorem dX2_fillOne_21 : decode cX2_fillOne 21 = .ok (.imul, 1) := by decide +kernel
theorem dX2_fillOne_22 : decode cX2_fillOne 22 = .ok (.iconst 1, 1) := by decide +kernel
theorem dX2_fillOne_23 : decode cX2_fillOne 23 = .ok (.iadd, 1) := by decide +kernel
theorem dX2_fillOne_24 : decode cX2_fillOne 24 = .ok (.aaload, 1) := by decide +kernel
theorem dX2_fillOne_25 : decode cX2_fillOne 25 = .ok (.astore 4, 2) := by decide +kernel
theorem dX2_fillOne_27 : decode cX2_fillOne 27 = .ok (.aload_n 0, 1) := by decide +kernel
theorem dX2_fillOne_28 : decode cX2_fillOne 28 = .ok (.getfield 20, 3) := by decide +kernel
theorem dX2_fillOne_31 : decode cX2_fillOne 31 = .ok (.aload_n 0, 1) := by decide +kernel
theorem dX2_fillOne_32 : decode cX2_fillOne 32 = .ok (.getfield 30, 3) := by decide +kernel
theorem dX2_fillOne_35 : decode cX2_fillOne 35 = .ok (.iconst 3, 1) := by decide +kernel
theorem dX2_fillOne_36 : decode cX2_fillOne 36 = .ok (.imul, 1) := by decide +kernel
theorem dX2_fillOne_37 : decode cX2_fillOne 37 = .ok (.iconst 2, 1) := by decide +kernel
theorem dX2_fillOne_38 : decode cX2_fillOne 38 = .ok (.iadd, 1) := by decide +kernel
theorem dX2_fillOne_39 : decode cX2_fillOne 39 = .ok (.aaload, 1) := by decide +kernel
theorem dX2_fillOne_40 : decode cX2_fillOne 40 = .ok (.astore 5, 2) := by decide +kernel
theorem dX2_fillOne_42 : decode cX2_fillOne 42 = .ok (.iconst 1, 1) := by decide +kernel
theorem dX2_fillOne_43 : decode cX2_fillOne 43 = .ok (.istore 6, 2) := by decide +kernel
theorem dX2_fillOne_45 : decode cX2_fillOne 45 = .ok (.iload 6, 2) := by decide +kernel
theorem dX2_fillOne_47 : decode cX2_fillOne 47 = .ok (.iload_n 1, 1) := by decide +kernel
theorem dX2_fillOne_48 : decode cX2_fillOne 48 = .ok (.if_icmp .gt 176, 3) := by decide +kernel
theorem dX2_fillOne_51 : decode cX2_fillOne 51 = .ok (.aload_n 0, 1) := by decide +kernel
theorem dX2_fillOne_52 : decode cX2_fillOne 52 = .ok (.getfield 33, 3) := by decide +kernel
theorem dX2_fillOne_55 : decode cX2_fillOne 55 = .ok (.iload_n 1, 1) := by decide +kernel
theorem dX2_fillOne_56 : decode cX2_fillOne 56 = .ok (.iadd, 1) := by decide +kernel
theorem dX2_fillOne_57 : decode cX2_fillOne 57 = .ok (.sipush 242, 3) := by decide +kernel
theorem dX2_fillOne_60 : decode cX2_fillOne 60 = .ok (.if_icmp .ge 164, 3) := by decide +kernel
theorem dX2_fillOne_63 : decode cX2_fillOne 63 = .ok (.aload_n 2, 1) := by decide +kernel
theorem dX2_fillOne_64 : decode cX2_fillOne 64 = .ok (.aload_n 0, 1) := by decide +kernel
theorem dX2_fillOne_65 : decode cX2_fillOne 65 = .ok (.getfield 33, 3) := by decide +kernel
theorem dX2_fillOne_68 : decode cX2_fillOne 68 = .ok (.iload 6, 2) := by decide +kernel
theorem dX2_fillOne_70 : decode cX2_fillOne 70 = .ok (.iadd, 1) := by decide +kernel
theorem dX2_fillOne_71 : decode cX2_fillOne 71 = .ok (.iaload, 1) := by decide +kernel
theorem dX2_fillOne_72 : decode cX2_fillOne 72 = .ok (.istore 7, 2) := by decide +kernel
theorem dX2_fillOne_74 : decode cX2_fillOne 74 = .ok (.iload_n 1, 1) := by decide +kernel
theorem dX2_fillOne_75 : decode cX2_fillOne 75 = .ok (.iload 7, 2) := by decide +kernel
theorem dX2_fillOne_77 : decode cX2_fillOne 77 = .ok (.invokestatic 117, 3) := by decide +kernel
theorem dX2_fillOne_80 : decode cX2_fillOne 80 = .ok (.istore 8, 2) := by decide +kernel
theorem dX2_fillOne_82 : decode cX2_fillOne 82 = .ok (.iload 8, 2) := by decide +kernel
theorem dX2_fillOne_84 : decode cX2_fillOne 84 = .ok (.istore 9, 2) := by decide +kernel
theorem dX2_fillOne_86 : decode cX2_fillOne 86 = .ok (.aload_n 0, 1) := by decide +kernel
theorem dX2_fillOne_87 : decode cX2_fillOne 87 = .ok (.getfield 39, 3) := by decide +kernel
theorem dX2_fillOne_90 : decode cX2_fillOne 90 = .ok (.iload 6, 2) := by decide +kernel
theorem dX2_fillOne_92 : decode cX2_fillOne 92 = .ok (.bipush 42, 2) := by decide +kernel
theorem dX2_fillOne_94 : decode cX2_fillOne 94 = .ok (.imul, 1) := by decide +kernel
theorem dX2_fillOne_95 : decode cX2_fillOne 95 = .ok (.iload_n 1, 1) := by decide +kernel
theorem dX2_fillOne_96 : decode cX2_fillOne 96 = .ok (.iadd, 1) := by decide +kernel
theorem dX2_fillOne_97 : decode cX2_fillOne 97 = .ok (.iconst 1, 1) := by decide +kernel
theorem dX2_fillOne_98 : decode cX2_fillOne 98 = .ok (.iadd, 1) := by decide +kernel
theorem dX2_fillOne_99 : decode cX2_fillOne 99 = .ok (.iload 7, 2) := by decide +kernel
theorem dX2_fillOne_101 : decode cX2_fillOne 101 = .ok (.iastore, 1) := by decide +kernel
theorem dX2_fillOne_102 : decode cX2_fillOne 102 = .ok (.iload_n 1, 1) := by decide +kernel
theorem dX2_fillOne_103 : decode cX2_fillOne 103 = .ok (.istore 10, 2) := by decide +kernel
theorem dX2_fillOne_105 : decode cX2_fillOne 105 = .ok (.iload 10, 2) := by decide +kernel
theorem dX2_fillOne_107 : decode cX2_fillOne 107 = .ok (.iload 6, 2) := by decide +kernel
theorem dX2_fillOne_109 : decode cX2_fillOne 109 = .ok (.if_icmp .le 85, 3) := by decide +kernel
theorem dX2_fillOne_112 : decode cX2_fillOne 112 = .ok (.aload_n 2, 1) := by decide +kernel
theorem dX2_fillOne_113 : decode cX2_fillOne 113 = .ok (.aload_n 0, 1) := by decide +kernel
theorem dX2_fillOne_114 : decode cX2_fillOne 114 = .ok (.getfield 33, 3) := by decide +kernel
theorem dX2_fillOne_117 : decode cX2_fillOne 117 = .ok (.iload 10, 2) := by decide +kernel
theorem dX2_fillOne_119 : decode cX2_fillOne 119 = .ok (.iadd, 1) := by decide +kernel
theorem dX2_fillOne_120 : decode cX2_fillOne 120 = .ok (.iaload, 1) := by decide +kernel
theorem dX2_fillOne_121 : decode cX2_fillOne 121 = .ok (.iload 7, 2) := by decide +kernel
theorem dX2_fillOne_123 : decode cX2_fillOne 123 = .ok (.isub, 1) := by decide +kernel
theorem dX2_fillOne_124 : decode cX2_fillOne 124 = .ok (.istore 11, 2) := by decide +kernel
theorem dX2_fillOne_126 : decode cX2_fillOne 126 = .ok (.iload 8, 2) := by decide +kernel
theorem dX2_fillOne_128 : decode cX2_fillOne 128 = .ok (.sipush 1000, 3) := by decide +kernel
theorem dX2_fillOne_131 : decode cX2_fillOne 131 = .ok (.iload 7, 2) := by decide +kernel
theorem dX2_fillOne_133 : decode cX2_fillOne 133 = .ok (.imul, 1) := by decide +kernel
theorem dX2_fillOne_134 : decode cX2_fillOne 134 = .ok (.aload_n 3, 1) := by decide +kernel
theorem dX2_fillOne_135 : decode cX2_fillOne 135 = .ok (.iload 10, 2) := by decide +kernel
theorem dX2_fillOne_137 : decode cX2_fillOne 137 = .ok (.iaload, 1) := by decide +kernel
theorem dX2_fillOne_138 : decode cX2_fillOne 138 = .ok (.iload 11, 2) := by decide +kernel
theorem dX2_fillOne_140 : decode cX2_fillOne 140 = .ok (.imul, 1) := by decide +kernel
theorem dX2_fillOne_141 : decode cX2_fillOne 141 = .ok (.iadd, 1) := by decide +kernel
theorem dX2_fillOne_142 : decode cX2_fillOne 142 = .ok (.invokestatic 120, 3) := by decide +kernel
theorem dX2_fillOne_145 : decode cX2_fillOne 145 = .ok (.istore 8, 2) := by decide +kernel
theorem dX2_fillOne_147 : decode cX2_fillOne 147 = .ok (.iload 9, 2) := by decide +kernel
