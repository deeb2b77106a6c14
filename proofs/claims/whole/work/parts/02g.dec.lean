theorem dX9_aimsReach_25 : decode cX9_aimsReach 25 = .ok (.iastore, 1) := by decide +kernel
theorem dX9_aimsReach_26 : decode cX9_aimsReach 26 = .ok (.iinc 2 1, 3) := by decide +kernel
theorem dX9_aimsReach_29 : decode cX9_aimsReach 29 = .ok (.goto (-27), 3) := by decide +kernel
theorem dX9_aimsReach_32 : decode cX9_aimsReach 32 = .ok (.return_, 1) := by decide +kernel
theorem dX9_expected_0 : decode cX9_expected 0 = .ok (.iload_n 0, 1) := by decide +kernel
theorem dX9_expected_1 : decode cX9_expected 1 = .ok (.i2l, 1) := by decide +kernel
theorem dX9_expected_2 : decode cX9_expected 2 = .ok (.iload_n 1, 1) := by decide +kernel
theorem dX9_expected_3 : decode cX9_expected 3 = .ok (.i2l, 1) := by decide +kernel
theorem dX9_expected_4 : decode cX9_expected 4 = .ok (.lmul, 1) := by decide +kernel
theorem dX9_expected_5 : decode cX9_expected 5 = .ok (.sipush 1000, 3) := by decide +kernel
theorem dX9_expected_8 : decode cX9_expected 8 = .ok (.iload_n 0, 1) := by decide +kernel
theorem dX9_expected_9 : decode cX9_expected 9 = .ok (.isub, 1) := by decide +kernel
theorem dX9_expected_10 : decode cX9_expected 10 = .ok (.i2l, 1) := by decide +kernel
theorem dX9_expected_11 : decode cX9_expected 11 = .ok (.iload_n 2, 1) := by decide +kernel
theorem dX9_expected_12 : decode cX9_expected 12 = .ok (.i2l, 1) := by decide +kernel
theorem dX9_expected_13 : decode cX9_expected 13 = .ok (.lmul, 1) := by decide +kernel
theorem dX9_expected_14 : decode cX9_expected 14 = .ok (.ladd, 1) := by decide +kernel
theorem dX9_expected_15 : decode cX9_expected 15 = .ok (.ldc2_w 265, 3) := by decide +kernel
theorem dX9_expected_18 : decode cX9_expected 18 = .ok (.ldiv, 1) := by decide +kernel
theorem dX9_expected_19 : decode cX9_expected 19 = .ok (.l2i, 1) := by decide +kernel
theorem dX9_expected_20 : decode cX9_expected 20 = .ok (.ireturn, 1) := by decide +kernel
theorem dX9_planned_0 : decode cX9_planned 0 = .ok (.iload 4, 2) := by decide +kernel
theorem dX9_planned_2 : decode cX9_planned 2 = .ok (.ifCond .eq 8, 3) := by decide +kernel
theorem dX9_planned_5 : decode cX9_planned 5 = .ok (.iload_n 3, 1) := by decide +kernel
theorem dX9_planned_6 : decode cX9_planned 6 = .ok (.iconst 3, 1) := by decide +kernel
theorem dX9_planned_7 : decode cX9_planned 7 = .ok (.if_icmp .ne 14, 3) := by decide +kernel
theorem dX9_planned_10 : decode cX9_planned 10 = .ok (.aload_n 0, 1) := by decide +kernel
theorem dX9_planned_11 : decode cX9_planned 11 = .ok (.iload_n 1, 1) := by decide +kernel
theorem dX9_planned_12 : decode cX9_planned 12 = .ok (.iload_n 2, 1) := by decide +kernel
theorem dX9_planned_13 : decode cX9_planned 13 = .ok (.iload 6, 2) := by decide +kernel
theorem dX9_planned_15 : decode cX9_planned 15 = .ok (.iload 7, 2) := by decide +kernel
theorem dX9_planned_17 : decode cX9_planned 17 = .ok (.invokevirtual 267, 3) := by decide +kernel
theorem dX9_planned_20 : decode cX9_planned 20 = .ok (.ireturn, 1) := by decide +kernel
theorem dX9_planned_21 : decode cX9_planned 21 = .ok (.aload_n 0, 1) := by decide +kernel
theorem dX9_planned_22 : decode cX9_planned 22 = .ok (.iload_n 1, 1) := by decide +kernel
theorem dX9_planned_23 : decode cX9_planned 23 = .ok (.iload_n 2, 1) := by decide +kernel
theorem dX9_planned_24 : decode cX9_planned 24 = .ok (.iload_n 3, 1) := by decide +kernel
theorem dX9_planned_25 : decode cX9_planned 25 = .ok (.iconst 1, 1) := by decide +kernel
theorem dX9_planned_26 : decode cX9_planned 26 = .ok (.iadd, 1) := by decide +kernel
theorem dX9_planned_27 : decode cX9_planned 27 = .ok (.aload_n 0, 1) := by decide +kernel
theorem dX9_planned_28 : decode cX9_planned 28 = .ok (.iload_n 1, 1) := by decide +kernel
theorem dX9_planned_29 : decode cX9_planned 29 = .ok (.iload_n 2, 1) := by decide +kernel
theorem dX9_planned_30 : decode cX9_planned 30 = .ok (.iload_n 3, 1) := by decide +kernel
theorem dX9_planned_31 : decode cX9_planned 31 = .ok (.iload 4, 2) := by decide +kernel
theorem dX9_planned_33 : decode cX9_planned 33 = .ok (.iconst 1, 1) := by decide +kernel
theorem dX9_planned_34 : decode cX9_planned 34 = .ok (.invokevirtual 153, 3) := by decide +kernel
theorem dX9_planned_37 : decode cX9_planned 37 = .ok (.iload 5, 2) := by decide +kernel
theorem dX9_planned_39 : decode cX9_planned 39 = .ok (.iload 6, 2) := by decide +kernel
theorem dX9_planned_41 : decode cX9_planned 41 = .ok (.iload 4, 2) := by decide +kernel
theorem dX9_planned_43 : decode cX9_planned 43 = .ok (.invokestatic 100, 3) := by decide +kernel
theorem dX9_planned_46 : decode cX9_planned 46 = .ok (.iload 7, 2) := by decide +kernel
theorem dX9_planned_48 : decode cX9_planned 48 = .ok (.invokevirtual 270, 3) := by decide +kernel
theorem dX9_planned_51 : decode cX9_planned 51 = .ok (.istore 8, 2) := by decide +kernel
theorem dX9_planned_53 : decode cX9_planned 53 = .ok (.aload_n 0, 1) := by decide +kernel
theorem dX9_planned_54 : decode cX9_planned 54 = .ok (.iload_n 1, 1) := by decide +kernel
theorem dX9_planned_55 : decode cX9_planned 55 = .ok (.iload_n 2, 1) := by decide +kernel
theorem dX9_planned_56 : decode cX9_planned 56 = .ok (.iload_n 3, 1) := by decide +kernel
theorem dX9_planned_57 : decode cX9_planned 57 = .ok (.iconst 1, 1) := by decide +kernel
theorem dX9_planned_58 : decode cX9_planned 58 = .ok (.iadd, 1) := by decide +kernel
theorem dX9_planned_59 : decode cX9_planned 59 = .ok (.aload_n 0, 1) := by decide +kernel
theorem dX9_planned_60 : decode cX9_planned 60 = .ok (.iload_n 1, 1) := by decide +kernel
theorem dX9_planned_61 : decode cX9_planned 61 = .ok (.iload_n 2, 1) := by decide +kernel
theorem dX9_planned_62 : decode cX9_planned 62 = .ok (.iload_n 3, 1) := by decide +kernel
theorem dX9_planned_63 : decode cX9_planned 63 = .ok (.iload 4, 2) := by decide +kernel
theorem dX9_planned_65 : decode cX9_planned 65 = .ok (.iconst 0, 1) := by decide +kernel
theorem dX9_planned_66 : decode cX9_planned 66 = .ok (.invokevirtual 153, 3) := by decide +kernel
theorem dX9_planned_69 : decode cX9_planned 69 = .ok (.iload 5, 2) := by decide +kernel
theorem dX9_planned_71 : decode cX9_planned 71 = .ok (.iconst 1, 1) := by decide +kernel
theorem dX9_planned_72 : decode cX9_planned 72 = .ok (.iadd, 1) := by decide +kernel
theorem dX9_planned_73 : decode cX9_planned 73 = .ok (.iload 6, 2) := by decide +kernel
theorem dX9_planned_75 : decode cX9_planned 75 = .ok (.iload 7, 2) := by decide +kernel
theorem dX9_planned_77 : decode cX9_planned 77 = .ok (.invokevirtual 270, 3) := by decide +kernel
theorem dX9_planned_80 : decode cX9_planned 80 = .ok (.istore 9, 2) := by decide +kernel
theorem dX9_planned_82 : decode cX9_planned 82 = .ok (.aload_n 0, 1) := by decide +kernel
theorem dX9_planned_83 : decode cX9_planned 83 = .ok (.iload_n 1, 1) := by decide +kernel
theorem dX9_planned_84 : decode cX9_planned 84 = .ok (.iload_n 2, 1) := by decide +kernel
theorem dX9_planned_85 : decode cX9_planned 85 = .ok (.iload 4, 2) := by decide +kernel
theorem dX9_planned_87 : decode cX9_planned 87 = .ok (.iload 5, 2) := by decide +kernel
theorem dX9_planned_89 : decode cX9_planned 89 = .ok (.invokevirtual 245, 3) := by decide +kernel
theorem dX9_planned_92 : decode cX9_planned 92 = .ok (.iload 8, 2) := by decide +kernel
theorem dX9_planned_94 : decode cX9_planned 94 = .ok (.iload 9, 2) := by decide +kernel
theorem dX9_planned_96 : decode cX9_planned 96 = .ok (.invokestatic 274, 3) := by decide +kernel
theorem dX9_planned_99 : decode cX9_planned 99 = .ok (.ireturn, 1) := by decide +kernel
theorem dX9_plannedBehind_0 : decode cX9_plannedBehind 0 = .ok (.iload_n 3, 1) := by decide +kernel
theorem dX9_plannedBehind_1 : decode cX9_plannedBehind 1 = .ok (.ifCond .ne 10, 3) := by decide +kernel
theorem dX9_plannedBehind_4 : decode cX9_plannedBehind 4 = .ok (.aload_n 0, 1) := by decide +kernel
theorem dX9_plannedBehind_5 : decode cX9_plannedBehind 5 = .ok (.getfield 56, 3) := by decide +kernel
theorem dX9_plannedBehind_8 : decode cX9_plannedBehind 8 = .ok (.iconst 0, 1) := by decide +kernel
theorem dX9_plannedBehind_9 : decode cX9_plannedBehind 9 = .ok (.iaload, 1) := by decide +kernel
theorem dX9_plannedBehind_10 : decode cX9_plannedBehind 10 = .ok (.ireturn, 1) := by decide +kernel
theorem dX9_plannedBehind_11 : decode cX9_plannedBehind 11 = .ok (.iload_n 2, 1) := by decide +kernel
theorem dX9_plannedBehind_12 : decode cX9_plannedBehind 12 = .ok (.iconst 2, 1) := by decide +kernel
theorem dX9_plannedBehind_13 : decode cX9_plannedBehind 13 = .ok (.if_icmp .ne 15, 3) := by decide +kernel
theorem dX9_plannedBehind_16 : decode cX9_plannedBehind 16 = .ok (.aload_n 0, 1) := by decide +kernel
theorem dX9_plannedBehind_17 : decode cX9_plannedBehind 17 = .ok (.getfield 56, 3) := by decide +kernel
theorem dX9_plannedBehind_20 : decode cX9_plannedBehind 20 = .ok (.iload 4, 2) := by decide +kernel
theorem dX9_plannedBehind_22 : decode cX9_plannedBehind 22 = .ok (.iload_n 3, 1) := by decide +kernel
theorem dX9_plannedBehind_23 : decode cX9_plannedBehind 23 = .ok (.iadd, 1) := by decide +kernel
theorem dX9_plannedBehind_24 : decode cX9_plannedBehind 24 = .ok (.iaload, 1) := by decide +kernel
theorem dX9_plannedBehind_25 : decode cX9_plannedBehind 25 = .ok (.goto 27, 3) := by decide +kernel
theorem dX9_plannedBehind_28 : decode cX9_plannedBehind 28 = .ok (.aload_n 0, 1) := by decide +kernel
theorem dX9_plannedBehind_29 : decode cX9_plannedBehind 29 = .ok (.iload_n 1, 1) := by decide +kernel
theorem dX9_plannedBehind_30 : decode cX9_plannedBehind 30 = .ok (.iload_n 2, 1) := by decide +kernel
theorem dX9_plannedBehind_31 : decode cX9_plannedBehind 31 = .ok (.iconst 1, 1) := by decide +kernel
theorem dX9_plannedBehind_32 : decode cX9_plannedBehind 32 = .ok (.iadd, 1) := by decide +kernel
theorem dX9_plannedBehind_33 : decode cX9_plannedBehind 33 = .ok (.iconst 0, 1) := by decide +kernel
theorem dX9_plannedBehind_34 : decode cX9_plannedBehind 34 = .ok (.aload_n 0, 1) := by decide +kernel
theorem dX9_plannedBehind_35 : decode cX9_plannedBehind 35 = .ok (.iload_n 1, 1) := by decide +kernel
theorem dX9_plannedBehind_36 : decode cX9_plannedBehind 36 = .ok (.iload_n 2, 1) := by decide +kernel
theorem dX9_plannedBehind_37 : decode cX9_plannedBehind 37 = .ok (.iconst 1, 1) := by decide +kernel
theorem dX9_plannedBehind_38 : decode cX9_plannedBehind 38 = .ok (.iadd, 1) := by decide +kernel
theorem dX9_plannedBehind_39 : decode cX9_plannedBehind 39 = .ok (.iconst 0, 1) := by decide +kernel
theorem dX9_plannedBehind_40 : decode cX9_plannedBehind 40 = .ok (.invokevirtual 125, 3) := by decide +kernel
theorem dX9_plannedBehind_43 : decode cX9_plannedBehind 43 = .ok (.iconst 0, 1) := by decide +kernel
theorem dX9_plannedBehind_44 : decode cX9_plannedBehind 44 = .ok (.iconst 0, 1) := by decide +kernel
theorem dX9_plannedBehind_45 : decode cX9_plannedBehind 45 = .ok (.iload 4, 2) := by decide +kernel
theorem dX9_plannedBehind_47 : decode cX9_plannedBehind 47 = .ok (.iload_n 3, 1) := by decide +kernel
theorem dX9_plannedBehind_48 : decode cX9_plannedBehind 48 = .ok (.iadd, 1) := by decide +kernel
theorem dX9_plannedBehind_49 : decode cX9_plannedBehind 49 = .ok (.invokevirtual 270, 3) := by decide +kernel
theorem dX9_plannedBehind_52 : decode cX9_plannedBehind 52 = .ok (.ireturn, 1) := by decide +kernel
theorem dX9_roundOf_0 : decode cX9_roundOf 0 = .ok (.aload_n 0, 1) := by decide +kernel
theorem dX9_roundOf_1 : decode cX9_roundOf 1 = .ok (.getfield 32, 3) := by decide +kernel
theorem dX9_roundOf_4 : decode cX9_roundOf 4 = .ok (.iconst 1, 1) := by decide +kernel
theorem dX9_roundOf_5 : decode cX9_roundOf 5 = .ok (.iaload, 1) := by decide +kernel
theorem dX9_roundOf_6 : decode cX9_roundOf 6 = .ok (.aload_n 0, 1) := by decide +kernel
theorem dX9_roundOf_7 : decode cX9_roundOf 7 = .ok (.iload_n 1, 1) := by decide +kernel
theorem dX9_roundOf_8 : decode cX9_roundOf 8 = .ok (.iconst 1, 1) := by decide +kernel
theorem dX9_roundOf_9 : decode cX9_roundOf 9 = .ok (.invokevirtual 106, 3) := by decide +kernel
theorem dX9_roundOf_12 : decode cX9_roundOf 12 = .ok (.iadd, 1) := by decide +kernel
theorem dX9_roundOf_13 : decode cX9_roundOf 13 = .ok (.ireturn, 1) := by decide +kernel
theorem dX9_sumAhead_0 : decode cX9_sumAhead 0 = .ok (.iconst 0, 1) := by decide +kernel
theorem dX9_sumAhead_1 : decode cX9_sumAhead 1 = .ok (.istore_n 2, 1) := by decide +kernel
theorem dX9_sumAhead_2 : decode cX9_sumAhead 2 = .ok (.iconst 0, 1) := by decide +kernel
theorem dX9_sumAhead_3 : decode cX9_sumAhead 3 = .ok (.istore_n 3, 1) := by decide +kernel
theorem dX9_sumAhead_4 : decode cX9_sumAhead 4 = .ok (.iload_n 3, 1) := by decide +kernel
theorem dX9_sumAhead_5 : decode cX9_sumAhead 5 = .ok (.aload_n 0, 1) := by decide +kernel
theorem dX9_sumAhead_6 : decode cX9_sumAhead 6 = .ok (.getfield 32, 3) := by decide +kernel
theorem dX9_sumAhead_9 : decode cX9_sumAhead 9 = .ok (.iconst 0, 1) := by decide +kernel
theorem dX9_sumAhead_10 : decode cX9_sumAhead 10 = .ok (.iaload, 1) := by decide +kernel
theorem dX9_sumAhead_11 : decode cX9_sumAhead 11 = .ok (.if_icmp .ge 21, 3) := by decide +kernel
theorem dX9_sumAhead_14 : decode cX9_sumAhead 14 = .ok (.iload_n 2, 1) := by decide +kernel
theorem dX9_sumAhead_15 : decode cX9_sumAhead 15 = .ok (.aload_n 0, 1) := by decide +kernel
theorem dX9_sumAhead_16 : decode cX9_sumAhead 16 = .ok (.iload_n 1, 1) := by decide +kernel
theorem dX9_sumAhead_17 : decode cX9_sumAhead 17 = .ok (.bipush 7, 2) := by decide +kernel
theorem dX9_sumAhead_19 : decode cX9_sumAhead 19 = .ok (.iload_n 3, 1) := by decide +kernel
theorem dX9_sumAhead_20 : decode cX9_sumAhead 20 = .ok (.iadd, 1) := by decide +kernel
theorem dX9_sumAhead_21 : decode cX9_sumAhead 21 = .ok (.invokevirtual 106, 3) := by decide +kernel
theorem dX9_sumAhead_24 : decode cX9_sumAhead 24 = .ok (.iadd, 1) := by decide +kernel
theorem dX9_sumAhead_25 : decode cX9_sumAhead 25 = .ok (.istore_n 2, 1) := by decide +kernel
theorem dX9_sumAhead_26 : decode cX9_sumAhead 26 = .ok (.iinc 3 1, 3) := by decide +kernel
theorem dX9_sumAhead_29 : decode cX9_sumAhead 29 = .ok (.goto (-25), 3) := by decide +kernel
theorem dX9_sumAhead_32 : decode cX9_sumAhead 32 = .ok (.iload_n 2, 1) := by decide +kernel
theorem dX9_sumAhead_33 : decode cX9_sumAhead 33 = .ok (.ireturn, 1) := by decide +kernel
theorem dX9_planNow_0 : decode cX9_planNow 0 = .ok (.aload_n 0, 1) := by decide +kernel
theorem dX9_planNow_1 : decode cX9_planNow 1 = .ok (.iload_n 1, 1) := by decide +kernel
theorem dX9_planNow_2 : decode cX9_planNow 2 = .ok (.invokevirtual 121, 3) := by decide +kernel
theorem dX9_planNow_5 : decode cX9_planNow 5 = .ok (.ifCond .ne 10, 3) := by decide +kernel
theorem dX9_planNow_8 : decode cX9_planNow 8 = .ok (.aload_n 0, 1) := by decide +kernel
theorem dX9_planNow_9 : decode cX9_planNow 9 = .ok (.invokevirtual 113, 3) := by decide +kernel
theorem dX9_planNow_12 : decode cX9_planNow 12 = .ok (.ifCond .eq 14, 3) := by decide +kernel
theorem dX9_planNow_15 : decode cX9_planNow 15 = .ok (.aload_n 0, 1) := by decide +kernel
theorem dX9_planNow_16 : decode cX9_planNow 16 = .ok (.getfield 56, 3) := by decide +kernel
theorem dX9_planNow_19 : decode cX9_planNow 19 = .ok (.aload_n 0, 1) := by decide +kernel
theorem dX9_planNow_20 : decode cX9_planNow 20 = .ok (.iload_n 1, 1) := by decide +kernel
theorem dX9_planNow_21 : decode cX9_planNow 21 = .ok (.invokevirtual 167, 3) := by decide +kernel
theorem dX9_planNow_24 : decode cX9_planNow 24 = .ok (.iaload, 1) := by decide +kernel
theorem dX9_planNow_25 : decode cX9_planNow 25 = .ok (.ireturn, 1) := by decide +kernel
theorem dX9_planNow_26 : decode cX9_planNow 26 = .ok (.aload_n 0, 1) := by decide +kernel
theorem dX9_planNow_27 : decode cX9_planNow 27 = .ok (.getfield 32, 3) := by decide +kernel
theorem dX9_planNow_30 : decode cX9_planNow 30 = .ok (.iconst 0, 1) := by decide +kernel
theorem dX9_planNow_31 : decode cX9_planNow 31 = .ok (.iaload, 1) := by decide +kernel
theorem dX9_planNow_32 : decode cX9_planNow 32 = .ok (.istore_n 2, 1) := by decide +kernel
theorem dX9_planNow_33 : decode cX9_planNow 33 = .ok (.aload_n 0, 1) := by decide +kernel
theorem dX9_planNow_34 : decode cX9_planNow 34 = .ok (.iload_n 1, 1) := by decide +kernel
theorem dX9_planNow_35 : decode cX9_planNow 35 = .ok (.iload_n 2, 1) := by decide +kernel
theorem dX9_planNow_36 : decode cX9_planNow 36 = .ok (.aload_n 0, 1) := by decide +kernel
theorem dX9_planNow_37 : decode cX9_planNow 37 = .ok (.iload_n 1, 1) := by decide +kernel
theorem dX9_planNow_38 : decode cX9_planNow 38 = .ok (.invokevirtual 277, 3) := by decide +kernel
theorem dX9_planNow_41 : decode cX9_planNow 41 = .ok (.aload_n 0, 1) := by decide +kernel
theorem dX9_planNow_42 : decode cX9_planNow 42 = .ok (.iload_n 1, 1) := by decide +kernel
theorem dX9_planNow_43 : decode cX9_planNow 43 = .ok (.iconst 0, 1) := by decide +kernel
theorem dX9_planNow_44 : decode cX9_planNow 44 = .ok (.invokevirtual 106, 3) := by decide +kernel
theorem dX9_planNow_47 : decode cX9_planNow 47 = .ok (.aload_n 0, 1) := by decide +kernel
theorem dX9_planNow_48 : decode cX9_planNow 48 = .ok (.iload_n 1, 1) := by decide +kernel
theorem dX9_planNow_49 : decode cX9_planNow 49 = .ok (.iconst 4, 1) := by decide +kernel
theorem dX9_planNow_50 : decode cX9_planNow 50 = .ok (.invokevirtual 106, 3) := by decide +kernel
theorem dX9_planNow_53 : decode cX9_planNow 53 = .ok (.aload_n 0, 1) := by decide +kernel
theorem dX9_planNow_54 : decode cX9_planNow 54 = .ok (.iload_n 1, 1) := by decide +kernel
theorem dX9_planNow_55 : decode cX9_planNow 55 = .ok (.bipush 7, 2) := by decide +kernel
theorem dX9_planNow_57 : decode cX9_planNow 57 = .ok (.iload_n 2, 1) := by decide +kernel
theorem dX9_planNow_58 : decode cX9_planNow 58 = .ok (.iadd, 1) := by decide +kernel
theorem dX9_planNow_59 : decode cX9_planNow 59 = .ok (.invokevirtual 106, 3) := by decide +kernel
theorem dX9_planNow_62 : decode cX9_planNow 62 = .ok (.aload_n 0, 1) := by decide +kernel
theorem dX9_planNow_63 : decode cX9_planNow 63 = .ok (.iload_n 1, 1) := by decide +kernel
theorem dX9_planNow_64 : decode cX9_planNow 64 = .ok (.invokevirtual 280, 3) := by decide +kernel
theorem dX9_planNow_67 : decode cX9_planNow 67 = .ok (.invokevirtual 270, 3) := by decide +kernel
theorem dX9_planNow_70 : decode cX9_planNow 70 = .ok (.ireturn, 1) := by decide +kernel
theorem dX9_chanceOf_0 : decode cX9_chanceOf 0 = .ok (.aload_n 0, 1) := by decide +kernel
theorem dX9_chanceOf_1 : decode cX9_chanceOf 1 = .ok (.iload_n 2, 1) := by decide +kernel
theorem dX9_chanceOf_2 : decode cX9_chanceOf 2 = .ok (.invokevirtual 283, 3) := by decide +kernel
theorem dX9_chanceOf_5 : decode cX9_chanceOf 5 = .ok (.aload_n 0, 1) := by decide +kernel
theorem dX9_chanceOf_6 : decode cX9_chanceOf 6 = .ok (.iload_n 1, 1) := by decide +kernel
theorem dX9_chanceOf_7 : decode cX9_chanceOf 7 = .ok (.invokevirtual 287, 3) := by decide +kernel
theorem dX9_chanceOf_10 : decode cX9_chanceOf 10 = .ok (.ireturn, 1) := by decide +kernel
theorem dX9_beatBy_0 : decode cX9_beatBy 0 = .ok (.iload_n 3, 1) := by decide +kernel
theorem dX9_beatBy_1 : decode cX9_beatBy 1 = .ok (.ifCond .ne 7, 3) := by decide +kernel
theorem dX9_beatBy_4 : decode cX9_beatBy 4 = .ok (.iconst 0, 1) := by decide +kernel
theorem dX9_beatBy_5 : decode cX9_beatBy 5 = .ok (.goto 23, 3) := by decide +kernel
theorem dX9_beatBy_8 : decode cX9_beatBy 8 = .ok (.ldc_w 264, 3) := by decide +kernel
theorem dX9_beatBy_11 : decode cX9_beatBy 11 = .ok (.aload_n 0, 1) := by decide +kernel
theorem dX9_beatBy_12 : decode cX9_beatBy 12 = .ok (.getfield 59, 3) := by decide +kernel
theorem dX9_beatBy_15 : decode cX9_beatBy 15 = .ok (.iload_n 3, 1) := by decide +kernel
theorem dX9_beatBy_16 : decode cX9_beatBy 16 = .ok (.aload_n 0, 1) := by decide +kernel
theorem dX9_beatBy_17 : decode cX9_beatBy 17 = .ok (.iload_n 1, 1) := by decide +kernel
theorem dX9_beatBy_18 : decode cX9_beatBy 18 = .ok (.iload_n 2, 1) := by decide +kernel
theorem dX9_beatBy_19 : decode cX9_beatBy 19 = .ok (.invokevirtual 171, 3) := by decide +kernel
theorem dX9_beatBy_22 : decode cX9_beatBy 22 = .ok (.invokestatic 160, 3) := by decide +kernel
theorem dX9_beatBy_25 : decode cX9_beatBy 25 = .ok (.iadd, 1) := by decide +kernel
theorem dX9_beatBy_26 : decode cX9_beatBy 26 = .ok (.iaload, 1) := by decide +kernel
theorem dX9_beatBy_27 : decode cX9_beatBy 27 = .ok (.isub, 1) := by decide +kernel
theorem dX9_beatBy_28 : decode cX9_beatBy 28 = .ok (.ireturn, 1) := by decide +kernel
theorem dX9_laysChances_0 : decode cX9_laysChances 0 = .ok (.iconst 0, 1) := by decide +kernel
theorem dX9_laysChances_1 : decode cX9_laysChances 1 = .ok (.istore_n 2, 1) := by decide +kernel
theorem dX9_laysChances_2 : decode cX9_laysChances 2 = .ok (.iload_n 2, 1) := by decide +kernel
theorem dX9_laysChances_3 : decode cX9_laysChances 3 = .ok (.bipush 121, 2) := by decide +kernel
theorem dX9_laysChances_5 : decode cX9_laysChances 5 = .ok (.if_icmp .gt 31, 3) := by decide +kernel
theorem dX9_laysChances_8 : decode cX9_laysChances 8 = .ok (.aload_n 0, 1) := by decide +kernel
theorem dX9_laysChances_9 : decode cX9_laysChances 9 = .ok (.getfield 59, 3) := by decide +kernel
theorem dX9_laysChances_12 : decode cX9_laysChances 12 = .ok (.iload_n 2, 1) := by decide +kernel
theorem dX9_laysChances_13 : decode cX9_laysChances 13 = .ok (.iload_n 2, 1) := by decide +kernel
theorem dX9_laysChances_14 : decode cX9_laysChances 14 = .ok (.bipush 121, 2) := by decide +kernel
theorem dX9_laysChances_16 : decode cX9_laysChances 16 = .ok (.if_icmp .ne 7, 3) := by decide +kernel
theorem dX9_laysChances_19 : decode cX9_laysChances 19 = .ok (.iconst 0, 1) := by decide +kernel
theorem dX9_laysChances_20 : decode cX9_laysChances 20 = .ok (.goto 9, 3) := by decide +kernel
theorem dX9_laysChances_23 : decode cX9_laysChances 23 = .ok (.aload_n 0, 1) := by decide +kernel
theorem dX9_laysChances_24 : decode cX9_laysChances 24 = .ok (.iload_n 1, 1) := by decide +kernel
theorem dX9_laysChances_25 : decode cX9_laysChances 25 = .ok (.iload_n 2, 1) := by decide +kernel
theorem dX9_laysChances_26 : decode cX9_laysChances 26 = .ok (.invokevirtual 290, 3) := by decide +kernel
theorem dX9_laysChances_29 : decode cX9_laysChances 29 = .ok (.iastore, 1) := by decide +kernel
theorem dX9_laysChances_30 : decode cX9_laysChances 30 = .ok (.iinc 2 1, 3) := by decide +kernel
theorem dX9_laysChances_33 : decode cX9_laysChances 33 = .ok (.goto (-31), 3) := by decide +kernel
theorem dX9_laysChances_36 : decode cX9_laysChances 36 = .ok (.return_, 1) := by decide +kernel
theorem dX9_aimsBeat_0 : decode cX9_aimsBeat 0 = .ok (.aload_n 0, 1) := by decide +kernel
theorem dX9_aimsBeat_1 : decode cX9_aimsBeat 1 = .ok (.iload_n 2, 1) := by decide +kernel
theorem dX9_aimsBeat_2 : decode cX9_aimsBeat 2 = .ok (.invokevirtual 293, 3) := by decide +kernel
theorem dX9_aimsBeat_5 : decode cX9_aimsBeat 5 = .ok (.iconst 0, 1) := by decide +kernel
theorem dX9_aimsBeat_6 : decode cX9_aimsBeat 6 = .ok (.istore_n 3, 1) := by decide +kernel
theorem dX9_aimsBeat_7 : decode cX9_aimsBeat 7 = .ok (.iload_n 3, 1) := by decide +kernel
theorem dX9_aimsBeat_8 : decode cX9_aimsBeat 8 = .ok (.bipush 121, 2) := by decide +kernel
theorem dX9_aimsBeat_10 : decode cX9_aimsBeat 10 = .ok (.if_icmp .ge 22, 3) := by decide +kernel
theorem dX9_aimsBeat_13 : decode cX9_aimsBeat 13 = .ok (.aload_n 0, 1) := by decide +kernel
theorem dX9_aimsBeat_14 : decode cX9_aimsBeat 14 = .ok (.getfield 56, 3) := by decide +kernel
theorem dX9_aimsBeat_17 : decode cX9_aimsBeat 17 = .ok (.iload_n 3, 1) := by decide +kernel
theorem dX9_aimsBeat_18 : decode cX9_aimsBeat 18 = .ok (.aload_n 0, 1) := by decide +kernel
theorem dX9_aimsBeat_19 : decode cX9_aimsBeat 19 = .ok (.iload_n 1, 1) := by decide +kernel
theorem dX9_aimsBeat_20 : decode cX9_aimsBeat 20 = .ok (.iload_n 2, 1) := by decide +kernel
theorem dX9_aimsBeat_21 : decode cX9_aimsBeat 21 = .ok (.iload_n 3, 1) := by decide +kernel
theorem dX9_aimsBeat_22 : decode cX9_aimsBeat 22 = .ok (.invokevirtual 296, 3) := by decide +kernel
theorem dX9_aimsBeat_25 : decode cX9_aimsBeat 25 = .ok (.iastore, 1) := by decide +kernel
theorem dX9_aimsBeat_26 : decode cX9_aimsBeat 26 = .ok (.iinc 3 1, 3) := by decide +kernel
theorem dX9_aimsBeat_29 : decode cX9_aimsBeat 29 = .ok (.goto (-22), 3) := by decide +kernel
theorem dX9_aimsBeat_32 : decode cX9_aimsBeat 32 = .ok (.return_, 1) := by decide +kernel
theorem dX9_aimsWin_0 : decode cX9_aimsWin 0 = .ok (.iconst 0, 1) := by decide +kernel
theorem dX9_aimsWin_1 : decode cX9_aimsWin 1 = .ok (.istore_n 2, 1) := by decide +kernel
theorem dX9_aimsWin_2 : decode cX9_aimsWin 2 = .ok (.iload_n 2, 1) := by decide +kernel
theorem dX9_aimsWin_3 : decode cX9_aimsWin 3 = .ok (.bipush 121, 2) := by decide +kernel
theorem dX9_aimsWin_5 : decode cX9_aimsWin 5 = .ok (.if_icmp .ge 26, 3) := by decide +kernel
theorem dX9_aimsWin_8 : decode cX9_aimsWin 8 = .ok (.aload_n 0, 1) := by decide +kernel
theorem dX9_aimsWin_9 : decode cX9_aimsWin 9 = .ok (.getfield 62, 3) := by decide +kernel
theorem dX9_aimsWin_12 : decode cX9_aimsWin 12 = .ok (.iload_n 2, 1) := by decide +kernel
theorem dX9_aimsWin_13 : decode cX9_aimsWin 13 = .ok (.iload_n 2, 1) := by decide +kernel
theorem dX9_aimsWin_14 : decode cX9_aimsWin 14 = .ok (.ifCond .ne 7, 3) := by decide +kernel
theorem dX9_aimsWin_17 : decode cX9_aimsWin 17 = .ok (.iconst 0, 1) := by decide +kernel
theorem dX9_aimsWin_18 : decode cX9_aimsWin 18 = .ok (.goto 6, 3) := by decide +kernel
theorem dX9_aimsWin_21 : decode cX9_aimsWin 21 = .ok (.ldc_w 264, 3) := by decide +kernel
theorem dX9_aimsWin_24 : decode cX9_aimsWin 24 = .ok (.iastore, 1) := by decide +kernel
theorem dX9_aimsWin_25 : decode cX9_aimsWin 25 = .ok (.iinc 2 1, 3) := by decide +kernel
theorem dX9_aimsWin_28 : decode cX9_aimsWin 28 = .ok (.goto (-26), 3) := by decide +kernel
theorem dX9_aimsWin_31 : decode cX9_aimsWin 31 = .ok (.iconst 0, 1) := by decide +kernel
theorem dX9_aimsWin_32 : decode cX9_aimsWin 32 = .ok (.istore_n 2, 1) := by decide +kernel
theorem dX9_aimsWin_33 : decode cX9_aimsWin 33 = .ok (.iload_n 2, 1) := by decide +kernel
theorem dX9_aimsWin_34 : decode cX9_aimsWin 34 = .ok (.aload_n 0, 1) := by decide +kernel
theorem dX9_aimsWin_35 : decode cX9_aimsWin 35 = .ok (.getfield 84, 3) := by decide +kernel
theorem dX9_aimsWin_38 : decode cX9_aimsWin 38 = .ok (.if_icmp .ge 63, 3) := by decide +kernel
theorem dX9_aimsWin_41 : decode cX9_aimsWin 41 = .ok (.iload_n 2, 1) := by decide +kernel
theorem dX9_aimsWin_42 : decode cX9_aimsWin 42 = .ok (.iload_n 1, 1) := by decide +kernel
theorem dX9_aimsWin_43 : decode cX9_aimsWin 43 = .ok (.if_icmp .ne 6, 3) := by decide +kernel
theorem dX9_aimsWin_46 : decode cX9_aimsWin 46 = .ok (.goto 49, 3) := by decide +kernel
theorem dX9_aimsWin_49 : decode cX9_aimsWin 49 = .ok (.aload_n 0, 1) := by decide +kernel
theorem dX9_aimsWin_50 : decode cX9_aimsWin 50 = .ok (.iload_n 2, 1) := by decide +kernel
theorem dX9_aimsWin_51 : decode cX9_aimsWin 51 = .ok (.invokevirtual 293, 3) := by decide +kernel
theorem dX9_aimsWin_54 : decode cX9_aimsWin 54 = .ok (.iconst 0, 1) := by decide +kernel
theorem dX9_aimsWin_55 : decode cX9_aimsWin 55 = .ok (.istore_n 3, 1) := by decide +kernel
theorem dX9_aimsWin_56 : decode cX9_aimsWin 56 = .ok (.iload_n 3, 1) := by decide +kernel
theorem dX9_aimsWin_57 : decode cX9_aimsWin 57 = .ok (.bipush 121, 2) := by decide +kernel
theorem dX9_aimsWin_59 : decode cX9_aimsWin 59 = .ok (.if_icmp .ge 36, 3) := by decide +kernel
theorem dX9_aimsWin_62 : decode cX9_aimsWin 62 = .ok (.aload_n 0, 1) := by decide +kernel
theorem dX9_aimsWin_63 : decode cX9_aimsWin 63 = .ok (.getfield 62, 3) := by decide +kernel
theorem dX9_aimsWin_66 : decode cX9_aimsWin 66 = .ok (.iload_n 3, 1) := by decide +kernel
theorem dX9_aimsWin_67 : decode cX9_aimsWin 67 = .ok (.aload_n 0, 1) := by decide +kernel
theorem dX9_aimsWin_68 : decode cX9_aimsWin 68 = .ok (.getfield 62, 3) := by decide +kernel
theorem dX9_aimsWin_71 : decode cX9_aimsWin 71 = .ok (.iload_n 3, 1) := by decide +kernel
theorem dX9_aimsWin_72 : decode cX9_aimsWin 72 = .ok (.iaload, 1) := by decide +kernel
theorem dX9_aimsWin_73 : decode cX9_aimsWin 73 = .ok (.i2l, 1) := by decide +kernel
theorem dX9_aimsWin_74 : decode cX9_aimsWin 74 = .ok (.aload_n 0, 1) := by decide +kernel
theorem dX9_aimsWin_75 : decode cX9_aimsWin 75 = .ok (.iload_n 1, 1) := by decide +kernel
theorem dX9_aimsWin_76 : decode cX9_aimsWin 76 = .ok (.iload_n 2, 1) := by decide +kernel
theorem dX9_aimsWin_77 : decode cX9_aimsWin 77 = .ok (.iload_n 3, 1) := by decide +kernel
theorem dX9_aimsWin_78 : decode cX9_aimsWin 78 = .ok (.invokevirtual 296, 3) := by decide +kernel
theorem dX9_aimsWin_81 : decode cX9_aimsWin 81 = .ok (.i2l, 1) := by decide +kernel
theorem dX9_aimsWin_82 : decode cX9_aimsWin 82 = .ok (.lmul, 1) := by decide +kernel
theorem dX9_aimsWin_83 : decode cX9_aimsWin 83 = .ok (.ldc2_w 299, 3) := by decide +kernel
theorem dX9_aimsWin_86 : decode cX9_aimsWin 86 = .ok (.ldiv, 1) := by decide +kernel
theorem dX9_aimsWin_87 : decode cX9_aimsWin 87 = .ok (.l2i, 1) := by decide +kernel
theorem dX9_aimsWin_88 : decode cX9_aimsWin 88 = .ok (.iastore, 1) := by decide +kernel
theorem dX9_aimsWin_89 : decode cX9_aimsWin 89 = .ok (.iinc 3 1, 3) := by decide +kernel
theorem dX9_aimsWin_92 : decode cX9_aimsWin 92 = .ok (.goto (-36), 3) := by decide +kernel
theorem dX9_aimsWin_95 : decode cX9_aimsWin 95 = .ok (.iinc 2 1, 3) := by decide +kernel
theorem dX9_aimsWin_98 : decode cX9_aimsWin 98 = .ok (.goto (-65), 3) := by decide +kernel
theorem dX9_aimsWin_101 : decode cX9_aimsWin 101 = .ok (.iconst 0, 1) := by decide +kernel
theorem dX9_aimsWin_102 : decode cX9_aimsWin 102 = .ok (.istore_n 2, 1) := by decide +kernel
theorem dX9_aimsWin_103 : decode cX9_aimsWin 103 = .ok (.iload_n 2, 1) := by decide +kernel
theorem dX9_aimsWin_104 : decode cX9_aimsWin 104 = .ok (.bipush 121, 2) := by decide +kernel
theorem dX9_aimsWin_106 : decode cX9_aimsWin 106 = .ok (.if_icmp .ge 21, 3) := by decide +kernel
theorem dX9_aimsWin_109 : decode cX9_aimsWin 109 = .ok (.aload_n 0, 1) := by decide +kernel
theorem dX9_aimsWin_110 : decode cX9_aimsWin 110 = .ok (.getfield 56, 3) := by decide +kernel
theorem dX9_aimsWin_113 : decode cX9_aimsWin 113 = .ok (.iload_n 2, 1) := by decide +kernel
theorem dX9_aimsWin_114 : decode cX9_aimsWin 114 = .ok (.aload_n 0, 1) := by decide +kernel
theorem dX9_aimsWin_115 : decode cX9_aimsWin 115 = .ok (.getfield 62, 3) := by decide +kernel
theorem dX9_aimsWin_118 : decode cX9_aimsWin 118 = .ok (.iload_n 2, 1) := by decide +kernel
theorem dX9_aimsWin_119 : decode cX9_aimsWin 119 = .ok (.iaload, 1) := by decide +kernel
theorem dX9_aimsWin_120 : decode cX9_aimsWin 120 = .ok (.iastore, 1) := by decide +kernel
theorem dX9_aimsWin_121 : decode cX9_aimsWin 121 = .ok (.iinc 2 1, 3) := by decide +kernel
theorem dX9_aimsWin_124 : decode cX9_aimsWin 124 = .ok (.goto (-21), 3) := by decide +kernel
theorem dX9_aimsWin_127 : decode cX9_aimsWin 127 = .ok (.return_, 1) := by decide +kernel
theorem dX9_mass_0 : decode cX9_mass 0 = .ok (.aload_n 0, 1) := by decide +kernel
theorem dX9_mass_1 : decode cX9_mass 1 = .ok (.iconst 0, 1) := by decide +kernel
theorem dX9_mass_2 : decode cX9_mass 2 = .ok (.putfield 77, 3) := by decide +kernel
theorem dX9_mass_5 : decode cX9_mass 5 = .ok (.aload_n 0, 1) := by decide +kernel
theorem dX9_mass_6 : decode cX9_mass 6 = .ok (.iload_n 1, 1) := by decide +kernel
theorem dX9_mass_7 : decode cX9_mass 7 = .ok (.invokevirtual 233, 3) := by decide +kernel
theorem dX9_mass_10 : decode cX9_mass 10 = .ok (.ifCond .ne 5, 3) := by decide +kernel
theorem dX9_mass_13 : decode cX9_mass 13 = .ok (.iconst (-1), 1) := by decide +kernel
theorem dX9_mass_14 : decode cX9_mass 14 = .ok (.ireturn, 1) := by decide +kernel
theorem dX9_mass_15 : decode cX9_mass 15 = .ok (.aload_n 0, 1) := by decide +kernel
theorem dX9_mass_16 : decode cX9_mass 16 = .ok (.invokevirtual 301, 3) := by decide +kernel
theorem dX9_mass_19 : decode cX9_mass 19 = .ok (.aload_n 0, 1) := by decide +kernel
theorem dX9_mass_20 : decode cX9_mass 20 = .ok (.iload_n 1, 1) := by decide +kernel
theorem dX9_mass_21 : decode cX9_mass 21 = .ok (.invokevirtual 287, 3) := by decide +kernel
theorem dX9_mass_24 : decode cX9_mass 24 = .ok (.ireturn, 1) := by decide +kernel
theorem dX9_isTotal_0 : decode cX9_isTotal 0 = .ok (.iload_n 0, 1) := by decide +kernel
theorem dX9_isTotal_1 : decode cX9_isTotal 1 = .ok (.i2l, 1) := by decide +kernel
theorem dX9_isTotal_2 : decode cX9_isTotal 2 = .ok (.lconst 0, 1) := by decide +kernel
theorem dX9_isTotal_3 : decode cX9_isTotal 3 = .ok (.ldc2_w 304, 3) := by decide +kernel
theorem dX9_isTotal_6 : decode cX9_isTotal 6 = .ok (.invokestatic 87, 3) := by decide +kernel
theorem dX9_isTotal_9 : decode cX9_isTotal 9 = .ok (.ireturn, 1) := by decide +kernel
theorem dX9_chance_0 : decode cX9_chance 0 = .ok (.aload_n 0, 1) := by decide +kernel
theorem dX9_chance_1 : decode cX9_chance 1 = .ok (.iconst 0, 1) := by decide +kernel
theorem dX9_chance_2 : decode cX9_chance 2 = .ok (.putfield 77, 3) := by decide +kernel
theorem dX9_chance_5 : decode cX9_chance 5 = .ok (.aload_n 0, 1) := by decide +kernel
theorem dX9_chance_6 : decode cX9_chance 6 = .ok (.iload_n 1, 1) := by decide +kernel
theorem dX9_chance_7 : decode cX9_chance 7 = .ok (.invokevirtual 233, 3) := by decide +kernel
theorem dX9_chance_10 : decode cX9_chance 10 = .ok (.ifCond .eq 19, 3) := by decide +kernel
theorem dX9_chance_13 : decode cX9_chance 13 = .ok (.iload_n 2, 1) := by decide +kernel
theorem dX9_chance_14 : decode cX9_chance 14 = .ok (.invokestatic 306, 3) := by decide +kernel
theorem dX9_chance_17 : decode cX9_chance 17 = .ok (.ifCond .eq 12, 3) := by decide +kernel
theorem dX9_chance_20 : decode cX9_chance 20 = .ok (.aload_n 0, 1) := by decide +kernel
theorem dX9_chance_21 : decode cX9_chance 21 = .ok (.iload_n 1, 1) := by decide +kernel
theorem dX9_chance_22 : decode cX9_chance 22 = .ok (.iload_n 2, 1) := by decide +kernel
theorem dX9_chance_23 : decode cX9_chance 23 = .ok (.invokevirtual 290, 3) := by decide +kernel
theorem dX9_chance_26 : decode cX9_chance 26 = .ok (.goto 4, 3) := by decide +kernel
theorem dX9_chance_29 : decode cX9_chance 29 = .ok (.iconst (-1), 1) := by decide +kernel
theorem dX9_chance_30 : decode cX9_chance 30 = .ok (.ireturn, 1) := by decide +kernel
theorem dX9_likeliest_0 : decode cX9_likeliest 0 = .ok (.aload_n 0, 1) := by decide +kernel
theorem dX9_likeliest_1 : decode cX9_likeliest 1 = .ok (.iconst 0, 1) := by decide +kernel
theorem dX9_likeliest_2 : decode cX9_likeliest 2 = .ok (.putfield 77, 3) := by decide +kernel
theorem dX9_likeliest_5 : decode cX9_likeliest 5 = .ok (.aload_n 0, 1) := by decide +kernel
theorem dX9_likeliest_6 : decode cX9_likeliest 6 = .ok (.iload_n 1, 1) := by decide +kernel
theorem dX9_likeliest_7 : decode cX9_likeliest 7 = .ok (.invokevirtual 233, 3) := by decide +kernel
theorem dX9_likeliest_10 : decode cX9_likeliest 10 = .ok (.ifCond .ne 5, 3) := by decide +kernel
theorem dX9_likeliest_13 : decode cX9_likeliest 13 = .ok (.iconst (-1), 1) := by decide +kernel
theorem dX9_likeliest_14 : decode cX9_likeliest 14 = .ok (.ireturn, 1) := by decide +kernel
theorem dX9_likeliest_15 : decode cX9_likeliest 15 = .ok (.aload_n 0, 1) := by decide +kernel
theorem dX9_likeliest_16 : decode cX9_likeliest 16 = .ok (.iload_n 1, 1) := by decide +kernel
theorem dX9_likeliest_17 : decode cX9_likeliest 17 = .ok (.invokevirtual 293, 3) := by decide +kernel
theorem dX9_likeliest_20 : decode cX9_likeliest 20 = .ok (.iconst 0, 1) := by decide +kernel
theorem dX9_likeliest_21 : decode cX9_likeliest 21 = .ok (.istore_n 2, 1) := by decide +kernel
theorem dX9_likeliest_22 : decode cX9_likeliest 22 = .ok (.iconst 1, 1) := by decide +kernel
theorem dX9_likeliest_23 : decode cX9_likeliest 23 = .ok (.istore_n 3, 1) := by decide +kernel
theorem dX9_likeliest_24 : decode cX9_likeliest 24 = .ok (.iload_n 3, 1) := by decide +kernel
theorem dX9_likeliest_25 : decode cX9_likeliest 25 = .ok (.bipush 121, 2) := by decide +kernel
theorem dX9_likeliest_27 : decode cX9_likeliest 27 = .ok (.if_icmp .ge 48, 3) := by decide +kernel
theorem dX9_likeliest_30 : decode cX9_likeliest 30 = .ok (.aload_n 0, 1) := by decide +kernel
theorem dX9_likeliest_31 : decode cX9_likeliest 31 = .ok (.getfield 59, 3) := by decide +kernel
theorem dX9_likeliest_34 : decode cX9_likeliest 34 = .ok (.iload_n 3, 1) := by decide +kernel
theorem dX9_likeliest_35 : decode cX9_likeliest 35 = .ok (.iaload, 1) := by decide +kernel
theorem dX9_likeliest_36 : decode cX9_likeliest 36 = .ok (.aload_n 0, 1) := by decide +kernel
theorem dX9_likeliest_37 : decode cX9_likeliest 37 = .ok (.getfield 59, 3) := by decide +kernel
theorem dX9_likeliest_40 : decode cX9_likeliest 40 = .ok (.iload_n 3, 1) := by decide +kernel
theorem dX9_likeliest_41 : decode cX9_likeliest 41 = .ok (.iconst 1, 1) := by decide +kernel
theorem dX9_likeliest_42 : decode cX9_likeliest 42 = .ok (.iadd, 1) := by decide +kernel
theorem dX9_likeliest_43 : decode cX9_likeliest 43 = .ok (.iaload, 1) := by decide +kernel
theorem dX9_likeliest_44 : decode cX9_likeliest 44 = .ok (.isub, 1) := by decide +kernel
theorem dX9_likeliest_45 : decode cX9_likeliest 45 = .ok (.aload_n 0, 1) := by decide +kernel
theorem dX9_likeliest_46 : decode cX9_likeliest 46 = .ok (.getfield 59, 3) := by decide +kernel
theorem dX9_likeliest_49 : decode cX9_likeliest 49 = .ok (.iload_n 2, 1) := by decide +kernel
theorem dX9_likeliest_50 : decode cX9_likeliest 50 = .ok (.iaload, 1) := by decide +kernel
theorem dX9_likeliest_51 : decode cX9_likeliest 51 = .ok (.aload_n 0, 1) := by decide +kernel
theorem dX9_likeliest_52 : decode cX9_likeliest 52 = .ok (.getfield 59, 3) := by decide +kernel
theorem dX9_likeliest_55 : decode cX9_likeliest 55 = .ok (.iload_n 2, 1) := by decide +kernel
theorem dX9_likeliest_56 : decode cX9_likeliest 56 = .ok (.iconst 1, 1) := by decide +kernel
theorem dX9_likeliest_57 : decode cX9_likeliest 57 = .ok (.iadd, 1) := by decide +kernel
theorem dX9_likeliest_58 : decode cX9_likeliest 58 = .ok (.iaload, 1) := by decide +kernel
theorem dX9_likeliest_59 : decode cX9_likeliest 59 = .ok (.isub, 1) := by decide +kernel
theorem dX9_likeliest_60 : decode cX9_likeliest 60 = .ok (.if_icmp .le 7, 3) := by decide +kernel
theorem dX9_likeliest_63 : decode cX9_likeliest 63 = .ok (.iload_n 3, 1) := by decide +kernel
theorem dX9_likeliest_64 : decode cX9_likeliest 64 = .ok (.goto 4, 3) := by decide +kernel
theorem dX9_likeliest_67 : decode cX9_likeliest 67 = .ok (.iload_n 2, 1) := by decide +kernel
theorem dX9_likeliest_68 : decode cX9_likeliest 68 = .ok (.istore_n 2, 1) := by decide +kernel
theorem dX9_likeliest_69 : decode cX9_likeliest 69 = .ok (.iinc 3 1, 3) := by decide +kernel
theorem dX9_likeliest_72 : decode cX9_likeliest 72 = .ok (.goto (-48), 3) := by decide +kernel
theorem dX9_likeliest_75 : decode cX9_likeliest 75 = .ok (.aload_n 0, 1) := by decide +kernel
theorem dX9_likeliest_76 : decode cX9_likeliest 76 = .ok (.iconst 0, 1) := by decide +kernel
theorem dX9_likeliest_77 : decode cX9_likeliest 77 = .ok (.putfield 81, 3) := by decide +kernel
theorem dX9_likeliest_80 : decode cX9_likeliest 80 = .ok (.aload_n 0, 1) := by decide +kernel
theorem dX9_likeliest_81 : decode cX9_likeliest 81 = .ok (.aload_n 0, 1) := by decide +kernel
theorem dX9_likeliest_82 : decode cX9_likeliest 82 = .ok (.getfield 59, 3) := by decide +kernel
theorem dX9_likeliest_85 : decode cX9_likeliest 85 = .ok (.iload_n 2, 1) := by decide +kernel
theorem dX9_likeliest_86 : decode cX9_likeliest 86 = .ok (.iaload, 1) := by decide +kernel
theorem dX9_likeliest_87 : decode cX9_likeliest 87 = .ok (.aload_n 0, 1) := by decide +kernel
theorem dX9_likeliest_88 : decode cX9_likeliest 88 = .ok (.getfield 59, 3) := by decide +kernel
theorem dX9_likeliest_91 : decode cX9_likeliest 91 = .ok (.iload_n 2, 1) := by decide +kernel
theorem dX9_likeliest_92 : decode cX9_likeliest 92 = .ok (.iconst 1, 1) := by decide +kernel
theorem dX9_likeliest_93 : decode cX9_likeliest 93 = .ok (.iadd, 1) := by decide +kernel
theorem dX9_likeliest_94 : decode cX9_likeliest 94 = .ok (.iaload, 1) := by decide +kernel
theorem dX9_likeliest_95 : decode cX9_likeliest 95 = .ok (.isub, 1) := by decide +kernel
theorem dX9_likeliest_96 : decode cX9_likeliest 96 = .ok (.i2l, 1) := by decide +kernel
theorem dX9_likeliest_97 : decode cX9_likeliest 97 = .ok (.invokevirtual 180, 3) := by decide +kernel
theorem dX9_likeliest_100 : decode cX9_likeliest 100 = .ok (.aload_n 0, 1) := by decide +kernel
theorem dX9_likeliest_101 : decode cX9_likeliest 101 = .ok (.aload_n 0, 1) := by decide +kernel
theorem dX9_likeliest_102 : decode cX9_likeliest 102 = .ok (.getfield 59, 3) := by decide +kernel
theorem dX9_likeliest_105 : decode cX9_likeliest 105 = .ok (.iconst 1, 1) := by decide +kernel
theorem dX9_likeliest_106 : decode cX9_likeliest 106 = .ok (.iaload, 1) := by decide +kernel
theorem dX9_likeliest_107 : decode cX9_likeliest 107 = .ok (.i2l, 1) := by decide +kernel
theorem dX9_likeliest_108 : decode cX9_likeliest 108 = .ok (.invokevirtual 180, 3) := by decide +kernel
theorem dX9_likeliest_111 : decode cX9_likeliest 111 = .ok (.iload_n 2, 1) := by decide +kernel
theorem dX9_likeliest_112 : decode cX9_likeliest 112 = .ok (.ireturn, 1) := by decide +kernel
theorem dX9_beats_0 : decode cX9_beats 0 = .ok (.aload_n 0, 1) := by decide +kernel
theorem dX9_beats_1 : decode cX9_beats 1 = .ok (.iconst 0, 1) := by decide +kernel
theorem dX9_beats_2 : decode cX9_beats 2 = .ok (.putfield 77, 3) := by decide +kernel
theorem dX9_beats_5 : decode cX9_beats 5 = .ok (.aload_n 0, 1) := by decide +kernel
theorem dX9_beats_6 : decode cX9_beats 6 = .ok (.iload_n 1, 1) := by decide +kernel
theorem dX9_beats_7 : decode cX9_beats 7 = .ok (.invokevirtual 233, 3) := by decide +kernel
theorem dX9_beats_10 : decode cX9_beats 10 = .ok (.ifCond .eq 16, 3) := by decide +kernel
theorem dX9_beats_13 : decode cX9_beats 13 = .ok (.aload_n 0, 1) := by decide +kernel
theorem dX9_beats_14 : decode cX9_beats 14 = .ok (.iload_n 2, 1) := by decide +kernel
theorem dX9_beats_15 : decode cX9_beats 15 = .ok (.invokevirtual 233, 3) := by decide +kernel
theorem dX9_beats_18 : decode cX9_beats 18 = .ok (.ifCond .eq 8, 3) := by decide +kernel
theorem dX9_beats_21 : decode cX9_beats 21 = .ok (.iload_n 1, 1) := by decide +kernel
theorem dX9_beats_22 : decode cX9_beats 22 = .ok (.iload_n 2, 1) := by decide +kernel
theorem dX9_beats_23 : decode cX9_beats 23 = .ok (.if_icmp .ne 5, 3) := by decide +kernel
theorem dX9_beats_26 : decode cX9_beats 26 = .ok (.iconst (-1), 1) := by decide +kernel
theorem dX9_beats_27 : decode cX9_beats 27 = .ok (.ireturn, 1) := by decide +kernel
theorem dX9_beats_28 : decode cX9_beats 28 = .ok (.aload_n 0, 1) := by decide +kernel
theorem dX9_beats_29 : decode cX9_beats 29 = .ok (.iload_n 1, 1) := by decide +kernel
theorem dX9_beats_30 : decode cX9_beats 30 = .ok (.iload_n 2, 1) := by decide +kernel
theorem dX9_beats_31 : decode cX9_beats 31 = .ok (.invokevirtual 309, 3) := by decide +kernel
theorem dX9_beats_34 : decode cX9_beats 34 = .ok (.aload_n 0, 1) := by decide +kernel
theorem dX9_beats_35 : decode cX9_beats 35 = .ok (.iload_n 1, 1) := by decide +kernel
theorem dX9_beats_36 : decode cX9_beats 36 = .ok (.invokevirtual 287, 3) := by decide +kernel
theorem dX9_beats_39 : decode cX9_beats 39 = .ok (.ireturn, 1) := by decide +kernel
theorem dX9_winOf_0 : decode cX9_winOf 0 = .ok (.aload_n 0, 1) := by decide +kernel
theorem dX9_winOf_1 : decode cX9_winOf 1 = .ok (.iload_n 1, 1) := by decide +kernel
theorem dX9_winOf_2 : decode cX9_winOf 2 = .ok (.invokevirtual 313, 3) := by decide +kernel
theorem dX9_winOf_5 : decode cX9_winOf 5 = .ok (.aload_n 0, 1) := by decide +kernel
theorem dX9_winOf_6 : decode cX9_winOf 6 = .ok (.iload_n 1, 1) := by decide +kernel
theorem dX9_winOf_7 : decode cX9_winOf 7 = .ok (.invokevirtual 287, 3) := by decide +kernel
theorem dX9_winOf_10 : decode cX9_winOf 10 = .ok (.ireturn, 1) := by decide +kernel
theorem dX9_wins_0 : decode cX9_wins 0 = .ok (.aload_n 0, 1) := by decide +kernel
theorem dX9_wins_1 : decode cX9_wins 1 = .ok (.iconst 0, 1) := by decide +kernel
theorem dX9_wins_2 : decode cX9_wins 2 = .ok (.putfield 77, 3) := by decide +kernel
theorem dX9_wins_5 : decode cX9_wins 5 = .ok (.aload_n 0, 1) := by decide +kernel
theorem dX9_wins_6 : decode cX9_wins 6 = .ok (.iload_n 1, 1) := by decide +kernel
theorem dX9_wins_7 : decode cX9_wins 7 = .ok (.invokevirtual 233, 3) := by decide +kernel
theorem dX9_wins_10 : decode cX9_wins 10 = .ok (.ifCond .ne 5, 3) := by decide +kernel
theorem dX9_wins_13 : decode cX9_wins 13 = .ok (.iconst (-1), 1) := by decide +kernel
theorem dX9_wins_14 : decode cX9_wins 14 = .ok (.ireturn, 1) := by decide +kernel
theorem dX9_wins_15 : decode cX9_wins 15 = .ok (.aload_n 0, 1) := by decide +kernel
theorem dX9_wins_16 : decode cX9_wins 16 = .ok (.iconst 0, 1) := by decide +kernel
theorem dX9_wins_17 : decode cX9_wins 17 = .ok (.putfield 81, 3) := by decide +kernel
theorem dX9_wins_20 : decode cX9_wins 20 = .ok (.iconst 0, 1) := by decide +kernel
theorem dX9_wins_21 : decode cX9_wins 21 = .ok (.istore_n 2, 1) := by decide +kernel
theorem dX9_wins_22 : decode cX9_wins 22 = .ok (.iload_n 2, 1) := by decide +kernel
theorem dX9_wins_23 : decode cX9_wins 23 = .ok (.aload_n 0, 1) := by decide +kernel
theorem dX9_wins_24 : decode cX9_wins 24 = .ok (.getfield 84, 3) := by decide +kernel
theorem dX9_wins_27 : decode cX9_wins 27 = .ok (.if_icmp .ge 19, 3) := by decide +kernel
theorem dX9_wins_30 : decode cX9_wins 30 = .ok (.aload_n 0, 1) := by decide +kernel
theorem dX9_wins_31 : decode cX9_wins 31 = .ok (.aload_n 0, 1) := by decide +kernel
theorem dX9_wins_32 : decode cX9_wins 32 = .ok (.iload_n 2, 1) := by decide +kernel
theorem dX9_wins_33 : decode cX9_wins 33 = .ok (.invokevirtual 316, 3) := by decide +kernel
theorem dX9_wins_36 : decode cX9_wins 36 = .ok (.i2l, 1) := by decide +kernel
theorem dX9_wins_37 : decode cX9_wins 37 = .ok (.invokevirtual 180, 3) := by decide +kernel
theorem dX9_wins_40 : decode cX9_wins 40 = .ok (.iinc 2 1, 3) := by decide +kernel
theorem dX9_wins_43 : decode cX9_wins 43 = .ok (.goto (-21), 3) := by decide +kernel
theorem dX9_wins_46 : decode cX9_wins 46 = .ok (.aload_n 0, 1) := by decide +kernel
theorem dX9_wins_47 : decode cX9_wins 47 = .ok (.getfield 7, 3) := by decide +kernel
theorem dX9_wins_50 : decode cX9_wins 50 = .ok (.iload_n 1, 1) := by decide +kernel
theorem dX9_wins_51 : decode cX9_wins 51 = .ok (.laload, 1) := by decide +kernel
theorem dX9_wins_52 : decode cX9_wins 52 = .ok (.l2i, 1) := by decide +kernel
theorem dX9_wins_53 : decode cX9_wins 53 = .ok (.ireturn, 1) := by decide +kernel
theorem dX9_failsToo_0 : decode cX9_failsToo 0 = .ok (.iload_n 0, 1) := by decide +kernel
theorem dX9_failsToo_1 : decode cX9_failsToo 1 = .ok (.i2l, 1) := by decide +kernel
theorem dX9_failsToo_2 : decode cX9_failsToo 2 = .ok (.sipush 1000, 3) := by decide +kernel
theorem dX9_failsToo_5 : decode cX9_failsToo 5 = .ok (.iload_n 1, 1) := by decide +kernel
theorem dX9_failsToo_6 : decode cX9_failsToo 6 = .ok (.isub, 1) := by decide +kernel
theorem dX9_failsToo_7 : decode cX9_failsToo 7 = .ok (.i2l, 1) := by decide +kernel
theorem dX9_failsToo_8 : decode cX9_failsToo 8 = .ok (.lmul, 1) := by decide +kernel
theorem dX9_failsToo_9 : decode cX9_failsToo 9 = .ok (.ldc2_w 265, 3) := by decide +kernel
theorem dX9_failsToo_12 : decode cX9_failsToo 12 = .ok (.ldiv, 1) := by decide +kernel
theorem dX9_failsToo_13 : decode cX9_failsToo 13 = .ok (.l2i, 1) := by decide +kernel
theorem dX9_failsToo_14 : decode cX9_failsToo 14 = .ok (.ireturn, 1) := by decide +kernel
theorem dX9_bombs_0 : decode cX9_bombs 0 = .ok (.aload_n 0, 1) := by decide +kernel
theorem dX9_bombs_1 : decode cX9_bombs 1 = .ok (.iconst 0, 1) := by decide +kernel
theorem dX9_bombs_2 : decode cX9_bombs 2 = .ok (.putfield 77, 3) := by decide +kernel
theorem dX9_bombs_5 : decode cX9_bombs 5 = .ok (.aload_n 0, 1) := by decide +kernel
theorem dX9_bombs_6 : decode cX9_bombs 6 = .ok (.iload_n 1, 1) := by decide +kernel
theorem dX9_bombs_7 : decode cX9_bombs 7 = .ok (.invokevirtual 233, 3) := by decide +kernel
theorem dX9_bombs_10 : decode cX9_bombs 10 = .ok (.ifCond .ne 5, 3) := by decide +kernel
theorem dX9_bombs_13 : decode cX9_bombs 13 = .ok (.iconst (-1), 1) := by decide +kernel
theorem dX9_bombs_14 : decode cX9_bombs 14 = .ok (.ireturn, 1) := by decide +kernel
theorem dX9_bombs_15 : decode cX9_bombs 15 = .ok (.aload_n 0, 1) := by decide +kernel
theorem dX9_bombs_16 : decode cX9_bombs 16 = .ok (.iconst 0, 1) := by decide +kernel
theorem dX9_bombs_17 : decode cX9_bombs 17 = .ok (.putfield 81, 3) := by decide +kernel
theorem dX9_bombs_20 : decode cX9_bombs 20 = .ok (.iconst 0, 1) := by decide +kernel
theorem dX9_bombs_21 : decode cX9_bombs 21 = .ok (.istore_n 2, 1) := by decide +kernel
theorem dX9_bombs_22 : decode cX9_bombs 22 = .ok (.iload_n 2, 1) := by decide +kernel
theorem dX9_bombs_23 : decode cX9_bombs 23 = .ok (.iconst 3, 1) := by decide +kernel
theorem dX9_bombs_24 : decode cX9_bombs 24 = .ok (.if_icmp .ge 76, 3) := by decide +kernel
theorem dX9_bombs_27 : decode cX9_bombs 27 = .ok (.ldc_w 264, 3) := by decide +kernel
theorem dX9_bombs_30 : decode cX9_bombs 30 = .ok (.istore_n 3, 1) := by decide +kernel
theorem dX9_bombs_31 : decode cX9_bombs 31 = .ok (.aload_n 0, 1) := by decide +kernel
theorem dX9_bombs_32 : decode cX9_bombs 32 = .ok (.iload_n 1, 1) := by decide +kernel
theorem dX9_bombs_33 : decode cX9_bombs 33 = .ok (.iload_n 2, 1) := by decide +kernel
theorem dX9_bombs_34 : decode cX9_bombs 34 = .ok (.iconst 0, 1) := by decide +kernel
theorem dX9_bombs_35 : decode cX9_bombs 35 = .ok (.invokevirtual 125, 3) := by decide +kernel
theorem dX9_bombs_38 : decode cX9_bombs 38 = .ok (.istore 4, 2) := by decide +kernel
theorem dX9_bombs_40 : decode cX9_bombs 40 = .ok (.iconst 0, 1) := by decide +kernel
theorem dX9_bombs_41 : decode cX9_bombs 41 = .ok (.istore 5, 2) := by decide +kernel
theorem dX9_bombs_43 : decode cX9_bombs 43 = .ok (.iload 5, 2) := by decide +kernel
theorem dX9_bombs_45 : decode cX9_bombs 45 = .ok (.iconst 3, 1) := by decide +kernel
theorem dX9_bombs_46 : decode cX9_bombs 46 = .ok (.if_icmp .ge 42, 3) := by decide +kernel
theorem dX9_bombs_49 : decode cX9_bombs 49 = .ok (.iload 4, 2) := by decide +kernel
theorem dX9_bombs_51 : decode cX9_bombs 51 = .ok (.ifCond .le 37, 3) := by decide +kernel
theorem dX9_bombs_54 : decode cX9_bombs 54 = .ok (.iload_n 3, 1) := by decide +kernel
theorem dX9_bombs_55 : decode cX9_bombs 55 = .ok (.aload_n 0, 1) := by decide +kernel
theorem dX9_bombs_56 : decode cX9_bombs 56 = .ok (.iload_n 1, 1) := by decide +kernel
theorem dX9_bombs_57 : decode cX9_bombs 57 = .ok (.iload_n 2, 1) := by decide +kernel
theorem dX9_bombs_58 : decode cX9_bombs 58 = .ok (.iload 4, 2) := by decide +kernel
theorem dX9_bombs_60 : decode cX9_bombs 60 = .ok (.iload 5, 2) := by decide +kernel
theorem dX9_bombs_62 : decode cX9_bombs 62 = .ok (.invokevirtual 245, 3) := by decide +kernel
theorem dX9_bombs_65 : decode cX9_bombs 65 = .ok (.invokestatic 319, 3) := by decide +kernel
theorem dX9_bombs_68 : decode cX9_bombs 68 = .ok (.istore_n 3, 1) := by decide +kernel
theorem dX9_bombs_69 : decode cX9_bombs 69 = .ok (.aload_n 0, 1) := by decide +kernel
theorem dX9_bombs_70 : decode cX9_bombs 70 = .ok (.iload_n 1, 1) := by decide +kernel
theorem dX9_bombs_71 : decode cX9_bombs 71 = .ok (.iload_n 2, 1) := by decide +kernel
theorem dX9_bombs_72 : decode cX9_bombs 72 = .ok (.iload 5, 2) := by decide +kernel
theorem dX9_bombs_74 : decode cX9_bombs 74 = .ok (.iload 4, 2) := by decide +kernel
theorem dX9_bombs_76 : decode cX9_bombs 76 = .ok (.iconst 0, 1) := by decide +kernel
theorem dX9_bombs_77 : decode cX9_bombs 77 = .ok (.invokevirtual 153, 3) := by decide +kernel
theorem dX9_bombs_80 : decode cX9_bombs 80 = .ok (.istore 4, 2) := by decide +kernel
theorem dX9_bombs_82 : decode cX9_bombs 82 = .ok (.iinc 5 1, 3) := by decide +kernel
theorem dX9_bombs_85 : decode cX9_bombs 85 = .ok (.goto (-42), 3) := by decide +kernel
theorem dX9_bombs_88 : decode cX9_bombs 88 = .ok (.aload_n 0, 1) := by decide +kernel
theorem dX9_bombs_89 : decode cX9_bombs 89 = .ok (.iload_n 3, 1) := by decide +kernel
theorem dX9_bombs_90 : decode cX9_bombs 90 = .ok (.i2l, 1) := by decide +kernel
theorem dX9_bombs_91 : decode cX9_bombs 91 = .ok (.invokevirtual 180, 3) := by decide +kernel
theorem dX9_bombs_94 : decode cX9_bombs 94 = .ok (.iinc 2 1, 3) := by decide +kernel
theorem dX9_bombs_97 : decode cX9_bombs 97 = .ok (.goto (-75), 3) := by decide +kernel
theorem dX9_bombs_100 : decode cX9_bombs 100 = .ok (.ldc_w 264, 3) := by decide +kernel
theorem dX9_bombs_103 : decode cX9_bombs 103 = .ok (.aload_n 0, 1) := by decide +kernel
theorem dX9_bombs_104 : decode cX9_bombs 104 = .ok (.iload_n 1, 1) := by decide +kernel
theorem dX9_bombs_105 : decode cX9_bombs 105 = .ok (.iconst 1, 1) := by decide +kernel
theorem dX9_bombs_106 : decode cX9_bombs 106 = .ok (.invokevirtual 290, 3) := by decide +kernel
theorem dX9_bombs_109 : decode cX9_bombs 109 = .ok (.isub, 1) := by decide +kernel
theorem dX9_bombs_110 : decode cX9_bombs 110 = .ok (.ireturn, 1) := by decide +kernel
theorem dX9_opener_0 : decode cX9_opener 0 = .ok (.aload_n 0, 1) := by decide +kernel
theorem dX9_opener_1 : decode cX9_opener 1 = .ok (.iconst 0, 1) := by decide +kernel
theorem dX9_opener_2 : decode cX9_opener 2 = .ok (.putfield 77, 3) := by decide +kernel
theorem dX9_opener_5 : decode cX9_opener 5 = .ok (.aload_n 0, 1) := by decide +kernel
theorem dX9_opener_6 : decode cX9_opener 6 = .ok (.iload_n 1, 1) := by decide +kernel
theorem dX9_opener_7 : decode cX9_opener 7 = .ok (.invokevirtual 233, 3) := by decide +kernel
theorem dX9_opener_10 : decode cX9_opener 10 = .ok (.ifCond .eq 22, 3) := by decide +kernel
theorem dX9_opener_13 : decode cX9_opener 13 = .ok (.iload_n 2, 1) := by decide +kernel
theorem dX9_opener_14 : decode cX9_opener 14 = .ok (.invokestatic 236, 3) := by decide +kernel
theorem dX9_opener_17 : decode cX9_opener 17 = .ok (.ifCond .eq 15, 3) := by decide +kernel
theorem dX9_opener_20 : decode cX9_opener 20 = .ok (.iload_n 3, 1) := by decide +kernel
theorem dX9_opener_21 : decode cX9_opener 21 = .ok (.i2l, 1) := by decide +kernel
theorem dX9_opener_22 : decode cX9_opener 22 = .ok (.lconst 0, 1) := by decide +kernel
theorem dX9_opener_23 : decode cX9_opener 23 = .ok (.ldc2_w 299, 3) := by decide +kernel
theorem dX9_opener_26 : decode cX9_opener 26 = .ok (.invokestatic 87, 3) := by decide +kernel
theorem dX9_opener_29 : decode cX9_opener 29 = .ok (.ifCond .ne 5, 3) := by decide +kernel
theorem dX9_opener_32 : decode cX9_opener 32 = .ok (.iconst (-1), 1) := by decide +kernel
theorem dX9_opener_33 : decode cX9_opener 33 = .ok (.ireturn, 1) := by decide +kernel
theorem dX9_opener_34 : decode cX9_opener 34 = .ok (.bipush 40, 2) := by decide +kernel
theorem dX9_opener_36 : decode cX9_opener 36 = .ok (.istore 4, 2) := by decide +kernel
theorem dX9_opener_38 : decode cX9_opener 38 = .ok (.iload 4, 2) := by decide +kernel
theorem dX9_opener_40 : decode cX9_opener 40 = .ok (.ifCond .le 55, 3) := by decide +kernel
theorem dX9_opener_43 : decode cX9_opener 43 = .ok (.ldc_w 264, 3) := by decide +kernel
theorem dX9_opener_46 : decode cX9_opener 46 = .ok (.istore 5, 2) := by decide +kernel
theorem dX9_opener_48 : decode cX9_opener 48 = .ok (.iconst 0, 1) := by decide +kernel
theorem dX9_opener_49 : decode cX9_opener 49 = .ok (.istore 6, 2) := by decide +kernel
theorem dX9_opener_51 : decode cX9_opener 51 = .ok (.iload 6, 2) := by decide +kernel
theorem dX9_opener_53 : decode cX9_opener 53 = .ok (.iconst 3, 1) := by decide +kernel
theorem dX9_opener_54 : decode cX9_opener 54 = .ok (.if_icmp .ge 26, 3) := by decide +kernel
theorem dX9_opener_57 : decode cX9_opener 57 = .ok (.iload 5, 2) := by decide +kernel
theorem dX9_opener_59 : decode cX9_opener 59 = .ok (.aload_n 0, 1) := by decide +kernel
theorem dX9_opener_60 : decode cX9_opener 60 = .ok (.iload_n 1, 1) := by decide +kernel
theorem dX9_opener_61 : decode cX9_opener 61 = .ok (.iload_n 2, 1) := by decide +kernel
theorem dX9_opener_62 : decode cX9_opener 62 = .ok (.iload 4, 2) := by decide +kernel
theorem dX9_opener_64 : decode cX9_opener 64 = .ok (.iload 6, 2) := by decide +kernel
theorem dX9_opener_66 : decode cX9_opener 66 = .ok (.invokevirtual 245, 3) := by decide +kernel
theorem dX9_opener_69 : decode cX9_opener 69 = .ok (.invokestatic 319, 3) := by decide +kernel
theorem dX9_opener_72 : decode cX9_opener 72 = .ok (.istore 5, 2) := by decide +kernel
theorem dX9_opener_74 : decode cX9_opener 74 = .ok (.iinc 6 1, 3) := by decide +kernel
theorem dX9_opener_77 : decode cX9_opener 77 = .ok (.goto (-26), 3) := by decide +kernel
theorem dX9_opener_80 : decode cX9_opener 80 = .ok (.iload 5, 2) := by decide +kernel
theorem dX9_opener_82 : decode cX9_opener 82 = .ok (.iload_n 3, 1) := by decide +kernel
theorem dX9_opener_83 : decode cX9_opener 83 = .ok (.if_icmp .gt 6, 3) := by decide +kernel
theorem dX9_opener_86 : decode cX9_opener 86 = .ok (.iload 4, 2) := by decide +kernel
theorem dX9_opener_88 : decode cX9_opener 88 = .ok (.ireturn, 1) := by decide +kernel
theorem dX9_opener_89 : decode cX9_opener 89 = .ok (.iinc 4 (-1), 3) := by decide +kernel
theorem dX9_opener_92 : decode cX9_opener 92 = .ok (.goto (-54), 3) := by decide +kernel
theorem dX9_opener_95 : decode cX9_opener 95 = .ok (.bipush (-2), 2) := by decide +kernel
theorem dX9_opener_97 : decode cX9_opener 97 = .ok (.ireturn, 1) := by decide +kernel
theorem dX9_cell_0 : decode cX9_cell 0 = .ok (.bipush 42, 2) := by decide +kernel
theorem dX9_cell_2 : decode cX9_cell 2 = .ok (.bipush 42, 2) := by decide +kernel
theorem dX9_cell_4 : decode cX9_cell 4 = .ok (.iconst 4, 1) := by decide +kernel
theorem dX9_cell_5 : decode cX9_cell 5 = .ok (.iload_n 0, 1) := by decide +kernel
theorem dX9_cell_6 : decode cX9_cell 6 = .ok (.imul, 1) := by decide +kernel
theorem dX9_cell_7 : decode cX9_cell 7 = .ok (.iload_n 1, 1) := by decide +kernel
theorem dX9_cell_8 : decode cX9_cell 8 = .ok (.iadd, 1) := by decide +kernel
theorem dX9_cell_9 : decode cX9_cell 9 = .ok (.imul, 1) := by decide +kernel
theorem dX9_cell_10 : decode cX9_cell 10 = .ok (.iload_n 2, 1) := by decide +kernel
theorem dX9_cell_11 : decode cX9_cell 11 = .ok (.iadd, 1) := by decide +kernel
theorem dX9_cell_12 : decode cX9_cell 12 = .ok (.imul, 1) := by decide +kernel
theorem dX9_cell_13 : decode cX9_cell 13 = .ok (.iload_n 3, 1) := by decide +kernel
theorem dX9_cell_14 : decode cX9_cell 14 = .ok (.iadd, 1) := by decide +kernel
theorem dX9_cell_15 : decode cX9_cell 15 = .ok (.ireturn, 1) := by decide +kernel
theorem dX9_triesBest_0 : decode cX9_triesBest 0 = .ok (.aload_n 0, 1) := by decide +kernel
theorem dX9_triesBest_1 : decode cX9_triesBest 1 = .ok (.iconst 0, 1) := by decide +kernel
theorem dX9_triesBest_2 : decode cX9_triesBest 2 = .ok (.putfield 322, 3) := by decide +kernel
theorem dX9_triesBest_5 : decode cX9_triesBest 5 = .ok (.iconst (-1), 1) := by decide +kernel
theorem dX9_triesBest_6 : decode cX9_triesBest 6 = .ok (.istore 7, 2) := by decide +kernel
theorem dX9_triesBest_8 : decode cX9_triesBest 8 = .ok (.iload 5, 2) := by decide +kernel
theorem dX9_triesBest_10 : decode cX9_triesBest 10 = .ok (.istore 8, 2) := by decide +kernel
theorem dX9_triesBest_12 : decode cX9_triesBest 12 = .ok (.iload 8, 2) := by decide +kernel
theorem dX9_triesBest_14 : decode cX9_triesBest 14 = .ok (.bipush 40, 2) := by decide +kernel
theorem dX9_triesBest_16 : decode cX9_triesBest 16 = .ok (.if_icmp .gt 95, 3) := by decide +kernel
theorem dX9_triesBest_19 : decode cX9_triesBest 19 = .ok (.aload_n 0, 1) := by decide +kernel
theorem dX9_triesBest_20 : decode cX9_triesBest 20 = .ok (.getfield 68, 3) := by decide +kernel
theorem dX9_triesBest_23 : decode cX9_triesBest 23 = .ok (.iload_n 3, 1) := by decide +kernel
theorem dX9_triesBest_24 : decode cX9_triesBest 24 = .ok (.iconst 1, 1) := by decide +kernel
theorem dX9_triesBest_25 : decode cX9_triesBest 25 = .ok (.iadd, 1) := by decide +kernel
theorem dX9_triesBest_26 : decode cX9_triesBest 26 = .ok (.iload 4, 2) := by decide +kernel
theorem dX9_triesBest_28 : decode cX9_triesBest 28 = .ok (.bipush 41, 2) := by decide +kernel
theorem dX9_triesBest_30 : decode cX9_triesBest 30 = .ok (.iload 8, 2) := by decide +kernel
theorem dX9_triesBest_32 : decode cX9_triesBest 32 = .ok (.iconst 1, 1) := by decide +kernel
theorem dX9_triesBest_33 : decode cX9_triesBest 33 = .ok (.iadd, 1) := by decide +kernel
theorem dX9_triesBest_34 : decode cX9_triesBest 34 = .ok (.invokestatic 325, 3) := by decide +kernel
theorem dX9_triesBest_37 : decode cX9_triesBest 37 = .ok (.iload 8, 2) := by decide +kernel
theorem dX9_triesBest_39 : decode cX9_triesBest 39 = .ok (.invokestatic 328, 3) := by decide +kernel
theorem dX9_triesBest_42 : decode cX9_triesBest 42 = .ok (.iaload, 1) := by decide +kernel
theorem dX9_triesBest_43 : decode cX9_triesBest 43 = .ok (.istore 9, 2) := by decide +kernel
theorem dX9_triesBest_45 : decode cX9_triesBest 45 = .ok (.aload_n 0, 1) := by decide +kernel
theorem dX9_triesBest_46 : decode cX9_triesBest 46 = .ok (.getfield 68, 3) := by decide +kernel
theorem dX9_triesBest_49 : decode cX9_triesBest 49 = .ok (.iload_n 3, 1) := by decide +kernel
theorem dX9_triesBest_50 : decode cX9_triesBest 50 = .ok (.iconst 1, 1) := by decide +kernel
theorem dX9_triesBest_51 : decode cX9_triesBest 51 = .ok (.iadd, 1) := by decide +kernel
theorem dX9_triesBest_52 : decode cX9_triesBest 52 = .ok (.iload 4, 2) := by decide +kernel
theorem dX9_triesBest_54 : decode cX9_triesBest 54 = .ok (.iconst 1, 1) := by decide +kernel
theorem dX9_triesBest_55 : decode cX9_triesBest 55 = .ok (.iadd, 1) := by decide +kernel
theorem dX9_triesBest_56 : decode cX9_triesBest 56 = .ok (.iload 8, 2) := by decide +kernel
theorem dX9_triesBest_58 : decode cX9_triesBest 58 = .ok (.iload 6, 2) := by decide +kernel
theorem dX9_triesBest_60 : decode cX9_triesBest 60 = .ok (.invokestatic 328, 3) := by decide +kernel
theorem dX9_triesBest_63 : decode cX9_triesBest 63 = .ok (.iaload, 1) := by decide +kernel
theorem dX9_triesBest_64 : decode cX9_triesBest 64 = .ok (.istore 10, 2) := by decide +kernel
theorem dX9_triesBest_66 : decode cX9_triesBest 66 = .ok (.aload_n 0, 1) := by decide +kernel
theorem dX9_triesBest_67 : decode cX9_triesBest 67 = .ok (.iload_n 1, 1) := by decide +kernel
theorem dX9_triesBest_68 : decode cX9_triesBest 68 = .ok (.iload_n 2, 1) := by decide +kernel
theorem dX9_triesBest_69 : decode cX9_triesBest 69 = .ok (.iload 8, 2) := by decide +kernel
theorem dX9_triesBest_71 : decode cX9_triesBest 71 = .ok (.iload 4, 2) := by decide +kernel
theorem dX9_triesBest_73 : decode cX9_triesBest 73 = .ok (.invokevirtual 245, 3) := by decide +kernel
theorem dX9_triesBest_76 : decode cX9_triesBest 76 = .ok (.iload 9, 2) := by decide +kernel
theorem dX9_triesBest_78 : decode cX9_triesBest 78 = .ok (.iload 10, 2) := by decide +kernel
theorem dX9_triesBest_80 : decode cX9_triesBest 80 = .ok (.invokestatic 274, 3) := by decide +kernel
theorem dX9_triesBest_83 : decode cX9_triesBest 83 = .ok (.istore 11, 2) := by decide +kernel
theorem dX9_triesBest_85 : decode cX9_triesBest 85 = .ok (.iload 11, 2) := by decide +kernel
theorem dX9_triesBest_87 : decode cX9_triesBest 87 = .ok (.iload 7, 2) := by decide +kernel
theorem dX9_triesBest_89 : decode cX9_triesBest 89 = .ok (.if_icmp .gt 6, 3) := by decide +kernel
theorem dX9_triesBest_92 : decode cX9_triesBest 92 = .ok (.goto 13, 3) := by decide +kernel
theorem dX9_triesBest_95 : decode cX9_triesBest 95 = .ok (.iload 11, 2) := by decide +kernel
theorem dX9_triesBest_97 : decode cX9_triesBest 97 = .ok (.istore 7, 2) := by decide +kernel
theorem dX9_triesBest_99 : decode cX9_triesBest 99 = .ok (.aload_n 0, 1) := by decide +kernel
theorem dX9_triesBest_100 : decode cX9_triesBest 100 = .ok (.iload 8, 2) := by decide +kernel
theorem dX9_triesBest_102 : decode cX9_triesBest 102 = .ok (.putfield 322, 3) := by decide +kernel
theorem dX9_triesBest_105 : decode cX9_triesBest 105 = .ok (.iinc 8 1, 3) := by decide +kernel
theorem dX9_triesBest_108 : decode cX9_triesBest 108 = .ok (.goto (-96), 3) := by decide +kernel
theorem dX9_triesBest_111 : decode cX9_triesBest 111 = .ok (.iload 7, 2) := by decide +kernel
theorem dX9_triesBest_113 : decode cX9_triesBest 113 = .ok (.ireturn, 1) := by decide +kernel
theorem dX9_ends_0 : decode cX9_ends 0 = .ok (.iload_n 2, 1) := by decide +kernel
theorem dX9_ends_1 : decode cX9_ends 1 = .ok (.ifCond .ne 12, 3) := by decide +kernel
theorem dX9_ends_4 : decode cX9_ends 4 = .ok (.aload_n 0, 1) := by decide +kernel
theorem dX9_ends_5 : decode cX9_ends 5 = .ok (.getfield 56, 3) := by decide +kernel
theorem dX9_ends_8 : decode cX9_ends 8 = .ok (.iconst 0, 1) := by decide +kernel
theorem dX9_ends_9 : decode cX9_ends 9 = .ok (.iaload, 1) := by decide +kernel
theorem dX9_ends_10 : decode cX9_ends 10 = .ok (.goto 18, 3) := by decide +kernel
theorem dX9_ends_13 : decode cX9_ends 13 = .ok (.aload_n 0, 1) := by decide +kernel
theorem dX9_ends_14 : decode cX9_ends 14 = .ok (.getfield 65, 3) := by decide +kernel
theorem dX9_ends_17 : decode cX9_ends 17 = .ok (.bipush 121, 2) := by decide +kernel
theorem dX9_ends_19 : decode cX9_ends 19 = .ok (.iload_n 1, 1) := by decide +kernel
theorem dX9_ends_20 : decode cX9_ends 20 = .ok (.iconst 1, 1) := by decide +kernel
theorem dX9_ends_21 : decode cX9_ends 21 = .ok (.iadd, 1) := by decide +kernel
theorem dX9_ends_22 : decode cX9_ends 22 = .ok (.imul, 1) := by decide +kernel
theorem dX9_ends_23 : decode cX9_ends 23 = .ok (.iload_n 3, 1) := by decide +kernel
theorem dX9_ends_24 : decode cX9_ends 24 = .ok (.iadd, 1) := by decide +kernel
theorem dX9_ends_25 : decode cX9_ends 25 = .ok (.iload_n 2, 1) := by decide +kernel
theorem dX9_ends_26 : decode cX9_ends 26 = .ok (.iadd, 1) := by decide +kernel
theorem dX9_ends_27 : decode cX9_ends 27 = .ok (.iaload, 1) := by decide +kernel
theorem dX9_ends_28 : decode cX9_ends 28 = .ok (.ireturn, 1) := by decide +kernel
theorem dX9_canBe_0 : decode cX9_canBe 0 = .ok (.iload_n 1, 1) := by decide +kernel
theorem dX9_canBe_1 : decode cX9_canBe 1 = .ok (.ifCond .ne 18, 3) := by decide +kernel
theorem dX9_canBe_4 : decode cX9_canBe 4 = .ok (.iload_n 3, 1) := by decide +kernel
theorem dX9_canBe_5 : decode cX9_canBe 5 = .ok (.iload_n 2, 1) := by decide +kernel
theorem dX9_canBe_6 : decode cX9_canBe 6 = .ok (.iconst 1, 1) := by decide +kernel
theorem dX9_canBe_7 : decode cX9_canBe 7 = .ok (.isub, 1) := by decide +kernel
theorem dX9_canBe_8 : decode cX9_canBe 8 = .ok (.if_icmp .ne 7, 3) := by decide +kernel
theorem dX9_canBe_11 : decode cX9_canBe 11 = .ok (.iconst 1, 1) := by decide +kernel
theorem dX9_canBe_12 : decode cX9_canBe 12 = .ok (.goto 21, 3) := by decide +kernel
theorem dX9_canBe_15 : decode cX9_canBe 15 = .ok (.iconst 0, 1) := by decide +kernel
theorem dX9_canBe_16 : decode cX9_canBe 16 = .ok (.goto 17, 3) := by decide +kernel
theorem dX9_canBe_19 : decode cX9_canBe 19 = .ok (.iload_n 1, 1) := by decide +kernel
theorem dX9_canBe_20 : decode cX9_canBe 20 = .ok (.iload_n 0, 1) := by decide +kernel
theorem dX9_canBe_21 : decode cX9_canBe 21 = .ok (.if_icmp .lt 7, 3) := by decide +kernel
theorem dX9_canBe_24 : decode cX9_canBe 24 = .ok (.iload_n 3, 1) := by decide +kernel
theorem dX9_canBe_25 : decode cX9_canBe 25 = .ok (.ifCond .ne 7, 3) := by decide +kernel
theorem dX9_canBe_28 : decode cX9_canBe 28 = .ok (.iconst 1, 1) := by decide +kernel
theorem dX9_canBe_29 : decode cX9_canBe 29 = .ok (.goto 4, 3) := by decide +kernel
theorem dX9_canBe_32 : decode cX9_canBe 32 = .ok (.iconst 0, 1) := by decide +kernel
theorem dX9_canBe_33 : decode cX9_canBe 33 = .ok (.ireturn, 1) := by decide +kernel
theorem dX9_laysRounds_0 : decode cX9_laysRounds 0 = .ok (.iconst 3, 1) := by decide +kernel
theorem dX9_laysRounds_1 : decode cX9_laysRounds 1 = .ok (.istore 5, 2) := by decide +kernel
theorem dX9_laysRounds_3 : decode cX9_laysRounds 3 = .ok (.iload 5, 2) := by decide +kernel
theorem dX9_laysRounds_5 : decode cX9_laysRounds 5 = .ok (.iload_n 3, 1) := by decide +kernel
theorem dX9_laysRounds_6 : decode cX9_laysRounds 6 = .ok (.if_icmp .le 133, 3) := by decide +kernel
theorem dX9_laysRounds_9 : decode cX9_laysRounds 9 = .ok (.iconst 0, 1) := by decide +kernel
theorem dX9_laysRounds_10 : decode cX9_laysRounds 10 = .ok (.istore 6, 2) := by decide +kernel
theorem dX9_laysRounds_12 : decode cX9_laysRounds 12 = .ok (.iload 6, 2) := by decide +kernel
theorem dX9_laysRounds_14 : decode cX9_laysRounds 14 = .ok (.iload 5, 2) := by decide +kernel
theorem dX9_laysRounds_16 : decode cX9_laysRounds 16 = .ok (.if_icmp .gt 117, 3) := by decide +kernel
theorem dX9_laysRounds_19 : decode cX9_laysRounds 19 = .ok (.iconst 1, 1) := by decide +kernel
theorem dX9_laysRounds_20 : decode cX9_laysRounds 20 = .ok (.istore 7, 2) := by decide +kernel
theorem dX9_laysRounds_22 : decode cX9_laysRounds 22 = .ok (.iload 7, 2) := by decide +kernel
theorem dX9_laysRounds_24 : decode cX9_laysRounds 24 = .ok (.bipush 42, 2) := by decide +kernel
theorem dX9_laysRounds_26 : decode cX9_laysRounds 26 = .ok (.if_icmp .ge 101, 3) := by decide +kernel
theorem dX9_laysRounds_29 : decode cX9_laysRounds 29 = .ok (.iconst 0, 1) := by decide +kernel
theorem dX9_laysRounds_30 : decode cX9_laysRounds 30 = .ok (.istore 8, 2) := by decide +kernel
theorem dX9_laysRounds_32 : decode cX9_laysRounds 32 = .ok (.iload 8, 2) := by decide +kernel
theorem dX9_laysRounds_34 : decode cX9_laysRounds 34 = .ok (.iload 7, 2) := by decide +kernel
theorem dX9_laysRounds_36 : decode cX9_laysRounds 36 = .ok (.if_icmp .ge 85, 3) := by decide +kernel
theorem dX9_laysRounds_39 : decode cX9_laysRounds 39 = .ok (.iload 5, 2) := by decide +kernel
theorem dX9_laysRounds_41 : decode cX9_laysRounds 41 = .ok (.iload 6, 2) := by decide +kernel
theorem dX9_laysRounds_43 : decode cX9_laysRounds 43 = .ok (.iload 7, 2) := by decide +kernel
theorem dX9_laysRounds_45 : decode cX9_laysRounds 45 = .ok (.iload 8, 2) := by decide +kernel
theorem dX9_laysRounds_47 : decode cX9_laysRounds 47 = .ok (.invokestatic 331, 3) := by decide +kernel
theorem dX9_laysRounds_50 : decode cX9_laysRounds 50 = .ok (.ifCond .ne 6, 3) := by decide +kernel
theorem dX9_laysRounds_53 : decode cX9_laysRounds 53 = .ok (.goto 62, 3) := by decide +kernel
theorem dX9_laysRounds_56 : decode cX9_laysRounds 56 = .ok (.iload 5, 2) := by decide +kernel
theorem dX9_laysRounds_58 : decode cX9_laysRounds 58 = .ok (.iconst 3, 1) := by decide +kernel
theorem dX9_laysRounds_59 : decode cX9_laysRounds 59 = .ok (.if_icmp .eq 10, 3) := by decide +kernel
theorem dX9_laysRounds_62 : decode cX9_laysRounds 62 = .ok (.iload 7, 2) := by decide +kernel
theorem dX9_laysRounds_64 : decode cX9_laysRounds 64 = .ok (.bipush 40, 2) := by decide +kernel
theorem dX9_laysRounds_66 : decode cX9_laysRounds 66 = .ok (.if_icmp .le 15, 3) := by decide +kernel
theorem dX9_laysRounds_69 : decode cX9_laysRounds 69 = .ok (.aload_n 0, 1) := by decide +kernel
theorem dX9_laysRounds_70 : decode cX9_laysRounds 70 = .ok (.iload_n 2, 1) := by decide +kernel
theorem dX9_laysRounds_71 : decode cX9_laysRounds 71 = .ok (.iload 8, 2) := by decide +kernel
theorem dX9_laysRounds_73 : decode cX9_laysRounds 73 = .ok (.iload 4, 2) := by decide +kernel
theorem dX9_laysRounds_75 : decode cX9_laysRounds 75 = .ok (.invokevirtual 335, 3) := by decide +kernel
theorem dX9_laysRounds_78 : decode cX9_laysRounds 78 = .ok (.goto 17, 3) := by decide +kernel
theorem dX9_laysRounds_81 : decode cX9_laysRounds 81 = .ok (.aload_n 0, 1) := by decide +kernel
theorem dX9_laysRounds_82 : decode cX9_laysRounds 82 = .ok (.iload_n 1, 1) := by decide +kernel
theorem dX9_laysRounds_83 : decode cX9_laysRounds 83 = .ok (.iload_n 2, 1) := by decide +kernel
theorem dX9_laysRounds_84 : decode cX9_laysRounds 84 = .ok (.iload 5, 2) := by decide +kernel
theorem dX9_laysRounds_86 : decode cX9_laysRounds 86 = .ok (.iload 6, 2) := by decide +kernel
theorem dX9_laysRounds_88 : decode cX9_laysRounds 88 = .ok (.iload 7, 2) := by decide +kernel
theorem dX9_laysRounds_90 : decode cX9_laysRounds 90 = .ok (.iload 8, 2) := by decide +kernel
theorem dX9_laysRounds_92 : decode cX9_laysRounds 92 = .ok (.invokevirtual 338, 3) := by decide +kernel
theorem dX9_laysRounds_95 : decode cX9_laysRounds 95 = .ok (.istore 9, 2) := by decide +kernel
theorem dX9_laysRounds_97 : decode cX9_laysRounds 97 = .ok (.aload_n 0, 1) := by decide +kernel
theorem dX9_laysRounds_98 : decode cX9_laysRounds 98 = .ok (.getfield 68, 3) := by decide +kernel
theorem dX9_laysRounds_101 : decode cX9_laysRounds 101 = .ok (.iload 5, 2) := by decide +kernel
theorem dX9_laysRounds_103 : decode cX9_laysRounds 103 = .ok (.iload 6, 2) := by decide +kernel
theorem dX9_laysRounds_105 : decode cX9_laysRounds 105 = .ok (.iload 7, 2) := by decide +kernel
theorem dX9_laysRounds_107 : decode cX9_laysRounds 107 = .ok (.iload 8, 2) := by decide +kernel
theorem dX9_laysRounds_109 : decode cX9_laysRounds 109 = .ok (.invokestatic 328, 3) := by decide +kernel
theorem dX9_laysRounds_112 : decode cX9_laysRounds 112 = .ok (.iload 9, 2) := by decide +kernel
theorem dX9_laysRounds_114 : decode cX9_laysRounds 114 = .ok (.iastore, 1) := by decide +kernel
theorem dX9_laysRounds_115 : decode cX9_laysRounds 115 = .ok (.iinc 8 1, 3) := by decide +kernel
theorem dX9_laysRounds_118 : decode cX9_laysRounds 118 = .ok (.goto (-86), 3) := by decide +kernel
theorem dX9_laysRounds_121 : decode cX9_laysRounds 121 = .ok (.iinc 7 1, 3) := by decide +kernel
theorem dX9_laysRounds_124 : decode cX9_laysRounds 124 = .ok (.goto (-102), 3) := by decide +kernel
theorem dX9_laysRounds_127 : decode cX9_laysRounds 127 = .ok (.iinc 6 1, 3) := by decide +kernel
theorem dX9_laysRounds_130 : decode cX9_laysRounds 130 = .ok (.goto (-118), 3) := by decide +kernel
theorem dX9_laysRounds_133 : decode cX9_laysRounds 133 = .ok (.iinc 5 (-1), 3) := by decide +kernel
theorem dX9_laysRounds_136 : decode cX9_laysRounds 136 = .ok (.goto (-133), 3) := by decide +kernel
theorem dX9_laysRounds_139 : decode cX9_laysRounds 139 = .ok (.return_, 1) := by decide +kernel
theorem dX9_laysBehind_0 : decode cX9_laysBehind 0 = .ok (.iconst 0, 1) := by decide +kernel
theorem dX9_laysBehind_1 : decode cX9_laysBehind 1 = .ok (.istore_n 3, 1) := by decide +kernel
theorem dX9_laysBehind_2 : decode cX9_laysBehind 2 = .ok (.iload_n 3, 1) := by decide +kernel
theorem dX9_laysBehind_3 : decode cX9_laysBehind 3 = .ok (.bipush 121, 2) := by decide +kernel
theorem dX9_laysBehind_5 : decode cX9_laysBehind 5 = .ok (.if_icmp .ge 25, 3) := by decide +kernel
theorem dX9_laysBehind_8 : decode cX9_laysBehind 8 = .ok (.aload_n 0, 1) := by decide +kernel
theorem dX9_laysBehind_9 : decode cX9_laysBehind 9 = .ok (.getfield 65, 3) := by decide +kernel
theorem dX9_laysBehind_12 : decode cX9_laysBehind 12 = .ok (.sipush 363, 3) := by decide +kernel
theorem dX9_laysBehind_15 : decode cX9_laysBehind 15 = .ok (.iload_n 3, 1) := by decide +kernel
theorem dX9_laysBehind_16 : decode cX9_laysBehind 16 = .ok (.iadd, 1) := by decide +kernel
theorem dX9_laysBehind_17 : decode cX9_laysBehind 17 = .ok (.aload_n 0, 1) := by decide +kernel
theorem dX9_laysBehind_18 : decode cX9_laysBehind 18 = .ok (.getfield 56, 3) := by decide +kernel
theorem dX9_laysBehind_21 : decode cX9_laysBehind 21 = .ok (.iload_n 3, 1) := by decide +kernel
theorem dX9_laysBehind_22 : decode cX9_laysBehind 22 = .ok (.iaload, 1) := by decide +kernel
theorem dX9_laysBehind_23 : decode cX9_laysBehind 23 = .ok (.iastore, 1) := by decide +kernel
theorem dX9_laysBehind_24 : decode cX9_laysBehind 24 = .ok (.iinc 3 1, 3) := by decide +kernel
theorem dX9_laysBehind_27 : decode cX9_laysBehind 27 = .ok (.goto (-25), 3) := by decide +kernel
theorem dX9_laysBehind_30 : decode cX9_laysBehind 30 = .ok (.iconst 2, 1) := by decide +kernel
theorem dX9_laysBehind_31 : decode cX9_laysBehind 31 = .ok (.istore_n 3, 1) := by decide +kernel
theorem dX9_laysBehind_32 : decode cX9_laysBehind 32 = .ok (.iload_n 3, 1) := by decide +kernel
theorem dX9_laysBehind_33 : decode cX9_laysBehind 33 = .ok (.iload_n 2, 1) := by decide +kernel
theorem dX9_laysBehind_34 : decode cX9_laysBehind 34 = .ok (.if_icmp .le 58, 3) := by decide +kernel
theorem dX9_laysBehind_37 : decode cX9_laysBehind 37 = .ok (.iconst 0, 1) := by decide +kernel
theorem dX9_laysBehind_38 : decode cX9_laysBehind 38 = .ok (.istore 4, 2) := by decide +kernel
theorem dX9_laysBehind_40 : decode cX9_laysBehind 40 = .ok (.iload 4, 2) := by decide +kernel
theorem dX9_laysBehind_42 : decode cX9_laysBehind 42 = .ok (.bipush 40, 2) := by decide +kernel
theorem dX9_laysBehind_44 : decode cX9_laysBehind 44 = .ok (.iload_n 3, 1) := by decide +kernel
theorem dX9_laysBehind_45 : decode cX9_laysBehind 45 = .ok (.imul, 1) := by decide +kernel
theorem dX9_laysBehind_46 : decode cX9_laysBehind 46 = .ok (.if_icmp .gt 40, 3) := by decide +kernel
theorem dX9_laysBehind_49 : decode cX9_laysBehind 49 = .ok (.aload_n 0, 1) := by decide +kernel
theorem dX9_laysBehind_50 : decode cX9_laysBehind 50 = .ok (.iload_n 1, 1) := by decide +kernel
theorem dX9_laysBehind_51 : decode cX9_laysBehind 51 = .ok (.iload_n 3, 1) := by decide +kernel
theorem dX9_laysBehind_52 : decode cX9_laysBehind 52 = .ok (.iconst 0, 1) := by decide +kernel
theorem dX9_laysBehind_53 : decode cX9_laysBehind 53 = .ok (.iload 4, 2) := by decide +kernel
theorem dX9_laysBehind_55 : decode cX9_laysBehind 55 = .ok (.invokevirtual 342, 3) := by decide +kernel
theorem dX9_laysBehind_58 : decode cX9_laysBehind 58 = .ok (.aload_n 0, 1) := by decide +kernel
theorem dX9_laysBehind_59 : decode cX9_laysBehind 59 = .ok (.getfield 65, 3) := by decide +kernel
theorem dX9_laysBehind_62 : decode cX9_laysBehind 62 = .ok (.bipush 121, 2) := by decide +kernel
theorem dX9_laysBehind_64 : decode cX9_laysBehind 64 = .ok (.iload_n 3, 1) := by decide +kernel
theorem dX9_laysBehind_65 : decode cX9_laysBehind 65 = .ok (.imul, 1) := by decide +kernel
theorem dX9_laysBehind_66 : decode cX9_laysBehind 66 = .ok (.iload 4, 2) := by decide +kernel
theorem dX9_laysBehind_68 : decode cX9_laysBehind 68 = .ok (.iadd, 1) := by decide +kernel
theorem dX9_laysBehind_69 : decode cX9_laysBehind 69 = .ok (.aload_n 0, 1) := by decide +kernel
theorem dX9_laysBehind_70 : decode cX9_laysBehind 70 = .ok (.iload_n 1, 1) := by decide +kernel
theorem dX9_laysBehind_71 : decode cX9_laysBehind 71 = .ok (.iload_n 3, 1) := by decide +kernel
theorem dX9_laysBehind_72 : decode cX9_laysBehind 72 = .ok (.iconst 0, 1) := by decide +kernel
theorem dX9_laysBehind_73 : decode cX9_laysBehind 73 = .ok (.iconst 0, 1) := by decide +kernel
theorem dX9_laysBehind_74 : decode cX9_laysBehind 74 = .ok (.iconst 1, 1) := by decide +kernel
theorem dX9_laysBehind_75 : decode cX9_laysBehind 75 = .ok (.iconst 0, 1) := by decide +kernel
theorem dX9_laysBehind_76 : decode cX9_laysBehind 76 = .ok (.invokevirtual 338, 3) := by decide +kernel
theorem dX9_laysBehind_79 : decode cX9_laysBehind 79 = .ok (.iastore, 1) := by decide +kernel
theorem dX9_laysBehind_80 : decode cX9_laysBehind 80 = .ok (.iinc 4 1, 3) := by decide +kernel
theorem dX9_laysBehind_83 : decode cX9_laysBehind 83 = .ok (.goto (-43), 3) := by decide +kernel
theorem dX9_laysBehind_86 : decode cX9_laysBehind 86 = .ok (.iinc 3 (-1), 3) := by decide +kernel
theorem dX9_laysBehind_89 : decode cX9_laysBehind 89 = .ok (.goto (-57), 3) := by decide +kernel
theorem dX9_laysBehind_92 : decode cX9_laysBehind 92 = .ok (.return_, 1) := by decide +kernel
theorem dX9_freeNow_0 : decode cX9_freeNow 0 = .ok (.aload_n 0, 1) := by decide +kernel
theorem dX9_freeNow_1 : decode cX9_freeNow 1 = .ok (.iconst 0, 1) := by decide +kernel
theorem dX9_freeNow_2 : decode cX9_freeNow 2 = .ok (.putfield 346, 3) := by decide +kernel
theorem dX9_freeNow_5 : decode cX9_freeNow 5 = .ok (.aload_n 0, 1) := by decide +kernel
theorem dX9_freeNow_6 : decode cX9_freeNow 6 = .ok (.iload_n 1, 1) := by decide +kernel
theorem dX9_freeNow_7 : decode cX9_freeNow 7 = .ok (.invokevirtual 121, 3) := by decide +kernel
theorem dX9_freeNow_10 : decode cX9_freeNow 10 = .ok (.ifCond .ne 10, 3) := by decide +kernel
theorem dX9_freeNow_13 : decode cX9_freeNow 13 = .ok (.aload_n 0, 1) := by decide +kernel
theorem dX9_freeNow_14 : decode cX9_freeNow 14 = .ok (.invokevirtual 113, 3) := by decide +kernel
theorem dX9_freeNow_17 : decode cX9_freeNow 17 = .ok (.ifCond .eq 14, 3) := by decide +kernel
theorem dX9_freeNow_20 : decode cX9_freeNow 20 = .ok (.aload_n 0, 1) := by decide +kernel
theorem dX9_freeNow_21 : decode cX9_freeNow 21 = .ok (.getfield 56, 3) := by decide +kernel
theorem dX9_freeNow_24 : decode cX9_freeNow 24 = .ok (.aload_n 0, 1) := by decide +kernel
theorem dX9_freeNow_25 : decode cX9_freeNow 25 = .ok (.iload_n 1, 1) := by decide +kernel
theorem dX9_freeNow_26 : decode cX9_freeNow 26 = .ok (.invokevirtual 167, 3) := by decide +kernel
theorem dX9_freeNow_29 : decode cX9_freeNow 29 = .ok (.iaload, 1) := by decide +kernel
theorem dX9_freeNow_30 : decode cX9_freeNow 30 = .ok (.ireturn, 1) := by decide +kernel
theorem dX9_freeNow_31 : decode cX9_freeNow 31 = .ok (.aload_n 0, 1) := by decide +kernel
theorem dX9_freeNow_32 : decode cX9_freeNow 32 = .ok (.getfield 32, 3) := by decide +kernel
theorem dX9_freeNow_35 : decode cX9_freeNow 35 = .ok (.iconst 0, 1) := by decide +kernel
theorem dX9_freeNow_36 : decode cX9_freeNow 36 = .ok (.iaload, 1) := by decide +kernel
theorem dX9_freeNow_37 : decode cX9_freeNow 37 = .ok (.istore_n 2, 1) := by decide +kernel
theorem dX9_freeNow_38 : decode cX9_freeNow 38 = .ok (.aload_n 0, 1) := by decide +kernel
theorem dX9_freeNow_39 : decode cX9_freeNow 39 = .ok (.iload_n 1, 1) := by decide +kernel
theorem dX9_freeNow_40 : decode cX9_freeNow 40 = .ok (.bipush 7, 2) := by decide +kernel
theorem dX9_freeNow_42 : decode cX9_freeNow 42 = .ok (.iload_n 2, 1) := by decide +kernel
theorem dX9_freeNow_43 : decode cX9_freeNow 43 = .ok (.iadd, 1) := by decide +kernel
theorem dX9_freeNow_44 : decode cX9_freeNow 44 = .ok (.invokevirtual 106, 3) := by decide +kernel
theorem dX9_freeNow_47 : decode cX9_freeNow 47 = .ok (.istore_n 3, 1) := by decide +kernel
theorem dX9_freeNow_48 : decode cX9_freeNow 48 = .ok (.aload_n 0, 1) := by decide +kernel
theorem dX9_freeNow_49 : decode cX9_freeNow 49 = .ok (.iload_n 1, 1) := by decide +kernel
theorem dX9_freeNow_50 : decode cX9_freeNow 50 = .ok (.invokevirtual 280, 3) := by decide +kernel
theorem dX9_freeNow_53 : decode cX9_freeNow 53 = .ok (.istore 4, 2) := by decide +kernel
theorem dX9_freeNow_55 : decode cX9_freeNow 55 = .ok (.aload_n 0, 1) := by decide +kernel
theorem dX9_freeNow_56 : decode cX9_freeNow 56 = .ok (.iload_n 1, 1) := by decide +kernel
theorem dX9_freeNow_57 : decode cX9_freeNow 57 = .ok (.iload_n 2, 1) := by decide +kernel
theorem dX9_freeNow_58 : decode cX9_freeNow 58 = .ok (.invokevirtual 349, 3) := by decide +kernel
theorem dX9_freeNow_61 : decode cX9_freeNow 61 = .ok (.aload_n 0, 1) := by decide +kernel
theorem dX9_freeNow_62 : decode cX9_freeNow 62 = .ok (.iload_n 1, 1) := by decide +kernel
theorem dX9_freeNow_63 : decode cX9_freeNow 63 = .ok (.invokevirtual 249, 3) := by decide +kernel
theorem dX9_freeNow_66 : decode cX9_freeNow 66 = .ok (.ifCond .eq 13, 3) := by decide +kernel
theorem dX9_freeNow_69 : decode cX9_freeNow 69 = .ok (.aload_n 0, 1) := by decide +kernel
theorem dX9_freeNow_70 : decode cX9_freeNow 70 = .ok (.iload_n 1, 1) := by decide +kernel
theorem dX9_freeNow_71 : decode cX9_freeNow 71 = .ok (.invokevirtual 249, 3) := by decide +kernel
theorem dX9_freeNow_74 : decode cX9_freeNow 74 = .ok (.bipush 40, 2) := by decide +kernel
theorem dX9_freeNow_76 : decode cX9_freeNow 76 = .ok (.if_icmp .le 40, 3) := by decide +kernel
theorem dX9_freeNow_79 : decode cX9_freeNow 79 = .ok (.iload_n 3, 1) := by decide +kernel
theorem dX9_freeNow_80 : decode cX9_freeNow 80 = .ok (.ifCond .ne 10, 3) := by decide +kernel
theorem dX9_freeNow_83 : decode cX9_freeNow 83 = .ok (.aload_n 0, 1) := by decide +kernel
theorem dX9_freeNow_84 : decode cX9_freeNow 84 = .ok (.getfield 56, 3) := by decide +kernel
theorem dX9_freeNow_87 : decode cX9_freeNow 87 = .ok (.iconst 0, 1) := by decide +kernel
theorem dX9_freeNow_88 : decode cX9_freeNow 88 = .ok (.iaload, 1) := by decide +kernel
theorem dX9_freeNow_89 : decode cX9_freeNow 89 = .ok (.ireturn, 1) := by decide +kernel
theorem dX9_freeNow_90 : decode cX9_freeNow 90 = .ok (.iload_n 2, 1) := by decide +kernel
theorem dX9_freeNow_91 : decode cX9_freeNow 91 = .ok (.iconst 2, 1) := by decide +kernel
theorem dX9_freeNow_92 : decode cX9_freeNow 92 = .ok (.if_icmp .ge 15, 3) := by decide +kernel
theorem dX9_freeNow_95 : decode cX9_freeNow 95 = .ok (.aload_n 0, 1) := by decide +kernel
theorem dX9_freeNow_96 : decode cX9_freeNow 96 = .ok (.iload_n 1, 1) := by decide +kernel
theorem dX9_freeNow_97 : decode cX9_freeNow 97 = .ok (.iload_n 2, 1) := by decide +kernel
theorem dX9_freeNow_98 : decode cX9_freeNow 98 = .ok (.iconst 1, 1) := by decide +kernel
theorem dX9_freeNow_99 : decode cX9_freeNow 99 = .ok (.iadd, 1) := by decide +kernel
theorem dX9_freeNow_100 : decode cX9_freeNow 100 = .ok (.iload 4, 2) := by decide +kernel
theorem dX9_freeNow_102 : decode cX9_freeNow 102 = .ok (.iload_n 3, 1) := by decide +kernel
theorem dX9_freeNow_103 : decode cX9_freeNow 103 = .ok (.iadd, 1) := by decide +kernel
theorem dX9_freeNow_104 : decode cX9_freeNow 104 = .ok (.invokevirtual 352, 3) := by decide +kernel
theorem dX9_freeNow_107 : decode cX9_freeNow 107 = .ok (.aload_n 0, 1) := by decide +kernel
theorem dX9_freeNow_108 : decode cX9_freeNow 108 = .ok (.iload_n 2, 1) := by decide +kernel
theorem dX9_freeNow_109 : decode cX9_freeNow 109 = .ok (.iload_n 3, 1) := by decide +kernel
theorem dX9_freeNow_110 : decode cX9_freeNow 110 = .ok (.iload 4, 2) := by decide +kernel
theorem dX9_freeNow_112 : decode cX9_freeNow 112 = .ok (.invokevirtual 335, 3) := by decide +kernel
theorem dX9_freeNow_115 : decode cX9_freeNow 115 = .ok (.ireturn, 1) := by decide +kernel
theorem dX9_freeNow_116 : decode cX9_freeNow 116 = .ok (.aload_n 0, 1) := by decide +kernel
theorem dX9_freeNow_117 : decode cX9_freeNow 117 = .ok (.iload_n 1, 1) := by decide +kernel
theorem dX9_freeNow_118 : decode cX9_freeNow 118 = .ok (.iload_n 2, 1) := by decide +kernel
theorem dX9_freeNow_119 : decode cX9_freeNow 119 = .ok (.aload_n 0, 1) := by decide +kernel
theorem dX9_freeNow_120 : decode cX9_freeNow 120 = .ok (.iload_n 1, 1) := by decide +kernel
theorem dX9_freeNow_121 : decode cX9_freeNow 121 = .ok (.invokevirtual 277, 3) := by decide +kernel
theorem dX9_freeNow_124 : decode cX9_freeNow 124 = .ok (.iload 4, 2) := by decide +kernel
theorem dX9_freeNow_126 : decode cX9_freeNow 126 = .ok (.invokevirtual 342, 3) := by decide +kernel
theorem dX9_freeNow_129 : decode cX9_freeNow 129 = .ok (.aload_n 0, 1) := by decide +kernel
theorem dX9_freeNow_130 : decode cX9_freeNow 130 = .ok (.iload_n 1, 1) := by decide +kernel
theorem dX9_freeNow_131 : decode cX9_freeNow 131 = .ok (.iload_n 2, 1) := by decide +kernel
theorem dX9_freeNow_132 : decode cX9_freeNow 132 = .ok (.aload_n 0, 1) := by decide +kernel
theorem dX9_freeNow_133 : decode cX9_freeNow 133 = .ok (.iload_n 1, 1) := by decide +kernel
theorem dX9_freeNow_134 : decode cX9_freeNow 134 = .ok (.invokevirtual 277, 3) := by decide +kernel
theorem dX9_freeNow_137 : decode cX9_freeNow 137 = .ok (.aload_n 0, 1) := by decide +kernel
theorem dX9_freeNow_138 : decode cX9_freeNow 138 = .ok (.iload_n 1, 1) := by decide +kernel
theorem dX9_freeNow_139 : decode cX9_freeNow 139 = .ok (.iconst 4, 1) := by decide +kernel
theorem dX9_freeNow_140 : decode cX9_freeNow 140 = .ok (.invokevirtual 106, 3) := by decide +kernel
theorem dX9_freeNow_143 : decode cX9_freeNow 143 = .ok (.aload_n 0, 1) := by decide +kernel
theorem dX9_freeNow_144 : decode cX9_freeNow 144 = .ok (.iload_n 1, 1) := by decide +kernel
theorem dX9_freeNow_145 : decode cX9_freeNow 145 = .ok (.invokevirtual 249, 3) := by decide +kernel
theorem dX9_freeNow_148 : decode cX9_freeNow 148 = .ok (.iload_n 3, 1) := by decide +kernel
theorem dX9_freeNow_149 : decode cX9_freeNow 149 = .ok (.invokevirtual 338, 3) := by decide +kernel
theorem dX9_freeNow_152 : decode cX9_freeNow 152 = .ok (.istore 5, 2) := by decide +kernel
theorem dX9_freeNow_154 : decode cX9_freeNow 154 = .ok (.aload_n 0, 1) := by decide +kernel
theorem dX9_freeNow_155 : decode cX9_freeNow 155 = .ok (.aload_n 0, 1) := by decide +kernel
theorem dX9_freeNow_156 : decode cX9_freeNow 156 = .ok (.getfield 322, 3) := by decide +kernel
theorem dX9_freeNow_159 : decode cX9_freeNow 159 = .ok (.putfield 346, 3) := by decide +kernel
theorem dX9_freeNow_162 : decode cX9_freeNow 162 = .ok (.iload 5, 2) := by decide +kernel
theorem dX9_freeNow_164 : decode cX9_freeNow 164 = .ok (.ireturn, 1) := by decide +kernel
theorem dX9_nextLoadOf_0 : decode cX9_nextLoadOf 0 = .ok (.aload_n 0, 1) := by decide +kernel
theorem dX9_nextLoadOf_1 : decode cX9_nextLoadOf 1 = .ok (.iload_n 1, 1) := by decide +kernel
theorem dX9_nextLoadOf_2 : decode cX9_nextLoadOf 2 = .ok (.iload_n 2, 1) := by decide +kernel
theorem dX9_nextLoadOf_3 : decode cX9_nextLoadOf 3 = .ok (.iconst 0, 1) := by decide +kernel
theorem dX9_nextLoadOf_4 : decode cX9_nextLoadOf 4 = .ok (.iload_n 3, 1) := by decide +kernel
theorem dX9_nextLoadOf_5 : decode cX9_nextLoadOf 5 = .ok (.invokevirtual 342, 3) := by decide +kernel
theorem dX9_nextLoadOf_8 : decode cX9_nextLoadOf 8 = .ok (.aload_n 0, 1) := by decide +kernel
theorem dX9_nextLoadOf_9 : decode cX9_nextLoadOf 9 = .ok (.iload_n 1, 1) := by decide +kernel
theorem dX9_nextLoadOf_10 : decode cX9_nextLoadOf 10 = .ok (.iload_n 2, 1) := by decide +kernel
theorem dX9_nextLoadOf_11 : decode cX9_nextLoadOf 11 = .ok (.iconst 0, 1) := by decide +kernel
theorem dX9_nextLoadOf_12 : decode cX9_nextLoadOf 12 = .ok (.iconst 0, 1) := by decide +kernel
theorem dX9_nextLoadOf_13 : decode cX9_nextLoadOf 13 = .ok (.iconst 1, 1) := by decide +kernel
theorem dX9_nextLoadOf_14 : decode cX9_nextLoadOf 14 = .ok (.iconst 0, 1) := by decide +kernel
theorem dX9_nextLoadOf_15 : decode cX9_nextLoadOf 15 = .ok (.invokevirtual 338, 3) := by decide +kernel
theorem dX9_nextLoadOf_18 : decode cX9_nextLoadOf 18 = .ok (.pop, 1) := by decide +kernel
theorem dX9_nextLoadOf_19 : decode cX9_nextLoadOf 19 = .ok (.aload_n 0, 1) := by decide +kernel
theorem dX9_nextLoadOf_20 : decode cX9_nextLoadOf 20 = .ok (.aload_n 0, 1) := by decide +kernel
theorem dX9_nextLoadOf_21 : decode cX9_nextLoadOf 21 = .ok (.getfield 322, 3) := by decide +kernel
theorem dX9_nextLoadOf_24 : decode cX9_nextLoadOf 24 = .ok (.putfield 346, 3) := by decide +kernel
theorem dX9_nextLoadOf_27 : decode cX9_nextLoadOf 27 = .ok (.return_, 1) := by decide +kernel
theorem dX9_tellsFree_0 : decode cX9_tellsFree 0 = .ok (.aload_n 0, 1) := by decide +kernel
theorem dX9_tellsFree_1 : decode cX9_tellsFree 1 = .ok (.iload_n 1, 1) := by decide +kernel
theorem dX9_tellsFree_2 : decode cX9_tellsFree 2 = .ok (.invokevirtual 355, 3) := by decide +kernel
theorem dX9_tellsFree_5 : decode cX9_tellsFree 5 = .ok (.istore_n 2, 1) := by decide +kernel
theorem dX9_tellsFree_6 : decode cX9_tellsFree 6 = .ok (.aload_n 0, 1) := by decide +kernel
theorem dX9_tellsFree_7 : decode cX9_tellsFree 7 = .ok (.iconst 0, 1) := by decide +kernel
theorem dX9_tellsFree_8 : decode cX9_tellsFree 8 = .ok (.putfield 81, 3) := by decide +kernel
theorem dX9_tellsFree_11 : decode cX9_tellsFree 11 = .ok (.aload_n 0, 1) := by decide +kernel
theorem dX9_tellsFree_12 : decode cX9_tellsFree 12 = .ok (.aload_n 0, 1) := by decide +kernel
theorem dX9_tellsFree_13 : decode cX9_tellsFree 13 = .ok (.getfield 346, 3) := by decide +kernel
theorem dX9_tellsFree_16 : decode cX9_tellsFree 16 = .ok (.i2l, 1) := by decide +kernel
theorem dX9_tellsFree_17 : decode cX9_tellsFree 17 = .ok (.invokevirtual 180, 3) := by decide +kernel
theorem dX9_tellsFree_20 : decode cX9_tellsFree 20 = .ok (.aload_n 0, 1) := by decide +kernel
theorem dX9_tellsFree_21 : decode cX9_tellsFree 21 = .ok (.aload_n 0, 1) := by decide +kernel
theorem dX9_tellsFree_22 : decode cX9_tellsFree 22 = .ok (.iload_n 1, 1) := by decide +kernel
theorem dX9_tellsFree_23 : decode cX9_tellsFree 23 = .ok (.invokevirtual 287, 3) := by decide +kernel
theorem dX9_tellsFree_26 : decode cX9_tellsFree 26 = .ok (.i2l, 1) := by decide +kernel
theorem dX9_tellsFree_27 : decode cX9_tellsFree 27 = .ok (.invokevirtual 180, 3) := by decide +kernel
theorem dX9_tellsFree_30 : decode cX9_tellsFree 30 = .ok (.iload_n 2, 1) := by decide +kernel
theorem dX9_tellsFree_31 : decode cX9_tellsFree 31 = .ok (.ireturn, 1) := by decide +kernel
theorem dX9_heavy_0 : decode cX9_heavy 0 = .ok (.aload_n 0, 1) := by decide +kernel
theorem dX9_heavy_1 : decode cX9_heavy 1 = .ok (.iconst 0, 1) := by decide +kernel
theorem dX9_heavy_2 : decode cX9_heavy 2 = .ok (.putfield 77, 3) := by decide +kernel
theorem dX9_heavy_5 : decode cX9_heavy 5 = .ok (.aload_n 0, 1) := by decide +kernel
theorem dX9_heavy_6 : decode cX9_heavy 6 = .ok (.iload_n 1, 1) := by decide +kernel
theorem dX9_heavy_7 : decode cX9_heavy 7 = .ok (.invokevirtual 233, 3) := by decide +kernel
theorem dX9_heavy_10 : decode cX9_heavy 10 = .ok (.ifCond .ne 5, 3) := by decide +kernel
theorem dX9_heavy_13 : decode cX9_heavy 13 = .ok (.iconst (-1), 1) := by decide +kernel
theorem dX9_heavy_14 : decode cX9_heavy 14 = .ok (.ireturn, 1) := by decide +kernel
theorem dX9_heavy_15 : decode cX9_heavy 15 = .ok (.aload_n 0, 1) := by decide +kernel
theorem dX9_heavy_16 : decode cX9_heavy 16 = .ok (.invokevirtual 301, 3) := by decide +kernel
theorem dX9_heavy_19 : decode cX9_heavy 19 = .ok (.aload_n 0, 1) := by decide +kernel
theorem dX9_heavy_20 : decode cX9_heavy 20 = .ok (.iload_n 1, 1) := by decide +kernel
theorem dX9_heavy_21 : decode cX9_heavy 21 = .ok (.invokevirtual 358, 3) := by decide +kernel
theorem dX9_heavy_24 : decode cX9_heavy 24 = .ok (.ireturn, 1) := by decide +kernel
theorem dX9_reach_0 : decode cX9_reach 0 = .ok (.aload_n 0, 1) := by decide +kernel
theorem dX9_reach_1 : decode cX9_reach 1 = .ok (.iconst 0, 1) := by decide +kernel
theorem dX9_reach_2 : decode cX9_reach 2 = .ok (.putfield 77, 3) := by decide +kernel
theorem dX9_reach_5 : decode cX9_reach 5 = .ok (.aload_n 0, 1) := by decide +kernel
theorem dX9_reach_6 : decode cX9_reach 6 = .ok (.iload_n 1, 1) := by decide +kernel
theorem dX9_reach_7 : decode cX9_reach 7 = .ok (.invokevirtual 233, 3) := by decide +kernel
theorem dX9_reach_10 : decode cX9_reach 10 = .ok (.ifCond .eq 10, 3) := by decide +kernel
theorem dX9_reach_13 : decode cX9_reach 13 = .ok (.iload_n 2, 1) := by decide +kernel
theorem dX9_reach_14 : decode cX9_reach 14 = .ok (.invokestatic 306, 3) := by decide +kernel
theorem dX9_reach_17 : decode cX9_reach 17 = .ok (.ifCond .ne 5, 3) := by decide +kernel
theorem dX9_reach_20 : decode cX9_reach 20 = .ok (.iconst (-1), 1) := by decide +kernel
theorem dX9_reach_21 : decode cX9_reach 21 = .ok (.ireturn, 1) := by decide +kernel
theorem dX9_reach_22 : decode cX9_reach 22 = .ok (.aload_n 0, 1) := by decide +kernel
theorem dX9_reach_23 : decode cX9_reach 23 = .ok (.iload_n 2, 1) := by decide +kernel
theorem dX9_reach_24 : decode cX9_reach 24 = .ok (.invokevirtual 283, 3) := by decide +kernel
theorem dX9_reach_27 : decode cX9_reach 27 = .ok (.aload_n 0, 1) := by decide +kernel
theorem dX9_reach_28 : decode cX9_reach 28 = .ok (.iload_n 1, 1) := by decide +kernel
theorem dX9_reach_29 : decode cX9_reach 29 = .ok (.invokevirtual 358, 3) := by decide +kernel
theorem dX9_reach_32 : decode cX9_reach 32 = .ok (.ireturn, 1) := by decide +kernel
theorem dX9_aim_0 : decode cX9_aim 0 = .ok (.aload_n 0, 1) := by decide +kernel
theorem dX9_aim_1 : decode cX9_aim 1 = .ok (.iconst 0, 1) := by decide +kernel
theorem dX9_aim_2 : decode cX9_aim 2 = .ok (.putfield 77, 3) := by decide +kernel
theorem dX9_aim_5 : decode cX9_aim 5 = .ok (.aload_n 0, 1) := by decide +kernel
theorem dX9_aim_6 : decode cX9_aim 6 = .ok (.iload_n 1, 1) := by decide +kernel
theorem dX9_aim_7 : decode cX9_aim 7 = .ok (.invokevirtual 233, 3) := by decide +kernel
theorem dX9_aim_10 : decode cX9_aim 10 = .ok (.ifCond .eq 15, 3) := by decide +kernel
theorem dX9_aim_13 : decode cX9_aim 13 = .ok (.iload_n 2, 1) := by decide +kernel
theorem dX9_aim_14 : decode cX9_aim 14 = .ok (.i2l, 1) := by decide +kernel
theorem dX9_aim_15 : decode cX9_aim 15 = .ok (.lconst 1, 1) := by decide +kernel
theorem dX9_aim_16 : decode cX9_aim 16 = .ok (.ldc2_w 299, 3) := by decide +kernel
theorem dX9_aim_19 : decode cX9_aim 19 = .ok (.invokestatic 87, 3) := by decide +kernel
theorem dX9_aim_22 : decode cX9_aim 22 = .ok (.ifCond .ne 5, 3) := by decide +kernel
theorem dX9_aim_25 : decode cX9_aim 25 = .ok (.iconst (-1), 1) := by decide +kernel
theorem dX9_aim_26 : decode cX9_aim 26 = .ok (.ireturn, 1) := by decide +kernel
theorem dX9_aim_27 : decode cX9_aim 27 = .ok (.iconst 0, 1) := by decide +kernel
theorem dX9_aim_28 : decode cX9_aim 28 = .ok (.istore_n 3, 1) := by decide +kernel
theorem dX9_aim_29 : decode cX9_aim 29 = .ok (.bipush 121, 2) := by decide +kernel
theorem dX9_aim_31 : decode cX9_aim 31 = .ok (.istore 4, 2) := by decide +kernel
theorem dX9_aim_33 : decode cX9_aim 33 = .ok (.iload 4, 2) := by decide +kernel
theorem dX9_aim_35 : decode cX9_aim 35 = .ok (.iload_n 3, 1) := by decide +kernel
theorem dX9_aim_36 : decode cX9_aim 36 = .ok (.iconst 1, 1) := by decide +kernel
theorem dX9_aim_37 : decode cX9_aim 37 = .ok (.iadd, 1) := by decide +kernel
theorem dX9_aim_38 : decode cX9_aim 38 = .ok (.if_icmp .le 39, 3) := by decide +kernel
theorem dX9_aim_41 : decode cX9_aim 41 = .ok (.iload_n 3, 1) := by decide +kernel
theorem dX9_aim_42 : decode cX9_aim 42 = .ok (.iload 4, 2) := by decide +kernel
theorem dX9_aim_44 : decode cX9_aim 44 = .ok (.iadd, 1) := by decide +kernel
theorem dX9_aim_45 : decode cX9_aim 45 = .ok (.iconst 2, 1) := by decide +kernel
theorem dX9_aim_46 : decode cX9_aim 46 = .ok (.idiv, 1) := by decide +kernel
theorem dX9_aim_47 : decode cX9_aim 47 = .ok (.istore 5, 2) := by decide +kernel
theorem dX9_aim_49 : decode cX9_aim 49 = .ok (.aload_n 0, 1) := by decide +kernel
theorem dX9_aim_50 : decode cX9_aim 50 = .ok (.iload 5, 2) := by decide +kernel
theorem dX9_aim_52 : decode cX9_aim 52 = .ok (.invokevirtual 283, 3) := by decide +kernel
theorem dX9_aim_55 : decode cX9_aim 55 = .ok (.aload_n 0, 1) := by decide +kernel
theorem dX9_aim_56 : decode cX9_aim 56 = .ok (.iload_n 1, 1) := by decide +kernel
theorem dX9_aim_57 : decode cX9_aim 57 = .ok (.invokevirtual 355, 3) := by decide +kernel
theorem dX9_aim_60 : decode cX9_aim 60 = .ok (.iload_n 2, 1) := by decide +kernel
theorem dX9_aim_61 : decode cX9_aim 61 = .ok (.if_icmp .lt 9, 3) := by decide +kernel
theorem dX9_aim_64 : decode cX9_aim 64 = .ok (.iload 5, 2) := by decide +kernel
theorem dX9_aim_66 : decode cX9_aim 66 = .ok (.istore_n 3, 1) := by decide +kernel
theorem dX9_aim_67 : decode cX9_aim 67 = .ok (.goto 7, 3) := by decide +kernel
theorem dX9_aim_70 : decode cX9_aim 70 = .ok (.iload 5, 2) := by decide +kernel
theorem dX9_aim_72 : decode cX9_aim 72 = .ok (.istore 4, 2) := by decide +kernel
theorem dX9_aim_74 : decode cX9_aim 74 = .ok (.goto (-41), 3) := by decide +kernel
theorem dX9_aim_77 : decode cX9_aim 77 = .ok (.aload_n 0, 1) := by decide +kernel
theorem dX9_aim_78 : decode cX9_aim 78 = .ok (.iload_n 3, 1) := by decide +kernel
theorem dX9_aim_79 : decode cX9_aim 79 = .ok (.invokevirtual 283, 3) := by decide +kernel
theorem dX9_aim_82 : decode cX9_aim 82 = .ok (.aload_n 0, 1) := by decide +kernel
theorem dX9_aim_83 : decode cX9_aim 83 = .ok (.iload_n 1, 1) := by decide +kernel
theorem dX9_aim_84 : decode cX9_aim 84 = .ok (.invokevirtual 355, 3) := by decide +kernel
theorem dX9_aim_87 : decode cX9_aim 87 = .ok (.i2l, 1) := by decide +kernel
theorem dX9_aim_88 : decode cX9_aim 88 = .ok (.lstore 5, 2) := by decide +kernel
theorem dX9_aim_90 : decode cX9_aim 90 = .ok (.aload_n 0, 1) := by decide +kernel
theorem dX9_aim_91 : decode cX9_aim 91 = .ok (.iconst 0, 1) := by decide +kernel
theorem dX9_aim_92 : decode cX9_aim 92 = .ok (.putfield 81, 3) := by decide +kernel
theorem dX9_aim_95 : decode cX9_aim 95 = .ok (.aload_n 0, 1) := by decide +kernel
theorem dX9_aim_96 : decode cX9_aim 96 = .ok (.lload 5, 2) := by decide +kernel
theorem dX9_aim_98 : decode cX9_aim 98 = .ok (.invokevirtual 180, 3) := by decide +kernel
theorem dX9_aim_101 : decode cX9_aim 101 = .ok (.iload_n 3, 1) := by decide +kernel
theorem dX9_aim_102 : decode cX9_aim 102 = .ok (.ireturn, 1) := by decide +kernel
theorem dX9_against_0 : decode cX9_against 0 = .ok (.aload_n 0, 1) := by decide +kernel
theorem dX9_against_1 : decode cX9_against 1 = .ok (.iconst 0, 1) := by decide +kernel
theorem dX9_against_2 : decode cX9_against 2 = .ok (.putfield 77, 3) := by decide +kernel
theorem dX9_against_5 : decode cX9_against 5 = .ok (.aload_n 0, 1) := by decide +kernel
theorem dX9_against_6 : decode cX9_against 6 = .ok (.iload_n 1, 1) := by decide +kernel
theorem dX9_against_7 : decode cX9_against 7 = .ok (.invokevirtual 233, 3) := by decide +kernel
theorem dX9_against_10 : decode cX9_against 10 = .ok (.ifCond .eq 16, 3) := by decide +kernel
theorem dX9_against_13 : decode cX9_against 13 = .ok (.aload_n 0, 1) := by decide +kernel
theorem dX9_against_14 : decode cX9_against 14 = .ok (.iload_n 2, 1) := by decide +kernel
theorem dX9_against_15 : decode cX9_against 15 = .ok (.invokevirtual 233, 3) := by decide +kernel
theorem dX9_against_18 : decode cX9_against 18 = .ok (.ifCond .eq 8, 3) := by decide +kernel
theorem dX9_against_21 : decode cX9_against 21 = .ok (.iload_n 1, 1) := by decide +kernel
theorem dX9_against_22 : decode cX9_against 22 = .ok (.iload_n 2, 1) := by decide +kernel
theorem dX9_against_23 : decode cX9_against 23 = .ok (.if_icmp .ne 5, 3) := by decide +kernel
theorem dX9_against_26 : decode cX9_against 26 = .ok (.iconst (-1), 1) := by decide +kernel
theorem dX9_against_27 : decode cX9_against 27 = .ok (.ireturn, 1) := by decide +kernel
theorem dX9_against_28 : decode cX9_against 28 = .ok (.aload_n 0, 1) := by decide +kernel
theorem dX9_against_29 : decode cX9_against 29 = .ok (.iload_n 1, 1) := by decide +kernel
theorem dX9_against_30 : decode cX9_against 30 = .ok (.iload_n 2, 1) := by decide +kernel
theorem dX9_against_31 : decode cX9_against 31 = .ok (.invokevirtual 309, 3) := by decide +kernel
theorem dX9_against_34 : decode cX9_against 34 = .ok (.aload_n 0, 1) := by decide +kernel
theorem dX9_against_35 : decode cX9_against 35 = .ok (.iload_n 1, 1) := by decide +kernel
theorem dX9_against_36 : decode cX9_against 36 = .ok (.invokevirtual 358, 3) := by decide +kernel
theorem dX9_against_39 : decode cX9_against 39 = .ok (.ireturn, 1) := by decide +kernel
theorem dX9_gold_0 : decode cX9_gold 0 = .ok (.aload_n 0, 1) := by decide +kernel
theorem dX9_gold_1 : decode cX9_gold 1 = .ok (.iconst 0, 1) := by decide +kernel
theorem dX9_gold_2 : decode cX9_gold 2 = .ok (.putfield 77, 3) := by decide +kernel
theorem dX9_gold_5 : decode cX9_gold 5 = .ok (.aload_n 0, 1) := by decide +kernel
theorem dX9_gold_6 : decode cX9_gold 6 = .ok (.iload_n 1, 1) := by decide +kernel
theorem dX9_gold_7 : decode cX9_gold 7 = .ok (.invokevirtual 233, 3) := by decide +kernel
theorem dX9_gold_10 : decode cX9_gold 10 = .ok (.ifCond .ne 5, 3) := by decide +kernel
theorem dX9_gold_13 : decode cX9_gold 13 = .ok (.iconst (-1), 1) := by decide +kernel
theorem dX9_gold_14 : decode cX9_gold 14 = .ok (.ireturn, 1) := by decide +kernel
theorem dX9_gold_15 : decode cX9_gold 15 = .ok (.aload_n 0, 1) := by decide +kernel
theorem dX9_gold_16 : decode cX9_gold 16 = .ok (.iload_n 1, 1) := by decide +kernel
theorem dX9_gold_17 : decode cX9_gold 17 = .ok (.invokevirtual 313, 3) := by decide +kernel
theorem dX9_gold_20 : decode cX9_gold 20 = .ok (.aload_n 0, 1) := by decide +kernel
theorem dX9_gold_21 : decode cX9_gold 21 = .ok (.iload_n 1, 1) := by decide +kernel
theorem dX9_gold_22 : decode cX9_gold 22 = .ok (.invokevirtual 358, 3) := by decide +kernel
theorem dX9_gold_25 : decode cX9_gold 25 = .ok (.ireturn, 1) := by decide +kernel
theorem dX9_follows_0 : decode cX9_follows 0 = .ok (.iload 4, 2) := by decide +kernel
theorem dX9_follows_2 : decode cX9_follows 2 = .ok (.istore 9, 2) := by decide +kernel
theorem dX9_follows_4 : decode cX9_follows 4 = .ok (.iload 5, 2) := by decide +kernel
theorem dX9_follows_6 : decode cX9_follows 6 = .ok (.istore 10, 2) := by decide +kernel
theorem dX9_follows_8 : decode cX9_follows 8 = .ok (.iload 6, 2) := by decide +kernel
theorem dX9_follows_10 : decode cX9_follows 10 = .ok (.istore 11, 2) := by decide +kernel
theorem dX9_follows_12 : decode cX9_follows 12 = .ok (.iload_n 3, 1) := by decide +kernel
theorem dX9_follows_13 : decode cX9_follows 13 = .ok (.istore 12, 2) := by decide +kernel
theorem dX9_follows_15 : decode cX9_follows 15 = .ok (.iload 12, 2) := by decide +kernel
theorem dX9_follows_17 : decode cX9_follows 17 = .ok (.iconst 3, 1) := by decide +kernel
theorem dX9_follows_18 : decode cX9_follows 18 = .ok (.if_icmp .ge 102, 3) := by decide +kernel
theorem dX9_follows_21 : decode cX9_follows 21 = .ok (.iload 9, 2) := by decide +kernel
theorem dX9_follows_23 : decode cX9_follows 23 = .ok (.i2l, 1) := by decide +kernel
theorem dX9_follows_24 : decode cX9_follows 24 = .ok (.lconst 1, 1) := by decide +kernel
theorem dX9_follows_25 : decode cX9_follows 25 = .ok (.ldc2_w 239, 3) := by decide +kernel
theorem dX9_follows_28 : decode cX9_follows 28 = .ok (.invokestatic 87, 3) := by decide +kernel
theorem dX9_follows_31 : decode cX9_follows 31 = .ok (.ifCond .eq 89, 3) := by decide +kernel
theorem dX9_follows_34 : decode cX9_follows 34 = .ok (.aload_n 0, 1) := by decide +kernel
theorem dX9_follows_35 : decode cX9_follows 35 = .ok (.iload_n 1, 1) := by decide +kernel
theorem dX9_follows_36 : decode cX9_follows 36 = .ok (.iload_n 2, 1) := by decide +kernel
theorem dX9_follows_37 : decode cX9_follows 37 = .ok (.iload 12, 2) := by decide +kernel
theorem dX9_follows_39 : decode cX9_follows 39 = .ok (.iload 7, 2) := by decide +kernel
theorem dX9_follows_41 : decode cX9_follows 41 = .ok (.invokevirtual 342, 3) := by decide +kernel
theorem dX9_follows_44 : decode cX9_follows 44 = .ok (.aload_n 0, 1) := by decide +kernel
theorem dX9_follows_45 : decode cX9_follows 45 = .ok (.iload_n 1, 1) := by decide +kernel
theorem dX9_follows_46 : decode cX9_follows 46 = .ok (.iload_n 2, 1) := by decide +kernel
theorem dX9_follows_47 : decode cX9_follows 47 = .ok (.iload 12, 2) := by decide +kernel
theorem dX9_follows_49 : decode cX9_follows 49 = .ok (.iload 10, 2) := by decide +kernel
theorem dX9_follows_51 : decode cX9_follows 51 = .ok (.iload 9, 2) := by decide +kernel
theorem dX9_follows_53 : decode cX9_follows 53 = .ok (.iload 11, 2) := by decide +kernel
theorem dX9_follows_55 : decode cX9_follows 55 = .ok (.invokevirtual 338, 3) := by decide +kernel
theorem dX9_follows_58 : decode cX9_follows 58 = .ok (.pop, 1) := by decide +kernel
theorem dX9_follows_59 : decode cX9_follows 59 = .ok (.aload_n 0, 1) := by decide +kernel
theorem dX9_follows_60 : decode cX9_follows 60 = .ok (.aload_n 0, 1) := by decide +kernel
theorem dX9_follows_61 : decode cX9_follows 61 = .ok (.getfield 322, 3) := by decide +kernel
theorem dX9_follows_64 : decode cX9_follows 64 = .ok (.i2l, 1) := by decide +kernel
theorem dX9_follows_65 : decode cX9_follows 65 = .ok (.invokevirtual 180, 3) := by decide +kernel
theorem dX9_follows_68 : decode cX9_follows 68 = .ok (.aload_n 0, 1) := by decide +kernel
theorem dX9_follows_69 : decode cX9_follows 69 = .ok (.getfield 322, 3) := by decide +kernel
theorem dX9_follows_72 : decode cX9_follows 72 = .ok (.iload 8, 2) := by decide +kernel
theorem dX9_follows_74 : decode cX9_follows 74 = .ok (.invokestatic 160, 3) := by decide +kernel
theorem dX9_follows_77 : decode cX9_follows 77 = .ok (.iadd, 1) := by decide +kernel
theorem dX9_follows_78 : decode cX9_follows 78 = .ok (.istore 9, 2) := by decide +kernel
theorem dX9_follows_80 : decode cX9_follows 80 = .ok (.iload 8, 2) := by decide +kernel
theorem dX9_follows_82 : decode cX9_follows 82 = .ok (.ifCond .eq 10, 3) := by decide +kernel
theorem dX9_follows_85 : decode cX9_follows 85 = .ok (.aload_n 0, 1) := by decide +kernel
theorem dX9_follows_86 : decode cX9_follows 86 = .ok (.getfield 322, 3) := by decide +kernel
theorem dX9_follows_89 : decode cX9_follows 89 = .ok (.goto 5, 3) := by decide +kernel
theorem dX9_follows_92 : decode cX9_follows 92 = .ok (.iload 11, 2) := by decide +kernel
theorem dX9_follows_94 : decode cX9_follows 94 = .ok (.istore 11, 2) := by decide +kernel
theorem dX9_follows_96 : decode cX9_follows 96 = .ok (.iload 10, 2) := by decide +kernel
theorem dX9_follows_98 : decode cX9_follows 98 = .ok (.iload 8, 2) := by decide +kernel
theorem dX9_follows_100 : decode cX9_follows 100 = .ok (.ifCond .ne 7, 3) := by decide +kernel
theorem dX9_follows_103 : decode cX9_follows 103 = .ok (.iconst 1, 1) := by decide +kernel
