theorem dX8_allFail_51 : decode cX8_allFail 51 = .ok (.imul, 1) := by decide +kernel
theorem dX8_allFail_52 : decode cX8_allFail 52 = .ok (.sipush 1000, 3) := by decide +kernel
theorem dX8_allFail_55 : decode cX8_allFail 55 = .ok (.idiv, 1) := by decide +kernel
theorem dX8_allFail_56 : decode cX8_allFail 56 = .ok (.istore 5, 2) := by decide +kernel
theorem dX8_allFail_58 : decode cX8_allFail 58 = .ok (.iload 6, 2) := by decide +kernel
theorem dX8_allFail_60 : decode cX8_allFail 60 = .ok (.iload 4, 2) := by decide +kernel
theorem dX8_allFail_62 : decode cX8_allFail 62 = .ok (.iadd, 1) := by decide +kernel
theorem dX8_allFail_63 : decode cX8_allFail 63 = .ok (.istore 6, 2) := by decide +kernel
theorem dX8_allFail_65 : decode cX8_allFail 65 = .ok (.iinc 7 1, 3) := by decide +kernel
theorem dX8_allFail_68 : decode cX8_allFail 68 = .ok (.goto (-58), 3) := by decide +kernel
theorem dX8_allFail_71 : decode cX8_allFail 71 = .ok (.iload 5, 2) := by decide +kernel
theorem dX8_allFail_73 : decode cX8_allFail 73 = .ok (.ireturn, 1) := by decide +kernel
theorem dX8_byPlan_0 : decode cX8_byPlan 0 = .ok (.aload_n 0, 1) := by decide +kernel
theorem dX8_byPlan_1 : decode cX8_byPlan 1 = .ok (.getfield 52, 3) := by decide +kernel
theorem dX8_byPlan_4 : decode cX8_byPlan 4 = .ok (.aload_n 0, 1) := by decide +kernel
theorem dX8_byPlan_5 : decode cX8_byPlan 5 = .ok (.getfield 18, 3) := by decide +kernel
theorem dX8_byPlan_8 : decode cX8_byPlan 8 = .ok (.iload_n 1, 1) := by decide +kernel
theorem dX8_byPlan_9 : decode cX8_byPlan 9 = .ok (.aaload, 1) := by decide +kernel
theorem dX8_byPlan_10 : decode cX8_byPlan 10 = .ok (.aload_n 0, 1) := by decide +kernel
theorem dX8_byPlan_11 : decode cX8_byPlan 11 = .ok (.getfield 28, 3) := by decide +kernel
theorem dX8_byPlan_14 : decode cX8_byPlan 14 = .ok (.getfield 111, 3) := by decide +kernel
theorem dX8_byPlan_17 : decode cX8_byPlan 17 = .ok (.aload_n 0, 1) := by decide +kernel
theorem dX8_byPlan_18 : decode cX8_byPlan 18 = .ok (.getfield 45, 3) := by decide +kernel
theorem dX8_byPlan_21 : decode cX8_byPlan 21 = .ok (.invokevirtual 278, 3) := by decide +kernel
theorem dX8_byPlan_24 : decode cX8_byPlan 24 = .ok (.aload_n 0, 1) := by decide +kernel
theorem dX8_byPlan_25 : decode cX8_byPlan 25 = .ok (.getfield 38, 3) := by decide +kernel
theorem dX8_byPlan_28 : decode cX8_byPlan 28 = .ok (.aload_n 0, 1) := by decide +kernel
theorem dX8_byPlan_29 : decode cX8_byPlan 29 = .ok (.getfield 28, 3) := by decide +kernel
theorem dX8_byPlan_32 : decode cX8_byPlan 32 = .ok (.iload_n 1, 1) := by decide +kernel
theorem dX8_byPlan_33 : decode cX8_byPlan 33 = .ok (.invokevirtual 225, 3) := by decide +kernel
theorem dX8_byPlan_36 : decode cX8_byPlan 36 = .ok (.aload_n 0, 1) := by decide +kernel
theorem dX8_byPlan_37 : decode cX8_byPlan 37 = .ok (.getfield 52, 3) := by decide +kernel
theorem dX8_byPlan_40 : decode cX8_byPlan 40 = .ok (.aload_n 0, 1) := by decide +kernel
theorem dX8_byPlan_41 : decode cX8_byPlan 41 = .ok (.getfield 38, 3) := by decide +kernel
theorem dX8_byPlan_44 : decode cX8_byPlan 44 = .ok (.invokevirtual 282, 3) := by decide +kernel
theorem dX8_byPlan_47 : decode cX8_byPlan 47 = .ok (.ireturn, 1) := by decide +kernel
theorem dX8_reckonChances_0 : decode cX8_reckonChances 0 = .ok (.aload_n 0, 1) := by decide +kernel
theorem dX8_reckonChances_1 : decode cX8_reckonChances 1 = .ok (.getfield 45, 3) := by decide +kernel
theorem dX8_reckonChances_4 : decode cX8_reckonChances 4 = .ok (.invokevirtual 283, 3) := by decide +kernel
theorem dX8_reckonChances_7 : decode cX8_reckonChances 7 = .ok (.aload_n 0, 1) := by decide +kernel
theorem dX8_reckonChances_8 : decode cX8_reckonChances 8 = .ok (.getfield 52, 3) := by decide +kernel
theorem dX8_reckonChances_11 : decode cX8_reckonChances 11 = .ok (.aload_n 0, 1) := by decide +kernel
theorem dX8_reckonChances_12 : decode cX8_reckonChances 12 = .ok (.getfield 18, 3) := by decide +kernel
theorem dX8_reckonChances_15 : decode cX8_reckonChances 15 = .ok (.iload_n 1, 1) := by decide +kernel
theorem dX8_reckonChances_16 : decode cX8_reckonChances 16 = .ok (.aaload, 1) := by decide +kernel
theorem dX8_reckonChances_17 : decode cX8_reckonChances 17 = .ok (.aload_n 0, 1) := by decide +kernel
theorem dX8_reckonChances_18 : decode cX8_reckonChances 18 = .ok (.getfield 28, 3) := by decide +kernel
theorem dX8_reckonChances_21 : decode cX8_reckonChances 21 = .ok (.getfield 111, 3) := by decide +kernel
theorem dX8_reckonChances_24 : decode cX8_reckonChances 24 = .ok (.aload_n 0, 1) := by decide +kernel
theorem dX8_reckonChances_25 : decode cX8_reckonChances 25 = .ok (.getfield 45, 3) := by decide +kernel
theorem dX8_reckonChances_28 : decode cX8_reckonChances 28 = .ok (.invokevirtual 278, 3) := by decide +kernel
theorem dX8_reckonChances_31 : decode cX8_reckonChances 31 = .ok (.aload_n 0, 1) := by decide +kernel
theorem dX8_reckonChances_32 : decode cX8_reckonChances 32 = .ok (.getfield 38, 3) := by decide +kernel
theorem dX8_reckonChances_35 : decode cX8_reckonChances 35 = .ok (.aload_n 0, 1) := by decide +kernel
theorem dX8_reckonChances_36 : decode cX8_reckonChances 36 = .ok (.getfield 28, 3) := by decide +kernel
theorem dX8_reckonChances_39 : decode cX8_reckonChances 39 = .ok (.iload_n 1, 1) := by decide +kernel
theorem dX8_reckonChances_40 : decode cX8_reckonChances 40 = .ok (.invokevirtual 225, 3) := by decide +kernel
theorem dX8_reckonChances_43 : decode cX8_reckonChances 43 = .ok (.aload_n 0, 1) := by decide +kernel
theorem dX8_reckonChances_44 : decode cX8_reckonChances 44 = .ok (.getfield 38, 3) := by decide +kernel
theorem dX8_reckonChances_47 : decode cX8_reckonChances 47 = .ok (.getfield 229, 3) := by decide +kernel
theorem dX8_reckonChances_50 : decode cX8_reckonChances 50 = .ok (.istore_n 2, 1) := by decide +kernel
theorem dX8_reckonChances_51 : decode cX8_reckonChances 51 = .ok (.aload_n 0, 1) := by decide +kernel
theorem dX8_reckonChances_52 : decode cX8_reckonChances 52 = .ok (.getfield 58, 3) := by decide +kernel
theorem dX8_reckonChances_55 : decode cX8_reckonChances 55 = .ok (.iload_n 1, 1) := by decide +kernel
theorem dX8_reckonChances_56 : decode cX8_reckonChances 56 = .ok (.aaload, 1) := by decide +kernel
theorem dX8_reckonChances_57 : decode cX8_reckonChances 57 = .ok (.astore_n 3, 1) := by decide +kernel
theorem dX8_reckonChances_58 : decode cX8_reckonChances 58 = .ok (.aload_n 3, 1) := by decide +kernel
theorem dX8_reckonChances_59 : decode cX8_reckonChances 59 = .ok (.iconst 0, 1) := by decide +kernel
theorem dX8_reckonChances_60 : decode cX8_reckonChances 60 = .ok (.ldc 213, 2) := by decide +kernel
theorem dX8_reckonChances_62 : decode cX8_reckonChances 62 = .ok (.iastore, 1) := by decide +kernel
theorem dX8_reckonChances_63 : decode cX8_reckonChances 63 = .ok (.iconst 1, 1) := by decide +kernel
theorem dX8_reckonChances_64 : decode cX8_reckonChances 64 = .ok (.istore 4, 2) := by decide +kernel
theorem dX8_reckonChances_66 : decode cX8_reckonChances 66 = .ok (.iload 4, 2) := by decide +kernel
theorem dX8_reckonChances_68 : decode cX8_reckonChances 68 = .ok (.aload_n 3, 1) := by decide +kernel
theorem dX8_reckonChances_69 : decode cX8_reckonChances 69 = .ok (.arraylength, 1) := by decide +kernel
theorem dX8_reckonChances_70 : decode cX8_reckonChances 70 = .ok (.if_icmp .ge 40, 3) := by decide +kernel
theorem dX8_reckonChances_73 : decode cX8_reckonChances 73 = .ok (.aload_n 0, 1) := by decide +kernel
theorem dX8_reckonChances_74 : decode cX8_reckonChances 74 = .ok (.getfield 38, 3) := by decide +kernel
theorem dX8_reckonChances_77 : decode cX8_reckonChances 77 = .ok (.iload_n 2, 1) := by decide +kernel
theorem dX8_reckonChances_78 : decode cX8_reckonChances 78 = .ok (.bipush 120, 2) := by decide +kernel
theorem dX8_reckonChances_80 : decode cX8_reckonChances 80 = .ok (.iadd, 1) := by decide +kernel
theorem dX8_reckonChances_81 : decode cX8_reckonChances 81 = .ok (.iconst 1, 1) := by decide +kernel
theorem dX8_reckonChances_82 : decode cX8_reckonChances 82 = .ok (.iadd, 1) := by decide +kernel
theorem dX8_reckonChances_83 : decode cX8_reckonChances 83 = .ok (.iload 4, 2) := by decide +kernel
theorem dX8_reckonChances_85 : decode cX8_reckonChances 85 = .ok (.isub, 1) := by decide +kernel
theorem dX8_reckonChances_86 : decode cX8_reckonChances 86 = .ok (.putfield 229, 3) := by decide +kernel
theorem dX8_reckonChances_89 : decode cX8_reckonChances 89 = .ok (.aload_n 3, 1) := by decide +kernel
theorem dX8_reckonChances_90 : decode cX8_reckonChances 90 = .ok (.iload 4, 2) := by decide +kernel
theorem dX8_reckonChances_92 : decode cX8_reckonChances 92 = .ok (.aload_n 0, 1) := by decide +kernel
theorem dX8_reckonChances_93 : decode cX8_reckonChances 93 = .ok (.getfield 52, 3) := by decide +kernel
theorem dX8_reckonChances_96 : decode cX8_reckonChances 96 = .ok (.aload_n 0, 1) := by decide +kernel
theorem dX8_reckonChances_97 : decode cX8_reckonChances 97 = .ok (.getfield 38, 3) := by decide +kernel
theorem dX8_reckonChances_100 : decode cX8_reckonChances 100 = .ok (.invokevirtual 282, 3) := by decide +kernel
theorem dX8_reckonChances_103 : decode cX8_reckonChances 103 = .ok (.iastore, 1) := by decide +kernel
theorem dX8_reckonChances_104 : decode cX8_reckonChances 104 = .ok (.iinc 4 1, 3) := by decide +kernel
theorem dX8_reckonChances_107 : decode cX8_reckonChances 107 = .ok (.goto (-41), 3) := by decide +kernel
theorem dX8_reckonChances_110 : decode cX8_reckonChances 110 = .ok (.return_, 1) := by decide +kernel
theorem dX8_aimToBeat_0 : decode cX8_aimToBeat 0 = .ok (.aload_n 0, 1) := by decide +kernel
theorem dX8_aimToBeat_1 : decode cX8_aimToBeat 1 = .ok (.iload_n 2, 1) := by decide +kernel
theorem dX8_aimToBeat_2 : decode cX8_aimToBeat 2 = .ok (.invokevirtual 204, 3) := by decide +kernel
theorem dX8_aimToBeat_5 : decode cX8_aimToBeat 5 = .ok (.aload_n 0, 1) := by decide +kernel
theorem dX8_aimToBeat_6 : decode cX8_aimToBeat 6 = .ok (.getfield 45, 3) := by decide +kernel
theorem dX8_aimToBeat_9 : decode cX8_aimToBeat 9 = .ok (.invokevirtual 286, 3) := by decide +kernel
theorem dX8_aimToBeat_12 : decode cX8_aimToBeat 12 = .ok (.aload_n 0, 1) := by decide +kernel
theorem dX8_aimToBeat_13 : decode cX8_aimToBeat 13 = .ok (.getfield 45, 3) := by decide +kernel
theorem dX8_aimToBeat_16 : decode cX8_aimToBeat 16 = .ok (.aload_n 0, 1) := by decide +kernel
theorem dX8_aimToBeat_17 : decode cX8_aimToBeat 17 = .ok (.getfield 18, 3) := by decide +kernel
theorem dX8_aimToBeat_20 : decode cX8_aimToBeat 20 = .ok (.iload_n 1, 1) := by decide +kernel
theorem dX8_aimToBeat_21 : decode cX8_aimToBeat 21 = .ok (.aaload, 1) := by decide +kernel
theorem dX8_aimToBeat_22 : decode cX8_aimToBeat 22 = .ok (.aload_n 0, 1) := by decide +kernel
theorem dX8_aimToBeat_23 : decode cX8_aimToBeat 23 = .ok (.getfield 18, 3) := by decide +kernel
theorem dX8_aimToBeat_26 : decode cX8_aimToBeat 26 = .ok (.iload_n 2, 1) := by decide +kernel
theorem dX8_aimToBeat_27 : decode cX8_aimToBeat 27 = .ok (.aaload, 1) := by decide +kernel
theorem dX8_aimToBeat_28 : decode cX8_aimToBeat 28 = .ok (.invokevirtual 289, 3) := by decide +kernel
theorem dX8_aimToBeat_31 : decode cX8_aimToBeat 31 = .ok (.aload_n 0, 1) := by decide +kernel
theorem dX8_aimToBeat_32 : decode cX8_aimToBeat 32 = .ok (.getfield 58, 3) := by decide +kernel
theorem dX8_aimToBeat_35 : decode cX8_aimToBeat 35 = .ok (.iload_n 2, 1) := by decide +kernel
theorem dX8_aimToBeat_36 : decode cX8_aimToBeat 36 = .ok (.aaload, 1) := by decide +kernel
theorem dX8_aimToBeat_37 : decode cX8_aimToBeat 37 = .ok (.invokevirtual 293, 3) := by decide +kernel
theorem dX8_aimToBeat_40 : decode cX8_aimToBeat 40 = .ok (.return_, 1) := by decide +kernel
theorem dX8_aimToWin_0 : decode cX8_aimToWin 0 = .ok (.iconst 0, 1) := by decide +kernel
theorem dX8_aimToWin_1 : decode cX8_aimToWin 1 = .ok (.istore_n 2, 1) := by decide +kernel
theorem dX8_aimToWin_2 : decode cX8_aimToWin 2 = .ok (.iload_n 2, 1) := by decide +kernel
theorem dX8_aimToWin_3 : decode cX8_aimToWin 3 = .ok (.aload_n 0, 1) := by decide +kernel
theorem dX8_aimToWin_4 : decode cX8_aimToWin 4 = .ok (.getfield 28, 3) := by decide +kernel
theorem dX8_aimToWin_7 : decode cX8_aimToWin 7 = .ok (.getfield 87, 3) := by decide +kernel
theorem dX8_aimToWin_10 : decode cX8_aimToWin 10 = .ok (.if_icmp .ge 19, 3) := by decide +kernel
theorem dX8_aimToWin_13 : decode cX8_aimToWin 13 = .ok (.iload_n 2, 1) := by decide +kernel
theorem dX8_aimToWin_14 : decode cX8_aimToWin 14 = .ok (.iload_n 1, 1) := by decide +kernel
theorem dX8_aimToWin_15 : decode cX8_aimToWin 15 = .ok (.if_icmp .eq 8, 3) := by decide +kernel
theorem dX8_aimToWin_18 : decode cX8_aimToWin 18 = .ok (.aload_n 0, 1) := by decide +kernel
theorem dX8_aimToWin_19 : decode cX8_aimToWin 19 = .ok (.iload_n 2, 1) := by decide +kernel
theorem dX8_aimToWin_20 : decode cX8_aimToWin 20 = .ok (.invokevirtual 204, 3) := by decide +kernel
theorem dX8_aimToWin_23 : decode cX8_aimToWin 23 = .ok (.iinc 2 1, 3) := by decide +kernel
theorem dX8_aimToWin_26 : decode cX8_aimToWin 26 = .ok (.goto (-24), 3) := by decide +kernel
theorem dX8_aimToWin_29 : decode cX8_aimToWin 29 = .ok (.aload_n 0, 1) := by decide +kernel
theorem dX8_aimToWin_30 : decode cX8_aimToWin 30 = .ok (.iload_n 1, 1) := by decide +kernel
theorem dX8_aimToWin_31 : decode cX8_aimToWin 31 = .ok (.invokevirtual 210, 3) := by decide +kernel
theorem dX8_aimToWin_34 : decode cX8_aimToWin 34 = .ok (.return_, 1) := by decide +kernel
theorem dX8_aimAheadOfAll_0 : decode cX8_aimAheadOfAll 0 = .ok (.aload_n 0, 1) := by decide +kernel
theorem dX8_aimAheadOfAll_1 : decode cX8_aimAheadOfAll 1 = .ok (.getfield 45, 3) := by decide +kernel
theorem dX8_aimAheadOfAll_4 : decode cX8_aimAheadOfAll 4 = .ok (.invokevirtual 286, 3) := by decide +kernel
theorem dX8_aimAheadOfAll_7 : decode cX8_aimAheadOfAll 7 = .ok (.iconst 0, 1) := by decide +kernel
theorem dX8_aimAheadOfAll_8 : decode cX8_aimAheadOfAll 8 = .ok (.istore_n 2, 1) := by decide +kernel
theorem dX8_aimAheadOfAll_9 : decode cX8_aimAheadOfAll 9 = .ok (.iload_n 2, 1) := by decide +kernel
theorem dX8_aimAheadOfAll_10 : decode cX8_aimAheadOfAll 10 = .ok (.aload_n 0, 1) := by decide +kernel
theorem dX8_aimAheadOfAll_11 : decode cX8_aimAheadOfAll 11 = .ok (.getfield 28, 3) := by decide +kernel
theorem dX8_aimAheadOfAll_14 : decode cX8_aimAheadOfAll 14 = .ok (.getfield 87, 3) := by decide +kernel
theorem dX8_aimAheadOfAll_17 : decode cX8_aimAheadOfAll 17 = .ok (.if_icmp .ge 42, 3) := by decide +kernel
theorem dX8_aimAheadOfAll_20 : decode cX8_aimAheadOfAll 20 = .ok (.iload_n 2, 1) := by decide +kernel
theorem dX8_aimAheadOfAll_21 : decode cX8_aimAheadOfAll 21 = .ok (.iload_n 1, 1) := by decide +kernel
theorem dX8_aimAheadOfAll_22 : decode cX8_aimAheadOfAll 22 = .ok (.if_icmp .eq 31, 3) := by decide +kernel
theorem dX8_aimAheadOfAll_25 : decode cX8_aimAheadOfAll 25 = .ok (.aload_n 0, 1) := by decide +kernel
theorem dX8_aimAheadOfAll_26 : decode cX8_aimAheadOfAll 26 = .ok (.getfield 45, 3) := by decide +kernel
theorem dX8_aimAheadOfAll_29 : decode cX8_aimAheadOfAll 29 = .ok (.aload_n 0, 1) := by decide +kernel
theorem dX8_aimAheadOfAll_30 : decode cX8_aimAheadOfAll 30 = .ok (.getfield 18, 3) := by decide +kernel
theorem dX8_aimAheadOfAll_33 : decode cX8_aimAheadOfAll 33 = .ok (.iload_n 1, 1) := by decide +kernel
theorem dX8_aimAheadOfAll_34 : decode cX8_aimAheadOfAll 34 = .ok (.aaload, 1) := by decide +kernel
theorem dX8_aimAheadOfAll_35 : decode cX8_aimAheadOfAll 35 = .ok (.aload_n 0, 1) := by decide +kernel
theorem dX8_aimAheadOfAll_36 : decode cX8_aimAheadOfAll 36 = .ok (.getfield 18, 3) := by decide +kernel
theorem dX8_aimAheadOfAll_39 : decode cX8_aimAheadOfAll 39 = .ok (.iload_n 2, 1) := by decide +kernel
theorem dX8_aimAheadOfAll_40 : decode cX8_aimAheadOfAll 40 = .ok (.aaload, 1) := by decide +kernel
theorem dX8_aimAheadOfAll_41 : decode cX8_aimAheadOfAll 41 = .ok (.invokevirtual 289, 3) := by decide +kernel
theorem dX8_aimAheadOfAll_44 : decode cX8_aimAheadOfAll 44 = .ok (.aload_n 0, 1) := by decide +kernel
theorem dX8_aimAheadOfAll_45 : decode cX8_aimAheadOfAll 45 = .ok (.getfield 58, 3) := by decide +kernel
theorem dX8_aimAheadOfAll_48 : decode cX8_aimAheadOfAll 48 = .ok (.iload_n 2, 1) := by decide +kernel
theorem dX8_aimAheadOfAll_49 : decode cX8_aimAheadOfAll 49 = .ok (.aaload, 1) := by decide +kernel
theorem dX8_aimAheadOfAll_50 : decode cX8_aimAheadOfAll 50 = .ok (.invokevirtual 293, 3) := by decide +kernel
theorem dX8_aimAheadOfAll_53 : decode cX8_aimAheadOfAll 53 = .ok (.iinc 2 1, 3) := by decide +kernel
theorem dX8_aimAheadOfAll_56 : decode cX8_aimAheadOfAll 56 = .ok (.goto (-47), 3) := by decide +kernel
theorem dX8_aimAheadOfAll_59 : decode cX8_aimAheadOfAll 59 = .ok (.return_, 1) := by decide +kernel
theorem dX8_thinkFreely_0 : decode cX8_thinkFreely 0 = .ok (.aload_n 0, 1) := by decide +kernel
theorem dX8_thinkFreely_1 : decode cX8_thinkFreely 1 = .ok (.getfield 69, 3) := by decide +kernel
theorem dX8_thinkFreely_4 : decode cX8_thinkFreely 4 = .ok (.ifnonnull 14, 3) := by decide +kernel
theorem dX8_thinkFreely_7 : decode cX8_thinkFreely 7 = .ok (.aload_n 0, 1) := by decide +kernel
theorem dX8_thinkFreely_8 : decode cX8_thinkFreely 8 = .ok (.new 233, 3) := by decide +kernel
theorem dX8_thinkFreely_11 : decode cX8_thinkFreely 11 = .ok (.dup, 1) := by decide +kernel
theorem dX8_thinkFreely_12 : decode cX8_thinkFreely 12 = .ok (.invokespecial 297, 3) := by decide +kernel
theorem dX8_thinkFreely_15 : decode cX8_thinkFreely 15 = .ok (.putfield 69, 3) := by decide +kernel
theorem dX8_thinkFreely_18 : decode cX8_thinkFreely 18 = .ok (.iload_n 2, 1) := by decide +kernel
theorem dX8_thinkFreely_19 : decode cX8_thinkFreely 19 = .ok (.ifCond .eq 10, 3) := by decide +kernel
theorem dX8_thinkFreely_22 : decode cX8_thinkFreely 22 = .ok (.aload_n 0, 1) := by decide +kernel
theorem dX8_thinkFreely_23 : decode cX8_thinkFreely 23 = .ok (.getfield 45, 3) := by decide +kernel
theorem dX8_thinkFreely_26 : decode cX8_thinkFreely 26 = .ok (.invokevirtual 283, 3) := by decide +kernel
theorem dX8_thinkFreely_29 : decode cX8_thinkFreely 29 = .ok (.aload_n 0, 1) := by decide +kernel
theorem dX8_thinkFreely_30 : decode cX8_thinkFreely 30 = .ok (.getfield 69, 3) := by decide +kernel
theorem dX8_thinkFreely_33 : decode cX8_thinkFreely 33 = .ok (.aload_n 0, 1) := by decide +kernel
theorem dX8_thinkFreely_34 : decode cX8_thinkFreely 34 = .ok (.getfield 18, 3) := by decide +kernel
theorem dX8_thinkFreely_37 : decode cX8_thinkFreely 37 = .ok (.iload_n 1, 1) := by decide +kernel
theorem dX8_thinkFreely_38 : decode cX8_thinkFreely 38 = .ok (.aaload, 1) := by decide +kernel
theorem dX8_thinkFreely_39 : decode cX8_thinkFreely 39 = .ok (.aload_n 0, 1) := by decide +kernel
theorem dX8_thinkFreely_40 : decode cX8_thinkFreely 40 = .ok (.getfield 28, 3) := by decide +kernel
theorem dX8_thinkFreely_43 : decode cX8_thinkFreely 43 = .ok (.getfield 111, 3) := by decide +kernel
theorem dX8_thinkFreely_46 : decode cX8_thinkFreely 46 = .ok (.aload_n 0, 1) := by decide +kernel
theorem dX8_thinkFreely_47 : decode cX8_thinkFreely 47 = .ok (.getfield 45, 3) := by decide +kernel
theorem dX8_thinkFreely_50 : decode cX8_thinkFreely 50 = .ok (.invokevirtual 298, 3) := by decide +kernel
theorem dX8_thinkFreely_53 : decode cX8_thinkFreely 53 = .ok (.aload_n 0, 1) := by decide +kernel
theorem dX8_thinkFreely_54 : decode cX8_thinkFreely 54 = .ok (.getfield 69, 3) := by decide +kernel
theorem dX8_thinkFreely_57 : decode cX8_thinkFreely 57 = .ok (.areturn, 1) := by decide +kernel
theorem dX8_byChoice_0 : decode cX8_byChoice 0 = .ok (.aload_n 0, 1) := by decide +kernel
theorem dX8_byChoice_1 : decode cX8_byChoice 1 = .ok (.iload_n 1, 1) := by decide +kernel
theorem dX8_byChoice_2 : decode cX8_byChoice 2 = .ok (.iconst 0, 1) := by decide +kernel
theorem dX8_byChoice_3 : decode cX8_byChoice 3 = .ok (.invokevirtual 221, 3) := by decide +kernel
theorem dX8_byChoice_6 : decode cX8_byChoice 6 = .ok (.astore_n 2, 1) := by decide +kernel
theorem dX8_byChoice_7 : decode cX8_byChoice 7 = .ok (.aload_n 0, 1) := by decide +kernel
theorem dX8_byChoice_8 : decode cX8_byChoice 8 = .ok (.getfield 38, 3) := by decide +kernel
theorem dX8_byChoice_11 : decode cX8_byChoice 11 = .ok (.aload_n 0, 1) := by decide +kernel
theorem dX8_byChoice_12 : decode cX8_byChoice 12 = .ok (.getfield 28, 3) := by decide +kernel
theorem dX8_byChoice_15 : decode cX8_byChoice 15 = .ok (.iload_n 1, 1) := by decide +kernel
theorem dX8_byChoice_16 : decode cX8_byChoice 16 = .ok (.invokevirtual 225, 3) := by decide +kernel
theorem dX8_byChoice_19 : decode cX8_byChoice 19 = .ok (.aload_n 0, 1) := by decide +kernel
theorem dX8_byChoice_20 : decode cX8_byChoice 20 = .ok (.getfield 38, 3) := by decide +kernel
theorem dX8_byChoice_23 : decode cX8_byChoice 23 = .ok (.invokevirtual 241, 3) := by decide +kernel
theorem dX8_byChoice_26 : decode cX8_byChoice 26 = .ok (.pop, 1) := by decide +kernel
theorem dX8_byChoice_27 : decode cX8_byChoice 27 = .ok (.aload_n 2, 1) := by decide +kernel
theorem dX8_byChoice_28 : decode cX8_byChoice 28 = .ok (.aload_n 0, 1) := by decide +kernel
theorem dX8_byChoice_29 : decode cX8_byChoice 29 = .ok (.getfield 38, 3) := by decide +kernel
theorem dX8_byChoice_32 : decode cX8_byChoice 32 = .ok (.invokevirtual 232, 3) := by decide +kernel
theorem dX8_byChoice_35 : decode cX8_byChoice 35 = .ok (.istore_n 3, 1) := by decide +kernel
theorem dX8_byChoice_36 : decode cX8_byChoice 36 = .ok (.aload_n 2, 1) := by decide +kernel
theorem dX8_byChoice_37 : decode cX8_byChoice 37 = .ok (.getfield 245, 3) := by decide +kernel
theorem dX8_byChoice_40 : decode cX8_byChoice 40 = .ok (.istore 4, 2) := by decide +kernel
theorem dX8_byChoice_42 : decode cX8_byChoice 42 = .ok (.aload_n 0, 1) := by decide +kernel
theorem dX8_byChoice_43 : decode cX8_byChoice 43 = .ok (.iload 4, 2) := by decide +kernel
theorem dX8_byChoice_45 : decode cX8_byChoice 45 = .ok (.aload_n 0, 1) := by decide +kernel
theorem dX8_byChoice_46 : decode cX8_byChoice 46 = .ok (.iload_n 1, 1) := by decide +kernel
theorem dX8_byChoice_47 : decode cX8_byChoice 47 = .ok (.invokevirtual 194, 3) := by decide +kernel
theorem dX8_byChoice_50 : decode cX8_byChoice 50 = .ok (.invokevirtual 157, 3) := by decide +kernel
theorem dX8_byChoice_53 : decode cX8_byChoice 53 = .ok (.iload_n 3, 1) := by decide +kernel
theorem dX8_byChoice_54 : decode cX8_byChoice 54 = .ok (.ireturn, 1) := by decide +kernel
theorem dX8_fight_0 : decode cX8_fight 0 = .ok (.aload_n 0, 1) := by decide +kernel
theorem dX8_fight_1 : decode cX8_fight 1 = .ok (.getfield 28, 3) := by decide +kernel
theorem dX8_fight_4 : decode cX8_fight 4 = .ok (.getfield 260, 3) := by decide +kernel
theorem dX8_fight_7 : decode cX8_fight 7 = .ok (.iconst 2, 1) := by decide +kernel
theorem dX8_fight_8 : decode cX8_fight 8 = .ok (.if_icmp .ne 14, 3) := by decide +kernel
theorem dX8_fight_11 : decode cX8_fight 11 = .ok (.aload_n 0, 1) := by decide +kernel
theorem dX8_fight_12 : decode cX8_fight 12 = .ok (.getfield 28, 3) := by decide +kernel
theorem dX8_fight_15 : decode cX8_fight 15 = .ok (.getfield 263, 3) := by decide +kernel
theorem dX8_fight_18 : decode cX8_fight 18 = .ok (.iconst 2, 1) := by decide +kernel
theorem dX8_fight_19 : decode cX8_fight 19 = .ok (.if_icmp .eq 6, 3) := by decide +kernel
theorem dX8_fight_22 : decode cX8_fight 22 = .ok (.bipush (-2), 2) := by decide +kernel
theorem dX8_fight_24 : decode cX8_fight 24 = .ok (.ireturn, 1) := by decide +kernel
theorem dX8_fight_25 : decode cX8_fight 25 = .ok (.aload_n 0, 1) := by decide +kernel
theorem dX8_fight_26 : decode cX8_fight 26 = .ok (.getfield 28, 3) := by decide +kernel
theorem dX8_fight_29 : decode cX8_fight 29 = .ok (.iload_n 1, 1) := by decide +kernel
theorem dX8_fight_30 : decode cX8_fight 30 = .ok (.invokevirtual 140, 3) := by decide +kernel
theorem dX8_fight_33 : decode cX8_fight 33 = .ok (.ifCond .eq 14, 3) := by decide +kernel
theorem dX8_fight_36 : decode cX8_fight 36 = .ok (.aload_n 0, 1) := by decide +kernel
theorem dX8_fight_37 : decode cX8_fight 37 = .ok (.getfield 28, 3) := by decide +kernel
theorem dX8_fight_40 : decode cX8_fight 40 = .ok (.iload_n 2, 1) := by decide +kernel
theorem dX8_fight_41 : decode cX8_fight 41 = .ok (.invokevirtual 140, 3) := by decide +kernel
theorem dX8_fight_44 : decode cX8_fight 44 = .ok (.ifCond .ne 6, 3) := by decide +kernel
theorem dX8_fight_47 : decode cX8_fight 47 = .ok (.bipush (-3), 2) := by decide +kernel
theorem dX8_fight_49 : decode cX8_fight 49 = .ok (.ireturn, 1) := by decide +kernel
theorem dX8_fight_50 : decode cX8_fight 50 = .ok (.aload_n 0, 1) := by decide +kernel
theorem dX8_fight_51 : decode cX8_fight 51 = .ok (.getfield 73, 3) := by decide +kernel
theorem dX8_fight_54 : decode cX8_fight 54 = .ok (.ifnonnull 14, 3) := by decide +kernel
theorem dX8_fight_57 : decode cX8_fight 57 = .ok (.aload_n 0, 1) := by decide +kernel
theorem dX8_fight_58 : decode cX8_fight 58 = .ok (.new 299, 3) := by decide +kernel
theorem dX8_fight_61 : decode cX8_fight 61 = .ok (.dup, 1) := by decide +kernel
theorem dX8_fight_62 : decode cX8_fight 62 = .ok (.invokespecial 301, 3) := by decide +kernel
theorem dX8_fight_65 : decode cX8_fight 65 = .ok (.putfield 73, 3) := by decide +kernel
theorem dX8_fight_68 : decode cX8_fight 68 = .ok (.aload_n 0, 1) := by decide +kernel
theorem dX8_fight_69 : decode cX8_fight 69 = .ok (.getfield 73, 3) := by decide +kernel
theorem dX8_fight_72 : decode cX8_fight 72 = .ok (.aload_n 0, 1) := by decide +kernel
theorem dX8_fight_73 : decode cX8_fight 73 = .ok (.getfield 28, 3) := by decide +kernel
theorem dX8_fight_76 : decode cX8_fight 76 = .ok (.iload_n 1, 1) := by decide +kernel
theorem dX8_fight_77 : decode cX8_fight 77 = .ok (.iload_n 2, 1) := by decide +kernel
theorem dX8_fight_78 : decode cX8_fight 78 = .ok (.invokevirtual 302, 3) := by decide +kernel
theorem dX8_fight_81 : decode cX8_fight 81 = .ok (.aload_n 0, 1) := by decide +kernel
theorem dX8_fight_82 : decode cX8_fight 82 = .ok (.getfield 73, 3) := by decide +kernel
theorem dX8_fight_85 : decode cX8_fight 85 = .ok (.iload_n 3, 1) := by decide +kernel
theorem dX8_fight_86 : decode cX8_fight 86 = .ok (.iload 4, 2) := by decide +kernel
theorem dX8_fight_88 : decode cX8_fight 88 = .ok (.invokevirtual 306, 3) := by decide +kernel
theorem dX8_fight_91 : decode cX8_fight 91 = .ok (.istore 6, 2) := by decide +kernel
theorem dX8_fight_93 : decode cX8_fight 93 = .ok (.aload_n 0, 1) := by decide +kernel
theorem dX8_fight_94 : decode cX8_fight 94 = .ok (.getfield 61, 3) := by decide +kernel
theorem dX8_fight_97 : decode cX8_fight 97 = .ok (.iconst 0, 1) := by decide +kernel
theorem dX8_fight_98 : decode cX8_fight 98 = .ok (.aload_n 0, 1) := by decide +kernel
theorem dX8_fight_99 : decode cX8_fight 99 = .ok (.getfield 73, 3) := by decide +kernel
theorem dX8_fight_102 : decode cX8_fight 102 = .ok (.invokevirtual 309, 3) := by decide +kernel
theorem dX8_fight_105 : decode cX8_fight 105 = .ok (.ifCond .eq 8, 3) := by decide +kernel
theorem dX8_fight_108 : decode cX8_fight 108 = .ok (.iload_n 1, 1) := by decide +kernel
theorem dX8_fight_109 : decode cX8_fight 109 = .ok (.i2l, 1) := by decide +kernel
theorem dX8_fight_110 : decode cX8_fight 110 = .ok (.goto 5, 3) := by decide +kernel
theorem dX8_fight_113 : decode cX8_fight 113 = .ok (.iload_n 2, 1) := by decide +kernel
theorem dX8_fight_114 : decode cX8_fight 114 = .ok (.i2l, 1) := by decide +kernel
theorem dX8_fight_115 : decode cX8_fight 115 = .ok (.lastore, 1) := by decide +kernel
theorem dX8_fight_116 : decode cX8_fight 116 = .ok (.aload_n 0, 1) := by decide +kernel
theorem dX8_fight_117 : decode cX8_fight 117 = .ok (.getfield 61, 3) := by decide +kernel
theorem dX8_fight_120 : decode cX8_fight 120 = .ok (.iconst 1, 1) := by decide +kernel
theorem dX8_fight_121 : decode cX8_fight 121 = .ok (.aload_n 0, 1) := by decide +kernel
theorem dX8_fight_122 : decode cX8_fight 122 = .ok (.getfield 73, 3) := by decide +kernel
theorem dX8_fight_125 : decode cX8_fight 125 = .ok (.iload_n 3, 1) := by decide +kernel
theorem dX8_fight_126 : decode cX8_fight 126 = .ok (.iload 4, 2) := by decide +kernel
theorem dX8_fight_128 : decode cX8_fight 128 = .ok (.invokevirtual 312, 3) := by decide +kernel
theorem dX8_fight_131 : decode cX8_fight 131 = .ok (.i2l, 1) := by decide +kernel
theorem dX8_fight_132 : decode cX8_fight 132 = .ok (.lastore, 1) := by decide +kernel
theorem dX8_fight_133 : decode cX8_fight 133 = .ok (.aload_n 0, 1) := by decide +kernel
theorem dX8_fight_134 : decode cX8_fight 134 = .ok (.getfield 61, 3) := by decide +kernel
theorem dX8_fight_137 : decode cX8_fight 137 = .ok (.iconst 2, 1) := by decide +kernel
theorem dX8_fight_138 : decode cX8_fight 138 = .ok (.aload_n 0, 1) := by decide +kernel
theorem dX8_fight_139 : decode cX8_fight 139 = .ok (.getfield 73, 3) := by decide +kernel
theorem dX8_fight_142 : decode cX8_fight 142 = .ok (.iconst 0, 1) := by decide +kernel
theorem dX8_fight_143 : decode cX8_fight 143 = .ok (.iconst 0, 1) := by decide +kernel
theorem dX8_fight_144 : decode cX8_fight 144 = .ok (.invokevirtual 315, 3) := by decide +kernel
theorem dX8_fight_147 : decode cX8_fight 147 = .ok (.i2l, 1) := by decide +kernel
theorem dX8_fight_148 : decode cX8_fight 148 = .ok (.lastore, 1) := by decide +kernel
theorem dX8_fight_149 : decode cX8_fight 149 = .ok (.aload_n 0, 1) := by decide +kernel
theorem dX8_fight_150 : decode cX8_fight 150 = .ok (.iload 5, 2) := by decide +kernel
theorem dX8_fight_152 : decode cX8_fight 152 = .ok (.putfield 65, 3) := by decide +kernel
theorem dX8_fight_155 : decode cX8_fight 155 = .ok (.iload 6, 2) := by decide +kernel
theorem dX8_fight_157 : decode cX8_fight 157 = .ok (.ireturn, 1) := by decide +kernel
theorem dX9_init_0 : decode cX9_init 0 = .ok (.aload_n 0, 1) := by decide +kernel
theorem dX9_init_1 : decode cX9_init 1 = .ok (.invokespecial 1, 3) := by decide +kernel
theorem dX9_init_4 : decode cX9_init 4 = .ok (.aload_n 0, 1) := by decide +kernel
theorem dX9_init_5 : decode cX9_init 5 = .ok (.bipush 64, 2) := by decide +kernel
theorem dX9_init_7 : decode cX9_init 7 = .ok (.newarray .long, 2) := by decide +kernel
theorem dX9_init_9 : decode cX9_init 9 = .ok (.putfield 7, 3) := by decide +kernel
theorem dX9_init_12 : decode cX9_init 12 = .ok (.aload_n 0, 1) := by decide +kernel
theorem dX9_init_13 : decode cX9_init 13 = .ok (.bipush 6, 2) := by decide +kernel
theorem dX9_init_15 : decode cX9_init 15 = .ok (.newarray .int, 2) := by decide +kernel
theorem dX9_init_17 : decode cX9_init 17 = .ok (.putfield 13, 3) := by decide +kernel
theorem dX9_init_20 : decode cX9_init 20 = .ok (.aload_n 0, 1) := by decide +kernel
theorem dX9_init_21 : decode cX9_init 21 = .ok (.bipush 6, 2) := by decide +kernel
theorem dX9_init_23 : decode cX9_init 23 = .ok (.newarray .int, 2) := by decide +kernel
theorem dX9_init_25 : decode cX9_init 25 = .ok (.putfield 17, 3) := by decide +kernel
theorem dX9_init_28 : decode cX9_init 28 = .ok (.aload_n 0, 1) := by decide +kernel
theorem dX9_init_29 : decode cX9_init 29 = .ok (.bipush 18, 2) := by decide +kernel
theorem dX9_init_31 : decode cX9_init 31 = .ok (.newarray .int, 2) := by decide +kernel
theorem dX9_init_33 : decode cX9_init 33 = .ok (.putfield 20, 3) := by decide +kernel
theorem dX9_init_36 : decode cX9_init 36 = .ok (.aload_n 0, 1) := by decide +kernel
theorem dX9_init_37 : decode cX9_init 37 = .ok (.bipush 108, 2) := by decide +kernel
theorem dX9_init_39 : decode cX9_init 39 = .ok (.newarray .int, 2) := by decide +kernel
theorem dX9_init_41 : decode cX9_init 41 = .ok (.putfield 23, 3) := by decide +kernel
theorem dX9_init_44 : decode cX9_init 44 = .ok (.aload_n 0, 1) := by decide +kernel
theorem dX9_init_45 : decode cX9_init 45 = .ok (.bipush 108, 2) := by decide +kernel
theorem dX9_init_47 : decode cX9_init 47 = .ok (.newarray .int, 2) := by decide +kernel
theorem dX9_init_49 : decode cX9_init 49 = .ok (.putfield 26, 3) := by decide +kernel
theorem dX9_init_52 : decode cX9_init 52 = .ok (.aload_n 0, 1) := by decide +kernel
theorem dX9_init_53 : decode cX9_init 53 = .ok (.bipush 54, 2) := by decide +kernel
theorem dX9_init_55 : decode cX9_init 55 = .ok (.newarray .int, 2) := by decide +kernel
theorem dX9_init_57 : decode cX9_init 57 = .ok (.putfield 29, 3) := by decide +kernel
theorem dX9_init_60 : decode cX9_init 60 = .ok (.aload_n 0, 1) := by decide +kernel
theorem dX9_init_61 : decode cX9_init 61 = .ok (.bipush 63, 2) := by decide +kernel
theorem dX9_init_63 : decode cX9_init 63 = .ok (.newarray .int, 2) := by decide +kernel
theorem dX9_init_65 : decode cX9_init 65 = .ok (.putfield 32, 3) := by decide +kernel
theorem dX9_init_68 : decode cX9_init 68 = .ok (.aload_n 0, 1) := by decide +kernel
theorem dX9_init_69 : decode cX9_init 69 = .ok (.bipush 63, 2) := by decide +kernel
theorem dX9_init_71 : decode cX9_init 71 = .ok (.newarray .int, 2) := by decide +kernel
theorem dX9_init_73 : decode cX9_init 73 = .ok (.putfield 35, 3) := by decide +kernel
theorem dX9_init_76 : decode cX9_init 76 = .ok (.aload_n 0, 1) := by decide +kernel
theorem dX9_init_77 : decode cX9_init 77 = .ok (.sipush 240, 3) := by decide +kernel
theorem dX9_init_80 : decode cX9_init 80 = .ok (.newarray .int, 2) := by decide +kernel
theorem dX9_init_82 : decode cX9_init 82 = .ok (.putfield 38, 3) := by decide +kernel
theorem dX9_init_85 : decode cX9_init 85 = .ok (.aload_n 0, 1) := by decide +kernel
theorem dX9_init_86 : decode cX9_init 86 = .ok (.sipush 240, 3) := by decide +kernel
theorem dX9_init_89 : decode cX9_init 89 = .ok (.newarray .int, 2) := by decide +kernel
theorem dX9_init_91 : decode cX9_init 91 = .ok (.putfield 41, 3) := by decide +kernel
theorem dX9_init_94 : decode cX9_init 94 = .ok (.aload_n 0, 1) := by decide +kernel
theorem dX9_init_95 : decode cX9_init 95 = .ok (.iconst 3, 1) := by decide +kernel
theorem dX9_init_96 : decode cX9_init 96 = .ok (.newarray .int, 2) := by decide +kernel
theorem dX9_init_98 : decode cX9_init 98 = .ok (.putfield 44, 3) := by decide +kernel
theorem dX9_init_101 : decode cX9_init 101 = .ok (.aload_n 0, 1) := by decide +kernel
theorem dX9_init_102 : decode cX9_init 102 = .ok (.bipush 18, 2) := by decide +kernel
theorem dX9_init_104 : decode cX9_init 104 = .ok (.newarray .int, 2) := by decide +kernel
theorem dX9_init_106 : decode cX9_init 106 = .ok (.putfield 47, 3) := by decide +kernel
theorem dX9_init_109 : decode cX9_init 109 = .ok (.aload_n 0, 1) := by decide +kernel
theorem dX9_init_110 : decode cX9_init 110 = .ok (.bipush 18, 2) := by decide +kernel
theorem dX9_init_112 : decode cX9_init 112 = .ok (.newarray .int, 2) := by decide +kernel
theorem dX9_init_114 : decode cX9_init 114 = .ok (.putfield 50, 3) := by decide +kernel
theorem dX9_init_117 : decode cX9_init 117 = .ok (.aload_n 0, 1) := by decide +kernel
theorem dX9_init_118 : decode cX9_init 118 = .ok (.bipush 9, 2) := by decide +kernel
theorem dX9_init_120 : decode cX9_init 120 = .ok (.newarray .int, 2) := by decide +kernel
theorem dX9_init_122 : decode cX9_init 122 = .ok (.putfield 53, 3) := by decide +kernel
theorem dX9_init_125 : decode cX9_init 125 = .ok (.aload_n 0, 1) := by decide +kernel
theorem dX9_init_126 : decode cX9_init 126 = .ok (.bipush 122, 2) := by decide +kernel
theorem dX9_init_128 : decode cX9_init 128 = .ok (.newarray .int, 2) := by decide +kernel
theorem dX9_init_130 : decode cX9_init 130 = .ok (.putfield 56, 3) := by decide +kernel
theorem dX9_init_133 : decode cX9_init 133 = .ok (.aload_n 0, 1) := by decide +kernel
theorem dX9_init_134 : decode cX9_init 134 = .ok (.bipush 122, 2) := by decide +kernel
theorem dX9_init_136 : decode cX9_init 136 = .ok (.newarray .int, 2) := by decide +kernel
theorem dX9_init_138 : decode cX9_init 138 = .ok (.putfield 59, 3) := by decide +kernel
theorem dX9_init_141 : decode cX9_init 141 = .ok (.aload_n 0, 1) := by decide +kernel
theorem dX9_init_142 : decode cX9_init 142 = .ok (.bipush 121, 2) := by decide +kernel
theorem dX9_init_144 : decode cX9_init 144 = .ok (.newarray .int, 2) := by decide +kernel
theorem dX9_init_146 : decode cX9_init 146 = .ok (.putfield 62, 3) := by decide +kernel
theorem dX9_init_149 : decode cX9_init 149 = .ok (.aload_n 0, 1) := by decide +kernel
theorem dX9_init_150 : decode cX9_init 150 = .ok (.sipush 484, 3) := by decide +kernel
theorem dX9_init_153 : decode cX9_init 153 = .ok (.newarray .int, 2) := by decide +kernel
theorem dX9_init_155 : decode cX9_init 155 = .ok (.putfield 65, 3) := by decide +kernel
theorem dX9_init_158 : decode cX9_init 158 = .ok (.aload_n 0, 1) := by decide +kernel
theorem dX9_init_159 : decode cX9_init 159 = .ok (.sipush 28224, 3) := by decide +kernel
theorem dX9_init_162 : decode cX9_init 162 = .ok (.newarray .int, 2) := by decide +kernel
theorem dX9_init_164 : decode cX9_init 164 = .ok (.putfield 68, 3) := by decide +kernel
theorem dX9_init_167 : decode cX9_init 167 = .ok (.aload_n 0, 1) := by decide +kernel
theorem dX9_init_168 : decode cX9_init 168 = .ok (.sipush 15129, 3) := by decide +kernel
theorem dX9_init_171 : decode cX9_init 171 = .ok (.newarray .int, 2) := by decide +kernel
theorem dX9_init_173 : decode cX9_init 173 = .ok (.putfield 71, 3) := by decide +kernel
theorem dX9_init_176 : decode cX9_init 176 = .ok (.aload_n 0, 1) := by decide +kernel
theorem dX9_init_177 : decode cX9_init 177 = .ok (.sipush 15129, 3) := by decide +kernel
theorem dX9_init_180 : decode cX9_init 180 = .ok (.newarray .int, 2) := by decide +kernel
theorem dX9_init_182 : decode cX9_init 182 = .ok (.putfield 74, 3) := by decide +kernel
theorem dX9_init_185 : decode cX9_init 185 = .ok (.return_, 1) := by decide +kernel
theorem dX9_thrown_0 : decode cX9_thrown 0 = .ok (.aload_n 0, 1) := by decide +kernel
theorem dX9_thrown_1 : decode cX9_thrown 1 = .ok (.getfield 77, 3) := by decide +kernel
theorem dX9_thrown_4 : decode cX9_thrown 4 = .ok (.ireturn, 1) := by decide +kernel
theorem dX9_in_0 : decode cX9_in 0 = .ok (.lload_n 0, 1) := by decide +kernel
theorem dX9_in_1 : decode cX9_in 1 = .ok (.lload_n 2, 1) := by decide +kernel
theorem dX9_in_2 : decode cX9_in 2 = .ok (.lcmp, 1) := by decide +kernel
theorem dX9_in_3 : decode cX9_in 3 = .ok (.ifCond .lt 14, 3) := by decide +kernel
theorem dX9_in_6 : decode cX9_in 6 = .ok (.lload_n 0, 1) := by decide +kernel
theorem dX9_in_7 : decode cX9_in 7 = .ok (.lload 4, 2) := by decide +kernel
theorem dX9_in_9 : decode cX9_in 9 = .ok (.lcmp, 1) := by decide +kernel
theorem dX9_in_10 : decode cX9_in 10 = .ok (.ifCond .gt 7, 3) := by decide +kernel
theorem dX9_in_13 : decode cX9_in 13 = .ok (.iconst 1, 1) := by decide +kernel
theorem dX9_in_14 : decode cX9_in 14 = .ok (.goto 4, 3) := by decide +kernel
theorem dX9_in_17 : decode cX9_in 17 = .ok (.iconst 0, 1) := by decide +kernel
theorem dX9_in_18 : decode cX9_in 18 = .ok (.ireturn, 1) := by decide +kernel
theorem dX9_flag_0 : decode cX9_flag 0 = .ok (.iload_n 0, 1) := by decide +kernel
theorem dX9_flag_1 : decode cX9_flag 1 = .ok (.ifCond .eq 7, 3) := by decide +kernel
theorem dX9_flag_4 : decode cX9_flag 4 = .ok (.iconst 1, 1) := by decide +kernel
theorem dX9_flag_5 : decode cX9_flag 5 = .ok (.goto 4, 3) := by decide +kernel
theorem dX9_flag_8 : decode cX9_flag 8 = .ok (.iconst 0, 1) := by decide +kernel
theorem dX9_flag_9 : decode cX9_flag 9 = .ok (.ireturn, 1) := by decide +kernel
theorem dX9_notes_0 : decode cX9_notes 0 = .ok (.aload_n 0, 1) := by decide +kernel
theorem dX9_notes_1 : decode cX9_notes 1 = .ok (.getfield 7, 3) := by decide +kernel
theorem dX9_notes_4 : decode cX9_notes 4 = .ok (.aload_n 0, 1) := by decide +kernel
theorem dX9_notes_5 : decode cX9_notes 5 = .ok (.getfield 81, 3) := by decide +kernel
theorem dX9_notes_8 : decode cX9_notes 8 = .ok (.lload_n 1, 1) := by decide +kernel
theorem dX9_notes_9 : decode cX9_notes 9 = .ok (.lastore, 1) := by decide +kernel
theorem dX9_notes_10 : decode cX9_notes 10 = .ok (.aload_n 0, 1) := by decide +kernel
theorem dX9_notes_11 : decode cX9_notes 11 = .ok (.dup, 1) := by decide +kernel
theorem dX9_notes_12 : decode cX9_notes 12 = .ok (.getfield 81, 3) := by decide +kernel
theorem dX9_notes_15 : decode cX9_notes 15 = .ok (.iconst 1, 1) := by decide +kernel
theorem dX9_notes_16 : decode cX9_notes 16 = .ok (.iadd, 1) := by decide +kernel
theorem dX9_notes_17 : decode cX9_notes 17 = .ok (.putfield 81, 3) := by decide +kernel
theorem dX9_notes_20 : decode cX9_notes 20 = .ok (.return_, 1) := by decide +kernel
theorem dX9_isLifter_0 : decode cX9_isLifter 0 = .ok (.iload_n 1, 1) := by decide +kernel
theorem dX9_isLifter_1 : decode cX9_isLifter 1 = .ok (.i2l, 1) := by decide +kernel
theorem dX9_isLifter_2 : decode cX9_isLifter 2 = .ok (.lconst 0, 1) := by decide +kernel
theorem dX9_isLifter_3 : decode cX9_isLifter 3 = .ok (.aload_n 0, 1) := by decide +kernel
theorem dX9_isLifter_4 : decode cX9_isLifter 4 = .ok (.getfield 84, 3) := by decide +kernel
theorem dX9_isLifter_7 : decode cX9_isLifter 7 = .ok (.iconst 1, 1) := by decide +kernel
theorem dX9_isLifter_8 : decode cX9_isLifter 8 = .ok (.isub, 1) := by decide +kernel
theorem dX9_isLifter_9 : decode cX9_isLifter 9 = .ok (.i2l, 1) := by decide +kernel
theorem dX9_isLifter_10 : decode cX9_isLifter 10 = .ok (.invokestatic 87, 3) := by decide +kernel
theorem dX9_isLifter_13 : decode cX9_isLifter 13 = .ok (.ireturn, 1) := by decide +kernel
theorem dX9_isLift_0 : decode cX9_isLift 0 = .ok (.iload_n 0, 1) := by decide +kernel
theorem dX9_isLift_1 : decode cX9_isLift 1 = .ok (.i2l, 1) := by decide +kernel
theorem dX9_isLift_2 : decode cX9_isLift 2 = .ok (.lconst 0, 1) := by decide +kernel
theorem dX9_isLift_3 : decode cX9_isLift 3 = .ok (.ldc2_w 91, 3) := by decide +kernel
theorem dX9_isLift_6 : decode cX9_isLift 6 = .ok (.invokestatic 87, 3) := by decide +kernel
theorem dX9_isLift_9 : decode cX9_isLift 9 = .ok (.ireturn, 1) := by decide +kernel
theorem dX9_planOf_0 : decode cX9_planOf 0 = .ok (.aload_n 0, 1) := by decide +kernel
theorem dX9_planOf_1 : decode cX9_planOf 1 = .ok (.getfield 29, 3) := by decide +kernel
theorem dX9_planOf_4 : decode cX9_planOf 4 = .ok (.iconst 3, 1) := by decide +kernel
theorem dX9_planOf_5 : decode cX9_planOf 5 = .ok (.iconst 3, 1) := by decide +kernel
theorem dX9_planOf_6 : decode cX9_planOf 6 = .ok (.iload_n 1, 1) := by decide +kernel
theorem dX9_planOf_7 : decode cX9_planOf 7 = .ok (.imul, 1) := by decide +kernel
theorem dX9_planOf_8 : decode cX9_planOf 8 = .ok (.iload_n 2, 1) := by decide +kernel
theorem dX9_planOf_9 : decode cX9_planOf 9 = .ok (.iadd, 1) := by decide +kernel
theorem dX9_planOf_10 : decode cX9_planOf 10 = .ok (.imul, 1) := by decide +kernel
theorem dX9_planOf_11 : decode cX9_planOf 11 = .ok (.iload_n 3, 1) := by decide +kernel
theorem dX9_planOf_12 : decode cX9_planOf 12 = .ok (.iadd, 1) := by decide +kernel
theorem dX9_planOf_13 : decode cX9_planOf 13 = .ok (.iaload, 1) := by decide +kernel
theorem dX9_planOf_14 : decode cX9_planOf 14 = .ok (.ireturn, 1) := by decide +kernel
theorem dX9_tableOdds_0 : decode cX9_tableOdds 0 = .ok (.bipush 6, 2) := by decide +kernel
theorem dX9_tableOdds_2 : decode cX9_tableOdds 2 = .ok (.iconst 3, 1) := by decide +kernel
theorem dX9_tableOdds_3 : decode cX9_tableOdds 3 = .ok (.iload_n 1, 1) := by decide +kernel
theorem dX9_tableOdds_4 : decode cX9_tableOdds 4 = .ok (.imul, 1) := by decide +kernel
theorem dX9_tableOdds_5 : decode cX9_tableOdds 5 = .ok (.iload_n 2, 1) := by decide +kernel
theorem dX9_tableOdds_6 : decode cX9_tableOdds 6 = .ok (.iadd, 1) := by decide +kernel
theorem dX9_tableOdds_7 : decode cX9_tableOdds 7 = .ok (.imul, 1) := by decide +kernel
theorem dX9_tableOdds_8 : decode cX9_tableOdds 8 = .ok (.istore 4, 2) := by decide +kernel
theorem dX9_tableOdds_10 : decode cX9_tableOdds 10 = .ok (.aload_n 0, 1) := by decide +kernel
theorem dX9_tableOdds_11 : decode cX9_tableOdds 11 = .ok (.getfield 20, 3) := by decide +kernel
theorem dX9_tableOdds_14 : decode cX9_tableOdds 14 = .ok (.iconst 3, 1) := by decide +kernel
theorem dX9_tableOdds_15 : decode cX9_tableOdds 15 = .ok (.iload_n 1, 1) := by decide +kernel
theorem dX9_tableOdds_16 : decode cX9_tableOdds 16 = .ok (.imul, 1) := by decide +kernel
theorem dX9_tableOdds_17 : decode cX9_tableOdds 17 = .ok (.iload_n 2, 1) := by decide +kernel
theorem dX9_tableOdds_18 : decode cX9_tableOdds 18 = .ok (.iadd, 1) := by decide +kernel
theorem dX9_tableOdds_19 : decode cX9_tableOdds 19 = .ok (.iaload, 1) := by decide +kernel
theorem dX9_tableOdds_20 : decode cX9_tableOdds 20 = .ok (.istore 5, 2) := by decide +kernel
theorem dX9_tableOdds_22 : decode cX9_tableOdds 22 = .ok (.iload_n 3, 1) := by decide +kernel
theorem dX9_tableOdds_23 : decode cX9_tableOdds 23 = .ok (.aload_n 0, 1) := by decide +kernel
theorem dX9_tableOdds_24 : decode cX9_tableOdds 24 = .ok (.getfield 23, 3) := by decide +kernel
theorem dX9_tableOdds_27 : decode cX9_tableOdds 27 = .ok (.iload 4, 2) := by decide +kernel
theorem dX9_tableOdds_29 : decode cX9_tableOdds 29 = .ok (.iaload, 1) := by decide +kernel
theorem dX9_tableOdds_30 : decode cX9_tableOdds 30 = .ok (.if_icmp .gt 11, 3) := by decide +kernel
theorem dX9_tableOdds_33 : decode cX9_tableOdds 33 = .ok (.aload_n 0, 1) := by decide +kernel
theorem dX9_tableOdds_34 : decode cX9_tableOdds 34 = .ok (.getfield 26, 3) := by decide +kernel
theorem dX9_tableOdds_37 : decode cX9_tableOdds 37 = .ok (.iload 4, 2) := by decide +kernel
theorem dX9_tableOdds_39 : decode cX9_tableOdds 39 = .ok (.iaload, 1) := by decide +kernel
theorem dX9_tableOdds_40 : decode cX9_tableOdds 40 = .ok (.ireturn, 1) := by decide +kernel
theorem dX9_tableOdds_41 : decode cX9_tableOdds 41 = .ok (.iconst 1, 1) := by decide +kernel
theorem dX9_tableOdds_42 : decode cX9_tableOdds 42 = .ok (.istore 6, 2) := by decide +kernel
theorem dX9_tableOdds_44 : decode cX9_tableOdds 44 = .ok (.iload 6, 2) := by decide +kernel
theorem dX9_tableOdds_46 : decode cX9_tableOdds 46 = .ok (.iload 5, 2) := by decide +kernel
theorem dX9_tableOdds_48 : decode cX9_tableOdds 48 = .ok (.if_icmp .ge 86, 3) := by decide +kernel
theorem dX9_tableOdds_51 : decode cX9_tableOdds 51 = .ok (.iload 4, 2) := by decide +kernel
theorem dX9_tableOdds_53 : decode cX9_tableOdds 53 = .ok (.iload 6, 2) := by decide +kernel
theorem dX9_tableOdds_55 : decode cX9_tableOdds 55 = .ok (.iadd, 1) := by decide +kernel
theorem dX9_tableOdds_56 : decode cX9_tableOdds 56 = .ok (.iconst 1, 1) := by decide +kernel
theorem dX9_tableOdds_57 : decode cX9_tableOdds 57 = .ok (.isub, 1) := by decide +kernel
theorem dX9_tableOdds_58 : decode cX9_tableOdds 58 = .ok (.istore 7, 2) := by decide +kernel
theorem dX9_tableOdds_60 : decode cX9_tableOdds 60 = .ok (.iload 4, 2) := by decide +kernel
theorem dX9_tableOdds_62 : decode cX9_tableOdds 62 = .ok (.iload 6, 2) := by decide +kernel
theorem dX9_tableOdds_64 : decode cX9_tableOdds 64 = .ok (.iadd, 1) := by decide +kernel
theorem dX9_tableOdds_65 : decode cX9_tableOdds 65 = .ok (.istore 8, 2) := by decide +kernel
theorem dX9_tableOdds_67 : decode cX9_tableOdds 67 = .ok (.iload_n 3, 1) := by decide +kernel
theorem dX9_tableOdds_68 : decode cX9_tableOdds 68 = .ok (.aload_n 0, 1) := by decide +kernel
theorem dX9_tableOdds_69 : decode cX9_tableOdds 69 = .ok (.getfield 23, 3) := by decide +kernel
theorem dX9_tableOdds_72 : decode cX9_tableOdds 72 = .ok (.iload 8, 2) := by decide +kernel
theorem dX9_tableOdds_74 : decode cX9_tableOdds 74 = .ok (.iaload, 1) := by decide +kernel
theorem dX9_tableOdds_75 : decode cX9_tableOdds 75 = .ok (.if_icmp .gt 53, 3) := by decide +kernel
theorem dX9_tableOdds_78 : decode cX9_tableOdds 78 = .ok (.aload_n 0, 1) := by decide +kernel
theorem dX9_tableOdds_79 : decode cX9_tableOdds 79 = .ok (.getfield 26, 3) := by decide +kernel
theorem dX9_tableOdds_82 : decode cX9_tableOdds 82 = .ok (.iload 7, 2) := by decide +kernel
theorem dX9_tableOdds_84 : decode cX9_tableOdds 84 = .ok (.iaload, 1) := by decide +kernel
theorem dX9_tableOdds_85 : decode cX9_tableOdds 85 = .ok (.aload_n 0, 1) := by decide +kernel
theorem dX9_tableOdds_86 : decode cX9_tableOdds 86 = .ok (.getfield 26, 3) := by decide +kernel
theorem dX9_tableOdds_89 : decode cX9_tableOdds 89 = .ok (.iload 7, 2) := by decide +kernel
theorem dX9_tableOdds_91 : decode cX9_tableOdds 91 = .ok (.iaload, 1) := by decide +kernel
theorem dX9_tableOdds_92 : decode cX9_tableOdds 92 = .ok (.aload_n 0, 1) := by decide +kernel
theorem dX9_tableOdds_93 : decode cX9_tableOdds 93 = .ok (.getfield 26, 3) := by decide +kernel
theorem dX9_tableOdds_96 : decode cX9_tableOdds 96 = .ok (.iload 8, 2) := by decide +kernel
theorem dX9_tableOdds_98 : decode cX9_tableOdds 98 = .ok (.iaload, 1) := by decide +kernel
theorem dX9_tableOdds_99 : decode cX9_tableOdds 99 = .ok (.isub, 1) := by decide +kernel
theorem dX9_tableOdds_100 : decode cX9_tableOdds 100 = .ok (.iload_n 3, 1) := by decide +kernel
theorem dX9_tableOdds_101 : decode cX9_tableOdds 101 = .ok (.aload_n 0, 1) := by decide +kernel
theorem dX9_tableOdds_102 : decode cX9_tableOdds 102 = .ok (.getfield 23, 3) := by decide +kernel
theorem dX9_tableOdds_105 : decode cX9_tableOdds 105 = .ok (.iload 7, 2) := by decide +kernel
theorem dX9_tableOdds_107 : decode cX9_tableOdds 107 = .ok (.iaload, 1) := by decide +kernel
theorem dX9_tableOdds_108 : decode cX9_tableOdds 108 = .ok (.isub, 1) := by decide +kernel
theorem dX9_tableOdds_109 : decode cX9_tableOdds 109 = .ok (.imul, 1) := by decide +kernel
theorem dX9_tableOdds_110 : decode cX9_tableOdds 110 = .ok (.aload_n 0, 1) := by decide +kernel
theorem dX9_tableOdds_111 : decode cX9_tableOdds 111 = .ok (.getfield 23, 3) := by decide +kernel
theorem dX9_tableOdds_114 : decode cX9_tableOdds 114 = .ok (.iload 8, 2) := by decide +kernel
theorem dX9_tableOdds_116 : decode cX9_tableOdds 116 = .ok (.iaload, 1) := by decide +kernel
theorem dX9_tableOdds_117 : decode cX9_tableOdds 117 = .ok (.aload_n 0, 1) := by decide +kernel
theorem dX9_tableOdds_118 : decode cX9_tableOdds 118 = .ok (.getfield 23, 3) := by decide +kernel
theorem dX9_tableOdds_121 : decode cX9_tableOdds 121 = .ok (.iload 7, 2) := by decide +kernel
theorem dX9_tableOdds_123 : decode cX9_tableOdds 123 = .ok (.iaload, 1) := by decide +kernel
theorem dX9_tableOdds_124 : decode cX9_tableOdds 124 = .ok (.isub, 1) := by decide +kernel
theorem dX9_tableOdds_125 : decode cX9_tableOdds 125 = .ok (.idiv, 1) := by decide +kernel
theorem dX9_tableOdds_126 : decode cX9_tableOdds 126 = .ok (.isub, 1) := by decide +kernel
theorem dX9_tableOdds_127 : decode cX9_tableOdds 127 = .ok (.ireturn, 1) := by decide +kernel
theorem dX9_tableOdds_128 : decode cX9_tableOdds 128 = .ok (.iinc 6 1, 3) := by decide +kernel
theorem dX9_tableOdds_131 : decode cX9_tableOdds 131 = .ok (.goto (-87), 3) := by decide +kernel
theorem dX9_tableOdds_134 : decode cX9_tableOdds 134 = .ok (.iconst 0, 1) := by decide +kernel
theorem dX9_tableOdds_135 : decode cX9_tableOdds 135 = .ok (.ireturn, 1) := by decide +kernel
theorem dX9_oddsOf_0 : decode cX9_oddsOf 0 = .ok (.iconst 0, 1) := by decide +kernel
theorem dX9_oddsOf_1 : decode cX9_oddsOf 1 = .ok (.aload_n 0, 1) := by decide +kernel
theorem dX9_oddsOf_2 : decode cX9_oddsOf 2 = .ok (.iload_n 1, 1) := by decide +kernel
theorem dX9_oddsOf_3 : decode cX9_oddsOf 3 = .ok (.iload_n 2, 1) := by decide +kernel
theorem dX9_oddsOf_4 : decode cX9_oddsOf 4 = .ok (.iload_n 3, 1) := by decide +kernel
theorem dX9_oddsOf_5 : decode cX9_oddsOf 5 = .ok (.invokevirtual 93, 3) := by decide +kernel
theorem dX9_oddsOf_8 : decode cX9_oddsOf 8 = .ok (.aload_n 0, 1) := by decide +kernel
theorem dX9_oddsOf_9 : decode cX9_oddsOf 9 = .ok (.getfield 97, 3) := by decide +kernel
theorem dX9_oddsOf_12 : decode cX9_oddsOf 12 = .ok (.iload 4, 2) := by decide +kernel
theorem dX9_oddsOf_14 : decode cX9_oddsOf 14 = .ok (.imul, 1) := by decide +kernel
theorem dX9_oddsOf_15 : decode cX9_oddsOf 15 = .ok (.isub, 1) := by decide +kernel
theorem dX9_oddsOf_16 : decode cX9_oddsOf 16 = .ok (.invokestatic 100, 3) := by decide +kernel
theorem dX9_oddsOf_19 : decode cX9_oddsOf 19 = .ok (.ireturn, 1) := by decide +kernel
theorem dX9_of_0 : decode cX9_of 0 = .ok (.aload_n 0, 1) := by decide +kernel
theorem dX9_of_1 : decode cX9_of 1 = .ok (.getfield 32, 3) := by decide +kernel
theorem dX9_of_4 : decode cX9_of 4 = .ok (.iconst 3, 1) := by decide +kernel
theorem dX9_of_5 : decode cX9_of 5 = .ok (.bipush 10, 2) := by decide +kernel
theorem dX9_of_7 : decode cX9_of 7 = .ok (.iload_n 1, 1) := by decide +kernel
theorem dX9_of_8 : decode cX9_of 8 = .ok (.imul, 1) := by decide +kernel
theorem dX9_of_9 : decode cX9_of 9 = .ok (.iadd, 1) := by decide +kernel
theorem dX9_of_10 : decode cX9_of 10 = .ok (.iload_n 2, 1) := by decide +kernel
theorem dX9_of_11 : decode cX9_of 11 = .ok (.iadd, 1) := by decide +kernel
theorem dX9_of_12 : decode cX9_of 12 = .ok (.iaload, 1) := by decide +kernel
theorem dX9_of_13 : decode cX9_of 13 = .ok (.ireturn, 1) := by decide +kernel
theorem dX9_sets_0 : decode cX9_sets 0 = .ok (.aload_n 0, 1) := by decide +kernel
theorem dX9_sets_1 : decode cX9_sets 1 = .ok (.getfield 32, 3) := by decide +kernel
theorem dX9_sets_4 : decode cX9_sets 4 = .ok (.iconst 3, 1) := by decide +kernel
theorem dX9_sets_5 : decode cX9_sets 5 = .ok (.bipush 10, 2) := by decide +kernel
theorem dX9_sets_7 : decode cX9_sets 7 = .ok (.iload_n 1, 1) := by decide +kernel
theorem dX9_sets_8 : decode cX9_sets 8 = .ok (.imul, 1) := by decide +kernel
theorem dX9_sets_9 : decode cX9_sets 9 = .ok (.iadd, 1) := by decide +kernel
theorem dX9_sets_10 : decode cX9_sets 10 = .ok (.iload_n 2, 1) := by decide +kernel
theorem dX9_sets_11 : decode cX9_sets 11 = .ok (.iadd, 1) := by decide +kernel
theorem dX9_sets_12 : decode cX9_sets 12 = .ok (.iload_n 3, 1) := by decide +kernel
theorem dX9_sets_13 : decode cX9_sets 13 = .ok (.iastore, 1) := by decide +kernel
theorem dX9_sets_14 : decode cX9_sets 14 = .ok (.return_, 1) := by decide +kernel
theorem dX9_isOver_0 : decode cX9_isOver 0 = .ok (.aload_n 0, 1) := by decide +kernel
theorem dX9_isOver_1 : decode cX9_isOver 1 = .ok (.getfield 32, 3) := by decide +kernel
theorem dX9_isOver_4 : decode cX9_isOver 4 = .ok (.iconst 0, 1) := by decide +kernel
theorem dX9_isOver_5 : decode cX9_isOver 5 = .ok (.iaload, 1) := by decide +kernel
theorem dX9_isOver_6 : decode cX9_isOver 6 = .ok (.iconst 3, 1) := by decide +kernel
theorem dX9_isOver_7 : decode cX9_isOver 7 = .ok (.if_icmp .ne 7, 3) := by decide +kernel
theorem dX9_isOver_10 : decode cX9_isOver 10 = .ok (.iconst 1, 1) := by decide +kernel
theorem dX9_isOver_11 : decode cX9_isOver 11 = .ok (.goto 4, 3) := by decide +kernel
theorem dX9_isOver_14 : decode cX9_isOver 14 = .ok (.iconst 0, 1) := by decide +kernel
theorem dX9_isOver_15 : decode cX9_isOver 15 = .ok (.ireturn, 1) := by decide +kernel
theorem dX9_isOut_0 : decode cX9_isOut 0 = .ok (.aload_n 0, 1) := by decide +kernel
theorem dX9_isOut_1 : decode cX9_isOut 1 = .ok (.iload_n 1, 1) := by decide +kernel
theorem dX9_isOut_2 : decode cX9_isOut 2 = .ok (.bipush 6, 2) := by decide +kernel
theorem dX9_isOut_4 : decode cX9_isOut 4 = .ok (.invokevirtual 106, 3) := by decide +kernel
theorem dX9_isOut_7 : decode cX9_isOut 7 = .ok (.iconst 1, 1) := by decide +kernel
theorem dX9_isOut_8 : decode cX9_isOut 8 = .ok (.if_icmp .ne 7, 3) := by decide +kernel
theorem dX9_isOut_11 : decode cX9_isOut 11 = .ok (.iconst 1, 1) := by decide +kernel
theorem dX9_isOut_12 : decode cX9_isOut 12 = .ok (.goto 4, 3) := by decide +kernel
theorem dX9_isOut_15 : decode cX9_isOut 15 = .ok (.iconst 0, 1) := by decide +kernel
theorem dX9_isOut_16 : decode cX9_isOut 16 = .ok (.ireturn, 1) := by decide +kernel
theorem dX9_changesAtFirst_0 : decode cX9_changesAtFirst 0 = .ok (.aload_n 0, 1) := by decide +kernel
theorem dX9_changesAtFirst_1 : decode cX9_changesAtFirst 1 = .ok (.getfield 32, 3) := by decide +kernel
theorem dX9_changesAtFirst_4 : decode cX9_changesAtFirst 4 = .ok (.iconst 1, 1) := by decide +kernel
theorem dX9_changesAtFirst_5 : decode cX9_changesAtFirst 5 = .ok (.iaload, 1) := by decide +kernel
theorem dX9_changesAtFirst_6 : decode cX9_changesAtFirst 6 = .ok (.ifCond .ne 7, 3) := by decide +kernel
theorem dX9_changesAtFirst_9 : decode cX9_changesAtFirst 9 = .ok (.iconst 1, 1) := by decide +kernel
theorem dX9_changesAtFirst_10 : decode cX9_changesAtFirst 10 = .ok (.goto 28, 3) := by decide +kernel
theorem dX9_changesAtFirst_13 : decode cX9_changesAtFirst 13 = .ok (.aload_n 0, 1) := by decide +kernel
theorem dX9_changesAtFirst_14 : decode cX9_changesAtFirst 14 = .ok (.getfield 32, 3) := by decide +kernel
theorem dX9_changesAtFirst_17 : decode cX9_changesAtFirst 17 = .ok (.iconst 1, 1) := by decide +kernel
theorem dX9_changesAtFirst_18 : decode cX9_changesAtFirst 18 = .ok (.iaload, 1) := by decide +kernel
theorem dX9_changesAtFirst_19 : decode cX9_changesAtFirst 19 = .ok (.iconst 2, 1) := by decide +kernel
theorem dX9_changesAtFirst_20 : decode cX9_changesAtFirst 20 = .ok (.if_icmp .ne 17, 3) := by decide +kernel
theorem dX9_changesAtFirst_23 : decode cX9_changesAtFirst 23 = .ok (.aload_n 0, 1) := by decide +kernel
theorem dX9_changesAtFirst_24 : decode cX9_changesAtFirst 24 = .ok (.getfield 32, 3) := by decide +kernel
theorem dX9_changesAtFirst_27 : decode cX9_changesAtFirst 27 = .ok (.iconst 0, 1) := by decide +kernel
theorem dX9_changesAtFirst_28 : decode cX9_changesAtFirst 28 = .ok (.iaload, 1) := by decide +kernel
theorem dX9_changesAtFirst_29 : decode cX9_changesAtFirst 29 = .ok (.iconst 2, 1) := by decide +kernel
theorem dX9_changesAtFirst_30 : decode cX9_changesAtFirst 30 = .ok (.if_icmp .ne 7, 3) := by decide +kernel
theorem dX9_changesAtFirst_33 : decode cX9_changesAtFirst 33 = .ok (.iconst 2, 1) := by decide +kernel
theorem dX9_changesAtFirst_34 : decode cX9_changesAtFirst 34 = .ok (.goto 4, 3) := by decide +kernel
theorem dX9_changesAtFirst_37 : decode cX9_changesAtFirst 37 = .ok (.iconst 0, 1) := by decide +kernel
theorem dX9_changesAtFirst_38 : decode cX9_changesAtFirst 38 = .ok (.ireturn, 1) := by decide +kernel
theorem dX9_roundBegins_0 : decode cX9_roundBegins 0 = .ok (.aload_n 0, 1) := by decide +kernel
theorem dX9_roundBegins_1 : decode cX9_roundBegins 1 = .ok (.getfield 32, 3) := by decide +kernel
theorem dX9_roundBegins_4 : decode cX9_roundBegins 4 = .ok (.iconst 2, 1) := by decide +kernel
theorem dX9_roundBegins_5 : decode cX9_roundBegins 5 = .ok (.iconst 0, 1) := by decide +kernel
theorem dX9_roundBegins_6 : decode cX9_roundBegins 6 = .ok (.iastore, 1) := by decide +kernel
theorem dX9_roundBegins_7 : decode cX9_roundBegins 7 = .ok (.iconst 0, 1) := by decide +kernel
theorem dX9_roundBegins_8 : decode cX9_roundBegins 8 = .ok (.istore_n 1, 1) := by decide +kernel
theorem dX9_roundBegins_9 : decode cX9_roundBegins 9 = .ok (.iload_n 1, 1) := by decide +kernel
theorem dX9_roundBegins_10 : decode cX9_roundBegins 10 = .ok (.aload_n 0, 1) := by decide +kernel
theorem dX9_roundBegins_11 : decode cX9_roundBegins 11 = .ok (.getfield 84, 3) := by decide +kernel
theorem dX9_roundBegins_14 : decode cX9_roundBegins 14 = .ok (.if_icmp .ge 37, 3) := by decide +kernel
theorem dX9_roundBegins_17 : decode cX9_roundBegins 17 = .ok (.aload_n 0, 1) := by decide +kernel
theorem dX9_roundBegins_18 : decode cX9_roundBegins 18 = .ok (.iload_n 1, 1) := by decide +kernel
theorem dX9_roundBegins_19 : decode cX9_roundBegins 19 = .ok (.iconst 1, 1) := by decide +kernel
theorem dX9_roundBegins_20 : decode cX9_roundBegins 20 = .ok (.iconst 0, 1) := by decide +kernel
theorem dX9_roundBegins_21 : decode cX9_roundBegins 21 = .ok (.invokevirtual 109, 3) := by decide +kernel
theorem dX9_roundBegins_24 : decode cX9_roundBegins 24 = .ok (.aload_n 0, 1) := by decide +kernel
theorem dX9_roundBegins_25 : decode cX9_roundBegins 25 = .ok (.iload_n 1, 1) := by decide +kernel
theorem dX9_roundBegins_26 : decode cX9_roundBegins 26 = .ok (.iconst 5, 1) := by decide +kernel
theorem dX9_roundBegins_27 : decode cX9_roundBegins 27 = .ok (.aload_n 0, 1) := by decide +kernel
theorem dX9_roundBegins_28 : decode cX9_roundBegins 28 = .ok (.invokevirtual 113, 3) := by decide +kernel
theorem dX9_roundBegins_31 : decode cX9_roundBegins 31 = .ok (.ifCond .eq 7, 3) := by decide +kernel
theorem dX9_roundBegins_34 : decode cX9_roundBegins 34 = .ok (.iconst 0, 1) := by decide +kernel
theorem dX9_roundBegins_35 : decode cX9_roundBegins 35 = .ok (.goto 7, 3) := by decide +kernel
theorem dX9_roundBegins_38 : decode cX9_roundBegins 38 = .ok (.aload_n 0, 1) := by decide +kernel
theorem dX9_roundBegins_39 : decode cX9_roundBegins 39 = .ok (.invokevirtual 117, 3) := by decide +kernel
theorem dX9_roundBegins_42 : decode cX9_roundBegins 42 = .ok (.invokevirtual 109, 3) := by decide +kernel
theorem dX9_roundBegins_45 : decode cX9_roundBegins 45 = .ok (.iinc 1 1, 3) := by decide +kernel
theorem dX9_roundBegins_48 : decode cX9_roundBegins 48 = .ok (.goto (-39), 3) := by decide +kernel
theorem dX9_roundBegins_51 : decode cX9_roundBegins 51 = .ok (.return_, 1) := by decide +kernel
theorem dX9_liftBegins_0 : decode cX9_liftBegins 0 = .ok (.aload_n 0, 1) := by decide +kernel
theorem dX9_liftBegins_1 : decode cX9_liftBegins 1 = .ok (.getfield 32, 3) := by decide +kernel
theorem dX9_liftBegins_4 : decode cX9_liftBegins 4 = .ok (.iconst 1, 1) := by decide +kernel
theorem dX9_liftBegins_5 : decode cX9_liftBegins 5 = .ok (.iconst 0, 1) := by decide +kernel
theorem dX9_liftBegins_6 : decode cX9_liftBegins 6 = .ok (.iastore, 1) := by decide +kernel
theorem dX9_liftBegins_7 : decode cX9_liftBegins 7 = .ok (.iconst 0, 1) := by decide +kernel
theorem dX9_liftBegins_8 : decode cX9_liftBegins 8 = .ok (.istore_n 1, 1) := by decide +kernel
theorem dX9_liftBegins_9 : decode cX9_liftBegins 9 = .ok (.iload_n 1, 1) := by decide +kernel
theorem dX9_liftBegins_10 : decode cX9_liftBegins 10 = .ok (.aload_n 0, 1) := by decide +kernel
theorem dX9_liftBegins_11 : decode cX9_liftBegins 11 = .ok (.getfield 84, 3) := by decide +kernel
theorem dX9_liftBegins_14 : decode cX9_liftBegins 14 = .ok (.if_icmp .ge 67, 3) := by decide +kernel
theorem dX9_liftBegins_17 : decode cX9_liftBegins 17 = .ok (.aload_n 0, 1) := by decide +kernel
theorem dX9_liftBegins_18 : decode cX9_liftBegins 18 = .ok (.iload_n 1, 1) := by decide +kernel
theorem dX9_liftBegins_19 : decode cX9_liftBegins 19 = .ok (.iconst 0, 1) := by decide +kernel
theorem dX9_liftBegins_20 : decode cX9_liftBegins 20 = .ok (.aload_n 0, 1) := by decide +kernel
theorem dX9_liftBegins_21 : decode cX9_liftBegins 21 = .ok (.invokevirtual 113, 3) := by decide +kernel
theorem dX9_liftBegins_24 : decode cX9_liftBegins 24 = .ok (.ifCond .ne 11, 3) := by decide +kernel
theorem dX9_liftBegins_27 : decode cX9_liftBegins 27 = .ok (.aload_n 0, 1) := by decide +kernel
theorem dX9_liftBegins_28 : decode cX9_liftBegins 28 = .ok (.iload_n 1, 1) := by decide +kernel
theorem dX9_liftBegins_29 : decode cX9_liftBegins 29 = .ok (.invokevirtual 121, 3) := by decide +kernel
theorem dX9_liftBegins_32 : decode cX9_liftBegins 32 = .ok (.ifCond .eq 7, 3) := by decide +kernel
theorem dX9_liftBegins_35 : decode cX9_liftBegins 35 = .ok (.iconst 0, 1) := by decide +kernel
theorem dX9_liftBegins_36 : decode cX9_liftBegins 36 = .ok (.goto 15, 3) := by decide +kernel
theorem dX9_liftBegins_39 : decode cX9_liftBegins 39 = .ok (.aload_n 0, 1) := by decide +kernel
theorem dX9_liftBegins_40 : decode cX9_liftBegins 40 = .ok (.iload_n 1, 1) := by decide +kernel
theorem dX9_liftBegins_41 : decode cX9_liftBegins 41 = .ok (.aload_n 0, 1) := by decide +kernel
theorem dX9_liftBegins_42 : decode cX9_liftBegins 42 = .ok (.getfield 32, 3) := by decide +kernel
theorem dX9_liftBegins_45 : decode cX9_liftBegins 45 = .ok (.iconst 0, 1) := by decide +kernel
theorem dX9_liftBegins_46 : decode cX9_liftBegins 46 = .ok (.iaload, 1) := by decide +kernel
theorem dX9_liftBegins_47 : decode cX9_liftBegins 47 = .ok (.iconst 0, 1) := by decide +kernel
theorem dX9_liftBegins_48 : decode cX9_liftBegins 48 = .ok (.invokevirtual 125, 3) := by decide +kernel
theorem dX9_liftBegins_51 : decode cX9_liftBegins 51 = .ok (.invokevirtual 109, 3) := by decide +kernel
theorem dX9_liftBegins_54 : decode cX9_liftBegins 54 = .ok (.aload_n 0, 1) := by decide +kernel
theorem dX9_liftBegins_55 : decode cX9_liftBegins 55 = .ok (.iload_n 1, 1) := by decide +kernel
theorem dX9_liftBegins_56 : decode cX9_liftBegins 56 = .ok (.iconst 2, 1) := by decide +kernel
theorem dX9_liftBegins_57 : decode cX9_liftBegins 57 = .ok (.iconst 0, 1) := by decide +kernel
theorem dX9_liftBegins_58 : decode cX9_liftBegins 58 = .ok (.invokevirtual 109, 3) := by decide +kernel
theorem dX9_liftBegins_61 : decode cX9_liftBegins 61 = .ok (.aload_n 0, 1) := by decide +kernel
theorem dX9_liftBegins_62 : decode cX9_liftBegins 62 = .ok (.iload_n 1, 1) := by decide +kernel
theorem dX9_liftBegins_63 : decode cX9_liftBegins 63 = .ok (.iconst 3, 1) := by decide +kernel
theorem dX9_liftBegins_64 : decode cX9_liftBegins 64 = .ok (.iconst 0, 1) := by decide +kernel
theorem dX9_liftBegins_65 : decode cX9_liftBegins 65 = .ok (.invokevirtual 109, 3) := by decide +kernel
theorem dX9_liftBegins_68 : decode cX9_liftBegins 68 = .ok (.aload_n 0, 1) := by decide +kernel
theorem dX9_liftBegins_69 : decode cX9_liftBegins 69 = .ok (.iload_n 1, 1) := by decide +kernel
theorem dX9_liftBegins_70 : decode cX9_liftBegins 70 = .ok (.iconst 4, 1) := by decide +kernel
theorem dX9_liftBegins_71 : decode cX9_liftBegins 71 = .ok (.iconst 0, 1) := by decide +kernel
theorem dX9_liftBegins_72 : decode cX9_liftBegins 72 = .ok (.invokevirtual 109, 3) := by decide +kernel
theorem dX9_liftBegins_75 : decode cX9_liftBegins 75 = .ok (.iinc 1 1, 3) := by decide +kernel
theorem dX9_liftBegins_78 : decode cX9_liftBegins 78 = .ok (.goto (-69), 3) := by decide +kernel
theorem dX9_liftBegins_81 : decode cX9_liftBegins 81 = .ok (.aload_n 0, 1) := by decide +kernel
theorem dX9_liftBegins_82 : decode cX9_liftBegins 82 = .ok (.invokevirtual 128, 3) := by decide +kernel
theorem dX9_liftBegins_85 : decode cX9_liftBegins 85 = .ok (.return_, 1) := by decide +kernel
theorem dX9_meetBegins_0 : decode cX9_meetBegins 0 = .ok (.iconst 0, 1) := by decide +kernel
theorem dX9_meetBegins_1 : decode cX9_meetBegins 1 = .ok (.istore_n 1, 1) := by decide +kernel
theorem dX9_meetBegins_2 : decode cX9_meetBegins 2 = .ok (.iload_n 1, 1) := by decide +kernel
theorem dX9_meetBegins_3 : decode cX9_meetBegins 3 = .ok (.aload_n 0, 1) := by decide +kernel
theorem dX9_meetBegins_4 : decode cX9_meetBegins 4 = .ok (.getfield 32, 3) := by decide +kernel
theorem dX9_meetBegins_7 : decode cX9_meetBegins 7 = .ok (.arraylength, 1) := by decide +kernel
theorem dX9_meetBegins_8 : decode cX9_meetBegins 8 = .ok (.if_icmp .ge 16, 3) := by decide +kernel
theorem dX9_meetBegins_11 : decode cX9_meetBegins 11 = .ok (.aload_n 0, 1) := by decide +kernel
theorem dX9_meetBegins_12 : decode cX9_meetBegins 12 = .ok (.getfield 32, 3) := by decide +kernel
theorem dX9_meetBegins_15 : decode cX9_meetBegins 15 = .ok (.iload_n 1, 1) := by decide +kernel
theorem dX9_meetBegins_16 : decode cX9_meetBegins 16 = .ok (.iconst 0, 1) := by decide +kernel
theorem dX9_meetBegins_17 : decode cX9_meetBegins 17 = .ok (.iastore, 1) := by decide +kernel
theorem dX9_meetBegins_18 : decode cX9_meetBegins 18 = .ok (.iinc 1 1, 3) := by decide +kernel
theorem dX9_meetBegins_21 : decode cX9_meetBegins 21 = .ok (.goto (-19), 3) := by decide +kernel
theorem dX9_meetBegins_24 : decode cX9_meetBegins 24 = .ok (.aload_n 0, 1) := by decide +kernel
theorem dX9_meetBegins_25 : decode cX9_meetBegins 25 = .ok (.iconst 0, 1) := by decide +kernel
theorem dX9_meetBegins_26 : decode cX9_meetBegins 26 = .ok (.putfield 131, 3) := by decide +kernel
theorem dX9_meetBegins_29 : decode cX9_meetBegins 29 = .ok (.aload_n 0, 1) := by decide +kernel
theorem dX9_meetBegins_30 : decode cX9_meetBegins 30 = .ok (.iconst 0, 1) := by decide +kernel
theorem dX9_meetBegins_31 : decode cX9_meetBegins 31 = .ok (.putfield 134, 3) := by decide +kernel
theorem dX9_meetBegins_34 : decode cX9_meetBegins 34 = .ok (.aload_n 0, 1) := by decide +kernel
theorem dX9_meetBegins_35 : decode cX9_meetBegins 35 = .ok (.invokevirtual 137, 3) := by decide +kernel
theorem dX9_meetBegins_38 : decode cX9_meetBegins 38 = .ok (.return_, 1) := by decide +kernel
theorem dX9_isStill_0 : decode cX9_isStill 0 = .ok (.aload_n 0, 1) := by decide +kernel
theorem dX9_isStill_1 : decode cX9_isStill 1 = .ok (.iload_n 1, 1) := by decide +kernel
theorem dX9_isStill_2 : decode cX9_isStill 2 = .ok (.iconst 0, 1) := by decide +kernel
theorem dX9_isStill_3 : decode cX9_isStill 3 = .ok (.invokevirtual 106, 3) := by decide +kernel
theorem dX9_isStill_6 : decode cX9_isStill 6 = .ok (.ifCond .le 31, 3) := by decide +kernel
theorem dX9_isStill_9 : decode cX9_isStill 9 = .ok (.aload_n 0, 1) := by decide +kernel
theorem dX9_isStill_10 : decode cX9_isStill 10 = .ok (.iload_n 1, 1) := by decide +kernel
theorem dX9_isStill_11 : decode cX9_isStill 11 = .ok (.iconst 1, 1) := by decide +kernel
theorem dX9_isStill_12 : decode cX9_isStill 12 = .ok (.invokevirtual 106, 3) := by decide +kernel
theorem dX9_isStill_15 : decode cX9_isStill 15 = .ok (.ifCond .ne 22, 3) := by decide +kernel
theorem dX9_isStill_18 : decode cX9_isStill 18 = .ok (.aload_n 0, 1) := by decide +kernel
theorem dX9_isStill_19 : decode cX9_isStill 19 = .ok (.iload_n 1, 1) := by decide +kernel
theorem dX9_isStill_20 : decode cX9_isStill 20 = .ok (.invokevirtual 121, 3) := by decide +kernel
theorem dX9_isStill_23 : decode cX9_isStill 23 = .ok (.ifCond .ne 14, 3) := by decide +kernel
theorem dX9_isStill_26 : decode cX9_isStill 26 = .ok (.aload_n 0, 1) := by decide +kernel
theorem dX9_isStill_27 : decode cX9_isStill 27 = .ok (.invokevirtual 113, 3) := by decide +kernel
theorem dX9_isStill_30 : decode cX9_isStill 30 = .ok (.ifCond .ne 7, 3) := by decide +kernel
theorem dX9_isStill_33 : decode cX9_isStill 33 = .ok (.iconst 1, 1) := by decide +kernel
theorem dX9_isStill_34 : decode cX9_isStill 34 = .ok (.goto 4, 3) := by decide +kernel
theorem dX9_isStill_37 : decode cX9_isStill 37 = .ok (.iconst 0, 1) := by decide +kernel
theorem dX9_isStill_38 : decode cX9_isStill 38 = .ok (.ireturn, 1) := by decide +kernel
theorem dX9_isCalledAhead_0 : decode cX9_isCalledAhead 0 = .ok (.aload_n 0, 1) := by decide +kernel
theorem dX9_isCalledAhead_1 : decode cX9_isCalledAhead 1 = .ok (.iload_n 1, 1) := by decide +kernel
theorem dX9_isCalledAhead_2 : decode cX9_isCalledAhead 2 = .ok (.iconst 0, 1) := by decide +kernel
theorem dX9_isCalledAhead_3 : decode cX9_isCalledAhead 3 = .ok (.invokevirtual 106, 3) := by decide +kernel
theorem dX9_isCalledAhead_6 : decode cX9_isCalledAhead 6 = .ok (.aload_n 0, 1) := by decide +kernel
theorem dX9_isCalledAhead_7 : decode cX9_isCalledAhead 7 = .ok (.iload_n 2, 1) := by decide +kernel
theorem dX9_isCalledAhead_8 : decode cX9_isCalledAhead 8 = .ok (.iconst 0, 1) := by decide +kernel
theorem dX9_isCalledAhead_9 : decode cX9_isCalledAhead 9 = .ok (.invokevirtual 106, 3) := by decide +kernel
theorem dX9_isCalledAhead_12 : decode cX9_isCalledAhead 12 = .ok (.if_icmp .lt 33, 3) := by decide +kernel
theorem dX9_isCalledAhead_15 : decode cX9_isCalledAhead 15 = .ok (.aload_n 0, 1) := by decide +kernel
theorem dX9_isCalledAhead_16 : decode cX9_isCalledAhead 16 = .ok (.iload_n 1, 1) := by decide +kernel
theorem dX9_isCalledAhead_17 : decode cX9_isCalledAhead 17 = .ok (.iconst 0, 1) := by decide +kernel
theorem dX9_isCalledAhead_18 : decode cX9_isCalledAhead 18 = .ok (.invokevirtual 106, 3) := by decide +kernel
theorem dX9_isCalledAhead_21 : decode cX9_isCalledAhead 21 = .ok (.aload_n 0, 1) := by decide +kernel
theorem dX9_isCalledAhead_22 : decode cX9_isCalledAhead 22 = .ok (.iload_n 2, 1) := by decide +kernel
theorem dX9_isCalledAhead_23 : decode cX9_isCalledAhead 23 = .ok (.iconst 0, 1) := by decide +kernel
theorem dX9_isCalledAhead_24 : decode cX9_isCalledAhead 24 = .ok (.invokevirtual 106, 3) := by decide +kernel
theorem dX9_isCalledAhead_27 : decode cX9_isCalledAhead 27 = .ok (.if_icmp .ne 22, 3) := by decide +kernel
theorem dX9_isCalledAhead_30 : decode cX9_isCalledAhead 30 = .ok (.aload_n 0, 1) := by decide +kernel
theorem dX9_isCalledAhead_31 : decode cX9_isCalledAhead 31 = .ok (.getfield 17, 3) := by decide +kernel
theorem dX9_isCalledAhead_34 : decode cX9_isCalledAhead 34 = .ok (.iload_n 1, 1) := by decide +kernel
theorem dX9_isCalledAhead_35 : decode cX9_isCalledAhead 35 = .ok (.iaload, 1) := by decide +kernel
theorem dX9_isCalledAhead_36 : decode cX9_isCalledAhead 36 = .ok (.aload_n 0, 1) := by decide +kernel
theorem dX9_isCalledAhead_37 : decode cX9_isCalledAhead 37 = .ok (.getfield 17, 3) := by decide +kernel
theorem dX9_isCalledAhead_40 : decode cX9_isCalledAhead 40 = .ok (.iload_n 2, 1) := by decide +kernel
theorem dX9_isCalledAhead_41 : decode cX9_isCalledAhead 41 = .ok (.iaload, 1) := by decide +kernel
theorem dX9_isCalledAhead_42 : decode cX9_isCalledAhead 42 = .ok (.if_icmp .ge 7, 3) := by decide +kernel
theorem dX9_isCalledAhead_45 : decode cX9_isCalledAhead 45 = .ok (.iconst 1, 1) := by decide +kernel
theorem dX9_isCalledAhead_46 : decode cX9_isCalledAhead 46 = .ok (.goto 4, 3) := by decide +kernel
theorem dX9_isCalledAhead_49 : decode cX9_isCalledAhead 49 = .ok (.iconst 0, 1) := by decide +kernel
theorem dX9_isCalledAhead_50 : decode cX9_isCalledAhead 50 = .ok (.ireturn, 1) := by decide +kernel
theorem dX9_calledNow_0 : decode cX9_calledNow 0 = .ok (.iconst (-1), 1) := by decide +kernel
theorem dX9_calledNow_1 : decode cX9_calledNow 1 = .ok (.istore_n 1, 1) := by decide +kernel
theorem dX9_calledNow_2 : decode cX9_calledNow 2 = .ok (.iconst 0, 1) := by decide +kernel
theorem dX9_calledNow_3 : decode cX9_calledNow 3 = .ok (.istore_n 2, 1) := by decide +kernel
theorem dX9_calledNow_4 : decode cX9_calledNow 4 = .ok (.iload_n 2, 1) := by decide +kernel
theorem dX9_calledNow_5 : decode cX9_calledNow 5 = .ok (.aload_n 0, 1) := by decide +kernel
theorem dX9_calledNow_6 : decode cX9_calledNow 6 = .ok (.getfield 84, 3) := by decide +kernel
theorem dX9_calledNow_9 : decode cX9_calledNow 9 = .ok (.if_icmp .ge 33, 3) := by decide +kernel
theorem dX9_calledNow_12 : decode cX9_calledNow 12 = .ok (.aload_n 0, 1) := by decide +kernel
theorem dX9_calledNow_13 : decode cX9_calledNow 13 = .ok (.iload_n 2, 1) := by decide +kernel
theorem dX9_calledNow_14 : decode cX9_calledNow 14 = .ok (.invokevirtual 140, 3) := by decide +kernel
theorem dX9_calledNow_17 : decode cX9_calledNow 17 = .ok (.ifCond .eq 19, 3) := by decide +kernel
theorem dX9_calledNow_20 : decode cX9_calledNow 20 = .ok (.iload_n 1, 1) := by decide +kernel
theorem dX9_calledNow_21 : decode cX9_calledNow 21 = .ok (.iconst (-1), 1) := by decide +kernel
theorem dX9_calledNow_22 : decode cX9_calledNow 22 = .ok (.if_icmp .eq 12, 3) := by decide +kernel
theorem dX9_calledNow_25 : decode cX9_calledNow 25 = .ok (.aload_n 0, 1) := by decide +kernel
theorem dX9_calledNow_26 : decode cX9_calledNow 26 = .ok (.iload_n 2, 1) := by decide +kernel
theorem dX9_calledNow_27 : decode cX9_calledNow 27 = .ok (.iload_n 1, 1) := by decide +kernel
theorem dX9_calledNow_28 : decode cX9_calledNow 28 = .ok (.invokevirtual 143, 3) := by decide +kernel
theorem dX9_calledNow_31 : decode cX9_calledNow 31 = .ok (.ifCond .eq 5, 3) := by decide +kernel
theorem dX9_calledNow_34 : decode cX9_calledNow 34 = .ok (.iload_n 2, 1) := by decide +kernel
theorem dX9_calledNow_35 : decode cX9_calledNow 35 = .ok (.istore_n 1, 1) := by decide +kernel
theorem dX9_calledNow_36 : decode cX9_calledNow 36 = .ok (.iinc 2 1, 3) := by decide +kernel
theorem dX9_calledNow_39 : decode cX9_calledNow 39 = .ok (.goto (-35), 3) := by decide +kernel
theorem dX9_calledNow_42 : decode cX9_calledNow 42 = .ok (.iload_n 1, 1) := by decide +kernel
theorem dX9_calledNow_43 : decode cX9_calledNow 43 = .ok (.ireturn, 1) := by decide +kernel
theorem dX9_liftEnds_0 : decode cX9_liftEnds 0 = .ok (.iconst 0, 1) := by decide +kernel
theorem dX9_liftEnds_1 : decode cX9_liftEnds 1 = .ok (.istore_n 1, 1) := by decide +kernel
theorem dX9_liftEnds_2 : decode cX9_liftEnds 2 = .ok (.iload_n 1, 1) := by decide +kernel
theorem dX9_liftEnds_3 : decode cX9_liftEnds 3 = .ok (.aload_n 0, 1) := by decide +kernel
theorem dX9_liftEnds_4 : decode cX9_liftEnds 4 = .ok (.getfield 84, 3) := by decide +kernel
theorem dX9_liftEnds_7 : decode cX9_liftEnds 7 = .ok (.if_icmp .ge 34, 3) := by decide +kernel
theorem dX9_liftEnds_10 : decode cX9_liftEnds 10 = .ok (.aload_n 0, 1) := by decide +kernel
theorem dX9_liftEnds_11 : decode cX9_liftEnds 11 = .ok (.iload_n 1, 1) := by decide +kernel
theorem dX9_liftEnds_12 : decode cX9_liftEnds 12 = .ok (.bipush 7, 2) := by decide +kernel
theorem dX9_liftEnds_14 : decode cX9_liftEnds 14 = .ok (.aload_n 0, 1) := by decide +kernel
theorem dX9_liftEnds_15 : decode cX9_liftEnds 15 = .ok (.getfield 32, 3) := by decide +kernel
theorem dX9_liftEnds_18 : decode cX9_liftEnds 18 = .ok (.iconst 0, 1) := by decide +kernel
theorem dX9_liftEnds_19 : decode cX9_liftEnds 19 = .ok (.iaload, 1) := by decide +kernel
theorem dX9_liftEnds_20 : decode cX9_liftEnds 20 = .ok (.iadd, 1) := by decide +kernel
theorem dX9_liftEnds_21 : decode cX9_liftEnds 21 = .ok (.invokevirtual 106, 3) := by decide +kernel
theorem dX9_liftEnds_24 : decode cX9_liftEnds 24 = .ok (.ifCond .ne 11, 3) := by decide +kernel
theorem dX9_liftEnds_27 : decode cX9_liftEnds 27 = .ok (.aload_n 0, 1) := by decide +kernel
theorem dX9_liftEnds_28 : decode cX9_liftEnds 28 = .ok (.iload_n 1, 1) := by decide +kernel
theorem dX9_liftEnds_29 : decode cX9_liftEnds 29 = .ok (.bipush 6, 2) := by decide +kernel
theorem dX9_liftEnds_31 : decode cX9_liftEnds 31 = .ok (.iconst 1, 1) := by decide +kernel
theorem dX9_liftEnds_32 : decode cX9_liftEnds 32 = .ok (.invokevirtual 109, 3) := by decide +kernel
theorem dX9_liftEnds_35 : decode cX9_liftEnds 35 = .ok (.iinc 1 1, 3) := by decide +kernel
theorem dX9_liftEnds_38 : decode cX9_liftEnds 38 = .ok (.goto (-36), 3) := by decide +kernel
theorem dX9_liftEnds_41 : decode cX9_liftEnds 41 = .ok (.aload_n 0, 1) := by decide +kernel
theorem dX9_liftEnds_42 : decode cX9_liftEnds 42 = .ok (.getfield 32, 3) := by decide +kernel
theorem dX9_liftEnds_45 : decode cX9_liftEnds 45 = .ok (.iconst 0, 1) := by decide +kernel
theorem dX9_liftEnds_46 : decode cX9_liftEnds 46 = .ok (.dup2, 1) := by decide +kernel
theorem dX9_liftEnds_47 : decode cX9_liftEnds 47 = .ok (.iaload, 1) := by decide +kernel
theorem dX9_liftEnds_48 : decode cX9_liftEnds 48 = .ok (.iconst 1, 1) := by decide +kernel
theorem dX9_liftEnds_49 : decode cX9_liftEnds 49 = .ok (.iadd, 1) := by decide +kernel
theorem dX9_liftEnds_50 : decode cX9_liftEnds 50 = .ok (.iastore, 1) := by decide +kernel
theorem dX9_liftEnds_51 : decode cX9_liftEnds 51 = .ok (.aload_n 0, 1) := by decide +kernel
theorem dX9_liftEnds_52 : decode cX9_liftEnds 52 = .ok (.invokevirtual 137, 3) := by decide +kernel
theorem dX9_liftEnds_55 : decode cX9_liftEnds 55 = .ok (.return_, 1) := by decide +kernel
theorem dX9_goesOn_0 : decode cX9_goesOn 0 = .ok (.aload_n 0, 1) := by decide +kernel
theorem dX9_goesOn_1 : decode cX9_goesOn 1 = .ok (.getfield 84, 3) := by decide +kernel
theorem dX9_goesOn_4 : decode cX9_goesOn 4 = .ok (.ifCond .le 52, 3) := by decide +kernel
theorem dX9_goesOn_7 : decode cX9_goesOn 7 = .ok (.aload_n 0, 1) := by decide +kernel
theorem dX9_goesOn_8 : decode cX9_goesOn 8 = .ok (.invokevirtual 113, 3) := by decide +kernel
theorem dX9_goesOn_11 : decode cX9_goesOn 11 = .ok (.ifCond .ne 45, 3) := by decide +kernel
theorem dX9_goesOn_14 : decode cX9_goesOn 14 = .ok (.aload_n 0, 1) := by decide +kernel
theorem dX9_goesOn_15 : decode cX9_goesOn 15 = .ok (.invokevirtual 147, 3) := by decide +kernel
theorem dX9_goesOn_18 : decode cX9_goesOn 18 = .ok (.iconst (-1), 1) := by decide +kernel
theorem dX9_goesOn_19 : decode cX9_goesOn 19 = .ok (.if_icmp .ne 37, 3) := by decide +kernel
theorem dX9_goesOn_22 : decode cX9_goesOn 22 = .ok (.aload_n 0, 1) := by decide +kernel
theorem dX9_goesOn_23 : decode cX9_goesOn 23 = .ok (.getfield 32, 3) := by decide +kernel
theorem dX9_goesOn_26 : decode cX9_goesOn 26 = .ok (.iconst 1, 1) := by decide +kernel
theorem dX9_goesOn_27 : decode cX9_goesOn 27 = .ok (.iaload, 1) := by decide +kernel
theorem dX9_goesOn_28 : decode cX9_goesOn 28 = .ok (.iconst 2, 1) := by decide +kernel
theorem dX9_goesOn_29 : decode cX9_goesOn 29 = .ok (.if_icmp .ne 10, 3) := by decide +kernel
theorem dX9_goesOn_32 : decode cX9_goesOn 32 = .ok (.aload_n 0, 1) := by decide +kernel
theorem dX9_goesOn_33 : decode cX9_goesOn 33 = .ok (.invokevirtual 150, 3) := by decide +kernel
theorem dX9_goesOn_36 : decode cX9_goesOn 36 = .ok (.goto (-36), 3) := by decide +kernel
theorem dX9_goesOn_39 : decode cX9_goesOn 39 = .ok (.aload_n 0, 1) := by decide +kernel
theorem dX9_goesOn_40 : decode cX9_goesOn 40 = .ok (.getfield 32, 3) := by decide +kernel
theorem dX9_goesOn_43 : decode cX9_goesOn 43 = .ok (.iconst 1, 1) := by decide +kernel
theorem dX9_goesOn_44 : decode cX9_goesOn 44 = .ok (.dup2, 1) := by decide +kernel
theorem dX9_goesOn_45 : decode cX9_goesOn 45 = .ok (.iaload, 1) := by decide +kernel
theorem dX9_goesOn_46 : decode cX9_goesOn 46 = .ok (.iconst 1, 1) := by decide +kernel
theorem dX9_goesOn_47 : decode cX9_goesOn 47 = .ok (.iadd, 1) := by decide +kernel
theorem dX9_goesOn_48 : decode cX9_goesOn 48 = .ok (.iastore, 1) := by decide +kernel
theorem dX9_goesOn_49 : decode cX9_goesOn 49 = .ok (.aload_n 0, 1) := by decide +kernel
theorem dX9_goesOn_50 : decode cX9_goesOn 50 = .ok (.invokevirtual 128, 3) := by decide +kernel
theorem dX9_goesOn_53 : decode cX9_goesOn 53 = .ok (.goto (-53), 3) := by decide +kernel
theorem dX9_goesOn_56 : decode cX9_goesOn 56 = .ok (.return_, 1) := by decide +kernel
theorem dX9_asksThen_0 : decode cX9_asksThen 0 = .ok (.iload 4, 2) := by decide +kernel
theorem dX9_asksThen_2 : decode cX9_asksThen 2 = .ok (.aload_n 0, 1) := by decide +kernel
theorem dX9_asksThen_3 : decode cX9_asksThen 3 = .ok (.iload_n 1, 1) := by decide +kernel
theorem dX9_asksThen_4 : decode cX9_asksThen 4 = .ok (.iload_n 2, 1) := by decide +kernel
theorem dX9_asksThen_5 : decode cX9_asksThen 5 = .ok (.iload 5, 2) := by decide +kernel
theorem dX9_asksThen_7 : decode cX9_asksThen 7 = .ok (.ifCond .eq 7, 3) := by decide +kernel
theorem dX9_asksThen_10 : decode cX9_asksThen 10 = .ok (.iconst 1, 1) := by decide +kernel
theorem dX9_asksThen_11 : decode cX9_asksThen 11 = .ok (.goto 4, 3) := by decide +kernel
theorem dX9_asksThen_14 : decode cX9_asksThen 14 = .ok (.iconst 2, 1) := by decide +kernel
theorem dX9_asksThen_15 : decode cX9_asksThen 15 = .ok (.invokevirtual 125, 3) := by decide +kernel
theorem dX9_asksThen_18 : decode cX9_asksThen 18 = .ok (.iadd, 1) := by decide +kernel
theorem dX9_asksThen_19 : decode cX9_asksThen 19 = .ok (.istore 6, 2) := by decide +kernel
theorem dX9_asksThen_21 : decode cX9_asksThen 21 = .ok (.iload_n 3, 1) := by decide +kernel
theorem dX9_asksThen_22 : decode cX9_asksThen 22 = .ok (.iconst 2, 1) := by decide +kernel
theorem dX9_asksThen_23 : decode cX9_asksThen 23 = .ok (.if_icmp .eq 10, 3) := by decide +kernel
theorem dX9_asksThen_26 : decode cX9_asksThen 26 = .ok (.iload 6, 2) := by decide +kernel
theorem dX9_asksThen_28 : decode cX9_asksThen 28 = .ok (.bipush 40, 2) := by decide +kernel
theorem dX9_asksThen_30 : decode cX9_asksThen 30 = .ok (.if_icmp .le 7, 3) := by decide +kernel
theorem dX9_asksThen_33 : decode cX9_asksThen 33 = .ok (.iconst 0, 1) := by decide +kernel
theorem dX9_asksThen_34 : decode cX9_asksThen 34 = .ok (.goto 5, 3) := by decide +kernel
theorem dX9_asksThen_37 : decode cX9_asksThen 37 = .ok (.iload 6, 2) := by decide +kernel
theorem dX9_asksThen_39 : decode cX9_asksThen 39 = .ok (.ireturn, 1) := by decide +kernel
theorem dX9_doesTry_0 : decode cX9_doesTry 0 = .ok (.aload_n 0, 1) := by decide +kernel
theorem dX9_doesTry_1 : decode cX9_doesTry 1 = .ok (.getfield 32, 3) := by decide +kernel
theorem dX9_doesTry_4 : decode cX9_doesTry 4 = .ok (.iconst 0, 1) := by decide +kernel
theorem dX9_doesTry_5 : decode cX9_doesTry 5 = .ok (.iaload, 1) := by decide +kernel
theorem dX9_doesTry_6 : decode cX9_doesTry 6 = .ok (.istore_n 3, 1) := by decide +kernel
theorem dX9_doesTry_7 : decode cX9_doesTry 7 = .ok (.aload_n 0, 1) := by decide +kernel
theorem dX9_doesTry_8 : decode cX9_doesTry 8 = .ok (.iload_n 1, 1) := by decide +kernel
theorem dX9_doesTry_9 : decode cX9_doesTry 9 = .ok (.iconst 0, 1) := by decide +kernel
theorem dX9_doesTry_10 : decode cX9_doesTry 10 = .ok (.invokevirtual 106, 3) := by decide +kernel
theorem dX9_doesTry_13 : decode cX9_doesTry 13 = .ok (.istore 4, 2) := by decide +kernel
theorem dX9_doesTry_15 : decode cX9_doesTry 15 = .ok (.aload_n 0, 1) := by decide +kernel
theorem dX9_doesTry_16 : decode cX9_doesTry 16 = .ok (.aload_n 0, 1) := by decide +kernel
theorem dX9_doesTry_17 : decode cX9_doesTry 17 = .ok (.iload_n 1, 1) := by decide +kernel
theorem dX9_doesTry_18 : decode cX9_doesTry 18 = .ok (.iload_n 3, 1) := by decide +kernel
theorem dX9_doesTry_19 : decode cX9_doesTry 19 = .ok (.aload_n 0, 1) := by decide +kernel
theorem dX9_doesTry_20 : decode cX9_doesTry 20 = .ok (.getfield 32, 3) := by decide +kernel
theorem dX9_doesTry_23 : decode cX9_doesTry 23 = .ok (.iconst 1, 1) := by decide +kernel
theorem dX9_doesTry_24 : decode cX9_doesTry 24 = .ok (.iaload, 1) := by decide +kernel
theorem dX9_doesTry_25 : decode cX9_doesTry 25 = .ok (.iload 4, 2) := by decide +kernel
theorem dX9_doesTry_27 : decode cX9_doesTry 27 = .ok (.iload_n 2, 1) := by decide +kernel
theorem dX9_doesTry_28 : decode cX9_doesTry 28 = .ok (.invokevirtual 153, 3) := by decide +kernel
theorem dX9_doesTry_31 : decode cX9_doesTry 31 = .ok (.putfield 157, 3) := by decide +kernel
theorem dX9_doesTry_34 : decode cX9_doesTry 34 = .ok (.aload_n 0, 1) := by decide +kernel
theorem dX9_doesTry_35 : decode cX9_doesTry 35 = .ok (.getfield 32, 3) := by decide +kernel
theorem dX9_doesTry_38 : decode cX9_doesTry 38 = .ok (.iconst 2, 1) := by decide +kernel
theorem dX9_doesTry_39 : decode cX9_doesTry 39 = .ok (.aload_n 0, 1) := by decide +kernel
theorem dX9_doesTry_40 : decode cX9_doesTry 40 = .ok (.getfield 32, 3) := by decide +kernel
theorem dX9_doesTry_43 : decode cX9_doesTry 43 = .ok (.iconst 2, 1) := by decide +kernel
theorem dX9_doesTry_44 : decode cX9_doesTry 44 = .ok (.iaload, 1) := by decide +kernel
theorem dX9_doesTry_45 : decode cX9_doesTry 45 = .ok (.iload 4, 2) := by decide +kernel
theorem dX9_doesTry_47 : decode cX9_doesTry 47 = .ok (.invokestatic 100, 3) := by decide +kernel
theorem dX9_doesTry_50 : decode cX9_doesTry 50 = .ok (.iastore, 1) := by decide +kernel
theorem dX9_doesTry_51 : decode cX9_doesTry 51 = .ok (.aload_n 0, 1) := by decide +kernel
theorem dX9_doesTry_52 : decode cX9_doesTry 52 = .ok (.iload_n 1, 1) := by decide +kernel
theorem dX9_doesTry_53 : decode cX9_doesTry 53 = .ok (.iconst 1, 1) := by decide +kernel
theorem dX9_doesTry_54 : decode cX9_doesTry 54 = .ok (.iconst 1, 1) := by decide +kernel
theorem dX9_doesTry_55 : decode cX9_doesTry 55 = .ok (.invokevirtual 109, 3) := by decide +kernel
theorem dX9_doesTry_58 : decode cX9_doesTry 58 = .ok (.aload_n 0, 1) := by decide +kernel
theorem dX9_doesTry_59 : decode cX9_doesTry 59 = .ok (.iload_n 1, 1) := by decide +kernel
theorem dX9_doesTry_60 : decode cX9_doesTry 60 = .ok (.iconst 2, 1) := by decide +kernel
theorem dX9_doesTry_61 : decode cX9_doesTry 61 = .ok (.iload 4, 2) := by decide +kernel
theorem dX9_doesTry_63 : decode cX9_doesTry 63 = .ok (.invokevirtual 109, 3) := by decide +kernel
theorem dX9_doesTry_66 : decode cX9_doesTry 66 = .ok (.aload_n 0, 1) := by decide +kernel
theorem dX9_doesTry_67 : decode cX9_doesTry 67 = .ok (.iload_n 1, 1) := by decide +kernel
theorem dX9_doesTry_68 : decode cX9_doesTry 68 = .ok (.iconst 3, 1) := by decide +kernel
theorem dX9_doesTry_69 : decode cX9_doesTry 69 = .ok (.iload_n 2, 1) := by decide +kernel
theorem dX9_doesTry_70 : decode cX9_doesTry 70 = .ok (.invokestatic 160, 3) := by decide +kernel
theorem dX9_doesTry_73 : decode cX9_doesTry 73 = .ok (.invokevirtual 109, 3) := by decide +kernel
theorem dX9_doesTry_76 : decode cX9_doesTry 76 = .ok (.aload_n 0, 1) := by decide +kernel
theorem dX9_doesTry_77 : decode cX9_doesTry 77 = .ok (.iload_n 1, 1) := by decide +kernel
theorem dX9_doesTry_78 : decode cX9_doesTry 78 = .ok (.iconst 0, 1) := by decide +kernel
theorem dX9_doesTry_79 : decode cX9_doesTry 79 = .ok (.aload_n 0, 1) := by decide +kernel
theorem dX9_doesTry_80 : decode cX9_doesTry 80 = .ok (.getfield 157, 3) := by decide +kernel
theorem dX9_doesTry_83 : decode cX9_doesTry 83 = .ok (.invokevirtual 109, 3) := by decide +kernel
theorem dX9_doesTry_86 : decode cX9_doesTry 86 = .ok (.iload_n 2, 1) := by decide +kernel
theorem dX9_doesTry_87 : decode cX9_doesTry 87 = .ok (.ifCond .eq 29, 3) := by decide +kernel
theorem dX9_doesTry_90 : decode cX9_doesTry 90 = .ok (.aload_n 0, 1) := by decide +kernel
theorem dX9_doesTry_91 : decode cX9_doesTry 91 = .ok (.iload_n 1, 1) := by decide +kernel
theorem dX9_doesTry_92 : decode cX9_doesTry 92 = .ok (.bipush 7, 2) := by decide +kernel
theorem dX9_doesTry_94 : decode cX9_doesTry 94 = .ok (.iload_n 3, 1) := by decide +kernel
theorem dX9_doesTry_95 : decode cX9_doesTry 95 = .ok (.iadd, 1) := by decide +kernel
theorem dX9_doesTry_96 : decode cX9_doesTry 96 = .ok (.iload 4, 2) := by decide +kernel
theorem dX9_doesTry_98 : decode cX9_doesTry 98 = .ok (.aload_n 0, 1) := by decide +kernel
theorem dX9_doesTry_99 : decode cX9_doesTry 99 = .ok (.iload_n 1, 1) := by decide +kernel
theorem dX9_doesTry_100 : decode cX9_doesTry 100 = .ok (.bipush 7, 2) := by decide +kernel
theorem dX9_doesTry_102 : decode cX9_doesTry 102 = .ok (.iload_n 3, 1) := by decide +kernel
theorem dX9_doesTry_103 : decode cX9_doesTry 103 = .ok (.iadd, 1) := by decide +kernel
theorem dX9_doesTry_104 : decode cX9_doesTry 104 = .ok (.invokevirtual 106, 3) := by decide +kernel
theorem dX9_doesTry_107 : decode cX9_doesTry 107 = .ok (.invokestatic 100, 3) := by decide +kernel
theorem dX9_doesTry_110 : decode cX9_doesTry 110 = .ok (.invokevirtual 109, 3) := by decide +kernel
theorem dX9_doesTry_113 : decode cX9_doesTry 113 = .ok (.goto 17, 3) := by decide +kernel
theorem dX9_doesTry_116 : decode cX9_doesTry 116 = .ok (.aload_n 0, 1) := by decide +kernel
theorem dX9_doesTry_117 : decode cX9_doesTry 117 = .ok (.iload_n 1, 1) := by decide +kernel
theorem dX9_doesTry_118 : decode cX9_doesTry 118 = .ok (.iconst 4, 1) := by decide +kernel
theorem dX9_doesTry_119 : decode cX9_doesTry 119 = .ok (.aload_n 0, 1) := by decide +kernel
theorem dX9_doesTry_120 : decode cX9_doesTry 120 = .ok (.iload_n 1, 1) := by decide +kernel
theorem dX9_doesTry_121 : decode cX9_doesTry 121 = .ok (.iconst 4, 1) := by decide +kernel
theorem dX9_doesTry_122 : decode cX9_doesTry 122 = .ok (.invokevirtual 106, 3) := by decide +kernel
theorem dX9_doesTry_125 : decode cX9_doesTry 125 = .ok (.iconst 1, 1) := by decide +kernel
theorem dX9_doesTry_126 : decode cX9_doesTry 126 = .ok (.iadd, 1) := by decide +kernel
theorem dX9_doesTry_127 : decode cX9_doesTry 127 = .ok (.invokevirtual 109, 3) := by decide +kernel
theorem dX9_doesTry_130 : decode cX9_doesTry 130 = .ok (.aload_n 0, 1) := by decide +kernel
theorem dX9_doesTry_131 : decode cX9_doesTry 131 = .ok (.getfield 38, 3) := by decide +kernel
theorem dX9_doesTry_134 : decode cX9_doesTry 134 = .ok (.iconst 4, 1) := by decide +kernel
theorem dX9_doesTry_135 : decode cX9_doesTry 135 = .ok (.aload_n 0, 1) := by decide +kernel
theorem dX9_doesTry_136 : decode cX9_doesTry 136 = .ok (.getfield 131, 3) := by decide +kernel
theorem dX9_doesTry_139 : decode cX9_doesTry 139 = .ok (.imul, 1) := by decide +kernel
theorem dX9_doesTry_140 : decode cX9_doesTry 140 = .ok (.iload_n 1, 1) := by decide +kernel
theorem dX9_doesTry_141 : decode cX9_doesTry 141 = .ok (.iastore, 1) := by decide +kernel
theorem dX9_doesTry_142 : decode cX9_doesTry 142 = .ok (.aload_n 0, 1) := by decide +kernel
theorem dX9_doesTry_143 : decode cX9_doesTry 143 = .ok (.getfield 38, 3) := by decide +kernel
theorem dX9_doesTry_146 : decode cX9_doesTry 146 = .ok (.iconst 4, 1) := by decide +kernel
theorem dX9_doesTry_147 : decode cX9_doesTry 147 = .ok (.aload_n 0, 1) := by decide +kernel
theorem dX9_doesTry_148 : decode cX9_doesTry 148 = .ok (.getfield 131, 3) := by decide +kernel
theorem dX9_doesTry_151 : decode cX9_doesTry 151 = .ok (.imul, 1) := by decide +kernel
theorem dX9_doesTry_152 : decode cX9_doesTry 152 = .ok (.iconst 1, 1) := by decide +kernel
theorem dX9_doesTry_153 : decode cX9_doesTry 153 = .ok (.iadd, 1) := by decide +kernel
theorem dX9_doesTry_154 : decode cX9_doesTry 154 = .ok (.iload_n 3, 1) := by decide +kernel
theorem dX9_doesTry_155 : decode cX9_doesTry 155 = .ok (.iastore, 1) := by decide +kernel
theorem dX9_doesTry_156 : decode cX9_doesTry 156 = .ok (.aload_n 0, 1) := by decide +kernel
theorem dX9_doesTry_157 : decode cX9_doesTry 157 = .ok (.getfield 38, 3) := by decide +kernel
theorem dX9_doesTry_160 : decode cX9_doesTry 160 = .ok (.iconst 4, 1) := by decide +kernel
theorem dX9_doesTry_161 : decode cX9_doesTry 161 = .ok (.aload_n 0, 1) := by decide +kernel
theorem dX9_doesTry_162 : decode cX9_doesTry 162 = .ok (.getfield 131, 3) := by decide +kernel
theorem dX9_doesTry_165 : decode cX9_doesTry 165 = .ok (.imul, 1) := by decide +kernel
theorem dX9_doesTry_166 : decode cX9_doesTry 166 = .ok (.iconst 2, 1) := by decide +kernel
theorem dX9_doesTry_167 : decode cX9_doesTry 167 = .ok (.iadd, 1) := by decide +kernel
theorem dX9_doesTry_168 : decode cX9_doesTry 168 = .ok (.iload 4, 2) := by decide +kernel
theorem dX9_doesTry_170 : decode cX9_doesTry 170 = .ok (.iastore, 1) := by decide +kernel
theorem dX9_doesTry_171 : decode cX9_doesTry 171 = .ok (.aload_n 0, 1) := by decide +kernel
theorem dX9_doesTry_172 : decode cX9_doesTry 172 = .ok (.getfield 38, 3) := by decide +kernel
theorem dX9_doesTry_175 : decode cX9_doesTry 175 = .ok (.iconst 4, 1) := by decide +kernel
theorem dX9_doesTry_176 : decode cX9_doesTry 176 = .ok (.aload_n 0, 1) := by decide +kernel
theorem dX9_doesTry_177 : decode cX9_doesTry 177 = .ok (.getfield 131, 3) := by decide +kernel
theorem dX9_doesTry_180 : decode cX9_doesTry 180 = .ok (.imul, 1) := by decide +kernel
theorem dX9_doesTry_181 : decode cX9_doesTry 181 = .ok (.iconst 3, 1) := by decide +kernel
theorem dX9_doesTry_182 : decode cX9_doesTry 182 = .ok (.iadd, 1) := by decide +kernel
theorem dX9_doesTry_183 : decode cX9_doesTry 183 = .ok (.iload_n 2, 1) := by decide +kernel
theorem dX9_doesTry_184 : decode cX9_doesTry 184 = .ok (.invokestatic 160, 3) := by decide +kernel
theorem dX9_doesTry_187 : decode cX9_doesTry 187 = .ok (.iastore, 1) := by decide +kernel
theorem dX9_doesTry_188 : decode cX9_doesTry 188 = .ok (.aload_n 0, 1) := by decide +kernel
theorem dX9_doesTry_189 : decode cX9_doesTry 189 = .ok (.dup, 1) := by decide +kernel
theorem dX9_doesTry_190 : decode cX9_doesTry 190 = .ok (.getfield 131, 3) := by decide +kernel
theorem dX9_doesTry_193 : decode cX9_doesTry 193 = .ok (.iconst 1, 1) := by decide +kernel
theorem dX9_doesTry_194 : decode cX9_doesTry 194 = .ok (.iadd, 1) := by decide +kernel
theorem dX9_doesTry_195 : decode cX9_doesTry 195 = .ok (.putfield 131, 3) := by decide +kernel
theorem dX9_doesTry_198 : decode cX9_doesTry 198 = .ok (.aload_n 0, 1) := by decide +kernel
theorem dX9_doesTry_199 : decode cX9_doesTry 199 = .ok (.dup, 1) := by decide +kernel
theorem dX9_doesTry_200 : decode cX9_doesTry 200 = .ok (.getfield 134, 3) := by decide +kernel
theorem dX9_doesTry_203 : decode cX9_doesTry 203 = .ok (.iload_n 2, 1) := by decide +kernel
theorem dX9_doesTry_204 : decode cX9_doesTry 204 = .ok (.invokestatic 160, 3) := by decide +kernel
theorem dX9_doesTry_207 : decode cX9_doesTry 207 = .ok (.iadd, 1) := by decide +kernel
theorem dX9_doesTry_208 : decode cX9_doesTry 208 = .ok (.putfield 134, 3) := by decide +kernel
theorem dX9_doesTry_211 : decode cX9_doesTry 211 = .ok (.aload_n 0, 1) := by decide +kernel
theorem dX9_doesTry_212 : decode cX9_doesTry 212 = .ok (.invokevirtual 164, 3) := by decide +kernel
theorem dX9_doesTry_215 : decode cX9_doesTry 215 = .ok (.return_, 1) := by decide +kernel
theorem dX9_leastOf_0 : decode cX9_leastOf 0 = .ok (.aload_n 0, 1) := by decide +kernel
theorem dX9_leastOf_1 : decode cX9_leastOf 1 = .ok (.iload_n 1, 1) := by decide +kernel
theorem dX9_leastOf_2 : decode cX9_leastOf 2 = .ok (.iconst 0, 1) := by decide +kernel
theorem dX9_leastOf_3 : decode cX9_leastOf 3 = .ok (.invokevirtual 106, 3) := by decide +kernel
theorem dX9_leastOf_6 : decode cX9_leastOf 6 = .ok (.ifCond .eq 18, 3) := by decide +kernel
theorem dX9_leastOf_9 : decode cX9_leastOf 9 = .ok (.aload_n 0, 1) := by decide +kernel
theorem dX9_leastOf_10 : decode cX9_leastOf 10 = .ok (.iload_n 1, 1) := by decide +kernel
theorem dX9_leastOf_11 : decode cX9_leastOf 11 = .ok (.invokevirtual 121, 3) := by decide +kernel
theorem dX9_leastOf_14 : decode cX9_leastOf 14 = .ok (.ifCond .ne 10, 3) := by decide +kernel
theorem dX9_leastOf_17 : decode cX9_leastOf 17 = .ok (.aload_n 0, 1) := by decide +kernel
theorem dX9_leastOf_18 : decode cX9_leastOf 18 = .ok (.invokevirtual 113, 3) := by decide +kernel
theorem dX9_leastOf_21 : decode cX9_leastOf 21 = .ok (.ifCond .eq 5, 3) := by decide +kernel
theorem dX9_leastOf_24 : decode cX9_leastOf 24 = .ok (.iconst 0, 1) := by decide +kernel
theorem dX9_leastOf_25 : decode cX9_leastOf 25 = .ok (.ireturn, 1) := by decide +kernel
theorem dX9_leastOf_26 : decode cX9_leastOf 26 = .ok (.aload_n 0, 1) := by decide +kernel
theorem dX9_leastOf_27 : decode cX9_leastOf 27 = .ok (.iload_n 1, 1) := by decide +kernel
theorem dX9_leastOf_28 : decode cX9_leastOf 28 = .ok (.iconst 2, 1) := by decide +kernel
theorem dX9_leastOf_29 : decode cX9_leastOf 29 = .ok (.invokevirtual 106, 3) := by decide +kernel
theorem dX9_leastOf_32 : decode cX9_leastOf 32 = .ok (.ifCond .ne 7, 3) := by decide +kernel
theorem dX9_leastOf_35 : decode cX9_leastOf 35 = .ok (.iconst 1, 1) := by decide +kernel
theorem dX9_leastOf_36 : decode cX9_leastOf 36 = .ok (.goto 16, 3) := by decide +kernel
theorem dX9_leastOf_39 : decode cX9_leastOf 39 = .ok (.aload_n 0, 1) := by decide +kernel
theorem dX9_leastOf_40 : decode cX9_leastOf 40 = .ok (.iload_n 1, 1) := by decide +kernel
theorem dX9_leastOf_41 : decode cX9_leastOf 41 = .ok (.iconst 2, 1) := by decide +kernel
theorem dX9_leastOf_42 : decode cX9_leastOf 42 = .ok (.invokevirtual 106, 3) := by decide +kernel
theorem dX9_leastOf_45 : decode cX9_leastOf 45 = .ok (.aload_n 0, 1) := by decide +kernel
theorem dX9_leastOf_46 : decode cX9_leastOf 46 = .ok (.iload_n 1, 1) := by decide +kernel
theorem dX9_leastOf_47 : decode cX9_leastOf 47 = .ok (.iconst 3, 1) := by decide +kernel
theorem dX9_leastOf_48 : decode cX9_leastOf 48 = .ok (.invokevirtual 106, 3) := by decide +kernel
theorem dX9_leastOf_51 : decode cX9_leastOf 51 = .ok (.iadd, 1) := by decide +kernel
theorem dX9_leastOf_52 : decode cX9_leastOf 52 = .ok (.istore_n 2, 1) := by decide +kernel
theorem dX9_leastOf_53 : decode cX9_leastOf 53 = .ok (.aload_n 0, 1) := by decide +kernel
theorem dX9_leastOf_54 : decode cX9_leastOf 54 = .ok (.iload_n 1, 1) := by decide +kernel
theorem dX9_leastOf_55 : decode cX9_leastOf 55 = .ok (.iconst 1, 1) := by decide +kernel
theorem dX9_leastOf_56 : decode cX9_leastOf 56 = .ok (.invokevirtual 106, 3) := by decide +kernel
theorem dX9_leastOf_59 : decode cX9_leastOf 59 = .ok (.ifCond .ne 16, 3) := by decide +kernel
theorem dX9_leastOf_62 : decode cX9_leastOf 62 = .ok (.iload_n 2, 1) := by decide +kernel
theorem dX9_leastOf_63 : decode cX9_leastOf 63 = .ok (.aload_n 0, 1) := by decide +kernel
theorem dX9_leastOf_64 : decode cX9_leastOf 64 = .ok (.getfield 32, 3) := by decide +kernel
theorem dX9_leastOf_67 : decode cX9_leastOf 67 = .ok (.iconst 2, 1) := by decide +kernel
theorem dX9_leastOf_68 : decode cX9_leastOf 68 = .ok (.iaload, 1) := by decide +kernel
theorem dX9_leastOf_69 : decode cX9_leastOf 69 = .ok (.invokestatic 100, 3) := by decide +kernel
theorem dX9_leastOf_72 : decode cX9_leastOf 72 = .ok (.goto 4, 3) := by decide +kernel
theorem dX9_leastOf_75 : decode cX9_leastOf 75 = .ok (.iload_n 2, 1) := by decide +kernel
theorem dX9_leastOf_76 : decode cX9_leastOf 76 = .ok (.ireturn, 1) := by decide +kernel
theorem dX9_sumOf_0 : decode cX9_sumOf 0 = .ok (.aload_n 0, 1) := by decide +kernel
theorem dX9_sumOf_1 : decode cX9_sumOf 1 = .ok (.iload_n 1, 1) := by decide +kernel
theorem dX9_sumOf_2 : decode cX9_sumOf 2 = .ok (.invokevirtual 121, 3) := by decide +kernel
theorem dX9_sumOf_5 : decode cX9_sumOf 5 = .ok (.ifCond .eq 7, 3) := by decide +kernel
theorem dX9_sumOf_8 : decode cX9_sumOf 8 = .ok (.iconst 0, 1) := by decide +kernel
theorem dX9_sumOf_9 : decode cX9_sumOf 9 = .ok (.goto 26, 3) := by decide +kernel
theorem dX9_sumOf_12 : decode cX9_sumOf 12 = .ok (.aload_n 0, 1) := by decide +kernel
theorem dX9_sumOf_13 : decode cX9_sumOf 13 = .ok (.iload_n 1, 1) := by decide +kernel
theorem dX9_sumOf_14 : decode cX9_sumOf 14 = .ok (.bipush 7, 2) := by decide +kernel
theorem dX9_sumOf_16 : decode cX9_sumOf 16 = .ok (.invokevirtual 106, 3) := by decide +kernel
theorem dX9_sumOf_19 : decode cX9_sumOf 19 = .ok (.aload_n 0, 1) := by decide +kernel
theorem dX9_sumOf_20 : decode cX9_sumOf 20 = .ok (.iload_n 1, 1) := by decide +kernel
theorem dX9_sumOf_21 : decode cX9_sumOf 21 = .ok (.bipush 8, 2) := by decide +kernel
theorem dX9_sumOf_23 : decode cX9_sumOf 23 = .ok (.invokevirtual 106, 3) := by decide +kernel
theorem dX9_sumOf_26 : decode cX9_sumOf 26 = .ok (.iadd, 1) := by decide +kernel
theorem dX9_sumOf_27 : decode cX9_sumOf 27 = .ok (.aload_n 0, 1) := by decide +kernel
theorem dX9_sumOf_28 : decode cX9_sumOf 28 = .ok (.iload_n 1, 1) := by decide +kernel
theorem dX9_sumOf_29 : decode cX9_sumOf 29 = .ok (.bipush 9, 2) := by decide +kernel
theorem dX9_sumOf_31 : decode cX9_sumOf 31 = .ok (.invokevirtual 106, 3) := by decide +kernel
theorem dX9_sumOf_34 : decode cX9_sumOf 34 = .ok (.iadd, 1) := by decide +kernel
theorem dX9_sumOf_35 : decode cX9_sumOf 35 = .ok (.ireturn, 1) := by decide +kernel
theorem dX9_isLighter_0 : decode cX9_isLighter 0 = .ok (.aload_n 0, 1) := by decide +kernel
theorem dX9_isLighter_1 : decode cX9_isLighter 1 = .ok (.getfield 13, 3) := by decide +kernel
theorem dX9_isLighter_4 : decode cX9_isLighter 4 = .ok (.iload_n 1, 1) := by decide +kernel
theorem dX9_isLighter_5 : decode cX9_isLighter 5 = .ok (.iaload, 1) := by decide +kernel
theorem dX9_isLighter_6 : decode cX9_isLighter 6 = .ok (.aload_n 0, 1) := by decide +kernel
theorem dX9_isLighter_7 : decode cX9_isLighter 7 = .ok (.getfield 13, 3) := by decide +kernel
theorem dX9_isLighter_10 : decode cX9_isLighter 10 = .ok (.iload_n 2, 1) := by decide +kernel
theorem dX9_isLighter_11 : decode cX9_isLighter 11 = .ok (.iaload, 1) := by decide +kernel
theorem dX9_isLighter_12 : decode cX9_isLighter 12 = .ok (.if_icmp .lt 33, 3) := by decide +kernel
theorem dX9_isLighter_15 : decode cX9_isLighter 15 = .ok (.aload_n 0, 1) := by decide +kernel
theorem dX9_isLighter_16 : decode cX9_isLighter 16 = .ok (.getfield 13, 3) := by decide +kernel
theorem dX9_isLighter_19 : decode cX9_isLighter 19 = .ok (.iload_n 1, 1) := by decide +kernel
theorem dX9_isLighter_20 : decode cX9_isLighter 20 = .ok (.iaload, 1) := by decide +kernel
theorem dX9_isLighter_21 : decode cX9_isLighter 21 = .ok (.aload_n 0, 1) := by decide +kernel
theorem dX9_isLighter_22 : decode cX9_isLighter 22 = .ok (.getfield 13, 3) := by decide +kernel
theorem dX9_isLighter_25 : decode cX9_isLighter 25 = .ok (.iload_n 2, 1) := by decide +kernel
theorem dX9_isLighter_26 : decode cX9_isLighter 26 = .ok (.iaload, 1) := by decide +kernel
theorem dX9_isLighter_27 : decode cX9_isLighter 27 = .ok (.if_icmp .ne 22, 3) := by decide +kernel
theorem dX9_isLighter_30 : decode cX9_isLighter 30 = .ok (.aload_n 0, 1) := by decide +kernel
theorem dX9_isLighter_31 : decode cX9_isLighter 31 = .ok (.getfield 17, 3) := by decide +kernel
theorem dX9_isLighter_34 : decode cX9_isLighter 34 = .ok (.iload_n 1, 1) := by decide +kernel
theorem dX9_isLighter_35 : decode cX9_isLighter 35 = .ok (.iaload, 1) := by decide +kernel
theorem dX9_isLighter_36 : decode cX9_isLighter 36 = .ok (.aload_n 0, 1) := by decide +kernel
theorem dX9_isLighter_37 : decode cX9_isLighter 37 = .ok (.getfield 17, 3) := by decide +kernel
theorem dX9_isLighter_40 : decode cX9_isLighter 40 = .ok (.iload_n 2, 1) := by decide +kernel
theorem dX9_isLighter_41 : decode cX9_isLighter 41 = .ok (.iaload, 1) := by decide +kernel
theorem dX9_isLighter_42 : decode cX9_isLighter 42 = .ok (.if_icmp .ge 7, 3) := by decide +kernel
theorem dX9_isLighter_45 : decode cX9_isLighter 45 = .ok (.iconst 1, 1) := by decide +kernel
theorem dX9_isLighter_46 : decode cX9_isLighter 46 = .ok (.goto 4, 3) := by decide +kernel
theorem dX9_isLighter_49 : decode cX9_isLighter 49 = .ok (.iconst 0, 1) := by decide +kernel
theorem dX9_isLighter_50 : decode cX9_isLighter 50 = .ok (.ireturn, 1) := by decide +kernel
theorem dX9_isAhead_0 : decode cX9_isAhead 0 = .ok (.aload_n 0, 1) := by decide +kernel
theorem dX9_isAhead_1 : decode cX9_isAhead 1 = .ok (.iload_n 1, 1) := by decide +kernel
theorem dX9_isAhead_2 : decode cX9_isAhead 2 = .ok (.invokevirtual 121, 3) := by decide +kernel
theorem dX9_isAhead_5 : decode cX9_isAhead 5 = .ok (.aload_n 0, 1) := by decide +kernel
theorem dX9_isAhead_6 : decode cX9_isAhead 6 = .ok (.iload_n 2, 1) := by decide +kernel
theorem dX9_isAhead_7 : decode cX9_isAhead 7 = .ok (.invokevirtual 121, 3) := by decide +kernel
theorem dX9_isAhead_10 : decode cX9_isAhead 10 = .ok (.if_icmp .eq 9, 3) := by decide +kernel
theorem dX9_isAhead_13 : decode cX9_isAhead 13 = .ok (.aload_n 0, 1) := by decide +kernel
theorem dX9_isAhead_14 : decode cX9_isAhead 14 = .ok (.iload_n 2, 1) := by decide +kernel
theorem dX9_isAhead_15 : decode cX9_isAhead 15 = .ok (.invokevirtual 121, 3) := by decide +kernel
theorem dX9_isAhead_18 : decode cX9_isAhead 18 = .ok (.ireturn, 1) := by decide +kernel
theorem dX9_isAhead_19 : decode cX9_isAhead 19 = .ok (.aload_n 0, 1) := by decide +kernel
theorem dX9_isAhead_20 : decode cX9_isAhead 20 = .ok (.iload_n 1, 1) := by decide +kernel
theorem dX9_isAhead_21 : decode cX9_isAhead 21 = .ok (.invokevirtual 167, 3) := by decide +kernel
theorem dX9_isAhead_24 : decode cX9_isAhead 24 = .ok (.aload_n 0, 1) := by decide +kernel
theorem dX9_isAhead_25 : decode cX9_isAhead 25 = .ok (.iload_n 2, 1) := by decide +kernel
theorem dX9_isAhead_26 : decode cX9_isAhead 26 = .ok (.invokevirtual 167, 3) := by decide +kernel
theorem dX9_isAhead_29 : decode cX9_isAhead 29 = .ok (.if_icmp .gt 25, 3) := by decide +kernel
theorem dX9_isAhead_32 : decode cX9_isAhead 32 = .ok (.aload_n 0, 1) := by decide +kernel
theorem dX9_isAhead_33 : decode cX9_isAhead 33 = .ok (.iload_n 1, 1) := by decide +kernel
theorem dX9_isAhead_34 : decode cX9_isAhead 34 = .ok (.invokevirtual 167, 3) := by decide +kernel
theorem dX9_isAhead_37 : decode cX9_isAhead 37 = .ok (.aload_n 0, 1) := by decide +kernel
theorem dX9_isAhead_38 : decode cX9_isAhead 38 = .ok (.iload_n 2, 1) := by decide +kernel
theorem dX9_isAhead_39 : decode cX9_isAhead 39 = .ok (.invokevirtual 167, 3) := by decide +kernel
theorem dX9_isAhead_42 : decode cX9_isAhead 42 = .ok (.if_icmp .ne 16, 3) := by decide +kernel
theorem dX9_isAhead_45 : decode cX9_isAhead 45 = .ok (.aload_n 0, 1) := by decide +kernel
theorem dX9_isAhead_46 : decode cX9_isAhead 46 = .ok (.iload_n 1, 1) := by decide +kernel
theorem dX9_isAhead_47 : decode cX9_isAhead 47 = .ok (.iload_n 2, 1) := by decide +kernel
theorem dX9_isAhead_48 : decode cX9_isAhead 48 = .ok (.invokevirtual 171, 3) := by decide +kernel
theorem dX9_isAhead_51 : decode cX9_isAhead 51 = .ok (.ifCond .eq 7, 3) := by decide +kernel
theorem dX9_isAhead_54 : decode cX9_isAhead 54 = .ok (.iconst 1, 1) := by decide +kernel
theorem dX9_isAhead_55 : decode cX9_isAhead 55 = .ok (.goto 4, 3) := by decide +kernel
theorem dX9_isAhead_58 : decode cX9_isAhead 58 = .ok (.iconst 0, 1) := by decide +kernel
theorem dX9_isAhead_59 : decode cX9_isAhead 59 = .ok (.ireturn, 1) := by decide +kernel
theorem dX9_aheadOf_0 : decode cX9_aheadOf 0 = .ok (.iconst 0, 1) := by decide +kernel
theorem dX9_aheadOf_1 : decode cX9_aheadOf 1 = .ok (.istore_n 2, 1) := by decide +kernel
theorem dX9_aheadOf_2 : decode cX9_aheadOf 2 = .ok (.iconst 0, 1) := by decide +kernel
theorem dX9_aheadOf_3 : decode cX9_aheadOf 3 = .ok (.istore_n 3, 1) := by decide +kernel
theorem dX9_aheadOf_4 : decode cX9_aheadOf 4 = .ok (.iload_n 3, 1) := by decide +kernel
theorem dX9_aheadOf_5 : decode cX9_aheadOf 5 = .ok (.aload_n 0, 1) := by decide +kernel
theorem dX9_aheadOf_6 : decode cX9_aheadOf 6 = .ok (.getfield 84, 3) := by decide +kernel
theorem dX9_aheadOf_9 : decode cX9_aheadOf 9 = .ok (.if_icmp .ge 34, 3) := by decide +kernel
theorem dX9_aheadOf_12 : decode cX9_aheadOf 12 = .ok (.iload_n 2, 1) := by decide +kernel
theorem dX9_aheadOf_13 : decode cX9_aheadOf 13 = .ok (.iload_n 3, 1) := by decide +kernel
theorem dX9_aheadOf_14 : decode cX9_aheadOf 14 = .ok (.iload_n 1, 1) := by decide +kernel
theorem dX9_aheadOf_15 : decode cX9_aheadOf 15 = .ok (.if_icmp .eq 16, 3) := by decide +kernel
theorem dX9_aheadOf_18 : decode cX9_aheadOf 18 = .ok (.aload_n 0, 1) := by decide +kernel
theorem dX9_aheadOf_19 : decode cX9_aheadOf 19 = .ok (.iload_n 3, 1) := by decide +kernel
theorem dX9_aheadOf_20 : decode cX9_aheadOf 20 = .ok (.iload_n 1, 1) := by decide +kernel
theorem dX9_aheadOf_21 : decode cX9_aheadOf 21 = .ok (.invokevirtual 174, 3) := by decide +kernel
theorem dX9_aheadOf_24 : decode cX9_aheadOf 24 = .ok (.ifCond .eq 7, 3) := by decide +kernel
theorem dX9_aheadOf_27 : decode cX9_aheadOf 27 = .ok (.iconst 1, 1) := by decide +kernel
theorem dX9_aheadOf_28 : decode cX9_aheadOf 28 = .ok (.goto 4, 3) := by decide +kernel
theorem dX9_aheadOf_31 : decode cX9_aheadOf 31 = .ok (.iconst 0, 1) := by decide +kernel
theorem dX9_aheadOf_32 : decode cX9_aheadOf 32 = .ok (.invokestatic 160, 3) := by decide +kernel
theorem dX9_aheadOf_35 : decode cX9_aheadOf 35 = .ok (.iadd, 1) := by decide +kernel
theorem dX9_aheadOf_36 : decode cX9_aheadOf 36 = .ok (.istore_n 2, 1) := by decide +kernel
theorem dX9_aheadOf_37 : decode cX9_aheadOf 37 = .ok (.iinc 3 1, 3) := by decide +kernel
theorem dX9_aheadOf_40 : decode cX9_aheadOf 40 = .ok (.goto (-36), 3) := by decide +kernel
theorem dX9_aheadOf_43 : decode cX9_aheadOf 43 = .ok (.iload_n 2, 1) := by decide +kernel
theorem dX9_aheadOf_44 : decode cX9_aheadOf 44 = .ok (.ireturn, 1) := by decide +kernel
theorem dX9_entersPlaces_0 : decode cX9_entersPlaces 0 = .ok (.aload_n 0, 1) := by decide +kernel
theorem dX9_entersPlaces_1 : decode cX9_entersPlaces 1 = .ok (.iconst 0, 1) := by decide +kernel
theorem dX9_entersPlaces_2 : decode cX9_entersPlaces 2 = .ok (.putfield 81, 3) := by decide +kernel
theorem dX9_entersPlaces_5 : decode cX9_entersPlaces 5 = .ok (.iconst 0, 1) := by decide +kernel
theorem dX9_entersPlaces_6 : decode cX9_entersPlaces 6 = .ok (.istore_n 1, 1) := by decide +kernel
