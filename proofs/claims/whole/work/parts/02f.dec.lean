theorem dX9_entersPlaces_7 : decode cX9_entersPlaces 7 = .ok (.iload_n 1, 1) := by decide +kernel
theorem dX9_entersPlaces_8 : decode cX9_entersPlaces 8 = .ok (.aload_n 0, 1) := by decide +kernel
theorem dX9_entersPlaces_9 : decode cX9_entersPlaces 9 = .ok (.getfield 84, 3) := by decide +kernel
theorem dX9_entersPlaces_12 : decode cX9_entersPlaces 12 = .ok (.if_icmp .ge 40, 3) := by decide +kernel
theorem dX9_entersPlaces_15 : decode cX9_entersPlaces 15 = .ok (.iconst 0, 1) := by decide +kernel
theorem dX9_entersPlaces_16 : decode cX9_entersPlaces 16 = .ok (.istore_n 2, 1) := by decide +kernel
theorem dX9_entersPlaces_17 : decode cX9_entersPlaces 17 = .ok (.iload_n 2, 1) := by decide +kernel
theorem dX9_entersPlaces_18 : decode cX9_entersPlaces 18 = .ok (.aload_n 0, 1) := by decide +kernel
theorem dX9_entersPlaces_19 : decode cX9_entersPlaces 19 = .ok (.getfield 84, 3) := by decide +kernel
theorem dX9_entersPlaces_22 : decode cX9_entersPlaces 22 = .ok (.if_icmp .ge 24, 3) := by decide +kernel
theorem dX9_entersPlaces_25 : decode cX9_entersPlaces 25 = .ok (.aload_n 0, 1) := by decide +kernel
theorem dX9_entersPlaces_26 : decode cX9_entersPlaces 26 = .ok (.iload_n 2, 1) := by decide +kernel
theorem dX9_entersPlaces_27 : decode cX9_entersPlaces 27 = .ok (.invokevirtual 177, 3) := by decide +kernel
theorem dX9_entersPlaces_30 : decode cX9_entersPlaces 30 = .ok (.iload_n 1, 1) := by decide +kernel
theorem dX9_entersPlaces_31 : decode cX9_entersPlaces 31 = .ok (.if_icmp .ne 9, 3) := by decide +kernel
theorem dX9_entersPlaces_34 : decode cX9_entersPlaces 34 = .ok (.aload_n 0, 1) := by decide +kernel
theorem dX9_entersPlaces_35 : decode cX9_entersPlaces 35 = .ok (.iload_n 2, 1) := by decide +kernel
theorem dX9_entersPlaces_36 : decode cX9_entersPlaces 36 = .ok (.i2l, 1) := by decide +kernel
theorem dX9_entersPlaces_37 : decode cX9_entersPlaces 37 = .ok (.invokevirtual 180, 3) := by decide +kernel
theorem dX9_entersPlaces_40 : decode cX9_entersPlaces 40 = .ok (.iinc 2 1, 3) := by decide +kernel
theorem dX9_entersPlaces_43 : decode cX9_entersPlaces 43 = .ok (.goto (-26), 3) := by decide +kernel
theorem dX9_entersPlaces_46 : decode cX9_entersPlaces 46 = .ok (.iinc 1 1, 3) := by decide +kernel
theorem dX9_entersPlaces_49 : decode cX9_entersPlaces 49 = .ok (.goto (-42), 3) := by decide +kernel
theorem dX9_entersPlaces_52 : decode cX9_entersPlaces 52 = .ok (.return_, 1) := by decide +kernel
theorem dX9_sign_0 : decode cX9_sign 0 = .ok (.aload_n 0, 1) := by decide +kernel
theorem dX9_sign_1 : decode cX9_sign 1 = .ok (.iconst 0, 1) := by decide +kernel
theorem dX9_sign_2 : decode cX9_sign 2 = .ok (.putfield 77, 3) := by decide +kernel
theorem dX9_sign_5 : decode cX9_sign 5 = .ok (.aload_n 0, 1) := by decide +kernel
theorem dX9_sign_6 : decode cX9_sign 6 = .ok (.getfield 184, 3) := by decide +kernel
theorem dX9_sign_9 : decode cX9_sign 9 = .ok (.sipush 236, 3) := by decide +kernel
theorem dX9_sign_12 : decode cX9_sign 12 = .ok (.if_icmp .le 5, 3) := by decide +kernel
theorem dX9_sign_15 : decode cX9_sign 15 = .ok (.iconst (-1), 1) := by decide +kernel
theorem dX9_sign_16 : decode cX9_sign 16 = .ok (.ireturn, 1) := by decide +kernel
theorem dX9_sign_17 : decode cX9_sign 17 = .ok (.iconst 0, 1) := by decide +kernel
theorem dX9_sign_18 : decode cX9_sign 18 = .ok (.istore_n 2, 1) := by decide +kernel
theorem dX9_sign_19 : decode cX9_sign 19 = .ok (.iload_n 2, 1) := by decide +kernel
theorem dX9_sign_20 : decode cX9_sign 20 = .ok (.iconst 4, 1) := by decide +kernel
theorem dX9_sign_21 : decode cX9_sign 21 = .ok (.if_icmp .ge 33, 3) := by decide +kernel
theorem dX9_sign_24 : decode cX9_sign 24 = .ok (.aload_n 0, 1) := by decide +kernel
theorem dX9_sign_25 : decode cX9_sign 25 = .ok (.getfield 41, 3) := by decide +kernel
theorem dX9_sign_28 : decode cX9_sign 28 = .ok (.aload_n 0, 1) := by decide +kernel
theorem dX9_sign_29 : decode cX9_sign 29 = .ok (.getfield 184, 3) := by decide +kernel
theorem dX9_sign_32 : decode cX9_sign 32 = .ok (.iload_n 2, 1) := by decide +kernel
theorem dX9_sign_33 : decode cX9_sign 33 = .ok (.iadd, 1) := by decide +kernel
theorem dX9_sign_34 : decode cX9_sign 34 = .ok (.iload_n 1, 1) := by decide +kernel
theorem dX9_sign_35 : decode cX9_sign 35 = .ok (.bipush 24, 2) := by decide +kernel
theorem dX9_sign_37 : decode cX9_sign 37 = .ok (.bipush 8, 2) := by decide +kernel
theorem dX9_sign_39 : decode cX9_sign 39 = .ok (.iload_n 2, 1) := by decide +kernel
theorem dX9_sign_40 : decode cX9_sign 40 = .ok (.imul, 1) := by decide +kernel
theorem dX9_sign_41 : decode cX9_sign 41 = .ok (.isub, 1) := by decide +kernel
theorem dX9_sign_42 : decode cX9_sign 42 = .ok (.ishr, 1) := by decide +kernel
theorem dX9_sign_43 : decode cX9_sign 43 = .ok (.sipush 255, 3) := by decide +kernel
theorem dX9_sign_46 : decode cX9_sign 46 = .ok (.iand, 1) := by decide +kernel
theorem dX9_sign_47 : decode cX9_sign 47 = .ok (.iastore, 1) := by decide +kernel
theorem dX9_sign_48 : decode cX9_sign 48 = .ok (.iinc 2 1, 3) := by decide +kernel
theorem dX9_sign_51 : decode cX9_sign 51 = .ok (.goto (-32), 3) := by decide +kernel
theorem dX9_sign_54 : decode cX9_sign 54 = .ok (.aload_n 0, 1) := by decide +kernel
theorem dX9_sign_55 : decode cX9_sign 55 = .ok (.dup, 1) := by decide +kernel
theorem dX9_sign_56 : decode cX9_sign 56 = .ok (.getfield 184, 3) := by decide +kernel
theorem dX9_sign_59 : decode cX9_sign 59 = .ok (.iconst 4, 1) := by decide +kernel
theorem dX9_sign_60 : decode cX9_sign 60 = .ok (.iadd, 1) := by decide +kernel
theorem dX9_sign_61 : decode cX9_sign 61 = .ok (.putfield 184, 3) := by decide +kernel
theorem dX9_sign_64 : decode cX9_sign 64 = .ok (.aload_n 0, 1) := by decide +kernel
theorem dX9_sign_65 : decode cX9_sign 65 = .ok (.getfield 184, 3) := by decide +kernel
theorem dX9_sign_68 : decode cX9_sign 68 = .ok (.ireturn, 1) := by decide +kernel
theorem dX9_end_0 : decode cX9_end 0 = .ok (.aload_n 0, 1) := by decide +kernel
theorem dX9_end_1 : decode cX9_end 1 = .ok (.iconst 0, 1) := by decide +kernel
theorem dX9_end_2 : decode cX9_end 2 = .ok (.putfield 77, 3) := by decide +kernel
theorem dX9_end_5 : decode cX9_end 5 = .ok (.iload_n 1, 1) := by decide +kernel
theorem dX9_end_6 : decode cX9_end 6 = .ok (.i2l, 1) := by decide +kernel
theorem dX9_end_7 : decode cX9_end 7 = .ok (.lconst 0, 1) := by decide +kernel
theorem dX9_end_8 : decode cX9_end 8 = .ok (.aload_n 0, 1) := by decide +kernel
theorem dX9_end_9 : decode cX9_end 9 = .ok (.getfield 184, 3) := by decide +kernel
theorem dX9_end_12 : decode cX9_end 12 = .ok (.i2l, 1) := by decide +kernel
theorem dX9_end_13 : decode cX9_end 13 = .ok (.invokestatic 87, 3) := by decide +kernel
theorem dX9_end_16 : decode cX9_end 16 = .ok (.ifCond .ne 5, 3) := by decide +kernel
theorem dX9_end_19 : decode cX9_end 19 = .ok (.iconst 0, 1) := by decide +kernel
theorem dX9_end_20 : decode cX9_end 20 = .ok (.ireturn, 1) := by decide +kernel
theorem dX9_end_21 : decode cX9_end 21 = .ok (.aload_n 0, 1) := by decide +kernel
theorem dX9_end_22 : decode cX9_end 22 = .ok (.iload_n 1, 1) := by decide +kernel
theorem dX9_end_23 : decode cX9_end 23 = .ok (.putfield 184, 3) := by decide +kernel
theorem dX9_end_26 : decode cX9_end 26 = .ok (.iconst 1, 1) := by decide +kernel
theorem dX9_end_27 : decode cX9_end 27 = .ok (.ireturn, 1) := by decide +kernel
theorem dX9_takes_0 : decode cX9_takes 0 = .ok (.aload_n 0, 1) := by decide +kernel
theorem dX9_takes_1 : decode cX9_takes 1 = .ok (.getfield 187, 3) := by decide +kernel
theorem dX9_takes_4 : decode cX9_takes 4 = .ok (.aload_n 0, 1) := by decide +kernel
theorem dX9_takes_5 : decode cX9_takes 5 = .ok (.getfield 190, 3) := by decide +kernel
theorem dX9_takes_8 : decode cX9_takes 8 = .ok (.if_icmp .ge 16, 3) := by decide +kernel
theorem dX9_takes_11 : decode cX9_takes 11 = .ok (.aload_n 0, 1) := by decide +kernel
theorem dX9_takes_12 : decode cX9_takes 12 = .ok (.getfield 41, 3) := by decide +kernel
theorem dX9_takes_15 : decode cX9_takes 15 = .ok (.aload_n 0, 1) := by decide +kernel
theorem dX9_takes_16 : decode cX9_takes 16 = .ok (.getfield 187, 3) := by decide +kernel
theorem dX9_takes_19 : decode cX9_takes 19 = .ok (.iaload, 1) := by decide +kernel
theorem dX9_takes_20 : decode cX9_takes 20 = .ok (.iload_n 1, 1) := by decide +kernel
theorem dX9_takes_21 : decode cX9_takes 21 = .ok (.if_icmp .eq 5, 3) := by decide +kernel
theorem dX9_takes_24 : decode cX9_takes 24 = .ok (.iconst 0, 1) := by decide +kernel
theorem dX9_takes_25 : decode cX9_takes 25 = .ok (.ireturn, 1) := by decide +kernel
theorem dX9_takes_26 : decode cX9_takes 26 = .ok (.aload_n 0, 1) := by decide +kernel
theorem dX9_takes_27 : decode cX9_takes 27 = .ok (.dup, 1) := by decide +kernel
theorem dX9_takes_28 : decode cX9_takes 28 = .ok (.getfield 187, 3) := by decide +kernel
theorem dX9_takes_31 : decode cX9_takes 31 = .ok (.iconst 1, 1) := by decide +kernel
theorem dX9_takes_32 : decode cX9_takes 32 = .ok (.iadd, 1) := by decide +kernel
theorem dX9_takes_33 : decode cX9_takes 33 = .ok (.putfield 187, 3) := by decide +kernel
theorem dX9_takes_36 : decode cX9_takes 36 = .ok (.iconst 1, 1) := by decide +kernel
theorem dX9_takes_37 : decode cX9_takes 37 = .ok (.ireturn, 1) := by decide +kernel
theorem dX9_isDigit_0 : decode cX9_isDigit 0 = .ok (.aload_n 0, 1) := by decide +kernel
theorem dX9_isDigit_1 : decode cX9_isDigit 1 = .ok (.getfield 187, 3) := by decide +kernel
theorem dX9_isDigit_4 : decode cX9_isDigit 4 = .ok (.aload_n 0, 1) := by decide +kernel
theorem dX9_isDigit_5 : decode cX9_isDigit 5 = .ok (.getfield 190, 3) := by decide +kernel
theorem dX9_isDigit_8 : decode cX9_isDigit 8 = .ok (.if_icmp .ge 29, 3) := by decide +kernel
theorem dX9_isDigit_11 : decode cX9_isDigit 11 = .ok (.aload_n 0, 1) := by decide +kernel
theorem dX9_isDigit_12 : decode cX9_isDigit 12 = .ok (.getfield 41, 3) := by decide +kernel
theorem dX9_isDigit_15 : decode cX9_isDigit 15 = .ok (.aload_n 0, 1) := by decide +kernel
theorem dX9_isDigit_16 : decode cX9_isDigit 16 = .ok (.getfield 187, 3) := by decide +kernel
theorem dX9_isDigit_19 : decode cX9_isDigit 19 = .ok (.iaload, 1) := by decide +kernel
theorem dX9_isDigit_20 : decode cX9_isDigit 20 = .ok (.i2l, 1) := by decide +kernel
theorem dX9_isDigit_21 : decode cX9_isDigit 21 = .ok (.ldc2_w 193, 3) := by decide +kernel
theorem dX9_isDigit_24 : decode cX9_isDigit 24 = .ok (.ldc2_w 195, 3) := by decide +kernel
theorem dX9_isDigit_27 : decode cX9_isDigit 27 = .ok (.invokestatic 87, 3) := by decide +kernel
theorem dX9_isDigit_30 : decode cX9_isDigit 30 = .ok (.ifCond .eq 7, 3) := by decide +kernel
theorem dX9_isDigit_33 : decode cX9_isDigit 33 = .ok (.iconst 1, 1) := by decide +kernel
theorem dX9_isDigit_34 : decode cX9_isDigit 34 = .ok (.goto 4, 3) := by decide +kernel
theorem dX9_isDigit_37 : decode cX9_isDigit 37 = .ok (.iconst 0, 1) := by decide +kernel
theorem dX9_isDigit_38 : decode cX9_isDigit 38 = .ok (.ireturn, 1) := by decide +kernel
theorem dX9_readsNumber_0 : decode cX9_readsNumber 0 = .ok (.aload_n 0, 1) := by decide +kernel
theorem dX9_readsNumber_1 : decode cX9_readsNumber 1 = .ok (.invokevirtual 197, 3) := by decide +kernel
theorem dX9_readsNumber_4 : decode cX9_readsNumber 4 = .ok (.ifCond .ne 5, 3) := by decide +kernel
theorem dX9_readsNumber_7 : decode cX9_readsNumber 7 = .ok (.iconst 0, 1) := by decide +kernel
theorem dX9_readsNumber_8 : decode cX9_readsNumber 8 = .ok (.ireturn, 1) := by decide +kernel
theorem dX9_readsNumber_9 : decode cX9_readsNumber 9 = .ok (.aload_n 0, 1) := by decide +kernel
theorem dX9_readsNumber_10 : decode cX9_readsNumber 10 = .ok (.iconst 0, 1) := by decide +kernel
theorem dX9_readsNumber_11 : decode cX9_readsNumber 11 = .ok (.putfield 200, 3) := by decide +kernel
theorem dX9_readsNumber_14 : decode cX9_readsNumber 14 = .ok (.iconst 0, 1) := by decide +kernel
theorem dX9_readsNumber_15 : decode cX9_readsNumber 15 = .ok (.istore_n 3, 1) := by decide +kernel
theorem dX9_readsNumber_16 : decode cX9_readsNumber 16 = .ok (.aload_n 0, 1) := by decide +kernel
theorem dX9_readsNumber_17 : decode cX9_readsNumber 17 = .ok (.invokevirtual 197, 3) := by decide +kernel
theorem dX9_readsNumber_20 : decode cX9_readsNumber 20 = .ok (.ifCond .eq 59, 3) := by decide +kernel
theorem dX9_readsNumber_23 : decode cX9_readsNumber 23 = .ok (.iload_n 3, 1) := by decide +kernel
theorem dX9_readsNumber_24 : decode cX9_readsNumber 24 = .ok (.iconst 4, 1) := by decide +kernel
theorem dX9_readsNumber_25 : decode cX9_readsNumber 25 = .ok (.if_icmp .ge 54, 3) := by decide +kernel
theorem dX9_readsNumber_28 : decode cX9_readsNumber 28 = .ok (.iload_n 3, 1) := by decide +kernel
theorem dX9_readsNumber_29 : decode cX9_readsNumber 29 = .ok (.ifCond .eq 10, 3) := by decide +kernel
theorem dX9_readsNumber_32 : decode cX9_readsNumber 32 = .ok (.aload_n 0, 1) := by decide +kernel
theorem dX9_readsNumber_33 : decode cX9_readsNumber 33 = .ok (.getfield 200, 3) := by decide +kernel
theorem dX9_readsNumber_36 : decode cX9_readsNumber 36 = .ok (.ifCond .le 43, 3) := by decide +kernel
theorem dX9_readsNumber_39 : decode cX9_readsNumber 39 = .ok (.aload_n 0, 1) := by decide +kernel
theorem dX9_readsNumber_40 : decode cX9_readsNumber 40 = .ok (.bipush 10, 2) := by decide +kernel
theorem dX9_readsNumber_42 : decode cX9_readsNumber 42 = .ok (.aload_n 0, 1) := by decide +kernel
theorem dX9_readsNumber_43 : decode cX9_readsNumber 43 = .ok (.getfield 200, 3) := by decide +kernel
theorem dX9_readsNumber_46 : decode cX9_readsNumber 46 = .ok (.imul, 1) := by decide +kernel
theorem dX9_readsNumber_47 : decode cX9_readsNumber 47 = .ok (.aload_n 0, 1) := by decide +kernel
theorem dX9_readsNumber_48 : decode cX9_readsNumber 48 = .ok (.getfield 41, 3) := by decide +kernel
theorem dX9_readsNumber_51 : decode cX9_readsNumber 51 = .ok (.aload_n 0, 1) := by decide +kernel
theorem dX9_readsNumber_52 : decode cX9_readsNumber 52 = .ok (.getfield 187, 3) := by decide +kernel
theorem dX9_readsNumber_55 : decode cX9_readsNumber 55 = .ok (.iaload, 1) := by decide +kernel
theorem dX9_readsNumber_56 : decode cX9_readsNumber 56 = .ok (.iadd, 1) := by decide +kernel
theorem dX9_readsNumber_57 : decode cX9_readsNumber 57 = .ok (.bipush 48, 2) := by decide +kernel
theorem dX9_readsNumber_59 : decode cX9_readsNumber 59 = .ok (.isub, 1) := by decide +kernel
theorem dX9_readsNumber_60 : decode cX9_readsNumber 60 = .ok (.putfield 200, 3) := by decide +kernel
theorem dX9_readsNumber_63 : decode cX9_readsNumber 63 = .ok (.aload_n 0, 1) := by decide +kernel
theorem dX9_readsNumber_64 : decode cX9_readsNumber 64 = .ok (.dup, 1) := by decide +kernel
theorem dX9_readsNumber_65 : decode cX9_readsNumber 65 = .ok (.getfield 187, 3) := by decide +kernel
theorem dX9_readsNumber_68 : decode cX9_readsNumber 68 = .ok (.iconst 1, 1) := by decide +kernel
theorem dX9_readsNumber_69 : decode cX9_readsNumber 69 = .ok (.iadd, 1) := by decide +kernel
theorem dX9_readsNumber_70 : decode cX9_readsNumber 70 = .ok (.putfield 187, 3) := by decide +kernel
theorem dX9_readsNumber_73 : decode cX9_readsNumber 73 = .ok (.iinc 3 1, 3) := by decide +kernel
theorem dX9_readsNumber_76 : decode cX9_readsNumber 76 = .ok (.goto (-60), 3) := by decide +kernel
theorem dX9_readsNumber_79 : decode cX9_readsNumber 79 = .ok (.aload_n 0, 1) := by decide +kernel
theorem dX9_readsNumber_80 : decode cX9_readsNumber 80 = .ok (.getfield 200, 3) := by decide +kernel
theorem dX9_readsNumber_83 : decode cX9_readsNumber 83 = .ok (.i2l, 1) := by decide +kernel
theorem dX9_readsNumber_84 : decode cX9_readsNumber 84 = .ok (.iload_n 1, 1) := by decide +kernel
theorem dX9_readsNumber_85 : decode cX9_readsNumber 85 = .ok (.i2l, 1) := by decide +kernel
theorem dX9_readsNumber_86 : decode cX9_readsNumber 86 = .ok (.iload_n 2, 1) := by decide +kernel
theorem dX9_readsNumber_87 : decode cX9_readsNumber 87 = .ok (.i2l, 1) := by decide +kernel
theorem dX9_readsNumber_88 : decode cX9_readsNumber 88 = .ok (.invokestatic 87, 3) := by decide +kernel
theorem dX9_readsNumber_91 : decode cX9_readsNumber 91 = .ok (.ifCond .ne 15, 3) := by decide +kernel
theorem dX9_readsNumber_94 : decode cX9_readsNumber 94 = .ok (.aload_n 0, 1) := by decide +kernel
theorem dX9_readsNumber_95 : decode cX9_readsNumber 95 = .ok (.dup, 1) := by decide +kernel
theorem dX9_readsNumber_96 : decode cX9_readsNumber 96 = .ok (.getfield 187, 3) := by decide +kernel
theorem dX9_readsNumber_99 : decode cX9_readsNumber 99 = .ok (.iconst 1, 1) := by decide +kernel
theorem dX9_readsNumber_100 : decode cX9_readsNumber 100 = .ok (.isub, 1) := by decide +kernel
theorem dX9_readsNumber_101 : decode cX9_readsNumber 101 = .ok (.putfield 187, 3) := by decide +kernel
theorem dX9_readsNumber_104 : decode cX9_readsNumber 104 = .ok (.iconst 0, 1) := by decide +kernel
theorem dX9_readsNumber_105 : decode cX9_readsNumber 105 = .ok (.ireturn, 1) := by decide +kernel
theorem dX9_readsNumber_106 : decode cX9_readsNumber 106 = .ok (.iconst 1, 1) := by decide +kernel
theorem dX9_readsNumber_107 : decode cX9_readsNumber 107 = .ok (.ireturn, 1) := by decide +kernel
theorem dX9_takesNumber_0 : decode cX9_takesNumber 0 = .ok (.aload_n 0, 1) := by decide +kernel
theorem dX9_takesNumber_1 : decode cX9_takesNumber 1 = .ok (.iload_n 1, 1) := by decide +kernel
theorem dX9_takesNumber_2 : decode cX9_takesNumber 2 = .ok (.iload_n 2, 1) := by decide +kernel
theorem dX9_takesNumber_3 : decode cX9_takesNumber 3 = .ok (.invokevirtual 203, 3) := by decide +kernel
theorem dX9_takesNumber_6 : decode cX9_takesNumber 6 = .ok (.ifCond .eq 14, 3) := by decide +kernel
theorem dX9_takesNumber_9 : decode cX9_takesNumber 9 = .ok (.aload_n 0, 1) := by decide +kernel
theorem dX9_takesNumber_10 : decode cX9_takesNumber 10 = .ok (.invokevirtual 197, 3) := by decide +kernel
theorem dX9_takesNumber_13 : decode cX9_takesNumber 13 = .ok (.ifCond .ne 7, 3) := by decide +kernel
theorem dX9_takesNumber_16 : decode cX9_takesNumber 16 = .ok (.iconst 1, 1) := by decide +kernel
theorem dX9_takesNumber_17 : decode cX9_takesNumber 17 = .ok (.goto 4, 3) := by decide +kernel
theorem dX9_takesNumber_20 : decode cX9_takesNumber 20 = .ok (.iconst 0, 1) := by decide +kernel
theorem dX9_takesNumber_21 : decode cX9_takesNumber 21 = .ok (.ireturn, 1) := by decide +kernel
theorem dX9_takesLot_0 : decode cX9_takesLot 0 = .ok (.aload_n 0, 1) := by decide +kernel
theorem dX9_takesLot_1 : decode cX9_takesLot 1 = .ok (.iconst 0, 1) := by decide +kernel
theorem dX9_takesLot_2 : decode cX9_takesLot 2 = .ok (.bipush 99, 2) := by decide +kernel
theorem dX9_takesLot_4 : decode cX9_takesLot 4 = .ok (.invokevirtual 203, 3) := by decide +kernel
theorem dX9_takesLot_7 : decode cX9_takesLot 7 = .ok (.ifCond .ne 5, 3) := by decide +kernel
theorem dX9_takesLot_10 : decode cX9_takesLot 10 = .ok (.iconst 0, 1) := by decide +kernel
theorem dX9_takesLot_11 : decode cX9_takesLot 11 = .ok (.ireturn, 1) := by decide +kernel
theorem dX9_takesLot_12 : decode cX9_takesLot 12 = .ok (.iconst 0, 1) := by decide +kernel
theorem dX9_takesLot_13 : decode cX9_takesLot 13 = .ok (.istore_n 1, 1) := by decide +kernel
theorem dX9_takesLot_14 : decode cX9_takesLot 14 = .ok (.iload_n 1, 1) := by decide +kernel
theorem dX9_takesLot_15 : decode cX9_takesLot 15 = .ok (.aload_n 0, 1) := by decide +kernel
theorem dX9_takesLot_16 : decode cX9_takesLot 16 = .ok (.getfield 84, 3) := by decide +kernel
theorem dX9_takesLot_19 : decode cX9_takesLot 19 = .ok (.if_icmp .ge 34, 3) := by decide +kernel
theorem dX9_takesLot_22 : decode cX9_takesLot 22 = .ok (.aload_n 0, 1) := by decide +kernel
theorem dX9_takesLot_23 : decode cX9_takesLot 23 = .ok (.getfield 17, 3) := by decide +kernel
theorem dX9_takesLot_26 : decode cX9_takesLot 26 = .ok (.iload_n 1, 1) := by decide +kernel
theorem dX9_takesLot_27 : decode cX9_takesLot 27 = .ok (.iaload, 1) := by decide +kernel
theorem dX9_takesLot_28 : decode cX9_takesLot 28 = .ok (.aload_n 0, 1) := by decide +kernel
theorem dX9_takesLot_29 : decode cX9_takesLot 29 = .ok (.getfield 200, 3) := by decide +kernel
theorem dX9_takesLot_32 : decode cX9_takesLot 32 = .ok (.if_icmp .ne 15, 3) := by decide +kernel
theorem dX9_takesLot_35 : decode cX9_takesLot 35 = .ok (.aload_n 0, 1) := by decide +kernel
theorem dX9_takesLot_36 : decode cX9_takesLot 36 = .ok (.dup, 1) := by decide +kernel
theorem dX9_takesLot_37 : decode cX9_takesLot 37 = .ok (.getfield 187, 3) := by decide +kernel
theorem dX9_takesLot_40 : decode cX9_takesLot 40 = .ok (.iconst 1, 1) := by decide +kernel
theorem dX9_takesLot_41 : decode cX9_takesLot 41 = .ok (.isub, 1) := by decide +kernel
theorem dX9_takesLot_42 : decode cX9_takesLot 42 = .ok (.putfield 187, 3) := by decide +kernel
theorem dX9_takesLot_45 : decode cX9_takesLot 45 = .ok (.iconst 0, 1) := by decide +kernel
theorem dX9_takesLot_46 : decode cX9_takesLot 46 = .ok (.ireturn, 1) := by decide +kernel
theorem dX9_takesLot_47 : decode cX9_takesLot 47 = .ok (.iinc 1 1, 3) := by decide +kernel
theorem dX9_takesLot_50 : decode cX9_takesLot 50 = .ok (.goto (-36), 3) := by decide +kernel
theorem dX9_takesLot_53 : decode cX9_takesLot 53 = .ok (.iconst 1, 1) := by decide +kernel
theorem dX9_takesLot_54 : decode cX9_takesLot 54 = .ok (.ireturn, 1) := by decide +kernel
theorem dX9_takesTable_0 : decode cX9_takesTable 0 = .ok (.iconst 0, 1) := by decide +kernel
theorem dX9_takesTable_1 : decode cX9_takesTable 1 = .ok (.istore_n 2, 1) := by decide +kernel
theorem dX9_takesTable_2 : decode cX9_takesTable 2 = .ok (.iconst 1, 1) := by decide +kernel
theorem dX9_takesTable_3 : decode cX9_takesTable 3 = .ok (.istore_n 3, 1) := by decide +kernel
theorem dX9_takesTable_4 : decode cX9_takesTable 4 = .ok (.iload_n 3, 1) := by decide +kernel
theorem dX9_takesTable_5 : decode cX9_takesTable 5 = .ok (.ifCond .eq 128, 3) := by decide +kernel
theorem dX9_takesTable_8 : decode cX9_takesTable 8 = .ok (.bipush 6, 2) := by decide +kernel
theorem dX9_takesTable_10 : decode cX9_takesTable 10 = .ok (.iload_n 1, 1) := by decide +kernel
theorem dX9_takesTable_11 : decode cX9_takesTable 11 = .ok (.imul, 1) := by decide +kernel
theorem dX9_takesTable_12 : decode cX9_takesTable 12 = .ok (.iload_n 2, 1) := by decide +kernel
theorem dX9_takesTable_13 : decode cX9_takesTable 13 = .ok (.iadd, 1) := by decide +kernel
theorem dX9_takesTable_14 : decode cX9_takesTable 14 = .ok (.istore 4, 2) := by decide +kernel
theorem dX9_takesTable_16 : decode cX9_takesTable 16 = .ok (.aload_n 0, 1) := by decide +kernel
theorem dX9_takesTable_17 : decode cX9_takesTable 17 = .ok (.iload_n 2, 1) := by decide +kernel
theorem dX9_takesTable_18 : decode cX9_takesTable 18 = .ok (.ifCond .ne 7, 3) := by decide +kernel
theorem dX9_takesTable_21 : decode cX9_takesTable 21 = .ok (.iconst 1, 1) := by decide +kernel
theorem dX9_takesTable_22 : decode cX9_takesTable 22 = .ok (.goto 14, 3) := by decide +kernel
theorem dX9_takesTable_25 : decode cX9_takesTable 25 = .ok (.aload_n 0, 1) := by decide +kernel
theorem dX9_takesTable_26 : decode cX9_takesTable 26 = .ok (.getfield 47, 3) := by decide +kernel
theorem dX9_takesTable_29 : decode cX9_takesTable 29 = .ok (.iload 4, 2) := by decide +kernel
theorem dX9_takesTable_31 : decode cX9_takesTable 31 = .ok (.iconst 1, 1) := by decide +kernel
theorem dX9_takesTable_32 : decode cX9_takesTable 32 = .ok (.isub, 1) := by decide +kernel
theorem dX9_takesTable_33 : decode cX9_takesTable 33 = .ok (.iaload, 1) := by decide +kernel
theorem dX9_takesTable_34 : decode cX9_takesTable 34 = .ok (.iconst 1, 1) := by decide +kernel
theorem dX9_takesTable_35 : decode cX9_takesTable 35 = .ok (.iadd, 1) := by decide +kernel
theorem dX9_takesTable_36 : decode cX9_takesTable 36 = .ok (.bipush 40, 2) := by decide +kernel
theorem dX9_takesTable_38 : decode cX9_takesTable 38 = .ok (.invokevirtual 206, 3) := by decide +kernel
theorem dX9_takesTable_41 : decode cX9_takesTable 41 = .ok (.ifCond .ne 5, 3) := by decide +kernel
theorem dX9_takesTable_44 : decode cX9_takesTable 44 = .ok (.iconst 0, 1) := by decide +kernel
theorem dX9_takesTable_45 : decode cX9_takesTable 45 = .ok (.ireturn, 1) := by decide +kernel
theorem dX9_takesTable_46 : decode cX9_takesTable 46 = .ok (.aload_n 0, 1) := by decide +kernel
theorem dX9_takesTable_47 : decode cX9_takesTable 47 = .ok (.getfield 47, 3) := by decide +kernel
theorem dX9_takesTable_50 : decode cX9_takesTable 50 = .ok (.iload 4, 2) := by decide +kernel
theorem dX9_takesTable_52 : decode cX9_takesTable 52 = .ok (.aload_n 0, 1) := by decide +kernel
theorem dX9_takesTable_53 : decode cX9_takesTable 53 = .ok (.getfield 200, 3) := by decide +kernel
theorem dX9_takesTable_56 : decode cX9_takesTable 56 = .ok (.iastore, 1) := by decide +kernel
theorem dX9_takesTable_57 : decode cX9_takesTable 57 = .ok (.aload_n 0, 1) := by decide +kernel
theorem dX9_takesTable_58 : decode cX9_takesTable 58 = .ok (.bipush 61, 2) := by decide +kernel
theorem dX9_takesTable_60 : decode cX9_takesTable 60 = .ok (.invokevirtual 209, 3) := by decide +kernel
theorem dX9_takesTable_63 : decode cX9_takesTable 63 = .ok (.ifCond .eq 30, 3) := by decide +kernel
theorem dX9_takesTable_66 : decode cX9_takesTable 66 = .ok (.aload_n 0, 1) := by decide +kernel
theorem dX9_takesTable_67 : decode cX9_takesTable 67 = .ok (.iconst 0, 1) := by decide +kernel
theorem dX9_takesTable_68 : decode cX9_takesTable 68 = .ok (.iload_n 2, 1) := by decide +kernel
theorem dX9_takesTable_69 : decode cX9_takesTable 69 = .ok (.ifCond .ne 9, 3) := by decide +kernel
theorem dX9_takesTable_72 : decode cX9_takesTable 72 = .ok (.sipush 1000, 3) := by decide +kernel
theorem dX9_takesTable_75 : decode cX9_takesTable 75 = .ok (.goto 12, 3) := by decide +kernel
theorem dX9_takesTable_78 : decode cX9_takesTable 78 = .ok (.aload_n 0, 1) := by decide +kernel
theorem dX9_takesTable_79 : decode cX9_takesTable 79 = .ok (.getfield 50, 3) := by decide +kernel
theorem dX9_takesTable_82 : decode cX9_takesTable 82 = .ok (.iload 4, 2) := by decide +kernel
theorem dX9_takesTable_84 : decode cX9_takesTable 84 = .ok (.iconst 1, 1) := by decide +kernel
theorem dX9_takesTable_85 : decode cX9_takesTable 85 = .ok (.isub, 1) := by decide +kernel
theorem dX9_takesTable_86 : decode cX9_takesTable 86 = .ok (.iaload, 1) := by decide +kernel
theorem dX9_takesTable_87 : decode cX9_takesTable 87 = .ok (.invokevirtual 206, 3) := by decide +kernel
theorem dX9_takesTable_90 : decode cX9_takesTable 90 = .ok (.ifCond .ne 5, 3) := by decide +kernel
theorem dX9_takesTable_93 : decode cX9_takesTable 93 = .ok (.iconst 0, 1) := by decide +kernel
theorem dX9_takesTable_94 : decode cX9_takesTable 94 = .ok (.ireturn, 1) := by decide +kernel
theorem dX9_takesTable_95 : decode cX9_takesTable 95 = .ok (.aload_n 0, 1) := by decide +kernel
theorem dX9_takesTable_96 : decode cX9_takesTable 96 = .ok (.getfield 50, 3) := by decide +kernel
theorem dX9_takesTable_99 : decode cX9_takesTable 99 = .ok (.iload 4, 2) := by decide +kernel
theorem dX9_takesTable_101 : decode cX9_takesTable 101 = .ok (.aload_n 0, 1) := by decide +kernel
theorem dX9_takesTable_102 : decode cX9_takesTable 102 = .ok (.getfield 200, 3) := by decide +kernel
theorem dX9_takesTable_105 : decode cX9_takesTable 105 = .ok (.iastore, 1) := by decide +kernel
theorem dX9_takesTable_106 : decode cX9_takesTable 106 = .ok (.iinc 2 1, 3) := by decide +kernel
theorem dX9_takesTable_109 : decode cX9_takesTable 109 = .ok (.iload_n 2, 1) := by decide +kernel
theorem dX9_takesTable_110 : decode cX9_takesTable 110 = .ok (.bipush 6, 2) := by decide +kernel
theorem dX9_takesTable_112 : decode cX9_takesTable 112 = .ok (.if_icmp .ge 16, 3) := by decide +kernel
theorem dX9_takesTable_115 : decode cX9_takesTable 115 = .ok (.aload_n 0, 1) := by decide +kernel
theorem dX9_takesTable_116 : decode cX9_takesTable 116 = .ok (.bipush 44, 2) := by decide +kernel
theorem dX9_takesTable_118 : decode cX9_takesTable 118 = .ok (.invokevirtual 209, 3) := by decide +kernel
theorem dX9_takesTable_121 : decode cX9_takesTable 121 = .ok (.ifCond .eq 7, 3) := by decide +kernel
theorem dX9_takesTable_124 : decode cX9_takesTable 124 = .ok (.iconst 1, 1) := by decide +kernel
theorem dX9_takesTable_125 : decode cX9_takesTable 125 = .ok (.goto 4, 3) := by decide +kernel
theorem dX9_takesTable_128 : decode cX9_takesTable 128 = .ok (.iconst 0, 1) := by decide +kernel
theorem dX9_takesTable_129 : decode cX9_takesTable 129 = .ok (.istore_n 3, 1) := by decide +kernel
theorem dX9_takesTable_130 : decode cX9_takesTable 130 = .ok (.goto (-126), 3) := by decide +kernel
theorem dX9_takesTable_133 : decode cX9_takesTable 133 = .ok (.aload_n 0, 1) := by decide +kernel
theorem dX9_takesTable_134 : decode cX9_takesTable 134 = .ok (.getfield 44, 3) := by decide +kernel
theorem dX9_takesTable_137 : decode cX9_takesTable 137 = .ok (.iload_n 1, 1) := by decide +kernel
theorem dX9_takesTable_138 : decode cX9_takesTable 138 = .ok (.iload_n 2, 1) := by decide +kernel
theorem dX9_takesTable_139 : decode cX9_takesTable 139 = .ok (.iastore, 1) := by decide +kernel
theorem dX9_takesTable_140 : decode cX9_takesTable 140 = .ok (.iconst 1, 1) := by decide +kernel
theorem dX9_takesTable_141 : decode cX9_takesTable 141 = .ok (.ireturn, 1) := by decide +kernel
theorem dX9_takesPlan_0 : decode cX9_takesPlan 0 = .ok (.aload_n 0, 1) := by decide +kernel
theorem dX9_takesPlan_1 : decode cX9_takesPlan 1 = .ok (.bipush 47, 2) := by decide +kernel
theorem dX9_takesPlan_3 : decode cX9_takesPlan 3 = .ok (.invokevirtual 209, 3) := by decide +kernel
theorem dX9_takesPlan_6 : decode cX9_takesPlan 6 = .ok (.ifCond .eq 13, 3) := by decide +kernel
theorem dX9_takesPlan_9 : decode cX9_takesPlan 9 = .ok (.aload_n 0, 1) := by decide +kernel
theorem dX9_takesPlan_10 : decode cX9_takesPlan 10 = .ok (.iconst 1, 1) := by decide +kernel
theorem dX9_takesPlan_11 : decode cX9_takesPlan 11 = .ok (.bipush 40, 2) := by decide +kernel
theorem dX9_takesPlan_13 : decode cX9_takesPlan 13 = .ok (.invokevirtual 206, 3) := by decide +kernel
theorem dX9_takesPlan_16 : decode cX9_takesPlan 16 = .ok (.ifCond .ne 5, 3) := by decide +kernel
theorem dX9_takesPlan_19 : decode cX9_takesPlan 19 = .ok (.iconst 0, 1) := by decide +kernel
theorem dX9_takesPlan_20 : decode cX9_takesPlan 20 = .ok (.ireturn, 1) := by decide +kernel
theorem dX9_takesPlan_21 : decode cX9_takesPlan 21 = .ok (.aload_n 0, 1) := by decide +kernel
theorem dX9_takesPlan_22 : decode cX9_takesPlan 22 = .ok (.getfield 53, 3) := by decide +kernel
theorem dX9_takesPlan_25 : decode cX9_takesPlan 25 = .ok (.iconst 3, 1) := by decide +kernel
theorem dX9_takesPlan_26 : decode cX9_takesPlan 26 = .ok (.iload_n 1, 1) := by decide +kernel
theorem dX9_takesPlan_27 : decode cX9_takesPlan 27 = .ok (.imul, 1) := by decide +kernel
theorem dX9_takesPlan_28 : decode cX9_takesPlan 28 = .ok (.aload_n 0, 1) := by decide +kernel
theorem dX9_takesPlan_29 : decode cX9_takesPlan 29 = .ok (.getfield 200, 3) := by decide +kernel
theorem dX9_takesPlan_32 : decode cX9_takesPlan 32 = .ok (.iastore, 1) := by decide +kernel
theorem dX9_takesPlan_33 : decode cX9_takesPlan 33 = .ok (.aload_n 0, 1) := by decide +kernel
theorem dX9_takesPlan_34 : decode cX9_takesPlan 34 = .ok (.bipush 43, 2) := by decide +kernel
theorem dX9_takesPlan_36 : decode cX9_takesPlan 36 = .ok (.invokevirtual 209, 3) := by decide +kernel
theorem dX9_takesPlan_39 : decode cX9_takesPlan 39 = .ok (.ifCond .eq 13, 3) := by decide +kernel
theorem dX9_takesPlan_42 : decode cX9_takesPlan 42 = .ok (.aload_n 0, 1) := by decide +kernel
theorem dX9_takesPlan_43 : decode cX9_takesPlan 43 = .ok (.iconst 1, 1) := by decide +kernel
theorem dX9_takesPlan_44 : decode cX9_takesPlan 44 = .ok (.bipush 9, 2) := by decide +kernel
theorem dX9_takesPlan_46 : decode cX9_takesPlan 46 = .ok (.invokevirtual 206, 3) := by decide +kernel
theorem dX9_takesPlan_49 : decode cX9_takesPlan 49 = .ok (.ifCond .ne 5, 3) := by decide +kernel
theorem dX9_takesPlan_52 : decode cX9_takesPlan 52 = .ok (.iconst 0, 1) := by decide +kernel
theorem dX9_takesPlan_53 : decode cX9_takesPlan 53 = .ok (.ireturn, 1) := by decide +kernel
theorem dX9_takesPlan_54 : decode cX9_takesPlan 54 = .ok (.aload_n 0, 1) := by decide +kernel
theorem dX9_takesPlan_55 : decode cX9_takesPlan 55 = .ok (.getfield 53, 3) := by decide +kernel
theorem dX9_takesPlan_58 : decode cX9_takesPlan 58 = .ok (.iconst 3, 1) := by decide +kernel
theorem dX9_takesPlan_59 : decode cX9_takesPlan 59 = .ok (.iload_n 1, 1) := by decide +kernel
theorem dX9_takesPlan_60 : decode cX9_takesPlan 60 = .ok (.imul, 1) := by decide +kernel
theorem dX9_takesPlan_61 : decode cX9_takesPlan 61 = .ok (.iconst 1, 1) := by decide +kernel
theorem dX9_takesPlan_62 : decode cX9_takesPlan 62 = .ok (.iadd, 1) := by decide +kernel
theorem dX9_takesPlan_63 : decode cX9_takesPlan 63 = .ok (.aload_n 0, 1) := by decide +kernel
theorem dX9_takesPlan_64 : decode cX9_takesPlan 64 = .ok (.getfield 200, 3) := by decide +kernel
theorem dX9_takesPlan_67 : decode cX9_takesPlan 67 = .ok (.iastore, 1) := by decide +kernel
theorem dX9_takesPlan_68 : decode cX9_takesPlan 68 = .ok (.aload_n 0, 1) := by decide +kernel
theorem dX9_takesPlan_69 : decode cX9_takesPlan 69 = .ok (.bipush 43, 2) := by decide +kernel
theorem dX9_takesPlan_71 : decode cX9_takesPlan 71 = .ok (.invokevirtual 209, 3) := by decide +kernel
theorem dX9_takesPlan_74 : decode cX9_takesPlan 74 = .ok (.ifCond .eq 13, 3) := by decide +kernel
theorem dX9_takesPlan_77 : decode cX9_takesPlan 77 = .ok (.aload_n 0, 1) := by decide +kernel
theorem dX9_takesPlan_78 : decode cX9_takesPlan 78 = .ok (.iconst 0, 1) := by decide +kernel
theorem dX9_takesPlan_79 : decode cX9_takesPlan 79 = .ok (.bipush 9, 2) := by decide +kernel
theorem dX9_takesPlan_81 : decode cX9_takesPlan 81 = .ok (.invokevirtual 206, 3) := by decide +kernel
theorem dX9_takesPlan_84 : decode cX9_takesPlan 84 = .ok (.ifCond .ne 5, 3) := by decide +kernel
theorem dX9_takesPlan_87 : decode cX9_takesPlan 87 = .ok (.iconst 0, 1) := by decide +kernel
theorem dX9_takesPlan_88 : decode cX9_takesPlan 88 = .ok (.ireturn, 1) := by decide +kernel
theorem dX9_takesPlan_89 : decode cX9_takesPlan 89 = .ok (.aload_n 0, 1) := by decide +kernel
theorem dX9_takesPlan_90 : decode cX9_takesPlan 90 = .ok (.getfield 53, 3) := by decide +kernel
theorem dX9_takesPlan_93 : decode cX9_takesPlan 93 = .ok (.iconst 3, 1) := by decide +kernel
theorem dX9_takesPlan_94 : decode cX9_takesPlan 94 = .ok (.iload_n 1, 1) := by decide +kernel
theorem dX9_takesPlan_95 : decode cX9_takesPlan 95 = .ok (.imul, 1) := by decide +kernel
theorem dX9_takesPlan_96 : decode cX9_takesPlan 96 = .ok (.iconst 2, 1) := by decide +kernel
theorem dX9_takesPlan_97 : decode cX9_takesPlan 97 = .ok (.iadd, 1) := by decide +kernel
theorem dX9_takesPlan_98 : decode cX9_takesPlan 98 = .ok (.aload_n 0, 1) := by decide +kernel
theorem dX9_takesPlan_99 : decode cX9_takesPlan 99 = .ok (.getfield 200, 3) := by decide +kernel
theorem dX9_takesPlan_102 : decode cX9_takesPlan 102 = .ok (.iastore, 1) := by decide +kernel
theorem dX9_takesPlan_103 : decode cX9_takesPlan 103 = .ok (.iconst 1, 1) := by decide +kernel
theorem dX9_takesPlan_104 : decode cX9_takesPlan 104 = .ok (.ireturn, 1) := by decide +kernel
theorem dX9_takesLifter_0 : decode cX9_takesLifter 0 = .ok (.aload_n 0, 1) := by decide +kernel
theorem dX9_takesLifter_1 : decode cX9_takesLifter 1 = .ok (.iconst 1, 1) := by decide +kernel
theorem dX9_takesLifter_2 : decode cX9_takesLifter 2 = .ok (.sipush 200, 3) := by decide +kernel
theorem dX9_takesLifter_5 : decode cX9_takesLifter 5 = .ok (.invokevirtual 206, 3) := by decide +kernel
theorem dX9_takesLifter_8 : decode cX9_takesLifter 8 = .ok (.ifCond .ne 5, 3) := by decide +kernel
theorem dX9_takesLifter_11 : decode cX9_takesLifter 11 = .ok (.iconst 0, 1) := by decide +kernel
theorem dX9_takesLifter_12 : decode cX9_takesLifter 12 = .ok (.ireturn, 1) := by decide +kernel
theorem dX9_takesLifter_13 : decode cX9_takesLifter 13 = .ok (.aload_n 0, 1) := by decide +kernel
theorem dX9_takesLifter_14 : decode cX9_takesLifter 14 = .ok (.aload_n 0, 1) := by decide +kernel
theorem dX9_takesLifter_15 : decode cX9_takesLifter 15 = .ok (.getfield 200, 3) := by decide +kernel
theorem dX9_takesLifter_18 : decode cX9_takesLifter 18 = .ok (.putfield 212, 3) := by decide +kernel
theorem dX9_takesLifter_21 : decode cX9_takesLifter 21 = .ok (.aload_n 0, 1) := by decide +kernel
theorem dX9_takesLifter_22 : decode cX9_takesLifter 22 = .ok (.bipush 44, 2) := by decide +kernel
theorem dX9_takesLifter_24 : decode cX9_takesLifter 24 = .ok (.invokevirtual 209, 3) := by decide +kernel
theorem dX9_takesLifter_27 : decode cX9_takesLifter 27 = .ok (.ifCond .eq 10, 3) := by decide +kernel
theorem dX9_takesLifter_30 : decode cX9_takesLifter 30 = .ok (.aload_n 0, 1) := by decide +kernel
theorem dX9_takesLifter_31 : decode cX9_takesLifter 31 = .ok (.invokevirtual 215, 3) := by decide +kernel
theorem dX9_takesLifter_34 : decode cX9_takesLifter 34 = .ok (.ifCond .ne 5, 3) := by decide +kernel
theorem dX9_takesLifter_37 : decode cX9_takesLifter 37 = .ok (.iconst 0, 1) := by decide +kernel
theorem dX9_takesLifter_38 : decode cX9_takesLifter 38 = .ok (.ireturn, 1) := by decide +kernel
theorem dX9_takesLifter_39 : decode cX9_takesLifter 39 = .ok (.aload_n 0, 1) := by decide +kernel
theorem dX9_takesLifter_40 : decode cX9_takesLifter 40 = .ok (.aload_n 0, 1) := by decide +kernel
theorem dX9_takesLifter_41 : decode cX9_takesLifter 41 = .ok (.getfield 200, 3) := by decide +kernel
theorem dX9_takesLifter_44 : decode cX9_takesLifter 44 = .ok (.putfield 218, 3) := by decide +kernel
theorem dX9_takesLifter_47 : decode cX9_takesLifter 47 = .ok (.iconst 0, 1) := by decide +kernel
theorem dX9_takesLifter_48 : decode cX9_takesLifter 48 = .ok (.istore_n 1, 1) := by decide +kernel
theorem dX9_takesLifter_49 : decode cX9_takesLifter 49 = .ok (.iload_n 1, 1) := by decide +kernel
theorem dX9_takesLifter_50 : decode cX9_takesLifter 50 = .ok (.iconst 3, 1) := by decide +kernel
theorem dX9_takesLifter_51 : decode cX9_takesLifter 51 = .ok (.if_icmp .ge 36, 3) := by decide +kernel
theorem dX9_takesLifter_54 : decode cX9_takesLifter 54 = .ok (.aload_n 0, 1) := by decide +kernel
theorem dX9_takesLifter_55 : decode cX9_takesLifter 55 = .ok (.bipush 59, 2) := by decide +kernel
theorem dX9_takesLifter_57 : decode cX9_takesLifter 57 = .ok (.invokevirtual 209, 3) := by decide +kernel
theorem dX9_takesLifter_60 : decode cX9_takesLifter 60 = .ok (.ifCond .eq 19, 3) := by decide +kernel
theorem dX9_takesLifter_63 : decode cX9_takesLifter 63 = .ok (.aload_n 0, 1) := by decide +kernel
theorem dX9_takesLifter_64 : decode cX9_takesLifter 64 = .ok (.iload_n 1, 1) := by decide +kernel
theorem dX9_takesLifter_65 : decode cX9_takesLifter 65 = .ok (.invokevirtual 221, 3) := by decide +kernel
theorem dX9_takesLifter_68 : decode cX9_takesLifter 68 = .ok (.ifCond .eq 11, 3) := by decide +kernel
theorem dX9_takesLifter_71 : decode cX9_takesLifter 71 = .ok (.aload_n 0, 1) := by decide +kernel
theorem dX9_takesLifter_72 : decode cX9_takesLifter 72 = .ok (.iload_n 1, 1) := by decide +kernel
theorem dX9_takesLifter_73 : decode cX9_takesLifter 73 = .ok (.invokevirtual 224, 3) := by decide +kernel
theorem dX9_takesLifter_76 : decode cX9_takesLifter 76 = .ok (.ifCond .ne 5, 3) := by decide +kernel
theorem dX9_takesLifter_79 : decode cX9_takesLifter 79 = .ok (.iconst 0, 1) := by decide +kernel
theorem dX9_takesLifter_80 : decode cX9_takesLifter 80 = .ok (.ireturn, 1) := by decide +kernel
theorem dX9_takesLifter_81 : decode cX9_takesLifter 81 = .ok (.iinc 1 1, 3) := by decide +kernel
theorem dX9_takesLifter_84 : decode cX9_takesLifter 84 = .ok (.goto (-35), 3) := by decide +kernel
theorem dX9_takesLifter_87 : decode cX9_takesLifter 87 = .ok (.aload_n 0, 1) := by decide +kernel
theorem dX9_takesLifter_88 : decode cX9_takesLifter 88 = .ok (.getfield 187, 3) := by decide +kernel
theorem dX9_takesLifter_91 : decode cX9_takesLifter 91 = .ok (.aload_n 0, 1) := by decide +kernel
theorem dX9_takesLifter_92 : decode cX9_takesLifter 92 = .ok (.getfield 190, 3) := by decide +kernel
theorem dX9_takesLifter_95 : decode cX9_takesLifter 95 = .ok (.if_icmp .ne 7, 3) := by decide +kernel
theorem dX9_takesLifter_98 : decode cX9_takesLifter 98 = .ok (.iconst 1, 1) := by decide +kernel
theorem dX9_takesLifter_99 : decode cX9_takesLifter 99 = .ok (.goto 4, 3) := by decide +kernel
theorem dX9_takesLifter_102 : decode cX9_takesLifter 102 = .ok (.iconst 0, 1) := by decide +kernel
theorem dX9_takesLifter_103 : decode cX9_takesLifter 103 = .ok (.ireturn, 1) := by decide +kernel
theorem dX9_enters_0 : decode cX9_enters 0 = .ok (.aload_n 0, 1) := by decide +kernel
theorem dX9_enters_1 : decode cX9_enters 1 = .ok (.iconst 0, 1) := by decide +kernel
theorem dX9_enters_2 : decode cX9_enters 2 = .ok (.putfield 77, 3) := by decide +kernel
theorem dX9_enters_5 : decode cX9_enters 5 = .ok (.aload_n 0, 1) := by decide +kernel
theorem dX9_enters_6 : decode cX9_enters 6 = .ok (.aload_n 0, 1) := by decide +kernel
theorem dX9_enters_7 : decode cX9_enters 7 = .ok (.getfield 184, 3) := by decide +kernel
theorem dX9_enters_10 : decode cX9_enters 10 = .ok (.putfield 190, 3) := by decide +kernel
theorem dX9_enters_13 : decode cX9_enters 13 = .ok (.aload_n 0, 1) := by decide +kernel
theorem dX9_enters_14 : decode cX9_enters 14 = .ok (.iconst 0, 1) := by decide +kernel
theorem dX9_enters_15 : decode cX9_enters 15 = .ok (.putfield 184, 3) := by decide +kernel
theorem dX9_enters_18 : decode cX9_enters 18 = .ok (.aload_n 0, 1) := by decide +kernel
theorem dX9_enters_19 : decode cX9_enters 19 = .ok (.iconst 0, 1) := by decide +kernel
theorem dX9_enters_20 : decode cX9_enters 20 = .ok (.putfield 187, 3) := by decide +kernel
theorem dX9_enters_23 : decode cX9_enters 23 = .ok (.aload_n 0, 1) := by decide +kernel
theorem dX9_enters_24 : decode cX9_enters 24 = .ok (.invokevirtual 227, 3) := by decide +kernel
theorem dX9_enters_27 : decode cX9_enters 27 = .ok (.ifCond .ne 11, 3) := by decide +kernel
theorem dX9_enters_30 : decode cX9_enters 30 = .ok (.bipush (-21), 2) := by decide +kernel
theorem dX9_enters_32 : decode cX9_enters 32 = .ok (.aload_n 0, 1) := by decide +kernel
theorem dX9_enters_33 : decode cX9_enters 33 = .ok (.getfield 187, 3) := by decide +kernel
theorem dX9_enters_36 : decode cX9_enters 36 = .ok (.isub, 1) := by decide +kernel
theorem dX9_enters_37 : decode cX9_enters 37 = .ok (.ireturn, 1) := by decide +kernel
theorem dX9_enters_38 : decode cX9_enters 38 = .ok (.aload_n 0, 1) := by decide +kernel
theorem dX9_enters_39 : decode cX9_enters 39 = .ok (.getfield 84, 3) := by decide +kernel
theorem dX9_enters_42 : decode cX9_enters 42 = .ok (.bipush 6, 2) := by decide +kernel
theorem dX9_enters_44 : decode cX9_enters 44 = .ok (.if_icmp .ne 6, 3) := by decide +kernel
theorem dX9_enters_47 : decode cX9_enters 47 = .ok (.bipush (-2), 2) := by decide +kernel
theorem dX9_enters_49 : decode cX9_enters 49 = .ok (.ireturn, 1) := by decide +kernel
theorem dX9_enters_50 : decode cX9_enters 50 = .ok (.aload_n 0, 1) := by decide +kernel
theorem dX9_enters_51 : decode cX9_enters 51 = .ok (.getfield 13, 3) := by decide +kernel
theorem dX9_enters_54 : decode cX9_enters 54 = .ok (.aload_n 0, 1) := by decide +kernel
theorem dX9_enters_55 : decode cX9_enters 55 = .ok (.getfield 84, 3) := by decide +kernel
theorem dX9_enters_58 : decode cX9_enters 58 = .ok (.aload_n 0, 1) := by decide +kernel
theorem dX9_enters_59 : decode cX9_enters 59 = .ok (.getfield 212, 3) := by decide +kernel
theorem dX9_enters_62 : decode cX9_enters 62 = .ok (.iastore, 1) := by decide +kernel
theorem dX9_enters_63 : decode cX9_enters 63 = .ok (.aload_n 0, 1) := by decide +kernel
theorem dX9_enters_64 : decode cX9_enters 64 = .ok (.getfield 17, 3) := by decide +kernel
theorem dX9_enters_67 : decode cX9_enters 67 = .ok (.aload_n 0, 1) := by decide +kernel
theorem dX9_enters_68 : decode cX9_enters 68 = .ok (.getfield 84, 3) := by decide +kernel
theorem dX9_enters_71 : decode cX9_enters 71 = .ok (.aload_n 0, 1) := by decide +kernel
theorem dX9_enters_72 : decode cX9_enters 72 = .ok (.getfield 218, 3) := by decide +kernel
theorem dX9_enters_75 : decode cX9_enters 75 = .ok (.iastore, 1) := by decide +kernel
theorem dX9_enters_76 : decode cX9_enters 76 = .ok (.iconst 0, 1) := by decide +kernel
theorem dX9_enters_77 : decode cX9_enters 77 = .ok (.istore_n 1, 1) := by decide +kernel
theorem dX9_enters_78 : decode cX9_enters 78 = .ok (.iload_n 1, 1) := by decide +kernel
theorem dX9_enters_79 : decode cX9_enters 79 = .ok (.iconst 3, 1) := by decide +kernel
theorem dX9_enters_80 : decode cX9_enters 80 = .ok (.if_icmp .ge 140, 3) := by decide +kernel
theorem dX9_enters_83 : decode cX9_enters 83 = .ok (.aload_n 0, 1) := by decide +kernel
theorem dX9_enters_84 : decode cX9_enters 84 = .ok (.getfield 20, 3) := by decide +kernel
theorem dX9_enters_87 : decode cX9_enters 87 = .ok (.iconst 3, 1) := by decide +kernel
theorem dX9_enters_88 : decode cX9_enters 88 = .ok (.aload_n 0, 1) := by decide +kernel
theorem dX9_enters_89 : decode cX9_enters 89 = .ok (.getfield 84, 3) := by decide +kernel
theorem dX9_enters_92 : decode cX9_enters 92 = .ok (.imul, 1) := by decide +kernel
theorem dX9_enters_93 : decode cX9_enters 93 = .ok (.iload_n 1, 1) := by decide +kernel
theorem dX9_enters_94 : decode cX9_enters 94 = .ok (.iadd, 1) := by decide +kernel
theorem dX9_enters_95 : decode cX9_enters 95 = .ok (.aload_n 0, 1) := by decide +kernel
theorem dX9_enters_96 : decode cX9_enters 96 = .ok (.getfield 44, 3) := by decide +kernel
theorem dX9_enters_99 : decode cX9_enters 99 = .ok (.iload_n 1, 1) := by decide +kernel
theorem dX9_enters_100 : decode cX9_enters 100 = .ok (.iaload, 1) := by decide +kernel
theorem dX9_enters_101 : decode cX9_enters 101 = .ok (.iastore, 1) := by decide +kernel
theorem dX9_enters_102 : decode cX9_enters 102 = .ok (.iconst 0, 1) := by decide +kernel
theorem dX9_enters_103 : decode cX9_enters 103 = .ok (.istore_n 2, 1) := by decide +kernel
theorem dX9_enters_104 : decode cX9_enters 104 = .ok (.iload_n 2, 1) := by decide +kernel
theorem dX9_enters_105 : decode cX9_enters 105 = .ok (.bipush 6, 2) := by decide +kernel
theorem dX9_enters_107 : decode cX9_enters 107 = .ok (.if_icmp .ge 67, 3) := by decide +kernel
theorem dX9_enters_110 : decode cX9_enters 110 = .ok (.aload_n 0, 1) := by decide +kernel
theorem dX9_enters_111 : decode cX9_enters 111 = .ok (.getfield 23, 3) := by decide +kernel
theorem dX9_enters_114 : decode cX9_enters 114 = .ok (.bipush 6, 2) := by decide +kernel
theorem dX9_enters_116 : decode cX9_enters 116 = .ok (.iconst 3, 1) := by decide +kernel
theorem dX9_enters_117 : decode cX9_enters 117 = .ok (.aload_n 0, 1) := by decide +kernel
theorem dX9_enters_118 : decode cX9_enters 118 = .ok (.getfield 84, 3) := by decide +kernel
theorem dX9_enters_121 : decode cX9_enters 121 = .ok (.imul, 1) := by decide +kernel
theorem dX9_enters_122 : decode cX9_enters 122 = .ok (.iload_n 1, 1) := by decide +kernel
theorem dX9_enters_123 : decode cX9_enters 123 = .ok (.iadd, 1) := by decide +kernel
theorem dX9_enters_124 : decode cX9_enters 124 = .ok (.imul, 1) := by decide +kernel
theorem dX9_enters_125 : decode cX9_enters 125 = .ok (.iload_n 2, 1) := by decide +kernel
theorem dX9_enters_126 : decode cX9_enters 126 = .ok (.iadd, 1) := by decide +kernel
theorem dX9_enters_127 : decode cX9_enters 127 = .ok (.aload_n 0, 1) := by decide +kernel
theorem dX9_enters_128 : decode cX9_enters 128 = .ok (.getfield 47, 3) := by decide +kernel
theorem dX9_enters_131 : decode cX9_enters 131 = .ok (.bipush 6, 2) := by decide +kernel
theorem dX9_enters_133 : decode cX9_enters 133 = .ok (.iload_n 1, 1) := by decide +kernel
theorem dX9_enters_134 : decode cX9_enters 134 = .ok (.imul, 1) := by decide +kernel
theorem dX9_enters_135 : decode cX9_enters 135 = .ok (.iload_n 2, 1) := by decide +kernel
theorem dX9_enters_136 : decode cX9_enters 136 = .ok (.iadd, 1) := by decide +kernel
theorem dX9_enters_137 : decode cX9_enters 137 = .ok (.iaload, 1) := by decide +kernel
theorem dX9_enters_138 : decode cX9_enters 138 = .ok (.iastore, 1) := by decide +kernel
theorem dX9_enters_139 : decode cX9_enters 139 = .ok (.aload_n 0, 1) := by decide +kernel
theorem dX9_enters_140 : decode cX9_enters 140 = .ok (.getfield 26, 3) := by decide +kernel
theorem dX9_enters_143 : decode cX9_enters 143 = .ok (.bipush 6, 2) := by decide +kernel
theorem dX9_enters_145 : decode cX9_enters 145 = .ok (.iconst 3, 1) := by decide +kernel
theorem dX9_enters_146 : decode cX9_enters 146 = .ok (.aload_n 0, 1) := by decide +kernel
theorem dX9_enters_147 : decode cX9_enters 147 = .ok (.getfield 84, 3) := by decide +kernel
theorem dX9_enters_150 : decode cX9_enters 150 = .ok (.imul, 1) := by decide +kernel
theorem dX9_enters_151 : decode cX9_enters 151 = .ok (.iload_n 1, 1) := by decide +kernel
theorem dX9_enters_152 : decode cX9_enters 152 = .ok (.iadd, 1) := by decide +kernel
theorem dX9_enters_153 : decode cX9_enters 153 = .ok (.imul, 1) := by decide +kernel
theorem dX9_enters_154 : decode cX9_enters 154 = .ok (.iload_n 2, 1) := by decide +kernel
theorem dX9_enters_155 : decode cX9_enters 155 = .ok (.iadd, 1) := by decide +kernel
theorem dX9_enters_156 : decode cX9_enters 156 = .ok (.aload_n 0, 1) := by decide +kernel
theorem dX9_enters_157 : decode cX9_enters 157 = .ok (.getfield 50, 3) := by decide +kernel
theorem dX9_enters_160 : decode cX9_enters 160 = .ok (.bipush 6, 2) := by decide +kernel
theorem dX9_enters_162 : decode cX9_enters 162 = .ok (.iload_n 1, 1) := by decide +kernel
theorem dX9_enters_163 : decode cX9_enters 163 = .ok (.imul, 1) := by decide +kernel
theorem dX9_enters_164 : decode cX9_enters 164 = .ok (.iload_n 2, 1) := by decide +kernel
theorem dX9_enters_165 : decode cX9_enters 165 = .ok (.iadd, 1) := by decide +kernel
theorem dX9_enters_166 : decode cX9_enters 166 = .ok (.iaload, 1) := by decide +kernel
theorem dX9_enters_167 : decode cX9_enters 167 = .ok (.iastore, 1) := by decide +kernel
theorem dX9_enters_168 : decode cX9_enters 168 = .ok (.iinc 2 1, 3) := by decide +kernel
theorem dX9_enters_171 : decode cX9_enters 171 = .ok (.goto (-67), 3) := by decide +kernel
theorem dX9_enters_174 : decode cX9_enters 174 = .ok (.iconst 0, 1) := by decide +kernel
theorem dX9_enters_175 : decode cX9_enters 175 = .ok (.istore_n 2, 1) := by decide +kernel
theorem dX9_enters_176 : decode cX9_enters 176 = .ok (.iload_n 2, 1) := by decide +kernel
theorem dX9_enters_177 : decode cX9_enters 177 = .ok (.iconst 3, 1) := by decide +kernel
theorem dX9_enters_178 : decode cX9_enters 178 = .ok (.if_icmp .ge 36, 3) := by decide +kernel
theorem dX9_enters_181 : decode cX9_enters 181 = .ok (.aload_n 0, 1) := by decide +kernel
theorem dX9_enters_182 : decode cX9_enters 182 = .ok (.getfield 29, 3) := by decide +kernel
theorem dX9_enters_185 : decode cX9_enters 185 = .ok (.iconst 3, 1) := by decide +kernel
theorem dX9_enters_186 : decode cX9_enters 186 = .ok (.iconst 3, 1) := by decide +kernel
theorem dX9_enters_187 : decode cX9_enters 187 = .ok (.aload_n 0, 1) := by decide +kernel
theorem dX9_enters_188 : decode cX9_enters 188 = .ok (.getfield 84, 3) := by decide +kernel
theorem dX9_enters_191 : decode cX9_enters 191 = .ok (.imul, 1) := by decide +kernel
theorem dX9_enters_192 : decode cX9_enters 192 = .ok (.iload_n 1, 1) := by decide +kernel
theorem dX9_enters_193 : decode cX9_enters 193 = .ok (.iadd, 1) := by decide +kernel
theorem dX9_enters_194 : decode cX9_enters 194 = .ok (.imul, 1) := by decide +kernel
theorem dX9_enters_195 : decode cX9_enters 195 = .ok (.iload_n 2, 1) := by decide +kernel
theorem dX9_enters_196 : decode cX9_enters 196 = .ok (.iadd, 1) := by decide +kernel
theorem dX9_enters_197 : decode cX9_enters 197 = .ok (.aload_n 0, 1) := by decide +kernel
theorem dX9_enters_198 : decode cX9_enters 198 = .ok (.getfield 53, 3) := by decide +kernel
theorem dX9_enters_201 : decode cX9_enters 201 = .ok (.iconst 3, 1) := by decide +kernel
theorem dX9_enters_202 : decode cX9_enters 202 = .ok (.iload_n 1, 1) := by decide +kernel
theorem dX9_enters_203 : decode cX9_enters 203 = .ok (.imul, 1) := by decide +kernel
theorem dX9_enters_204 : decode cX9_enters 204 = .ok (.iload_n 2, 1) := by decide +kernel
theorem dX9_enters_205 : decode cX9_enters 205 = .ok (.iadd, 1) := by decide +kernel
theorem dX9_enters_206 : decode cX9_enters 206 = .ok (.iaload, 1) := by decide +kernel
theorem dX9_enters_207 : decode cX9_enters 207 = .ok (.iastore, 1) := by decide +kernel
theorem dX9_enters_208 : decode cX9_enters 208 = .ok (.iinc 2 1, 3) := by decide +kernel
theorem dX9_enters_211 : decode cX9_enters 211 = .ok (.goto (-35), 3) := by decide +kernel
theorem dX9_enters_214 : decode cX9_enters 214 = .ok (.iinc 1 1, 3) := by decide +kernel
theorem dX9_enters_217 : decode cX9_enters 217 = .ok (.goto (-139), 3) := by decide +kernel
theorem dX9_enters_220 : decode cX9_enters 220 = .ok (.aload_n 0, 1) := by decide +kernel
theorem dX9_enters_221 : decode cX9_enters 221 = .ok (.dup, 1) := by decide +kernel
theorem dX9_enters_222 : decode cX9_enters 222 = .ok (.getfield 84, 3) := by decide +kernel
theorem dX9_enters_225 : decode cX9_enters 225 = .ok (.iconst 1, 1) := by decide +kernel
theorem dX9_enters_226 : decode cX9_enters 226 = .ok (.iadd, 1) := by decide +kernel
theorem dX9_enters_227 : decode cX9_enters 227 = .ok (.putfield 84, 3) := by decide +kernel
theorem dX9_enters_230 : decode cX9_enters 230 = .ok (.aload_n 0, 1) := by decide +kernel
theorem dX9_enters_231 : decode cX9_enters 231 = .ok (.invokevirtual 230, 3) := by decide +kernel
theorem dX9_enters_234 : decode cX9_enters 234 = .ok (.aload_n 0, 1) := by decide +kernel
theorem dX9_enters_235 : decode cX9_enters 235 = .ok (.getfield 84, 3) := by decide +kernel
theorem dX9_enters_238 : decode cX9_enters 238 = .ok (.iconst 1, 1) := by decide +kernel
theorem dX9_enters_239 : decode cX9_enters 239 = .ok (.isub, 1) := by decide +kernel
theorem dX9_enters_240 : decode cX9_enters 240 = .ok (.ireturn, 1) := by decide +kernel
theorem dX9_leaves_0 : decode cX9_leaves 0 = .ok (.aload_n 0, 1) := by decide +kernel
theorem dX9_leaves_1 : decode cX9_leaves 1 = .ok (.iconst 0, 1) := by decide +kernel
theorem dX9_leaves_2 : decode cX9_leaves 2 = .ok (.putfield 77, 3) := by decide +kernel
theorem dX9_leaves_5 : decode cX9_leaves 5 = .ok (.aload_n 0, 1) := by decide +kernel
theorem dX9_leaves_6 : decode cX9_leaves 6 = .ok (.getfield 84, 3) := by decide +kernel
theorem dX9_leaves_9 : decode cX9_leaves 9 = .ok (.ifCond .ne 6, 3) := by decide +kernel
theorem dX9_leaves_12 : decode cX9_leaves 12 = .ok (.bipush (-2), 2) := by decide +kernel
theorem dX9_leaves_14 : decode cX9_leaves 14 = .ok (.ireturn, 1) := by decide +kernel
theorem dX9_leaves_15 : decode cX9_leaves 15 = .ok (.aload_n 0, 1) := by decide +kernel
theorem dX9_leaves_16 : decode cX9_leaves 16 = .ok (.dup, 1) := by decide +kernel
theorem dX9_leaves_17 : decode cX9_leaves 17 = .ok (.getfield 84, 3) := by decide +kernel
theorem dX9_leaves_20 : decode cX9_leaves 20 = .ok (.iconst 1, 1) := by decide +kernel
theorem dX9_leaves_21 : decode cX9_leaves 21 = .ok (.isub, 1) := by decide +kernel
theorem dX9_leaves_22 : decode cX9_leaves 22 = .ok (.putfield 84, 3) := by decide +kernel
theorem dX9_leaves_25 : decode cX9_leaves 25 = .ok (.aload_n 0, 1) := by decide +kernel
theorem dX9_leaves_26 : decode cX9_leaves 26 = .ok (.invokevirtual 230, 3) := by decide +kernel
theorem dX9_leaves_29 : decode cX9_leaves 29 = .ok (.aload_n 0, 1) := by decide +kernel
theorem dX9_leaves_30 : decode cX9_leaves 30 = .ok (.getfield 84, 3) := by decide +kernel
theorem dX9_leaves_33 : decode cX9_leaves 33 = .ok (.ireturn, 1) := by decide +kernel
theorem dX9_plans_0 : decode cX9_plans 0 = .ok (.aload_n 0, 1) := by decide +kernel
theorem dX9_plans_1 : decode cX9_plans 1 = .ok (.iconst 0, 1) := by decide +kernel
theorem dX9_plans_2 : decode cX9_plans 2 = .ok (.putfield 77, 3) := by decide +kernel
theorem dX9_plans_5 : decode cX9_plans 5 = .ok (.aload_n 0, 1) := by decide +kernel
theorem dX9_plans_6 : decode cX9_plans 6 = .ok (.iload_n 1, 1) := by decide +kernel
theorem dX9_plans_7 : decode cX9_plans 7 = .ok (.invokevirtual 233, 3) := by decide +kernel
theorem dX9_plans_10 : decode cX9_plans 10 = .ok (.ifCond .eq 54, 3) := by decide +kernel
theorem dX9_plans_13 : decode cX9_plans 13 = .ok (.iload_n 2, 1) := by decide +kernel
theorem dX9_plans_14 : decode cX9_plans 14 = .ok (.invokestatic 236, 3) := by decide +kernel
theorem dX9_plans_17 : decode cX9_plans 17 = .ok (.ifCond .eq 47, 3) := by decide +kernel
theorem dX9_plans_20 : decode cX9_plans 20 = .ok (.iload_n 3, 1) := by decide +kernel
theorem dX9_plans_21 : decode cX9_plans 21 = .ok (.i2l, 1) := by decide +kernel
theorem dX9_plans_22 : decode cX9_plans 22 = .ok (.lconst 0, 1) := by decide +kernel
theorem dX9_plans_23 : decode cX9_plans 23 = .ok (.ldc2_w 91, 3) := by decide +kernel
theorem dX9_plans_26 : decode cX9_plans 26 = .ok (.invokestatic 87, 3) := by decide +kernel
theorem dX9_plans_29 : decode cX9_plans 29 = .ok (.ifCond .eq 35, 3) := by decide +kernel
theorem dX9_plans_32 : decode cX9_plans 32 = .ok (.iload 4, 2) := by decide +kernel
theorem dX9_plans_34 : decode cX9_plans 34 = .ok (.i2l, 1) := by decide +kernel
theorem dX9_plans_35 : decode cX9_plans 35 = .ok (.iload_n 3, 1) := by decide +kernel
theorem dX9_plans_36 : decode cX9_plans 36 = .ok (.iconst 2, 1) := by decide +kernel
theorem dX9_plans_37 : decode cX9_plans 37 = .ok (.if_icmp .ne 7, 3) := by decide +kernel
theorem dX9_plans_40 : decode cX9_plans 40 = .ok (.lconst 0, 1) := by decide +kernel
theorem dX9_plans_41 : decode cX9_plans 41 = .ok (.goto 4, 3) := by decide +kernel
theorem dX9_plans_44 : decode cX9_plans 44 = .ok (.lconst 1, 1) := by decide +kernel
theorem dX9_plans_45 : decode cX9_plans 45 = .ok (.iload_n 3, 1) := by decide +kernel
theorem dX9_plans_46 : decode cX9_plans 46 = .ok (.ifCond .ne 9, 3) := by decide +kernel
theorem dX9_plans_49 : decode cX9_plans 49 = .ok (.ldc2_w 239, 3) := by decide +kernel
theorem dX9_plans_52 : decode cX9_plans 52 = .ok (.goto 6, 3) := by decide +kernel
theorem dX9_plans_55 : decode cX9_plans 55 = .ok (.ldc2_w 241, 3) := by decide +kernel
theorem dX9_plans_58 : decode cX9_plans 58 = .ok (.invokestatic 87, 3) := by decide +kernel
theorem dX9_plans_61 : decode cX9_plans 61 = .ok (.ifCond .ne 5, 3) := by decide +kernel
theorem dX9_plans_64 : decode cX9_plans 64 = .ok (.iconst (-1), 1) := by decide +kernel
theorem dX9_plans_65 : decode cX9_plans 65 = .ok (.ireturn, 1) := by decide +kernel
theorem dX9_plans_66 : decode cX9_plans 66 = .ok (.aload_n 0, 1) := by decide +kernel
theorem dX9_plans_67 : decode cX9_plans 67 = .ok (.iload_n 1, 1) := by decide +kernel
theorem dX9_plans_68 : decode cX9_plans 68 = .ok (.iload_n 2, 1) := by decide +kernel
theorem dX9_plans_69 : decode cX9_plans 69 = .ok (.iload_n 3, 1) := by decide +kernel
theorem dX9_plans_70 : decode cX9_plans 70 = .ok (.invokevirtual 125, 3) := by decide +kernel
theorem dX9_plans_73 : decode cX9_plans 73 = .ok (.istore 5, 2) := by decide +kernel
theorem dX9_plans_75 : decode cX9_plans 75 = .ok (.aload_n 0, 1) := by decide +kernel
theorem dX9_plans_76 : decode cX9_plans 76 = .ok (.getfield 29, 3) := by decide +kernel
theorem dX9_plans_79 : decode cX9_plans 79 = .ok (.iconst 3, 1) := by decide +kernel
theorem dX9_plans_80 : decode cX9_plans 80 = .ok (.iconst 3, 1) := by decide +kernel
theorem dX9_plans_81 : decode cX9_plans 81 = .ok (.iload_n 1, 1) := by decide +kernel
theorem dX9_plans_82 : decode cX9_plans 82 = .ok (.imul, 1) := by decide +kernel
theorem dX9_plans_83 : decode cX9_plans 83 = .ok (.iload_n 2, 1) := by decide +kernel
theorem dX9_plans_84 : decode cX9_plans 84 = .ok (.iadd, 1) := by decide +kernel
theorem dX9_plans_85 : decode cX9_plans 85 = .ok (.imul, 1) := by decide +kernel
theorem dX9_plans_86 : decode cX9_plans 86 = .ok (.iload_n 3, 1) := by decide +kernel
theorem dX9_plans_87 : decode cX9_plans 87 = .ok (.iadd, 1) := by decide +kernel
theorem dX9_plans_88 : decode cX9_plans 88 = .ok (.iload 4, 2) := by decide +kernel
theorem dX9_plans_90 : decode cX9_plans 90 = .ok (.iastore, 1) := by decide +kernel
theorem dX9_plans_91 : decode cX9_plans 91 = .ok (.aload_n 0, 1) := by decide +kernel
theorem dX9_plans_92 : decode cX9_plans 92 = .ok (.invokevirtual 230, 3) := by decide +kernel
theorem dX9_plans_95 : decode cX9_plans 95 = .ok (.iload 5, 2) := by decide +kernel
theorem dX9_plans_97 : decode cX9_plans 97 = .ok (.ireturn, 1) := by decide +kernel
theorem dX9_tires_0 : decode cX9_tires 0 = .ok (.aload_n 0, 1) := by decide +kernel
theorem dX9_tires_1 : decode cX9_tires 1 = .ok (.iconst 0, 1) := by decide +kernel
theorem dX9_tires_2 : decode cX9_tires 2 = .ok (.putfield 77, 3) := by decide +kernel
theorem dX9_tires_5 : decode cX9_tires 5 = .ok (.iload_n 1, 1) := by decide +kernel
theorem dX9_tires_6 : decode cX9_tires 6 = .ok (.i2l, 1) := by decide +kernel
theorem dX9_tires_7 : decode cX9_tires 7 = .ok (.lconst 0, 1) := by decide +kernel
theorem dX9_tires_8 : decode cX9_tires 8 = .ok (.ldc2_w 243, 3) := by decide +kernel
theorem dX9_tires_11 : decode cX9_tires 11 = .ok (.invokestatic 87, 3) := by decide +kernel
theorem dX9_tires_14 : decode cX9_tires 14 = .ok (.ifCond .ne 5, 3) := by decide +kernel
theorem dX9_tires_17 : decode cX9_tires 17 = .ok (.iconst (-1), 1) := by decide +kernel
theorem dX9_tires_18 : decode cX9_tires 18 = .ok (.ireturn, 1) := by decide +kernel
theorem dX9_tires_19 : decode cX9_tires 19 = .ok (.aload_n 0, 1) := by decide +kernel
theorem dX9_tires_20 : decode cX9_tires 20 = .ok (.getfield 97, 3) := by decide +kernel
theorem dX9_tires_23 : decode cX9_tires 23 = .ok (.istore_n 2, 1) := by decide +kernel
theorem dX9_tires_24 : decode cX9_tires 24 = .ok (.aload_n 0, 1) := by decide +kernel
theorem dX9_tires_25 : decode cX9_tires 25 = .ok (.iload_n 1, 1) := by decide +kernel
theorem dX9_tires_26 : decode cX9_tires 26 = .ok (.putfield 97, 3) := by decide +kernel
theorem dX9_tires_29 : decode cX9_tires 29 = .ok (.iload_n 2, 1) := by decide +kernel
theorem dX9_tires_30 : decode cX9_tires 30 = .ok (.ireturn, 1) := by decide +kernel
theorem dX9_begins_0 : decode cX9_begins 0 = .ok (.aload_n 0, 1) := by decide +kernel
theorem dX9_begins_1 : decode cX9_begins 1 = .ok (.iconst 0, 1) := by decide +kernel
theorem dX9_begins_2 : decode cX9_begins 2 = .ok (.putfield 77, 3) := by decide +kernel
theorem dX9_begins_5 : decode cX9_begins 5 = .ok (.aload_n 0, 1) := by decide +kernel
theorem dX9_begins_6 : decode cX9_begins 6 = .ok (.invokevirtual 230, 3) := by decide +kernel
theorem dX9_begins_9 : decode cX9_begins 9 = .ok (.aload_n 0, 1) := by decide +kernel
theorem dX9_begins_10 : decode cX9_begins 10 = .ok (.getfield 84, 3) := by decide +kernel
theorem dX9_begins_13 : decode cX9_begins 13 = .ok (.ireturn, 1) := by decide +kernel
theorem dX9_odds_0 : decode cX9_odds 0 = .ok (.aload_n 0, 1) := by decide +kernel
theorem dX9_odds_1 : decode cX9_odds 1 = .ok (.iconst 0, 1) := by decide +kernel
theorem dX9_odds_2 : decode cX9_odds 2 = .ok (.putfield 77, 3) := by decide +kernel
theorem dX9_odds_5 : decode cX9_odds 5 = .ok (.aload_n 0, 1) := by decide +kernel
theorem dX9_odds_6 : decode cX9_odds 6 = .ok (.iload_n 1, 1) := by decide +kernel
theorem dX9_odds_7 : decode cX9_odds 7 = .ok (.invokevirtual 233, 3) := by decide +kernel
theorem dX9_odds_10 : decode cX9_odds 10 = .ok (.ifCond .eq 47, 3) := by decide +kernel
theorem dX9_odds_13 : decode cX9_odds 13 = .ok (.iload_n 2, 1) := by decide +kernel
theorem dX9_odds_14 : decode cX9_odds 14 = .ok (.invokestatic 236, 3) := by decide +kernel
theorem dX9_odds_17 : decode cX9_odds 17 = .ok (.ifCond .eq 40, 3) := by decide +kernel
theorem dX9_odds_20 : decode cX9_odds 20 = .ok (.iload_n 3, 1) := by decide +kernel
theorem dX9_odds_21 : decode cX9_odds 21 = .ok (.i2l, 1) := by decide +kernel
theorem dX9_odds_22 : decode cX9_odds 22 = .ok (.lconst 1, 1) := by decide +kernel
theorem dX9_odds_23 : decode cX9_odds 23 = .ok (.ldc2_w 239, 3) := by decide +kernel
theorem dX9_odds_26 : decode cX9_odds 26 = .ok (.invokestatic 87, 3) := by decide +kernel
theorem dX9_odds_29 : decode cX9_odds 29 = .ok (.ifCond .eq 28, 3) := by decide +kernel
theorem dX9_odds_32 : decode cX9_odds 32 = .ok (.iload 4, 2) := by decide +kernel
theorem dX9_odds_34 : decode cX9_odds 34 = .ok (.i2l, 1) := by decide +kernel
theorem dX9_odds_35 : decode cX9_odds 35 = .ok (.lconst 0, 1) := by decide +kernel
theorem dX9_odds_36 : decode cX9_odds 36 = .ok (.ldc2_w 91, 3) := by decide +kernel
theorem dX9_odds_39 : decode cX9_odds 39 = .ok (.invokestatic 87, 3) := by decide +kernel
theorem dX9_odds_42 : decode cX9_odds 42 = .ok (.ifCond .eq 15, 3) := by decide +kernel
theorem dX9_odds_45 : decode cX9_odds 45 = .ok (.aload_n 0, 1) := by decide +kernel
theorem dX9_odds_46 : decode cX9_odds 46 = .ok (.iload_n 1, 1) := by decide +kernel
theorem dX9_odds_47 : decode cX9_odds 47 = .ok (.iload_n 2, 1) := by decide +kernel
theorem dX9_odds_48 : decode cX9_odds 48 = .ok (.iload_n 3, 1) := by decide +kernel
theorem dX9_odds_49 : decode cX9_odds 49 = .ok (.iload 4, 2) := by decide +kernel
theorem dX9_odds_51 : decode cX9_odds 51 = .ok (.invokevirtual 245, 3) := by decide +kernel
theorem dX9_odds_54 : decode cX9_odds 54 = .ok (.goto 4, 3) := by decide +kernel
theorem dX9_odds_57 : decode cX9_odds 57 = .ok (.iconst (-1), 1) := by decide +kernel
theorem dX9_odds_58 : decode cX9_odds 58 = .ok (.ireturn, 1) := by decide +kernel
theorem dX9_lifter_0 : decode cX9_lifter 0 = .ok (.aload_n 0, 1) := by decide +kernel
theorem dX9_lifter_1 : decode cX9_lifter 1 = .ok (.iconst 0, 1) := by decide +kernel
theorem dX9_lifter_2 : decode cX9_lifter 2 = .ok (.putfield 77, 3) := by decide +kernel
theorem dX9_lifter_5 : decode cX9_lifter 5 = .ok (.aload_n 0, 1) := by decide +kernel
theorem dX9_lifter_6 : decode cX9_lifter 6 = .ok (.iload_n 1, 1) := by decide +kernel
theorem dX9_lifter_7 : decode cX9_lifter 7 = .ok (.invokevirtual 233, 3) := by decide +kernel
theorem dX9_lifter_10 : decode cX9_lifter 10 = .ok (.ifCond .eq 10, 3) := by decide +kernel
theorem dX9_lifter_13 : decode cX9_lifter 13 = .ok (.iload_n 2, 1) := by decide +kernel
theorem dX9_lifter_14 : decode cX9_lifter 14 = .ok (.invokestatic 236, 3) := by decide +kernel
theorem dX9_lifter_17 : decode cX9_lifter 17 = .ok (.ifCond .ne 5, 3) := by decide +kernel
theorem dX9_lifter_20 : decode cX9_lifter 20 = .ok (.iconst (-1), 1) := by decide +kernel
theorem dX9_lifter_21 : decode cX9_lifter 21 = .ok (.ireturn, 1) := by decide +kernel
theorem dX9_lifter_22 : decode cX9_lifter 22 = .ok (.iload_n 3, 1) := by decide +kernel
theorem dX9_lifter_23 : decode cX9_lifter 23 = .ok (.tableswitch 152 0 11 #[61, 68, 75, 83, 91, 99, 109, 116, 122, 129, 138, 146], 61) := by decide +kernel
theorem dX9_lifter_84 : decode cX9_lifter 84 = .ok (.aload_n 0, 1) := by decide +kernel
theorem dX9_lifter_85 : decode cX9_lifter 85 = .ok (.getfield 13, 3) := by decide +kernel
theorem dX9_lifter_88 : decode cX9_lifter 88 = .ok (.iload_n 1, 1) := by decide +kernel
theorem dX9_lifter_89 : decode cX9_lifter 89 = .ok (.iaload, 1) := by decide +kernel
theorem dX9_lifter_90 : decode cX9_lifter 90 = .ok (.ireturn, 1) := by decide +kernel
theorem dX9_lifter_91 : decode cX9_lifter 91 = .ok (.aload_n 0, 1) := by decide +kernel
theorem dX9_lifter_92 : decode cX9_lifter 92 = .ok (.getfield 17, 3) := by decide +kernel
theorem dX9_lifter_95 : decode cX9_lifter 95 = .ok (.iload_n 1, 1) := by decide +kernel
theorem dX9_lifter_96 : decode cX9_lifter 96 = .ok (.iaload, 1) := by decide +kernel
theorem dX9_lifter_97 : decode cX9_lifter 97 = .ok (.ireturn, 1) := by decide +kernel
theorem dX9_lifter_98 : decode cX9_lifter 98 = .ok (.aload_n 0, 1) := by decide +kernel
theorem dX9_lifter_99 : decode cX9_lifter 99 = .ok (.iload_n 1, 1) := by decide +kernel
theorem dX9_lifter_100 : decode cX9_lifter 100 = .ok (.iload_n 2, 1) := by decide +kernel
theorem dX9_lifter_101 : decode cX9_lifter 101 = .ok (.iconst 0, 1) := by decide +kernel
theorem dX9_lifter_102 : decode cX9_lifter 102 = .ok (.invokevirtual 125, 3) := by decide +kernel
theorem dX9_lifter_105 : decode cX9_lifter 105 = .ok (.ireturn, 1) := by decide +kernel
theorem dX9_lifter_106 : decode cX9_lifter 106 = .ok (.aload_n 0, 1) := by decide +kernel
theorem dX9_lifter_107 : decode cX9_lifter 107 = .ok (.iload_n 1, 1) := by decide +kernel
theorem dX9_lifter_108 : decode cX9_lifter 108 = .ok (.iload_n 2, 1) := by decide +kernel
theorem dX9_lifter_109 : decode cX9_lifter 109 = .ok (.iconst 1, 1) := by decide +kernel
theorem dX9_lifter_110 : decode cX9_lifter 110 = .ok (.invokevirtual 125, 3) := by decide +kernel
theorem dX9_lifter_113 : decode cX9_lifter 113 = .ok (.ireturn, 1) := by decide +kernel
theorem dX9_lifter_114 : decode cX9_lifter 114 = .ok (.aload_n 0, 1) := by decide +kernel
theorem dX9_lifter_115 : decode cX9_lifter 115 = .ok (.iload_n 1, 1) := by decide +kernel
theorem dX9_lifter_116 : decode cX9_lifter 116 = .ok (.iload_n 2, 1) := by decide +kernel
theorem dX9_lifter_117 : decode cX9_lifter 117 = .ok (.iconst 2, 1) := by decide +kernel
theorem dX9_lifter_118 : decode cX9_lifter 118 = .ok (.invokevirtual 125, 3) := by decide +kernel
theorem dX9_lifter_121 : decode cX9_lifter 121 = .ok (.ireturn, 1) := by decide +kernel
theorem dX9_lifter_122 : decode cX9_lifter 122 = .ok (.aload_n 0, 1) := by decide +kernel
theorem dX9_lifter_123 : decode cX9_lifter 123 = .ok (.iload_n 1, 1) := by decide +kernel
theorem dX9_lifter_124 : decode cX9_lifter 124 = .ok (.bipush 7, 2) := by decide +kernel
theorem dX9_lifter_126 : decode cX9_lifter 126 = .ok (.iload_n 2, 1) := by decide +kernel
theorem dX9_lifter_127 : decode cX9_lifter 127 = .ok (.iadd, 1) := by decide +kernel
theorem dX9_lifter_128 : decode cX9_lifter 128 = .ok (.invokevirtual 106, 3) := by decide +kernel
theorem dX9_lifter_131 : decode cX9_lifter 131 = .ok (.ireturn, 1) := by decide +kernel
theorem dX9_lifter_132 : decode cX9_lifter 132 = .ok (.aload_n 0, 1) := by decide +kernel
theorem dX9_lifter_133 : decode cX9_lifter 133 = .ok (.iload_n 1, 1) := by decide +kernel
theorem dX9_lifter_134 : decode cX9_lifter 134 = .ok (.iconst 0, 1) := by decide +kernel
theorem dX9_lifter_135 : decode cX9_lifter 135 = .ok (.invokevirtual 106, 3) := by decide +kernel
theorem dX9_lifter_138 : decode cX9_lifter 138 = .ok (.ireturn, 1) := by decide +kernel
theorem dX9_lifter_139 : decode cX9_lifter 139 = .ok (.aload_n 0, 1) := by decide +kernel
theorem dX9_lifter_140 : decode cX9_lifter 140 = .ok (.iload_n 1, 1) := by decide +kernel
theorem dX9_lifter_141 : decode cX9_lifter 141 = .ok (.invokevirtual 249, 3) := by decide +kernel
theorem dX9_lifter_144 : decode cX9_lifter 144 = .ok (.ireturn, 1) := by decide +kernel
theorem dX9_lifter_145 : decode cX9_lifter 145 = .ok (.aload_n 0, 1) := by decide +kernel
theorem dX9_lifter_146 : decode cX9_lifter 146 = .ok (.iload_n 1, 1) := by decide +kernel
theorem dX9_lifter_147 : decode cX9_lifter 147 = .ok (.iconst 5, 1) := by decide +kernel
theorem dX9_lifter_148 : decode cX9_lifter 148 = .ok (.invokevirtual 106, 3) := by decide +kernel
theorem dX9_lifter_151 : decode cX9_lifter 151 = .ok (.ireturn, 1) := by decide +kernel
theorem dX9_lifter_152 : decode cX9_lifter 152 = .ok (.aload_n 0, 1) := by decide +kernel
theorem dX9_lifter_153 : decode cX9_lifter 153 = .ok (.iload_n 1, 1) := by decide +kernel
theorem dX9_lifter_154 : decode cX9_lifter 154 = .ok (.invokevirtual 140, 3) := by decide +kernel
theorem dX9_lifter_157 : decode cX9_lifter 157 = .ok (.invokestatic 160, 3) := by decide +kernel
theorem dX9_lifter_160 : decode cX9_lifter 160 = .ok (.ireturn, 1) := by decide +kernel
theorem dX9_lifter_161 : decode cX9_lifter 161 = .ok (.aload_n 0, 1) := by decide +kernel
theorem dX9_lifter_162 : decode cX9_lifter 162 = .ok (.iload_n 1, 1) := by decide +kernel
theorem dX9_lifter_163 : decode cX9_lifter 163 = .ok (.bipush 6, 2) := by decide +kernel
theorem dX9_lifter_165 : decode cX9_lifter 165 = .ok (.invokevirtual 106, 3) := by decide +kernel
theorem dX9_lifter_168 : decode cX9_lifter 168 = .ok (.ireturn, 1) := by decide +kernel
theorem dX9_lifter_169 : decode cX9_lifter 169 = .ok (.aload_n 0, 1) := by decide +kernel
theorem dX9_lifter_170 : decode cX9_lifter 170 = .ok (.iload_n 1, 1) := by decide +kernel
theorem dX9_lifter_171 : decode cX9_lifter 171 = .ok (.invokevirtual 167, 3) := by decide +kernel
theorem dX9_lifter_174 : decode cX9_lifter 174 = .ok (.ireturn, 1) := by decide +kernel
theorem dX9_lifter_175 : decode cX9_lifter 175 = .ok (.iconst (-1), 1) := by decide +kernel
theorem dX9_lifter_176 : decode cX9_lifter 176 = .ok (.ireturn, 1) := by decide +kernel
theorem dX9_called_0 : decode cX9_called 0 = .ok (.aload_n 0, 1) := by decide +kernel
theorem dX9_called_1 : decode cX9_called 1 = .ok (.iconst 0, 1) := by decide +kernel
theorem dX9_called_2 : decode cX9_called 2 = .ok (.putfield 77, 3) := by decide +kernel
theorem dX9_called_5 : decode cX9_called 5 = .ok (.aload_n 0, 1) := by decide +kernel
theorem dX9_called_6 : decode cX9_called 6 = .ok (.invokevirtual 147, 3) := by decide +kernel
theorem dX9_called_9 : decode cX9_called 9 = .ok (.istore_n 1, 1) := by decide +kernel
theorem dX9_called_10 : decode cX9_called 10 = .ok (.iload_n 1, 1) := by decide +kernel
theorem dX9_called_11 : decode cX9_called 11 = .ok (.iconst (-1), 1) := by decide +kernel
theorem dX9_called_12 : decode cX9_called 12 = .ok (.if_icmp .ne 6, 3) := by decide +kernel
theorem dX9_called_15 : decode cX9_called 15 = .ok (.bipush (-2), 2) := by decide +kernel
theorem dX9_called_17 : decode cX9_called 17 = .ok (.ireturn, 1) := by decide +kernel
theorem dX9_called_18 : decode cX9_called 18 = .ok (.aload_n 0, 1) := by decide +kernel
theorem dX9_called_19 : decode cX9_called 19 = .ok (.iconst 0, 1) := by decide +kernel
theorem dX9_called_20 : decode cX9_called 20 = .ok (.putfield 81, 3) := by decide +kernel
theorem dX9_called_23 : decode cX9_called 23 = .ok (.aload_n 0, 1) := by decide +kernel
theorem dX9_called_24 : decode cX9_called 24 = .ok (.aload_n 0, 1) := by decide +kernel
theorem dX9_called_25 : decode cX9_called 25 = .ok (.iload_n 1, 1) := by decide +kernel
theorem dX9_called_26 : decode cX9_called 26 = .ok (.iconst 0, 1) := by decide +kernel
theorem dX9_called_27 : decode cX9_called 27 = .ok (.invokevirtual 106, 3) := by decide +kernel
theorem dX9_called_30 : decode cX9_called 30 = .ok (.i2l, 1) := by decide +kernel
theorem dX9_called_31 : decode cX9_called 31 = .ok (.invokevirtual 180, 3) := by decide +kernel
theorem dX9_called_34 : decode cX9_called 34 = .ok (.aload_n 0, 1) := by decide +kernel
theorem dX9_called_35 : decode cX9_called 35 = .ok (.aload_n 0, 1) := by decide +kernel
theorem dX9_called_36 : decode cX9_called 36 = .ok (.iload_n 1, 1) := by decide +kernel
theorem dX9_called_37 : decode cX9_called 37 = .ok (.aload_n 0, 1) := by decide +kernel
theorem dX9_called_38 : decode cX9_called 38 = .ok (.getfield 32, 3) := by decide +kernel
theorem dX9_called_41 : decode cX9_called 41 = .ok (.iconst 0, 1) := by decide +kernel
theorem dX9_called_42 : decode cX9_called 42 = .ok (.iaload, 1) := by decide +kernel
theorem dX9_called_43 : decode cX9_called 43 = .ok (.aload_n 0, 1) := by decide +kernel
theorem dX9_called_44 : decode cX9_called 44 = .ok (.iload_n 1, 1) := by decide +kernel
theorem dX9_called_45 : decode cX9_called 45 = .ok (.iconst 0, 1) := by decide +kernel
theorem dX9_called_46 : decode cX9_called 46 = .ok (.invokevirtual 106, 3) := by decide +kernel
theorem dX9_called_49 : decode cX9_called 49 = .ok (.aload_n 0, 1) := by decide +kernel
theorem dX9_called_50 : decode cX9_called 50 = .ok (.iload_n 1, 1) := by decide +kernel
theorem dX9_called_51 : decode cX9_called 51 = .ok (.iconst 4, 1) := by decide +kernel
theorem dX9_called_52 : decode cX9_called 52 = .ok (.invokevirtual 106, 3) := by decide +kernel
theorem dX9_called_55 : decode cX9_called 55 = .ok (.invokevirtual 245, 3) := by decide +kernel
theorem dX9_called_58 : decode cX9_called 58 = .ok (.i2l, 1) := by decide +kernel
theorem dX9_called_59 : decode cX9_called 59 = .ok (.invokevirtual 180, 3) := by decide +kernel
theorem dX9_called_62 : decode cX9_called 62 = .ok (.iload_n 1, 1) := by decide +kernel
theorem dX9_called_63 : decode cX9_called 63 = .ok (.ireturn, 1) := by decide +kernel
theorem dX9_calledAhead_0 : decode cX9_calledAhead 0 = .ok (.iconst 0, 1) := by decide +kernel
theorem dX9_calledAhead_1 : decode cX9_calledAhead 1 = .ok (.istore_n 2, 1) := by decide +kernel
theorem dX9_calledAhead_2 : decode cX9_calledAhead 2 = .ok (.iconst 0, 1) := by decide +kernel
theorem dX9_calledAhead_3 : decode cX9_calledAhead 3 = .ok (.istore_n 3, 1) := by decide +kernel
theorem dX9_calledAhead_4 : decode cX9_calledAhead 4 = .ok (.iload_n 3, 1) := by decide +kernel
theorem dX9_calledAhead_5 : decode cX9_calledAhead 5 = .ok (.aload_n 0, 1) := by decide +kernel
theorem dX9_calledAhead_6 : decode cX9_calledAhead 6 = .ok (.getfield 84, 3) := by decide +kernel
theorem dX9_calledAhead_9 : decode cX9_calledAhead 9 = .ok (.if_icmp .ge 42, 3) := by decide +kernel
theorem dX9_calledAhead_12 : decode cX9_calledAhead 12 = .ok (.iload_n 2, 1) := by decide +kernel
theorem dX9_calledAhead_13 : decode cX9_calledAhead 13 = .ok (.iload_n 3, 1) := by decide +kernel
theorem dX9_calledAhead_14 : decode cX9_calledAhead 14 = .ok (.iload_n 1, 1) := by decide +kernel
theorem dX9_calledAhead_15 : decode cX9_calledAhead 15 = .ok (.if_icmp .eq 24, 3) := by decide +kernel
theorem dX9_calledAhead_18 : decode cX9_calledAhead 18 = .ok (.aload_n 0, 1) := by decide +kernel
theorem dX9_calledAhead_19 : decode cX9_calledAhead 19 = .ok (.iload_n 3, 1) := by decide +kernel
theorem dX9_calledAhead_20 : decode cX9_calledAhead 20 = .ok (.invokevirtual 140, 3) := by decide +kernel
theorem dX9_calledAhead_23 : decode cX9_calledAhead 23 = .ok (.ifCond .eq 16, 3) := by decide +kernel
theorem dX9_calledAhead_26 : decode cX9_calledAhead 26 = .ok (.aload_n 0, 1) := by decide +kernel
theorem dX9_calledAhead_27 : decode cX9_calledAhead 27 = .ok (.iload_n 3, 1) := by decide +kernel
theorem dX9_calledAhead_28 : decode cX9_calledAhead 28 = .ok (.iload_n 1, 1) := by decide +kernel
theorem dX9_calledAhead_29 : decode cX9_calledAhead 29 = .ok (.invokevirtual 143, 3) := by decide +kernel
theorem dX9_calledAhead_32 : decode cX9_calledAhead 32 = .ok (.ifCond .eq 7, 3) := by decide +kernel
theorem dX9_calledAhead_35 : decode cX9_calledAhead 35 = .ok (.iconst 1, 1) := by decide +kernel
theorem dX9_calledAhead_36 : decode cX9_calledAhead 36 = .ok (.goto 4, 3) := by decide +kernel
theorem dX9_calledAhead_39 : decode cX9_calledAhead 39 = .ok (.iconst 0, 1) := by decide +kernel
theorem dX9_calledAhead_40 : decode cX9_calledAhead 40 = .ok (.invokestatic 160, 3) := by decide +kernel
theorem dX9_calledAhead_43 : decode cX9_calledAhead 43 = .ok (.iadd, 1) := by decide +kernel
theorem dX9_calledAhead_44 : decode cX9_calledAhead 44 = .ok (.istore_n 2, 1) := by decide +kernel
theorem dX9_calledAhead_45 : decode cX9_calledAhead 45 = .ok (.iinc 3 1, 3) := by decide +kernel
theorem dX9_calledAhead_48 : decode cX9_calledAhead 48 = .ok (.goto (-44), 3) := by decide +kernel
theorem dX9_calledAhead_51 : decode cX9_calledAhead 51 = .ok (.iload_n 2, 1) := by decide +kernel
theorem dX9_calledAhead_52 : decode cX9_calledAhead 52 = .ok (.ireturn, 1) := by decide +kernel
theorem dX9_order_0 : decode cX9_order 0 = .ok (.aload_n 0, 1) := by decide +kernel
theorem dX9_order_1 : decode cX9_order 1 = .ok (.iconst 0, 1) := by decide +kernel
theorem dX9_order_2 : decode cX9_order 2 = .ok (.putfield 77, 3) := by decide +kernel
theorem dX9_order_5 : decode cX9_order 5 = .ok (.aload_n 0, 1) := by decide +kernel
theorem dX9_order_6 : decode cX9_order 6 = .ok (.iconst 0, 1) := by decide +kernel
theorem dX9_order_7 : decode cX9_order 7 = .ok (.putfield 81, 3) := by decide +kernel
theorem dX9_order_10 : decode cX9_order 10 = .ok (.iconst 0, 1) := by decide +kernel
theorem dX9_order_11 : decode cX9_order 11 = .ok (.istore_n 1, 1) := by decide +kernel
theorem dX9_order_12 : decode cX9_order 12 = .ok (.iload_n 1, 1) := by decide +kernel
theorem dX9_order_13 : decode cX9_order 13 = .ok (.aload_n 0, 1) := by decide +kernel
theorem dX9_order_14 : decode cX9_order 14 = .ok (.getfield 84, 3) := by decide +kernel
theorem dX9_order_17 : decode cX9_order 17 = .ok (.if_icmp .ge 48, 3) := by decide +kernel
theorem dX9_order_20 : decode cX9_order 20 = .ok (.iconst 0, 1) := by decide +kernel
theorem dX9_order_21 : decode cX9_order 21 = .ok (.istore_n 2, 1) := by decide +kernel
theorem dX9_order_22 : decode cX9_order 22 = .ok (.iload_n 2, 1) := by decide +kernel
theorem dX9_order_23 : decode cX9_order 23 = .ok (.aload_n 0, 1) := by decide +kernel
theorem dX9_order_24 : decode cX9_order 24 = .ok (.getfield 84, 3) := by decide +kernel
theorem dX9_order_27 : decode cX9_order 27 = .ok (.if_icmp .ge 32, 3) := by decide +kernel
theorem dX9_order_30 : decode cX9_order 30 = .ok (.aload_n 0, 1) := by decide +kernel
theorem dX9_order_31 : decode cX9_order 31 = .ok (.iload_n 2, 1) := by decide +kernel
theorem dX9_order_32 : decode cX9_order 32 = .ok (.invokevirtual 140, 3) := by decide +kernel
theorem dX9_order_35 : decode cX9_order 35 = .ok (.ifCond .eq 18, 3) := by decide +kernel
theorem dX9_order_38 : decode cX9_order 38 = .ok (.aload_n 0, 1) := by decide +kernel
theorem dX9_order_39 : decode cX9_order 39 = .ok (.iload_n 2, 1) := by decide +kernel
theorem dX9_order_40 : decode cX9_order 40 = .ok (.invokevirtual 252, 3) := by decide +kernel
theorem dX9_order_43 : decode cX9_order 43 = .ok (.iload_n 1, 1) := by decide +kernel
theorem dX9_order_44 : decode cX9_order 44 = .ok (.if_icmp .ne 9, 3) := by decide +kernel
theorem dX9_order_47 : decode cX9_order 47 = .ok (.aload_n 0, 1) := by decide +kernel
theorem dX9_order_48 : decode cX9_order 48 = .ok (.iload_n 2, 1) := by decide +kernel
theorem dX9_order_49 : decode cX9_order 49 = .ok (.i2l, 1) := by decide +kernel
theorem dX9_order_50 : decode cX9_order 50 = .ok (.invokevirtual 180, 3) := by decide +kernel
theorem dX9_order_53 : decode cX9_order 53 = .ok (.iinc 2 1, 3) := by decide +kernel
theorem dX9_order_56 : decode cX9_order 56 = .ok (.goto (-34), 3) := by decide +kernel
theorem dX9_order_59 : decode cX9_order 59 = .ok (.iinc 1 1, 3) := by decide +kernel
theorem dX9_order_62 : decode cX9_order 62 = .ok (.goto (-50), 3) := by decide +kernel
theorem dX9_order_65 : decode cX9_order 65 = .ok (.aload_n 0, 1) := by decide +kernel
theorem dX9_order_66 : decode cX9_order 66 = .ok (.getfield 81, 3) := by decide +kernel
theorem dX9_order_69 : decode cX9_order 69 = .ok (.ireturn, 1) := by decide +kernel
theorem dX9_asks_0 : decode cX9_asks 0 = .ok (.aload_n 0, 1) := by decide +kernel
theorem dX9_asks_1 : decode cX9_asks 1 = .ok (.iconst 0, 1) := by decide +kernel
theorem dX9_asks_2 : decode cX9_asks 2 = .ok (.putfield 77, 3) := by decide +kernel
theorem dX9_asks_5 : decode cX9_asks 5 = .ok (.aload_n 0, 1) := by decide +kernel
theorem dX9_asks_6 : decode cX9_asks 6 = .ok (.iload_n 1, 1) := by decide +kernel
theorem dX9_asks_7 : decode cX9_asks 7 = .ok (.invokevirtual 233, 3) := by decide +kernel
theorem dX9_asks_10 : decode cX9_asks 10 = .ok (.ifCond .eq 15, 3) := by decide +kernel
theorem dX9_asks_13 : decode cX9_asks 13 = .ok (.iload_n 2, 1) := by decide +kernel
theorem dX9_asks_14 : decode cX9_asks 14 = .ok (.i2l, 1) := by decide +kernel
theorem dX9_asks_15 : decode cX9_asks 15 = .ok (.lconst 1, 1) := by decide +kernel
theorem dX9_asks_16 : decode cX9_asks 16 = .ok (.ldc2_w 239, 3) := by decide +kernel
theorem dX9_asks_19 : decode cX9_asks 19 = .ok (.invokestatic 87, 3) := by decide +kernel
theorem dX9_asks_22 : decode cX9_asks 22 = .ok (.ifCond .ne 5, 3) := by decide +kernel
theorem dX9_asks_25 : decode cX9_asks 25 = .ok (.iconst (-1), 1) := by decide +kernel
theorem dX9_asks_26 : decode cX9_asks 26 = .ok (.ireturn, 1) := by decide +kernel
theorem dX9_asks_27 : decode cX9_asks 27 = .ok (.aload_n 0, 1) := by decide +kernel
theorem dX9_asks_28 : decode cX9_asks 28 = .ok (.iload_n 1, 1) := by decide +kernel
theorem dX9_asks_29 : decode cX9_asks 29 = .ok (.invokevirtual 140, 3) := by decide +kernel
theorem dX9_asks_32 : decode cX9_asks 32 = .ok (.ifCond .ne 6, 3) := by decide +kernel
theorem dX9_asks_35 : decode cX9_asks 35 = .ok (.bipush (-2), 2) := by decide +kernel
theorem dX9_asks_37 : decode cX9_asks 37 = .ok (.ireturn, 1) := by decide +kernel
theorem dX9_asks_38 : decode cX9_asks 38 = .ok (.aload_n 0, 1) := by decide +kernel
theorem dX9_asks_39 : decode cX9_asks 39 = .ok (.iload_n 1, 1) := by decide +kernel
theorem dX9_asks_40 : decode cX9_asks 40 = .ok (.iconst 5, 1) := by decide +kernel
theorem dX9_asks_41 : decode cX9_asks 41 = .ok (.invokevirtual 106, 3) := by decide +kernel
theorem dX9_asks_44 : decode cX9_asks 44 = .ok (.ifCond .ne 6, 3) := by decide +kernel
theorem dX9_asks_47 : decode cX9_asks 47 = .ok (.bipush (-3), 2) := by decide +kernel
theorem dX9_asks_49 : decode cX9_asks 49 = .ok (.ireturn, 1) := by decide +kernel
theorem dX9_asks_50 : decode cX9_asks 50 = .ok (.iload_n 2, 1) := by decide +kernel
theorem dX9_asks_51 : decode cX9_asks 51 = .ok (.aload_n 0, 1) := by decide +kernel
theorem dX9_asks_52 : decode cX9_asks 52 = .ok (.iload_n 1, 1) := by decide +kernel
theorem dX9_asks_53 : decode cX9_asks 53 = .ok (.invokevirtual 249, 3) := by decide +kernel
theorem dX9_asks_56 : decode cX9_asks 56 = .ok (.if_icmp .lt 13, 3) := by decide +kernel
theorem dX9_asks_59 : decode cX9_asks 59 = .ok (.iload_n 2, 1) := by decide +kernel
theorem dX9_asks_60 : decode cX9_asks 60 = .ok (.aload_n 0, 1) := by decide +kernel
theorem dX9_asks_61 : decode cX9_asks 61 = .ok (.iload_n 1, 1) := by decide +kernel
theorem dX9_asks_62 : decode cX9_asks 62 = .ok (.iconst 0, 1) := by decide +kernel
theorem dX9_asks_63 : decode cX9_asks 63 = .ok (.invokevirtual 106, 3) := by decide +kernel
theorem dX9_asks_66 : decode cX9_asks 66 = .ok (.if_icmp .ne 6, 3) := by decide +kernel
theorem dX9_asks_69 : decode cX9_asks 69 = .ok (.bipush (-4), 2) := by decide +kernel
theorem dX9_asks_71 : decode cX9_asks 71 = .ok (.ireturn, 1) := by decide +kernel
theorem dX9_asks_72 : decode cX9_asks 72 = .ok (.aload_n 0, 1) := by decide +kernel
theorem dX9_asks_73 : decode cX9_asks 73 = .ok (.iload_n 1, 1) := by decide +kernel
theorem dX9_asks_74 : decode cX9_asks 74 = .ok (.iconst 0, 1) := by decide +kernel
theorem dX9_asks_75 : decode cX9_asks 75 = .ok (.iload_n 2, 1) := by decide +kernel
theorem dX9_asks_76 : decode cX9_asks 76 = .ok (.invokevirtual 109, 3) := by decide +kernel
theorem dX9_asks_79 : decode cX9_asks 79 = .ok (.aload_n 0, 1) := by decide +kernel
theorem dX9_asks_80 : decode cX9_asks 80 = .ok (.iload_n 1, 1) := by decide +kernel
theorem dX9_asks_81 : decode cX9_asks 81 = .ok (.iconst 5, 1) := by decide +kernel
theorem dX9_asks_82 : decode cX9_asks 82 = .ok (.aload_n 0, 1) := by decide +kernel
theorem dX9_asks_83 : decode cX9_asks 83 = .ok (.iload_n 1, 1) := by decide +kernel
theorem dX9_asks_84 : decode cX9_asks 84 = .ok (.iconst 5, 1) := by decide +kernel
theorem dX9_asks_85 : decode cX9_asks 85 = .ok (.invokevirtual 106, 3) := by decide +kernel
theorem dX9_asks_88 : decode cX9_asks 88 = .ok (.iconst 1, 1) := by decide +kernel
theorem dX9_asks_89 : decode cX9_asks 89 = .ok (.isub, 1) := by decide +kernel
theorem dX9_asks_90 : decode cX9_asks 90 = .ok (.invokevirtual 109, 3) := by decide +kernel
theorem dX9_asks_93 : decode cX9_asks 93 = .ok (.aload_n 0, 1) := by decide +kernel
theorem dX9_asks_94 : decode cX9_asks 94 = .ok (.iload_n 1, 1) := by decide +kernel
theorem dX9_asks_95 : decode cX9_asks 95 = .ok (.iconst 5, 1) := by decide +kernel
theorem dX9_asks_96 : decode cX9_asks 96 = .ok (.invokevirtual 106, 3) := by decide +kernel
theorem dX9_asks_99 : decode cX9_asks 99 = .ok (.ireturn, 1) := by decide +kernel
theorem dX9_tries_0 : decode cX9_tries 0 = .ok (.aload_n 0, 1) := by decide +kernel
theorem dX9_tries_1 : decode cX9_tries 1 = .ok (.iconst 0, 1) := by decide +kernel
theorem dX9_tries_2 : decode cX9_tries 2 = .ok (.putfield 77, 3) := by decide +kernel
theorem dX9_tries_5 : decode cX9_tries 5 = .ok (.aload_n 0, 1) := by decide +kernel
theorem dX9_tries_6 : decode cX9_tries 6 = .ok (.invokevirtual 147, 3) := by decide +kernel
theorem dX9_tries_9 : decode cX9_tries 9 = .ok (.istore_n 2, 1) := by decide +kernel
theorem dX9_tries_10 : decode cX9_tries 10 = .ok (.iload_n 2, 1) := by decide +kernel
theorem dX9_tries_11 : decode cX9_tries 11 = .ok (.iconst (-1), 1) := by decide +kernel
theorem dX9_tries_12 : decode cX9_tries 12 = .ok (.if_icmp .ne 6, 3) := by decide +kernel
theorem dX9_tries_15 : decode cX9_tries 15 = .ok (.bipush (-2), 2) := by decide +kernel
theorem dX9_tries_17 : decode cX9_tries 17 = .ok (.ireturn, 1) := by decide +kernel
theorem dX9_tries_18 : decode cX9_tries 18 = .ok (.aload_n 0, 1) := by decide +kernel
theorem dX9_tries_19 : decode cX9_tries 19 = .ok (.iload_n 2, 1) := by decide +kernel
theorem dX9_tries_20 : decode cX9_tries 20 = .ok (.iconst 0, 1) := by decide +kernel
theorem dX9_tries_21 : decode cX9_tries 21 = .ok (.invokevirtual 106, 3) := by decide +kernel
theorem dX9_tries_24 : decode cX9_tries 24 = .ok (.istore_n 3, 1) := by decide +kernel
theorem dX9_tries_25 : decode cX9_tries 25 = .ok (.aload_n 0, 1) := by decide +kernel
theorem dX9_tries_26 : decode cX9_tries 26 = .ok (.iload_n 2, 1) := by decide +kernel
theorem dX9_tries_27 : decode cX9_tries 27 = .ok (.iload_n 1, 1) := by decide +kernel
theorem dX9_tries_28 : decode cX9_tries 28 = .ok (.invokevirtual 255, 3) := by decide +kernel
theorem dX9_tries_31 : decode cX9_tries 31 = .ok (.aload_n 0, 1) := by decide +kernel
theorem dX9_tries_32 : decode cX9_tries 32 = .ok (.iconst 0, 1) := by decide +kernel
theorem dX9_tries_33 : decode cX9_tries 33 = .ok (.putfield 81, 3) := by decide +kernel
theorem dX9_tries_36 : decode cX9_tries 36 = .ok (.aload_n 0, 1) := by decide +kernel
theorem dX9_tries_37 : decode cX9_tries 37 = .ok (.iload_n 3, 1) := by decide +kernel
theorem dX9_tries_38 : decode cX9_tries 38 = .ok (.i2l, 1) := by decide +kernel
theorem dX9_tries_39 : decode cX9_tries 39 = .ok (.invokevirtual 180, 3) := by decide +kernel
theorem dX9_tries_42 : decode cX9_tries 42 = .ok (.aload_n 0, 1) := by decide +kernel
theorem dX9_tries_43 : decode cX9_tries 43 = .ok (.aload_n 0, 1) := by decide +kernel
theorem dX9_tries_44 : decode cX9_tries 44 = .ok (.getfield 157, 3) := by decide +kernel
theorem dX9_tries_47 : decode cX9_tries 47 = .ok (.i2l, 1) := by decide +kernel
theorem dX9_tries_48 : decode cX9_tries 48 = .ok (.invokevirtual 180, 3) := by decide +kernel
theorem dX9_tries_51 : decode cX9_tries 51 = .ok (.iload_n 2, 1) := by decide +kernel
theorem dX9_tries_52 : decode cX9_tries 52 = .ok (.ireturn, 1) := by decide +kernel
theorem dX9_tried_0 : decode cX9_tried 0 = .ok (.aload_n 0, 1) := by decide +kernel
theorem dX9_tried_1 : decode cX9_tried 1 = .ok (.iconst 0, 1) := by decide +kernel
theorem dX9_tried_2 : decode cX9_tried 2 = .ok (.putfield 77, 3) := by decide +kernel
theorem dX9_tried_5 : decode cX9_tried 5 = .ok (.iload_n 1, 1) := by decide +kernel
theorem dX9_tried_6 : decode cX9_tried 6 = .ok (.i2l, 1) := by decide +kernel
theorem dX9_tried_7 : decode cX9_tried 7 = .ok (.lconst 0, 1) := by decide +kernel
theorem dX9_tried_8 : decode cX9_tried 8 = .ok (.aload_n 0, 1) := by decide +kernel
theorem dX9_tried_9 : decode cX9_tried 9 = .ok (.getfield 131, 3) := by decide +kernel
theorem dX9_tried_12 : decode cX9_tried 12 = .ok (.iconst 1, 1) := by decide +kernel
theorem dX9_tried_13 : decode cX9_tried 13 = .ok (.isub, 1) := by decide +kernel
theorem dX9_tried_14 : decode cX9_tried 14 = .ok (.i2l, 1) := by decide +kernel
theorem dX9_tried_15 : decode cX9_tried 15 = .ok (.invokestatic 87, 3) := by decide +kernel
theorem dX9_tried_18 : decode cX9_tried 18 = .ok (.ifCond .eq 28, 3) := by decide +kernel
theorem dX9_tried_21 : decode cX9_tried 21 = .ok (.iload_n 2, 1) := by decide +kernel
theorem dX9_tried_22 : decode cX9_tried 22 = .ok (.i2l, 1) := by decide +kernel
theorem dX9_tried_23 : decode cX9_tried 23 = .ok (.lconst 0, 1) := by decide +kernel
theorem dX9_tried_24 : decode cX9_tried 24 = .ok (.ldc2_w 259, 3) := by decide +kernel
theorem dX9_tried_27 : decode cX9_tried 27 = .ok (.invokestatic 87, 3) := by decide +kernel
theorem dX9_tried_30 : decode cX9_tried 30 = .ok (.ifCond .eq 16, 3) := by decide +kernel
theorem dX9_tried_33 : decode cX9_tried 33 = .ok (.aload_n 0, 1) := by decide +kernel
theorem dX9_tried_34 : decode cX9_tried 34 = .ok (.getfield 38, 3) := by decide +kernel
theorem dX9_tried_37 : decode cX9_tried 37 = .ok (.iconst 4, 1) := by decide +kernel
theorem dX9_tried_38 : decode cX9_tried 38 = .ok (.iload_n 1, 1) := by decide +kernel
theorem dX9_tried_39 : decode cX9_tried 39 = .ok (.imul, 1) := by decide +kernel
theorem dX9_tried_40 : decode cX9_tried 40 = .ok (.iload_n 2, 1) := by decide +kernel
theorem dX9_tried_41 : decode cX9_tried 41 = .ok (.iadd, 1) := by decide +kernel
theorem dX9_tried_42 : decode cX9_tried 42 = .ok (.iaload, 1) := by decide +kernel
theorem dX9_tried_43 : decode cX9_tried 43 = .ok (.goto 4, 3) := by decide +kernel
theorem dX9_tried_46 : decode cX9_tried 46 = .ok (.iconst (-1), 1) := by decide +kernel
theorem dX9_tried_47 : decode cX9_tried 47 = .ok (.ireturn, 1) := by decide +kernel
theorem dX9_place_0 : decode cX9_place 0 = .ok (.aload_n 0, 1) := by decide +kernel
theorem dX9_place_1 : decode cX9_place 1 = .ok (.iconst 0, 1) := by decide +kernel
theorem dX9_place_2 : decode cX9_place 2 = .ok (.putfield 77, 3) := by decide +kernel
theorem dX9_place_5 : decode cX9_place 5 = .ok (.aload_n 0, 1) := by decide +kernel
theorem dX9_place_6 : decode cX9_place 6 = .ok (.iload_n 1, 1) := by decide +kernel
theorem dX9_place_7 : decode cX9_place 7 = .ok (.invokevirtual 233, 3) := by decide +kernel
theorem dX9_place_10 : decode cX9_place 10 = .ok (.ifCond .ne 5, 3) := by decide +kernel
theorem dX9_place_13 : decode cX9_place 13 = .ok (.iconst (-1), 1) := by decide +kernel
theorem dX9_place_14 : decode cX9_place 14 = .ok (.ireturn, 1) := by decide +kernel
theorem dX9_place_15 : decode cX9_place 15 = .ok (.aload_n 0, 1) := by decide +kernel
theorem dX9_place_16 : decode cX9_place 16 = .ok (.invokevirtual 261, 3) := by decide +kernel
theorem dX9_place_19 : decode cX9_place 19 = .ok (.aload_n 0, 1) := by decide +kernel
theorem dX9_place_20 : decode cX9_place 20 = .ok (.iload_n 1, 1) := by decide +kernel
theorem dX9_place_21 : decode cX9_place 21 = .ok (.invokevirtual 177, 3) := by decide +kernel
theorem dX9_place_24 : decode cX9_place 24 = .ok (.ireturn, 1) := by decide +kernel
theorem dX9_slot_0 : decode cX9_slot 0 = .ok (.aload_n 0, 1) := by decide +kernel
theorem dX9_slot_1 : decode cX9_slot 1 = .ok (.iconst 0, 1) := by decide +kernel
theorem dX9_slot_2 : decode cX9_slot 2 = .ok (.putfield 77, 3) := by decide +kernel
theorem dX9_slot_5 : decode cX9_slot 5 = .ok (.aload_n 0, 1) := by decide +kernel
theorem dX9_slot_6 : decode cX9_slot 6 = .ok (.iload_n 1, 1) := by decide +kernel
theorem dX9_slot_7 : decode cX9_slot 7 = .ok (.invokevirtual 233, 3) := by decide +kernel
theorem dX9_slot_10 : decode cX9_slot 10 = .ok (.ifCond .eq 7, 3) := by decide +kernel
theorem dX9_slot_13 : decode cX9_slot 13 = .ok (.iload_n 2, 1) := by decide +kernel
theorem dX9_slot_14 : decode cX9_slot 14 = .ok (.ifCond .ge 5, 3) := by decide +kernel
theorem dX9_slot_17 : decode cX9_slot 17 = .ok (.iconst (-1), 1) := by decide +kernel
theorem dX9_slot_18 : decode cX9_slot 18 = .ok (.ireturn, 1) := by decide +kernel
theorem dX9_slot_19 : decode cX9_slot 19 = .ok (.aload_n 0, 1) := by decide +kernel
theorem dX9_slot_20 : decode cX9_slot 20 = .ok (.iload_n 1, 1) := by decide +kernel
theorem dX9_slot_21 : decode cX9_slot 21 = .ok (.invokevirtual 140, 3) := by decide +kernel
theorem dX9_slot_24 : decode cX9_slot 24 = .ok (.ifCond .ne 6, 3) := by decide +kernel
theorem dX9_slot_27 : decode cX9_slot 27 = .ok (.bipush (-2), 2) := by decide +kernel
theorem dX9_slot_29 : decode cX9_slot 29 = .ok (.ireturn, 1) := by decide +kernel
theorem dX9_slot_30 : decode cX9_slot 30 = .ok (.aload_n 0, 1) := by decide +kernel
theorem dX9_slot_31 : decode cX9_slot 31 = .ok (.iload_n 1, 1) := by decide +kernel
theorem dX9_slot_32 : decode cX9_slot 32 = .ok (.iconst 0, 1) := by decide +kernel
theorem dX9_slot_33 : decode cX9_slot 33 = .ok (.invokevirtual 106, 3) := by decide +kernel
theorem dX9_slot_36 : decode cX9_slot 36 = .ok (.istore_n 3, 1) := by decide +kernel
theorem dX9_slot_37 : decode cX9_slot 37 = .ok (.bipush (-3), 2) := by decide +kernel
theorem dX9_slot_39 : decode cX9_slot 39 = .ok (.istore 4, 2) := by decide +kernel
theorem dX9_slot_41 : decode cX9_slot 41 = .ok (.bipush 40, 2) := by decide +kernel
theorem dX9_slot_43 : decode cX9_slot 43 = .ok (.istore 5, 2) := by decide +kernel
theorem dX9_slot_45 : decode cX9_slot 45 = .ok (.iload 5, 2) := by decide +kernel
theorem dX9_slot_47 : decode cX9_slot 47 = .ok (.aload_n 0, 1) := by decide +kernel
theorem dX9_slot_48 : decode cX9_slot 48 = .ok (.iload_n 1, 1) := by decide +kernel
theorem dX9_slot_49 : decode cX9_slot 49 = .ok (.invokevirtual 249, 3) := by decide +kernel
theorem dX9_slot_52 : decode cX9_slot 52 = .ok (.if_icmp .lt 35, 3) := by decide +kernel
theorem dX9_slot_55 : decode cX9_slot 55 = .ok (.aload_n 0, 1) := by decide +kernel
theorem dX9_slot_56 : decode cX9_slot 56 = .ok (.iload_n 1, 1) := by decide +kernel
theorem dX9_slot_57 : decode cX9_slot 57 = .ok (.iconst 0, 1) := by decide +kernel
theorem dX9_slot_58 : decode cX9_slot 58 = .ok (.iload 5, 2) := by decide +kernel
theorem dX9_slot_60 : decode cX9_slot 60 = .ok (.invokevirtual 109, 3) := by decide +kernel
theorem dX9_slot_63 : decode cX9_slot 63 = .ok (.aload_n 0, 1) := by decide +kernel
theorem dX9_slot_64 : decode cX9_slot 64 = .ok (.iload_n 1, 1) := by decide +kernel
theorem dX9_slot_65 : decode cX9_slot 65 = .ok (.invokevirtual 252, 3) := by decide +kernel
theorem dX9_slot_68 : decode cX9_slot 68 = .ok (.iload_n 2, 1) := by decide +kernel
theorem dX9_slot_69 : decode cX9_slot 69 = .ok (.if_icmp .ne 8, 3) := by decide +kernel
theorem dX9_slot_72 : decode cX9_slot 72 = .ok (.iload 5, 2) := by decide +kernel
theorem dX9_slot_74 : decode cX9_slot 74 = .ok (.goto 5, 3) := by decide +kernel
theorem dX9_slot_77 : decode cX9_slot 77 = .ok (.iload 4, 2) := by decide +kernel
theorem dX9_slot_79 : decode cX9_slot 79 = .ok (.istore 4, 2) := by decide +kernel
theorem dX9_slot_81 : decode cX9_slot 81 = .ok (.iinc 5 (-1), 3) := by decide +kernel
theorem dX9_slot_84 : decode cX9_slot 84 = .ok (.goto (-39), 3) := by decide +kernel
theorem dX9_slot_87 : decode cX9_slot 87 = .ok (.aload_n 0, 1) := by decide +kernel
theorem dX9_slot_88 : decode cX9_slot 88 = .ok (.iload_n 1, 1) := by decide +kernel
theorem dX9_slot_89 : decode cX9_slot 89 = .ok (.iconst 0, 1) := by decide +kernel
theorem dX9_slot_90 : decode cX9_slot 90 = .ok (.iload_n 3, 1) := by decide +kernel
theorem dX9_slot_91 : decode cX9_slot 91 = .ok (.invokevirtual 109, 3) := by decide +kernel
theorem dX9_slot_94 : decode cX9_slot 94 = .ok (.iload 4, 2) := by decide +kernel
theorem dX9_slot_96 : decode cX9_slot 96 = .ok (.ireturn, 1) := by decide +kernel
theorem dX9_needs_0 : decode cX9_needs 0 = .ok (.aload_n 0, 1) := by decide +kernel
theorem dX9_needs_1 : decode cX9_needs 1 = .ok (.iconst 0, 1) := by decide +kernel
theorem dX9_needs_2 : decode cX9_needs 2 = .ok (.putfield 77, 3) := by decide +kernel
theorem dX9_needs_5 : decode cX9_needs 5 = .ok (.aload_n 0, 1) := by decide +kernel
theorem dX9_needs_6 : decode cX9_needs 6 = .ok (.iload_n 1, 1) := by decide +kernel
theorem dX9_needs_7 : decode cX9_needs 7 = .ok (.invokevirtual 233, 3) := by decide +kernel
theorem dX9_needs_10 : decode cX9_needs 10 = .ok (.ifCond .eq 16, 3) := by decide +kernel
theorem dX9_needs_13 : decode cX9_needs 13 = .ok (.aload_n 0, 1) := by decide +kernel
theorem dX9_needs_14 : decode cX9_needs 14 = .ok (.iload_n 2, 1) := by decide +kernel
theorem dX9_needs_15 : decode cX9_needs 15 = .ok (.invokevirtual 233, 3) := by decide +kernel
theorem dX9_needs_18 : decode cX9_needs 18 = .ok (.ifCond .eq 8, 3) := by decide +kernel
theorem dX9_needs_21 : decode cX9_needs 21 = .ok (.iload_n 1, 1) := by decide +kernel
theorem dX9_needs_22 : decode cX9_needs 22 = .ok (.iload_n 2, 1) := by decide +kernel
theorem dX9_needs_23 : decode cX9_needs 23 = .ok (.if_icmp .ne 5, 3) := by decide +kernel
theorem dX9_needs_26 : decode cX9_needs 26 = .ok (.iconst (-1), 1) := by decide +kernel
theorem dX9_needs_27 : decode cX9_needs 27 = .ok (.ireturn, 1) := by decide +kernel
theorem dX9_needs_28 : decode cX9_needs 28 = .ok (.aload_n 0, 1) := by decide +kernel
theorem dX9_needs_29 : decode cX9_needs 29 = .ok (.iload_n 1, 1) := by decide +kernel
theorem dX9_needs_30 : decode cX9_needs 30 = .ok (.iload_n 2, 1) := by decide +kernel
theorem dX9_needs_31 : decode cX9_needs 31 = .ok (.invokevirtual 174, 3) := by decide +kernel
theorem dX9_needs_34 : decode cX9_needs 34 = .ok (.ifCond .eq 5, 3) := by decide +kernel
theorem dX9_needs_37 : decode cX9_needs 37 = .ok (.iconst 0, 1) := by decide +kernel
theorem dX9_needs_38 : decode cX9_needs 38 = .ok (.ireturn, 1) := by decide +kernel
theorem dX9_needs_39 : decode cX9_needs 39 = .ok (.aload_n 0, 1) := by decide +kernel
theorem dX9_needs_40 : decode cX9_needs 40 = .ok (.iload_n 1, 1) := by decide +kernel
theorem dX9_needs_41 : decode cX9_needs 41 = .ok (.invokevirtual 249, 3) := by decide +kernel
theorem dX9_needs_44 : decode cX9_needs 44 = .ok (.ifCond .ne 6, 3) := by decide +kernel
theorem dX9_needs_47 : decode cX9_needs 47 = .ok (.bipush (-2), 2) := by decide +kernel
theorem dX9_needs_49 : decode cX9_needs 49 = .ok (.ireturn, 1) := by decide +kernel
theorem dX9_needs_50 : decode cX9_needs 50 = .ok (.bipush 7, 2) := by decide +kernel
theorem dX9_needs_52 : decode cX9_needs 52 = .ok (.aload_n 0, 1) := by decide +kernel
theorem dX9_needs_53 : decode cX9_needs 53 = .ok (.getfield 32, 3) := by decide +kernel
theorem dX9_needs_56 : decode cX9_needs 56 = .ok (.iconst 0, 1) := by decide +kernel
theorem dX9_needs_57 : decode cX9_needs 57 = .ok (.iaload, 1) := by decide +kernel
theorem dX9_needs_58 : decode cX9_needs 58 = .ok (.iadd, 1) := by decide +kernel
theorem dX9_needs_59 : decode cX9_needs 59 = .ok (.istore_n 3, 1) := by decide +kernel
theorem dX9_needs_60 : decode cX9_needs 60 = .ok (.aload_n 0, 1) := by decide +kernel
theorem dX9_needs_61 : decode cX9_needs 61 = .ok (.iload_n 1, 1) := by decide +kernel
theorem dX9_needs_62 : decode cX9_needs 62 = .ok (.iload_n 3, 1) := by decide +kernel
theorem dX9_needs_63 : decode cX9_needs 63 = .ok (.invokevirtual 106, 3) := by decide +kernel
theorem dX9_needs_66 : decode cX9_needs 66 = .ok (.istore 4, 2) := by decide +kernel
theorem dX9_needs_68 : decode cX9_needs 68 = .ok (.bipush (-3), 2) := by decide +kernel
theorem dX9_needs_70 : decode cX9_needs 70 = .ok (.istore 5, 2) := by decide +kernel
theorem dX9_needs_72 : decode cX9_needs 72 = .ok (.bipush 40, 2) := by decide +kernel
theorem dX9_needs_74 : decode cX9_needs 74 = .ok (.istore 6, 2) := by decide +kernel
theorem dX9_needs_76 : decode cX9_needs 76 = .ok (.iload 6, 2) := by decide +kernel
theorem dX9_needs_78 : decode cX9_needs 78 = .ok (.aload_n 0, 1) := by decide +kernel
theorem dX9_needs_79 : decode cX9_needs 79 = .ok (.iload_n 1, 1) := by decide +kernel
theorem dX9_needs_80 : decode cX9_needs 80 = .ok (.invokevirtual 249, 3) := by decide +kernel
theorem dX9_needs_83 : decode cX9_needs 83 = .ok (.if_icmp .lt 40, 3) := by decide +kernel
theorem dX9_needs_86 : decode cX9_needs 86 = .ok (.aload_n 0, 1) := by decide +kernel
theorem dX9_needs_87 : decode cX9_needs 87 = .ok (.iload_n 1, 1) := by decide +kernel
theorem dX9_needs_88 : decode cX9_needs 88 = .ok (.iload_n 3, 1) := by decide +kernel
theorem dX9_needs_89 : decode cX9_needs 89 = .ok (.iload 4, 2) := by decide +kernel
theorem dX9_needs_91 : decode cX9_needs 91 = .ok (.iload 6, 2) := by decide +kernel
theorem dX9_needs_93 : decode cX9_needs 93 = .ok (.invokestatic 100, 3) := by decide +kernel
theorem dX9_needs_96 : decode cX9_needs 96 = .ok (.invokevirtual 109, 3) := by decide +kernel
theorem dX9_needs_99 : decode cX9_needs 99 = .ok (.aload_n 0, 1) := by decide +kernel
theorem dX9_needs_100 : decode cX9_needs 100 = .ok (.iload_n 1, 1) := by decide +kernel
theorem dX9_needs_101 : decode cX9_needs 101 = .ok (.iload_n 2, 1) := by decide +kernel
theorem dX9_needs_102 : decode cX9_needs 102 = .ok (.invokevirtual 174, 3) := by decide +kernel
theorem dX9_needs_105 : decode cX9_needs 105 = .ok (.ifCond .eq 8, 3) := by decide +kernel
theorem dX9_needs_108 : decode cX9_needs 108 = .ok (.iload 6, 2) := by decide +kernel
theorem dX9_needs_110 : decode cX9_needs 110 = .ok (.goto 5, 3) := by decide +kernel
theorem dX9_needs_113 : decode cX9_needs 113 = .ok (.iload 5, 2) := by decide +kernel
theorem dX9_needs_115 : decode cX9_needs 115 = .ok (.istore 5, 2) := by decide +kernel
theorem dX9_needs_117 : decode cX9_needs 117 = .ok (.iinc 6 (-1), 3) := by decide +kernel
theorem dX9_needs_120 : decode cX9_needs 120 = .ok (.goto (-44), 3) := by decide +kernel
theorem dX9_needs_123 : decode cX9_needs 123 = .ok (.aload_n 0, 1) := by decide +kernel
theorem dX9_needs_124 : decode cX9_needs 124 = .ok (.iload_n 1, 1) := by decide +kernel
theorem dX9_needs_125 : decode cX9_needs 125 = .ok (.iload_n 3, 1) := by decide +kernel
theorem dX9_needs_126 : decode cX9_needs 126 = .ok (.iload 4, 2) := by decide +kernel
theorem dX9_needs_128 : decode cX9_needs 128 = .ok (.invokevirtual 109, 3) := by decide +kernel
theorem dX9_needs_131 : decode cX9_needs 131 = .ok (.iload 5, 2) := by decide +kernel
theorem dX9_needs_133 : decode cX9_needs 133 = .ok (.ireturn, 1) := by decide +kernel
theorem dX9_aimsMass_0 : decode cX9_aimsMass 0 = .ok (.iconst 0, 1) := by decide +kernel
theorem dX9_aimsMass_1 : decode cX9_aimsMass 1 = .ok (.istore_n 1, 1) := by decide +kernel
theorem dX9_aimsMass_2 : decode cX9_aimsMass 2 = .ok (.iload_n 1, 1) := by decide +kernel
theorem dX9_aimsMass_3 : decode cX9_aimsMass 3 = .ok (.bipush 121, 2) := by decide +kernel
theorem dX9_aimsMass_5 : decode cX9_aimsMass 5 = .ok (.if_icmp .ge 20, 3) := by decide +kernel
theorem dX9_aimsMass_8 : decode cX9_aimsMass 8 = .ok (.aload_n 0, 1) := by decide +kernel
theorem dX9_aimsMass_9 : decode cX9_aimsMass 9 = .ok (.getfield 56, 3) := by decide +kernel
theorem dX9_aimsMass_12 : decode cX9_aimsMass 12 = .ok (.iload_n 1, 1) := by decide +kernel
theorem dX9_aimsMass_13 : decode cX9_aimsMass 13 = .ok (.sipush 1000, 3) := by decide +kernel
theorem dX9_aimsMass_16 : decode cX9_aimsMass 16 = .ok (.iload_n 1, 1) := by decide +kernel
theorem dX9_aimsMass_17 : decode cX9_aimsMass 17 = .ok (.imul, 1) := by decide +kernel
theorem dX9_aimsMass_18 : decode cX9_aimsMass 18 = .ok (.iastore, 1) := by decide +kernel
theorem dX9_aimsMass_19 : decode cX9_aimsMass 19 = .ok (.iinc 1 1, 3) := by decide +kernel
theorem dX9_aimsMass_22 : decode cX9_aimsMass 22 = .ok (.goto (-20), 3) := by decide +kernel
theorem dX9_aimsMass_25 : decode cX9_aimsMass 25 = .ok (.return_, 1) := by decide +kernel
theorem dX9_aimsReach_0 : decode cX9_aimsReach 0 = .ok (.iconst 0, 1) := by decide +kernel
theorem dX9_aimsReach_1 : decode cX9_aimsReach 1 = .ok (.istore_n 2, 1) := by decide +kernel
theorem dX9_aimsReach_2 : decode cX9_aimsReach 2 = .ok (.iload_n 2, 1) := by decide +kernel
theorem dX9_aimsReach_3 : decode cX9_aimsReach 3 = .ok (.bipush 121, 2) := by decide +kernel
theorem dX9_aimsReach_5 : decode cX9_aimsReach 5 = .ok (.if_icmp .ge 27, 3) := by decide +kernel
theorem dX9_aimsReach_8 : decode cX9_aimsReach 8 = .ok (.aload_n 0, 1) := by decide +kernel
theorem dX9_aimsReach_9 : decode cX9_aimsReach 9 = .ok (.getfield 56, 3) := by decide +kernel
theorem dX9_aimsReach_12 : decode cX9_aimsReach 12 = .ok (.iload_n 2, 1) := by decide +kernel
theorem dX9_aimsReach_13 : decode cX9_aimsReach 13 = .ok (.iload_n 2, 1) := by decide +kernel
theorem dX9_aimsReach_14 : decode cX9_aimsReach 14 = .ok (.iload_n 1, 1) := by decide +kernel
theorem dX9_aimsReach_15 : decode cX9_aimsReach 15 = .ok (.if_icmp .lt 9, 3) := by decide +kernel
theorem dX9_aimsReach_18 : decode cX9_aimsReach 18 = .ok (.ldc_w 264, 3) := by decide +kernel
theorem dX9_aimsReach_21 : decode cX9_aimsReach 21 = .ok (.goto 4, 3) := by decide +kernel
theorem dX9_aimsReach_24 : decode cX9_aimsReach 24 = .ok (.iconst 0, 1) := by decide +kernel
