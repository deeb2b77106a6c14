set_option maxRecDepth 20000 in
theorem ggX9_isAhead_X9_isLighter : GoodIn wsX9_isAhead wsX9_isLighter := goodIn_r _ [18, 19, 20, 21, 22, 23, 24, 25, 26, 27, 28, 29, 30, 31, 32, 33, 34, 35, 36, 37, 38, 39, 40, 41, 42, 43, 44, 45, 46, 47, 48, 49, 50, 51, 52, 53, 54, 55, 56, 57, 58, 59, 60] (by decide +kernel) (by decide +kernel)
set_option maxRecDepth 20000 in
theorem gX9_isAhead_X9_isLighter : GoodIn wsX9_isAhead (wsV RX9 171 RX9 yX9_isLighter wsX9_isLighter) := goodIn_app (goodIn_of _ (by decide +kernel)) ggX9_isAhead_X9_isLighter
theorem dX9_isAhead_0 : decode cX9_isAhead 0 = .ok (.aload_n 0, 1) := by decide +kernel
theorem dX9_isAhead_1 : decode cX9_isAhead 1 = .ok (.iload_n 1, 1) := by decide +kernel
theorem dX9_isAhead_2 : decode cX9_isAhead 2 = .ok (.invokevirtual 121, 3) := by decide +kernel
theorem dX9_isAhead_5 : decode cX9_isAhead 5 = .ok (.aload_n 0, 1) := by decide +kernel
theorem dX9_isAhead_6 : decode cX9_isAhead 6 = .ok (.iload_n 2, 1) := by decide +kernel
theorem dX9_isAhead_7 : decode cX9_isAhead 7 = .ok (.invokevirtual 121, 3) := by decide +kernel
theorem dX9_isAhead_10 : decode cX9_isAhead 10 = .ok (.if_icmp .eq 9, 3) := by decide +kernel
theorem dX9_isAhead_13 : decode cX9_isAhead 13 = .ok (.aload_n 0, 1) := by decide +kernel
theorem dX9_isAhead_14 : decode cX9_isAhead 14 = .ok (.iload_n 2, 1) := by decide +kernel
theorem dX9_isAhead_15 : decode cX9_isAhead 15 = .ok (.invokevirtual 121, 3) := by decide +kernel
theorem dX9_isAhead_18 : decode cX9_isAhead 18 = .ok (.ireturn, 1) := by decide +kernel
theorem dX9_isAhead_19 : decode cX9_isAhead 19 = .ok (.aload_n 0, 1) := by decide +kernel
theorem dX9_isAhead_20 : decode cX9_isAhead 20 = .ok (.iload_n 1, 1) := by decide +kernel
theorem dX9_isAhead_21 : decode cX9_isAhead 21 = .ok (.invokevirtual 167, 3) := by decide +kernel
theorem dX9_isAhead_24 : decode cX9_isAhead 24 = .ok (.aload_n 0, 1) := by decide +kernel
theorem dX9_isAhead_25 : decode cX9_isAhead 25 = .ok (.iload_n 2, 1) := by decide +kernel
theorem dX9_isAhead_26 : decode cX9_isAhead 26 = .ok (.invokevirtual 167, 3) := by decide +kernel
theorem dX9_isAhead_29 : decode cX9_isAhead 29 = .ok (.if_icmp .gt 25, 3) := by decide +kernel
theorem dX9_isAhead_32 : decode cX9_isAhead 32 = .ok (.aload_n 0, 1) := by decide +kernel
theorem dX9_isAhead_33 : decode cX9_isAhead 33 = .ok (.iload_n 1, 1) := by decide +kernel
theorem dX9_isAhead_34 : decode cX9_isAhead 34 = .ok (.invokevirtual 167, 3) := by decide +kernel
theorem dX9_isAhead_37 : decode cX9_isAhead 37 = .ok (.aload_n 0, 1) := by decide +kernel
theorem dX9_isAhead_38 : decode cX9_isAhead 38 = .ok (.iload_n 2, 1) := by decide +kernel
theorem dX9_isAhead_39 : decode cX9_isAhead 39 = .ok (.invokevirtual 167, 3) := by decide +kernel
theorem dX9_isAhead_42 : decode cX9_isAhead 42 = .ok (.if_icmp .ne 16, 3) := by decide +kernel
theorem dX9_isAhead_45 : decode cX9_isAhead 45 = .ok (.aload_n 0, 1) := by decide +kernel
theorem dX9_isAhead_46 : decode cX9_isAhead 46 = .ok (.iload_n 1, 1) := by decide +kernel
theorem dX9_isAhead_47 : decode cX9_isAhead 47 = .ok (.iload_n 2, 1) := by decide +kernel
theorem dX9_isAhead_48 : decode cX9_isAhead 48 = .ok (.invokevirtual 171, 3) := by decide +kernel
theorem dX9_isAhead_51 : decode cX9_isAhead 51 = .ok (.ifCond .eq 7, 3) := by decide +kernel
theorem dX9_isAhead_54 : decode cX9_isAhead 54 = .ok (.iconst 1, 1) := by decide +kernel
theorem dX9_isAhead_55 : decode cX9_isAhead 55 = .ok (.goto 4, 3) := by decide +kernel
theorem dX9_isAhead_58 : decode cX9_isAhead 58 = .ok (.iconst 0, 1) := by decide +kernel
theorem dX9_isAhead_59 : decode cX9_isAhead 59 = .ok (.ireturn, 1) := by decide +kernel
set_option maxRecDepth 20000 in
theorem ggX9_aheadOf_X9_isAhead : GoodIn wsX9_aheadOf wsX9_isAhead := goodIn_r _ [6, 7, 8, 9, 5, 10, 11, 12, 13, 14, 15, 16, 17, 18, 19, 20, 21, 22, 23, 24, 25, 29, 30, 31, 32, 33, 34, 35, 36, 37, 38, 39, 40, 41, 42, 43, 44, 45, 46, 47, 48, 49, 50, 51, 52, 53, 54, 55, 56, 57, 58, 59, 60, 61, 62, 63, 64, 65, 66, 67, 68] (by decide +kernel) (by decide +kernel)
set_option maxRecDepth 20000 in
theorem gX9_aheadOf_X9_isAhead : GoodIn wsX9_aheadOf (wsV RX9 174 RX9 yX9_isAhead wsX9_isAhead) := goodIn_app (goodIn_of _ (by decide +kernel)) ggX9_aheadOf_X9_isAhead
set_option maxRecDepth 20000 in
theorem ggX9_aheadOf_X9_flag : GoodIn wsX9_aheadOf wsX9_flag := goodIn_r _ [28] (by decide +kernel) (by decide +kernel)
set_option maxRecDepth 20000 in
theorem gX9_aheadOf_X9_flag : GoodIn wsX9_aheadOf (va_wsS RX9 160 yX9_flag wsX9_flag) := goodIn_app (goodIn_of _ (by decide +kernel)) ggX9_aheadOf_X9_flag
theorem dX9_aheadOf_0 : decode cX9_aheadOf 0 = .ok (.iconst 0, 1) := by decide +kernel
theorem dX9_aheadOf_1 : decode cX9_aheadOf 1 = .ok (.istore_n 2, 1) := by decide +kernel
theorem dX9_aheadOf_2 : decode cX9_aheadOf 2 = .ok (.iconst 0, 1) := by decide +kernel
theorem dX9_aheadOf_3 : decode cX9_aheadOf 3 = .ok (.istore_n 3, 1) := by decide +kernel
theorem dX9_aheadOf_4 : decode cX9_aheadOf 4 = .ok (.iload_n 3, 1) := by decide +kernel
theorem dX9_aheadOf_5 : decode cX9_aheadOf 5 = .ok (.aload_n 0, 1) := by decide +kernel
theorem dX9_aheadOf_6 : decode cX9_aheadOf 6 = .ok (.getfield 84, 3) := by decide +kernel
theorem dX9_aheadOf_9 : decode cX9_aheadOf 9 = .ok (.if_icmp .ge 34, 3) := by decide +kernel
theorem dX9_aheadOf_12 : decode cX9_aheadOf 12 = .ok (.iload_n 2, 1) := by decide +kernel
theorem dX9_aheadOf_13 : decode cX9_aheadOf 13 = .ok (.iload_n 3, 1) := by decide +kernel
theorem dX9_aheadOf_14 : decode cX9_aheadOf 14 = .ok (.iload_n 1, 1) := by decide +kernel
theorem dX9_aheadOf_15 : decode cX9_aheadOf 15 = .ok (.if_icmp .eq 16, 3) := by decide +kernel
theorem dX9_aheadOf_18 : decode cX9_aheadOf 18 = .ok (.aload_n 0, 1) := by decide +kernel
theorem dX9_aheadOf_19 : decode cX9_aheadOf 19 = .ok (.iload_n 3, 1) := by decide +kernel
theorem dX9_aheadOf_20 : decode cX9_aheadOf 20 = .ok (.iload_n 1, 1) := by decide +kernel
theorem dX9_aheadOf_21 : decode cX9_aheadOf 21 = .ok (.invokevirtual 174, 3) := by decide +kernel
theorem dX9_aheadOf_24 : decode cX9_aheadOf 24 = .ok (.ifCond .eq 7, 3) := by decide +kernel
theorem dX9_aheadOf_27 : decode cX9_aheadOf 27 = .ok (.iconst 1, 1) := by decide +kernel
theorem dX9_aheadOf_28 : decode cX9_aheadOf 28 = .ok (.goto 4, 3) := by decide +kernel
theorem dX9_aheadOf_31 : decode cX9_aheadOf 31 = .ok (.iconst 0, 1) := by decide +kernel
theorem dX9_aheadOf_32 : decode cX9_aheadOf 32 = .ok (.invokestatic 160, 3) := by decide +kernel
theorem dX9_aheadOf_35 : decode cX9_aheadOf 35 = .ok (.iadd, 1) := by decide +kernel
theorem dX9_aheadOf_36 : decode cX9_aheadOf 36 = .ok (.istore_n 2, 1) := by decide +kernel
theorem dX9_aheadOf_37 : decode cX9_aheadOf 37 = .ok (.iinc 3 1, 3) := by decide +kernel
theorem dX9_aheadOf_40 : decode cX9_aheadOf 40 = .ok (.goto (-36), 3) := by decide +kernel
theorem dX9_aheadOf_43 : decode cX9_aheadOf 43 = .ok (.iload_n 2, 1) := by decide +kernel
theorem dX9_aheadOf_44 : decode cX9_aheadOf 44 = .ok (.ireturn, 1) := by decide +kernel
set_option maxRecDepth 20000 in
theorem ggX9_entersPlaces_X9_aheadOf : GoodIn wsX9_entersPlaces wsX9_aheadOf := goodIn_r _ [7, 2, 8, 9, 10, 6, 11, 12, 13, 14, 15, 16, 17, 18, 19, 20, 21, 22, 23, 24, 25, 26, 27, 28, 29, 30, 31, 32, 33, 39, 40, 41, 42, 43, 44, 45, 46, 47, 48, 49, 50, 51, 52, 53, 54, 55, 56, 57, 58, 59, 60, 61, 62, 63, 64, 65, 66, 67, 68, 69, 70, 71, 72, 73, 74, 75, 76, 77, 78] (by decide +kernel) (by decide +kernel)
set_option maxRecDepth 20000 in
theorem gX9_entersPlaces_X9_aheadOf : GoodIn wsX9_entersPlaces (wsV RX9 177 RX9 yX9_aheadOf wsX9_aheadOf) := goodIn_app (goodIn_of _ (by decide +kernel)) ggX9_entersPlaces_X9_aheadOf
set_option maxRecDepth 20000 in
theorem ggX9_entersPlaces_X9_notes : GoodIn wsX9_entersPlaces wsX9_notes := goodIn_r _ [37, 38, 1, 39, 40, 41, 42, 43, 44, 45, 46, 47, 48, 49, 50, 51, 52, 53, 54, 55, 56, 57, 58, 59, 60, 61, 62, 63, 64, 65, 66, 67, 68, 69, 70, 71, 72, 73, 74, 75, 76, 77, 78] (by decide +kernel) (by decide +kernel)
set_option maxRecDepth 20000 in
theorem gX9_entersPlaces_X9_notes : GoodIn wsX9_entersPlaces (wsV RX9 180 RX9 yX9_notes wsX9_notes) := goodIn_app (goodIn_of _ (by decide +kernel)) ggX9_entersPlaces_X9_notes
theorem dX9_entersPlaces_0 : decode cX9_entersPlaces 0 = .ok (.aload_n 0, 1) := by decide +kernel
theorem dX9_entersPlaces_1 : decode cX9_entersPlaces 1 = .ok (.iconst 0, 1) := by decide +kernel
theorem dX9_entersPlaces_2 : decode cX9_entersPlaces 2 = .ok (.putfield 81, 3) := by decide +kernel
theorem dX9_entersPlaces_5 : decode cX9_entersPlaces 5 = .ok (.iconst 0, 1) := by decide +kernel
theorem dX9_entersPlaces_6 : decode cX9_entersPlaces 6 = .ok (.istore_n 1, 1) := by decide +kernel
theorem dX9_entersPlaces_7 : decode cX9_entersPlaces 7 = .ok (.iload_n 1, 1) := by decide +kernel
theorem dX9_entersPlaces_8 : decode cX9_entersPlaces 8 = .ok (.aload_n 0, 1) := by decide +kernel
theorem dX9_entersPlaces_9 : decode cX9_entersPlaces 9 = .ok (.getfield 84, 3) := by decide +kernel
theorem dX9_entersPlaces_12 : decode cX9_entersPlaces 12 = .ok (.if_icmp .ge 40, 3) := by decide +kernel
theorem dX9_entersPlaces_15 : decode cX9_entersPlaces 15 = .ok (.iconst 0, 1) := by decide +kernel
theorem dX9_entersPlaces_16 : decode cX9_entersPlaces 16 = .ok (.istore_n 2, 1) := by decide +kernel
theorem dX9_entersPlaces_17 : decode cX9_entersPlaces 17 = .ok (.iload_n 2, 1) := by decide +kernel
theorem dX9_entersPlaces_18 : decode cX9_entersPlaces 18 = .ok (.aload_n 0, 1) := by decide +kernel
theorem dX9_entersPlaces_19 : decode cX9_entersPlaces 19 = .ok (.getfield 84, 3) := by decide +kernel
theorem dX9_entersPlaces_22 : decode cX9_entersPlaces 22 = .ok (.if_icmp .ge 24, 3) := by decide +kernel
theorem dX9_entersPlaces_25 : decode cX9_entersPlaces 25 = .ok (.aload_n 0, 1) := by decide +kernel
theorem dX9_entersPlaces_26 : decode cX9_entersPlaces 26 = .ok (.iload_n 2, 1) := by decide +kernel
theorem dX9_entersPlaces_27 : decode cX9_entersPlaces 27 = .ok (.invokevirtual 177, 3) := by decide +kernel
theorem dX9_entersPlaces_30 : decode cX9_entersPlaces 30 = .ok (.iload_n 1, 1) := by decide +kernel
theorem dX9_entersPlaces_31 : decode cX9_entersPlaces 31 = .ok (.if_icmp .ne 9, 3) := by decide +kernel
theorem dX9_entersPlaces_34 : decode cX9_entersPlaces 34 = .ok (.aload_n 0, 1) := by decide +kernel
theorem dX9_entersPlaces_35 : decode cX9_entersPlaces 35 = .ok (.iload_n 2, 1) := by decide +kernel
theorem dX9_entersPlaces_36 : decode cX9_entersPlaces 36 = .ok (.i2l, 1) := by decide +kernel
theorem dX9_entersPlaces_37 : decode cX9_entersPlaces 37 = .ok (.invokevirtual 180, 3) := by decide +kernel
theorem dX9_entersPlaces_40 : decode cX9_entersPlaces 40 = .ok (.iinc 2 1, 3) := by decide +kernel
theorem dX9_entersPlaces_43 : decode cX9_entersPlaces 43 = .ok (.goto (-26), 3) := by decide +kernel
theorem dX9_entersPlaces_46 : decode cX9_entersPlaces 46 = .ok (.iinc 1 1, 3) := by decide +kernel
theorem dX9_entersPlaces_49 : decode cX9_entersPlaces 49 = .ok (.goto (-42), 3) := by decide +kernel
theorem dX9_entersPlaces_52 : decode cX9_entersPlaces 52 = .ok (.return_, 1) := by decide +kernel
theorem dX9_sign_0 : decode cX9_sign 0 = .ok (.aload_n 0, 1) := by decide +kernel
theorem dX9_sign_1 : decode cX9_sign 1 = .ok (.iconst 0, 1) := by decide +kernel
theorem dX9_sign_2 : decode cX9_sign 2 = .ok (.putfield 77, 3) := by decide +kernel
theorem dX9_sign_5 : decode cX9_sign 5 = .ok (.aload_n 0, 1) := by decide +kernel
theorem dX9_sign_6 : decode cX9_sign 6 = .ok (.getfield 184, 3) := by decide +kernel
theorem dX9_sign_9 : decode cX9_sign 9 = .ok (.sipush 236, 3) := by decide +kernel
theorem dX9_sign_12 : decode cX9_sign 12 = .ok (.if_icmp .le 5, 3) := by decide +kernel
theorem dX9_sign_15 : decode cX9_sign 15 = .ok (.iconst (-1), 1) := by decide +kernel
theorem dX9_sign_16 : decode cX9_sign 16 = .ok (.ireturn, 1) := by decide +kernel
theorem dX9_sign_17 : decode cX9_sign 17 = .ok (.iconst 0, 1) := by decide +kernel
theorem dX9_sign_18 : decode cX9_sign 18 = .ok (.istore_n 2, 1) := by decide +kernel
theorem dX9_sign_19 : decode cX9_sign 19 = .ok (.iload_n 2, 1) := by decide +kernel
theorem dX9_sign_20 : decode cX9_sign 20 = .ok (.iconst 4, 1) := by decide +kernel
theorem dX9_sign_21 : decode cX9_sign 21 = .ok (.if_icmp .ge 33, 3) := by decide +kernel
theorem dX9_sign_24 : decode cX9_sign 24 = .ok (.aload_n 0, 1) := by decide +kernel
theorem dX9_sign_25 : decode cX9_sign 25 = .ok (.getfield 41, 3) := by decide +kernel
theorem dX9_sign_28 : decode cX9_sign 28 = .ok (.aload_n 0, 1) := by decide +kernel
theorem dX9_sign_29 : decode cX9_sign 29 = .ok (.getfield 184, 3) := by decide +kernel
theorem dX9_sign_32 : decode cX9_sign 32 = .ok (.iload_n 2, 1) := by decide +kernel
theorem dX9_sign_33 : decode cX9_sign 33 = .ok (.iadd, 1) := by decide +kernel
theorem dX9_sign_34 : decode cX9_sign 34 = .ok (.iload_n 1, 1) := by decide +kernel
theorem dX9_sign_35 : decode cX9_sign 35 = .ok (.bipush 24, 2) := by decide +kernel
theorem dX9_sign_37 : decode cX9_sign 37 = .ok (.bipush 8, 2) := by decide +kernel
theorem dX9_sign_39 : decode cX9_sign 39 = .ok (.iload_n 2, 1) := by decide +kernel
theorem dX9_sign_40 : decode cX9_sign 40 = .ok (.imul, 1) := by decide +kernel
theorem dX9_sign_41 : decode cX9_sign 41 = .ok (.isub, 1) := by decide +kernel
theorem dX9_sign_42 : decode cX9_sign 42 = .ok (.ishr, 1) := by decide +kernel
theorem dX9_sign_43 : decode cX9_sign 43 = .ok (.sipush 255, 3) := by decide +kernel
theorem dX9_sign_46 : decode cX9_sign 46 = .ok (.iand, 1) := by decide +kernel
theorem dX9_sign_47 : decode cX9_sign 47 = .ok (.iastore, 1) := by decide +kernel
theorem dX9_sign_48 : decode cX9_sign 48 = .ok (.iinc 2 1, 3) := by decide +kernel
theorem dX9_sign_51 : decode cX9_sign 51 = .ok (.goto (-32), 3) := by decide +kernel
theorem dX9_sign_54 : decode cX9_sign 54 = .ok (.aload_n 0, 1) := by decide +kernel
theorem dX9_sign_55 : decode cX9_sign 55 = .ok (.dup, 1) := by decide +kernel
theorem dX9_sign_56 : decode cX9_sign 56 = .ok (.getfield 184, 3) := by decide +kernel
theorem dX9_sign_59 : decode cX9_sign 59 = .ok (.iconst 4, 1) := by decide +kernel
theorem dX9_sign_60 : decode cX9_sign 60 = .ok (.iadd, 1) := by decide +kernel
theorem dX9_sign_61 : decode cX9_sign 61 = .ok (.putfield 184, 3) := by decide +kernel
theorem dX9_sign_64 : decode cX9_sign 64 = .ok (.aload_n 0, 1) := by decide +kernel
theorem dX9_sign_65 : decode cX9_sign 65 = .ok (.getfield 184, 3) := by decide +kernel
theorem dX9_sign_68 : decode cX9_sign 68 = .ok (.ireturn, 1) := by decide +kernel
set_option maxRecDepth 20000 in
theorem ggX9_end_X9_in : GoodIn wsX9_end wsX9_in := goodIn_r _ [6] (by decide +kernel) (by decide +kernel)
set_option maxRecDepth 20000 in
theorem gX9_end_X9_in : GoodIn wsX9_end (va_wsS RX9 87 yX9_in wsX9_in) := goodIn_app (goodIn_of _ (by decide +kernel)) ggX9_end_X9_in
theorem dX9_end_0 : decode cX9_end 0 = .ok (.aload_n 0, 1) := by decide +kernel
theorem dX9_end_1 : decode cX9_end 1 = .ok (.iconst 0, 1) := by decide +kernel
theorem dX9_end_2 : decode cX9_end 2 = .ok (.putfield 77, 3) := by decide +kernel
theorem dX9_end_5 : decode cX9_end 5 = .ok (.iload_n 1, 1) := by decide +kernel
theorem dX9_end_6 : decode cX9_end 6 = .ok (.i2l, 1) := by decide +kernel
theorem dX9_end_7 : decode cX9_end 7 = .ok (.lconst 0, 1) := by decide +kernel
theorem dX9_end_8 : decode cX9_end 8 = .ok (.aload_n 0, 1) := by decide +kernel
theorem dX9_end_9 : decode cX9_end 9 = .ok (.getfield 184, 3) := by decide +kernel
theorem dX9_end_12 : decode cX9_end 12 = .ok (.i2l, 1) := by decide +kernel
theorem dX9_end_13 : decode cX9_end 13 = .ok (.invokestatic 87, 3) := by decide +kernel
theorem dX9_end_16 : decode cX9_end 16 = .ok (.ifCond .ne 5, 3) := by decide +kernel
theorem dX9_end_19 : decode cX9_end 19 = .ok (.iconst 0, 1) := by decide +kernel
theorem dX9_end_20 : decode cX9_end 20 = .ok (.ireturn, 1) := by decide +kernel
theorem dX9_end_21 : decode cX9_end 21 = .ok (.aload_n 0, 1) := by decide +kernel
theorem dX9_end_22 : decode cX9_end 22 = .ok (.iload_n 1, 1) := by decide +kernel
theorem dX9_end_23 : decode cX9_end 23 = .ok (.putfield 184, 3) := by decide +kernel
theorem dX9_end_26 : decode cX9_end 26 = .ok (.iconst 1, 1) := by decide +kernel
theorem dX9_end_27 : decode cX9_end 27 = .ok (.ireturn, 1) := by decide +kernel
theorem dX9_takes_0 : decode cX9_takes 0 = .ok (.aload_n 0, 1) := by decide +kernel
theorem dX9_takes_1 : decode cX9_takes 1 = .ok (.getfield 187, 3) := by decide +kernel
theorem dX9_takes_4 : decode cX9_takes 4 = .ok (.aload_n 0, 1) := by decide +kernel
theorem dX9_takes_5 : decode cX9_takes 5 = .ok (.getfield 190, 3) := by decide +kernel
theorem dX9_takes_8 : decode cX9_takes 8 = .ok (.if_icmp .ge 16, 3) := by decide +kernel
theorem dX9_takes_11 : decode cX9_takes 11 = .ok (.aload_n 0, 1) := by decide +kernel
theorem dX9_takes_12 : decode cX9_takes 12 = .ok (.getfield 41, 3) := by decide +kernel
theorem dX9_takes_15 : decode cX9_takes 15 = .ok (.aload_n 0, 1) := by decide +kernel
theorem dX9_takes_16 : decode cX9_takes 16 = .ok (.getfield 187, 3) := by decide +kernel
theorem dX9_takes_19 : decode cX9_takes 19 = .ok (.iaload, 1) := by decide +kernel
theorem dX9_takes_20 : decode cX9_takes 20 = .ok (.iload_n 1, 1) := by decide +kernel
theorem dX9_takes_21 : decode cX9_takes 21 = .ok (.if_icmp .eq 5, 3) := by decide +kernel
theorem dX9_takes_24 : decode cX9_takes 24 = .ok (.iconst 0, 1) := by decide +kernel
theorem dX9_takes_25 : decode cX9_takes 25 = .ok (.ireturn, 1) := by decide +kernel
theorem dX9_takes_26 : decode cX9_takes 26 = .ok (.aload_n 0, 1) := by decide +kernel
theorem dX9_takes_27 : decode cX9_takes 27 = .ok (.dup, 1) := by decide +kernel
theorem dX9_takes_28 : decode cX9_takes 28 = .ok (.getfield 187, 3) := by decide +kernel
theorem dX9_takes_31 : decode cX9_takes 31 = .ok (.iconst 1, 1) := by decide +kernel
theorem dX9_takes_32 : decode cX9_takes 32 = .ok (.iadd, 1) := by decide +kernel
theorem dX9_takes_33 : decode cX9_takes 33 = .ok (.putfield 187, 3) := by decide +kernel
theorem dX9_takes_36 : decode cX9_takes 36 = .ok (.iconst 1, 1) := by decide +kernel
theorem dX9_takes_37 : decode cX9_takes 37 = .ok (.ireturn, 1) := by decide +kernel
set_option maxRecDepth 20000 in
theorem ggX9_isDigit_X9_in : GoodIn wsX9_isDigit wsX9_in := goodIn_r _ [9] (by decide +kernel) (by decide +kernel)
set_option maxRecDepth 20000 in
theorem gX9_isDigit_X9_in : GoodIn wsX9_isDigit (va_wsS RX9 87 yX9_in wsX9_in) := goodIn_app (goodIn_of _ (by decide +kernel)) ggX9_isDigit_X9_in
theorem dX9_isDigit_0 : decode cX9_isDigit 0 = .ok (.aload_n 0, 1) := by decide +kernel
theorem dX9_isDigit_1 : decode cX9_isDigit 1 = .ok (.getfield 187, 3) := by decide +kernel
theorem dX9_isDigit_4 : decode cX9_isDigit 4 = .ok (.aload_n 0, 1) := by decide +kernel
theorem dX9_isDigit_5 : decode cX9_isDigit 5 = .ok (.getfield 190, 3) := by decide +kernel
theorem dX9_isDigit_8 : decode cX9_isDigit 8 = .ok (.if_icmp .ge 29, 3) := by decide +kernel
theorem dX9_isDigit_11 : decode cX9_isDigit 11 = .ok (.aload_n 0, 1) := by decide +kernel
theorem dX9_isDigit_12 : decode cX9_isDigit 12 = .ok (.getfield 41, 3) := by decide +kernel
theorem dX9_isDigit_15 : decode cX9_isDigit 15 = .ok (.aload_n 0, 1) := by decide +kernel
theorem dX9_isDigit_16 : decode cX9_isDigit 16 = .ok (.getfield 187, 3) := by decide +kernel
theorem dX9_isDigit_19 : decode cX9_isDigit 19 = .ok (.iaload, 1) := by decide +kernel
theorem dX9_isDigit_20 : decode cX9_isDigit 20 = .ok (.i2l, 1) := by decide +kernel
theorem dX9_isDigit_21 : decode cX9_isDigit 21 = .ok (.ldc2_w 193, 3) := by decide +kernel
theorem dX9_isDigit_24 : decode cX9_isDigit 24 = .ok (.ldc2_w 195, 3) := by decide +kernel
theorem dX9_isDigit_27 : decode cX9_isDigit 27 = .ok (.invokestatic 87, 3) := by decide +kernel
theorem dX9_isDigit_30 : decode cX9_isDigit 30 = .ok (.ifCond .eq 7, 3) := by decide +kernel
theorem dX9_isDigit_33 : decode cX9_isDigit 33 = .ok (.iconst 1, 1) := by decide +kernel
theorem dX9_isDigit_34 : decode cX9_isDigit 34 = .ok (.goto 4, 3) := by decide +kernel
theorem dX9_isDigit_37 : decode cX9_isDigit 37 = .ok (.iconst 0, 1) := by decide +kernel
theorem dX9_isDigit_38 : decode cX9_isDigit 38 = .ok (.ireturn, 1) := by decide +kernel
set_option maxRecDepth 20000 in
theorem ggX9_readsNumber_X9_isDigit : GoodIn wsX9_readsNumber wsX9_isDigit := goodIn_r _ [8, 3, 9, 2, 10, 11, 12, 13, 7, 14, 15, 16, 17, 18, 19, 20, 21, 22, 23, 24, 25, 26, 27, 28, 29, 30, 31, 32, 33, 34, 35, 36, 37, 38, 39, 40, 41, 42, 43, 44, 45, 46, 47, 48, 49, 50, 51, 52, 53, 54] (by decide +kernel) (by decide +kernel)
set_option maxRecDepth 20000 in
theorem gX9_readsNumber_X9_isDigit : GoodIn wsX9_readsNumber (wsV RX9 197 RX9 yX9_isDigit wsX9_isDigit) := goodIn_app (goodIn_of _ (by decide +kernel)) ggX9_readsNumber_X9_isDigit
set_option maxRecDepth 20000 in
theorem ggX9_readsNumber_X9_in : GoodIn wsX9_readsNumber wsX9_in := goodIn_r _ [14] (by decide +kernel) (by decide +kernel)
set_option maxRecDepth 20000 in
theorem gX9_readsNumber_X9_in : GoodIn wsX9_readsNumber (va_wsS RX9 87 yX9_in wsX9_in) := goodIn_app (goodIn_of _ (by decide +kernel)) ggX9_readsNumber_X9_in
theorem dX9_readsNumber_0 : decode cX9_readsNumber 0 = .ok (.aload_n 0, 1) := by decide +kernel
theorem dX9_readsNumber_1 : decode cX9_readsNumber 1 = .ok (.invokevirtual 197, 3) := by decide +kernel
theorem dX9_readsNumber_4 : decode cX9_readsNumber 4 = .ok (.ifCond .ne 5, 3) := by decide +kernel
theorem dX9_readsNumber_7 : decode cX9_readsNumber 7 = .ok (.iconst 0, 1) := by decide +kernel
theorem dX9_readsNumber_8 : decode cX9_readsNumber 8 = .ok (.ireturn, 1) := by decide +kernel
theorem dX9_readsNumber_9 : decode cX9_readsNumber 9 = .ok (.aload_n 0, 1) := by decide +kernel
theorem dX9_readsNumber_10 : decode cX9_readsNumber 10 = .ok (.iconst 0, 1) := by decide +kernel
theorem dX9_readsNumber_11 : decode cX9_readsNumber 11 = .ok (.putfield 200, 3) := by decide +kernel
theorem dX9_readsNumber_14 : decode cX9_readsNumber 14 = .ok (.iconst 0, 1) := by decide +kernel
theorem dX9_readsNumber_15 : decode cX9_readsNumber 15 = .ok (.istore_n 3, 1) := by decide +kernel
theorem dX9_readsNumber_16 : decode cX9_readsNumber 16 = .ok (.aload_n 0, 1) := by decide +kernel
theorem dX9_readsNumber_17 : decode cX9_readsNumber 17 = .ok (.invokevirtual 197, 3) := by decide +kernel
theorem dX9_readsNumber_20 : decode cX9_readsNumber 20 = .ok (.ifCond .eq 59, 3) := by decide +kernel
theorem dX9_readsNumber_23 : decode cX9_readsNumber 23 = .ok (.iload_n 3, 1) := by decide +kernel
theorem dX9_readsNumber_24 : decode cX9_readsNumber 24 = .ok (.iconst 4, 1) := by decide +kernel
theorem dX9_readsNumber_25 : decode cX9_readsNumber 25 = .ok (.if_icmp .ge 54, 3) := by decide +kernel
theorem dX9_readsNumber_28 : decode cX9_readsNumber 28 = .ok (.iload_n 3, 1) := by decide +kernel
theorem dX9_readsNumber_29 : decode cX9_readsNumber 29 = .ok (.ifCond .eq 10, 3) := by decide +kernel
theorem dX9_readsNumber_32 : decode cX9_readsNumber 32 = .ok (.aload_n 0, 1) := by decide +kernel
theorem dX9_readsNumber_33 : decode cX9_readsNumber 33 = .ok (.getfield 200, 3) := by decide +kernel
theorem dX9_readsNumber_36 : decode cX9_readsNumber 36 = .ok (.ifCond .le 43, 3) := by decide +kernel
theorem dX9_readsNumber_39 : decode cX9_readsNumber 39 = .ok (.aload_n 0, 1) := by decide +kernel
theorem dX9_readsNumber_40 : decode cX9_readsNumber 40 = .ok (.bipush 10, 2) := by decide +kernel
theorem dX9_readsNumber_42 : decode cX9_readsNumber 42 = .ok (.aload_n 0, 1) := by decide +kernel
theorem dX9_readsNumber_43 : decode cX9_readsNumber 43 = .ok (.getfield 200, 3) := by decide +kernel
theorem dX9_readsNumber_46 : decode cX9_readsNumber 46 = .ok (.imul, 1) := by decide +kernel
theorem dX9_readsNumber_47 : decode cX9_readsNumber 47 = .ok (.aload_n 0, 1) := by decide +kernel
theorem dX9_readsNumber_48 : decode cX9_readsNumber 48 = .ok (.getfield 41, 3) := by decide +kernel
theorem dX9_readsNumber_51 : decode cX9_readsNumber 51 = .ok (.aload_n 0, 1) := by decide +kernel
theorem dX9_readsNumber_52 : decode cX9_readsNumber 52 = .ok (.getfield 187, 3) := by decide +kernel
theorem dX9_readsNumber_55 : decode cX9_readsNumber 55 = .ok (.iaload, 1) := by decide +kernel
theorem dX9_readsNumber_56 : decode cX9_readsNumber 56 = .ok (.iadd, 1) := by decide +kernel
theorem dX9_readsNumber_57 : decode cX9_readsNumber 57 = .ok (.bipush 48, 2) := by decide +kernel
theorem dX9_readsNumber_59 : decode cX9_readsNumber 59 = .ok (.isub, 1) := by decide +kernel
theorem dX9_readsNumber_60 : decode cX9_readsNumber 60 = .ok (.putfield 200, 3) := by decide +kernel
theorem dX9_readsNumber_63 : decode cX9_readsNumber 63 = .ok (.aload_n 0, 1) := by decide +kernel
theorem dX9_readsNumber_64 : decode cX9_readsNumber 64 = .ok (.dup, 1) := by decide +kernel
theorem dX9_readsNumber_65 : decode cX9_readsNumber 65 = .ok (.getfield 187, 3) := by decide +kernel
theorem dX9_readsNumber_68 : decode cX9_readsNumber 68 = .ok (.iconst 1, 1) := by decide +kernel
theorem dX9_readsNumber_69 : decode cX9_readsNumber 69 = .ok (.iadd, 1) := by decide +kernel
theorem dX9_readsNumber_70 : decode cX9_readsNumber 70 = .ok (.putfield 187, 3) := by decide +kernel
theorem dX9_readsNumber_73 : decode cX9_readsNumber 73 = .ok (.iinc 3 1, 3) := by decide +kernel
theorem dX9_readsNumber_76 : decode cX9_readsNumber 76 = .ok (.goto (-60), 3) := by decide +kernel
theorem dX9_readsNumber_79 : decode cX9_readsNumber 79 = .ok (.aload_n 0, 1) := by decide +kernel
theorem dX9_readsNumber_80 : decode cX9_readsNumber 80 = .ok (.getfield 200, 3) := by decide +kernel
theorem dX9_readsNumber_83 : decode cX9_readsNumber 83 = .ok (.i2l, 1) := by decide +kernel
theorem dX9_readsNumber_84 : decode cX9_readsNumber 84 = .ok (.iload_n 1, 1) := by decide +kernel
theorem dX9_readsNumber_85 : decode cX9_readsNumber 85 = .ok (.i2l, 1) := by decide +kernel
theorem dX9_readsNumber_86 : decode cX9_readsNumber 86 = .ok (.iload_n 2, 1) := by decide +kernel
theorem dX9_readsNumber_87 : decode cX9_readsNumber 87 = .ok (.i2l, 1) := by decide +kernel
