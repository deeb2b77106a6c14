set_option maxRecDepth 20000 in
theorem ggX8_tries_X4_goOn : GoodIn wsX8_tries wsX4_goOn := goodIn_r _ [49, 8, 25, 38, 50, 4, 5, 6, 7, 9, 10, 11, 12, 13, 14, 15, 16, 17, 18, 19, 20, 51, 52, 53, 54, 29, 55, 56, 57, 58, 59, 35, 60, 61, 62, 63, 64, 27, 37, 36, 77, 78, 79, 80, 81, 82, 83, 84, 85, 86, 87, 88, 89, 90, 91, 92, 93, 94, 95, 96] (by decide +kernel) (by decide +kernel)
set_option maxRecDepth 20000 in
theorem gX8_tries_X4_goOn : GoodIn wsX8_tries (wsV RX8 169 RX4 yX4_goOn wsX4_goOn) := goodIn_app (goodIn_of _ (by decide +kernel)) ggX8_tries_X4_goOn
theorem dX8_tries_0 : decode cX8_tries 0 = .ok (.aload_n 0, 1) := by decide +kernel
theorem dX8_tries_1 : decode cX8_tries 1 = .ok (.getfield 28, 3) := by decide +kernel
theorem dX8_tries_4 : decode cX8_tries 4 = .ok (.invokevirtual 150, 3) := by decide +kernel
theorem dX8_tries_7 : decode cX8_tries 7 = .ok (.istore_n 2, 1) := by decide +kernel
theorem dX8_tries_8 : decode cX8_tries 8 = .ok (.iload_n 2, 1) := by decide +kernel
theorem dX8_tries_9 : decode cX8_tries 9 = .ok (.ifCond .ge 6, 3) := by decide +kernel
theorem dX8_tries_12 : decode cX8_tries 12 = .ok (.bipush (-2), 2) := by decide +kernel
theorem dX8_tries_14 : decode cX8_tries 14 = .ok (.ireturn, 1) := by decide +kernel
theorem dX8_tries_15 : decode cX8_tries 15 = .ok (.aload_n 0, 1) := by decide +kernel
theorem dX8_tries_16 : decode cX8_tries 16 = .ok (.getfield 28, 3) := by decide +kernel
theorem dX8_tries_19 : decode cX8_tries 19 = .ok (.getfield 130, 3) := by decide +kernel
theorem dX8_tries_22 : decode cX8_tries 22 = .ok (.iload_n 2, 1) := by decide +kernel
theorem dX8_tries_23 : decode cX8_tries 23 = .ok (.iaload, 1) := by decide +kernel
theorem dX8_tries_24 : decode cX8_tries 24 = .ok (.istore_n 3, 1) := by decide +kernel
theorem dX8_tries_25 : decode cX8_tries 25 = .ok (.aload_n 0, 1) := by decide +kernel
theorem dX8_tries_26 : decode cX8_tries 26 = .ok (.getfield 28, 3) := by decide +kernel
theorem dX8_tries_29 : decode cX8_tries 29 = .ok (.iload_n 2, 1) := by decide +kernel
theorem dX8_tries_30 : decode cX8_tries 30 = .ok (.iload_n 1, 1) := by decide +kernel
theorem dX8_tries_31 : decode cX8_tries 31 = .ok (.invokevirtual 165, 3) := by decide +kernel
theorem dX8_tries_34 : decode cX8_tries 34 = .ok (.aload_n 0, 1) := by decide +kernel
theorem dX8_tries_35 : decode cX8_tries 35 = .ok (.iload_n 3, 1) := by decide +kernel
theorem dX8_tries_36 : decode cX8_tries 36 = .ok (.aload_n 0, 1) := by decide +kernel
theorem dX8_tries_37 : decode cX8_tries 37 = .ok (.getfield 28, 3) := by decide +kernel
theorem dX8_tries_40 : decode cX8_tries 40 = .ok (.getfield 130, 3) := by decide +kernel
theorem dX8_tries_43 : decode cX8_tries 43 = .ok (.iload_n 2, 1) := by decide +kernel
theorem dX8_tries_44 : decode cX8_tries 44 = .ok (.iaload, 1) := by decide +kernel
theorem dX8_tries_45 : decode cX8_tries 45 = .ok (.invokevirtual 157, 3) := by decide +kernel
theorem dX8_tries_48 : decode cX8_tries 48 = .ok (.aload_n 0, 1) := by decide +kernel
theorem dX8_tries_49 : decode cX8_tries 49 = .ok (.getfield 28, 3) := by decide +kernel
theorem dX8_tries_52 : decode cX8_tries 52 = .ok (.invokevirtual 169, 3) := by decide +kernel
theorem dX8_tries_55 : decode cX8_tries 55 = .ok (.iload_n 2, 1) := by decide +kernel
theorem dX8_tries_56 : decode cX8_tries 56 = .ok (.ireturn, 1) := by decide +kernel
theorem dX8_tried_0 : decode cX8_tried 0 = .ok (.iload_n 1, 1) := by decide +kernel
theorem dX8_tried_1 : decode cX8_tried 1 = .ok (.ifCond .lt 23, 3) := by decide +kernel
theorem dX8_tried_4 : decode cX8_tried 4 = .ok (.iload_n 1, 1) := by decide +kernel
theorem dX8_tried_5 : decode cX8_tried 5 = .ok (.aload_n 0, 1) := by decide +kernel
theorem dX8_tried_6 : decode cX8_tried 6 = .ok (.getfield 28, 3) := by decide +kernel
theorem dX8_tried_9 : decode cX8_tried 9 = .ok (.getfield 172, 3) := by decide +kernel
theorem dX8_tried_12 : decode cX8_tried 12 = .ok (.if_icmp .ge 12, 3) := by decide +kernel
theorem dX8_tried_15 : decode cX8_tried 15 = .ok (.iload_n 2, 1) := by decide +kernel
theorem dX8_tried_16 : decode cX8_tried 16 = .ok (.ifCond .lt 8, 3) := by decide +kernel
theorem dX8_tried_19 : decode cX8_tried 19 = .ok (.iload_n 2, 1) := by decide +kernel
theorem dX8_tried_20 : decode cX8_tried 20 = .ok (.iconst 3, 1) := by decide +kernel
theorem dX8_tried_21 : decode cX8_tried 21 = .ok (.if_icmp .le 5, 3) := by decide +kernel
theorem dX8_tried_24 : decode cX8_tried 24 = .ok (.iconst (-1), 1) := by decide +kernel
theorem dX8_tried_25 : decode cX8_tried 25 = .ok (.ireturn, 1) := by decide +kernel
theorem dX8_tried_26 : decode cX8_tried 26 = .ok (.aload_n 0, 1) := by decide +kernel
theorem dX8_tried_27 : decode cX8_tried 27 = .ok (.getfield 28, 3) := by decide +kernel
theorem dX8_tried_30 : decode cX8_tried 30 = .ok (.getfield 175, 3) := by decide +kernel
theorem dX8_tried_33 : decode cX8_tried 33 = .ok (.iload_n 1, 1) := by decide +kernel
theorem dX8_tried_34 : decode cX8_tried 34 = .ok (.iconst 4, 1) := by decide +kernel
theorem dX8_tried_35 : decode cX8_tried 35 = .ok (.imul, 1) := by decide +kernel
theorem dX8_tried_36 : decode cX8_tried 36 = .ok (.iload_n 2, 1) := by decide +kernel
theorem dX8_tried_37 : decode cX8_tried 37 = .ok (.iadd, 1) := by decide +kernel
theorem dX8_tried_38 : decode cX8_tried 38 = .ok (.iaload, 1) := by decide +kernel
theorem dX8_tried_39 : decode cX8_tried 39 = .ok (.ireturn, 1) := by decide +kernel
set_option maxRecDepth 20000 in
theorem ggX8_place_X8_isLifter : GoodIn wsX8_place wsX8_isLifter := goodIn_r _ [6, 1, 7, 38, 39, 40, 41, 42, 43, 44, 45, 46, 47, 48, 49, 50, 51, 52, 53, 54, 55, 56, 57, 58, 59, 60, 61, 62, 63, 64, 65] (by decide +kernel) (by decide +kernel)
set_option maxRecDepth 20000 in
theorem gX8_place_X8_isLifter : GoodIn wsX8_place (wsV RX8 97 RX8 yX8_isLifter wsX8_isLifter) := goodIn_app (goodIn_of _ (by decide +kernel)) ggX8_place_X8_isLifter
set_option maxRecDepth 20000 in
theorem ggX8_place_X8_tellPlaces : GoodIn wsX8_place wsX8_tellPlaces := goodIn_r _ [11, 1, 7, 12, 13, 14, 15, 16, 17, 18, 19, 20, 21, 22, 23, 24, 25, 26, 27, 28, 29, 30, 31, 32, 33, 34, 35, 36, 37, 38, 39, 40, 41, 42, 43, 44, 45, 46, 47, 48, 49, 50, 51, 52, 53, 54, 55, 56, 57, 58, 59, 60, 61, 62, 63, 64, 65, 66, 67, 68, 69] (by decide +kernel) (by decide +kernel)
set_option maxRecDepth 20000 in
theorem gX8_place_X8_tellPlaces : GoodIn wsX8_place (wsV RX8 178 RX8 yX8_tellPlaces wsX8_tellPlaces) := goodIn_app (goodIn_of _ (by decide +kernel)) ggX8_place_X8_tellPlaces
set_option maxRecDepth 20000 in
theorem ggX8_place_X4_placeOf : GoodIn wsX8_place wsX4_placeOf := goodIn_r _ [18, 19, 20, 21, 22, 17, 23, 24, 25, 26, 27, 28, 29, 30, 31, 32, 33, 34, 35, 36, 37, 50, 51, 52, 53, 54, 55, 56, 57, 58, 59, 60, 61, 62, 63, 64, 65, 66, 67, 68, 69] (by decide +kernel) (by decide +kernel)
set_option maxRecDepth 20000 in
theorem gX8_place_X4_placeOf : GoodIn wsX8_place (wsV RX8 181 RX4 yX4_placeOf wsX4_placeOf) := goodIn_app (goodIn_of _ (by decide +kernel)) ggX8_place_X4_placeOf
theorem dX8_place_0 : decode cX8_place 0 = .ok (.aload_n 0, 1) := by decide +kernel
theorem dX8_place_1 : decode cX8_place 1 = .ok (.iload_n 1, 1) := by decide +kernel
theorem dX8_place_2 : decode cX8_place 2 = .ok (.invokevirtual 97, 3) := by decide +kernel
theorem dX8_place_5 : decode cX8_place 5 = .ok (.ifCond .ne 5, 3) := by decide +kernel
theorem dX8_place_8 : decode cX8_place 8 = .ok (.iconst (-1), 1) := by decide +kernel
theorem dX8_place_9 : decode cX8_place 9 = .ok (.ireturn, 1) := by decide +kernel
theorem dX8_place_10 : decode cX8_place 10 = .ok (.aload_n 0, 1) := by decide +kernel
theorem dX8_place_11 : decode cX8_place 11 = .ok (.invokevirtual 178, 3) := by decide +kernel
theorem dX8_place_14 : decode cX8_place 14 = .ok (.aload_n 0, 1) := by decide +kernel
theorem dX8_place_15 : decode cX8_place 15 = .ok (.getfield 28, 3) := by decide +kernel
theorem dX8_place_18 : decode cX8_place 18 = .ok (.iload_n 1, 1) := by decide +kernel
theorem dX8_place_19 : decode cX8_place 19 = .ok (.invokevirtual 181, 3) := by decide +kernel
theorem dX8_place_22 : decode cX8_place 22 = .ok (.ireturn, 1) := by decide +kernel
set_option maxRecDepth 20000 in
theorem ggX8_slot_X8_isLifter : GoodIn wsX8_slot wsX8_isLifter := goodIn_r _ [6, 1, 7, 33, 34, 35, 36, 37, 38, 39, 40, 41, 42, 43, 44, 45, 46, 47, 48, 49, 50, 51, 52, 53, 54, 55, 56, 57, 58, 59, 60] (by decide +kernel) (by decide +kernel)
set_option maxRecDepth 20000 in
theorem gX8_slot_X8_isLifter : GoodIn wsX8_slot (wsV RX8 97 RX8 yX8_isLifter wsX8_isLifter) := goodIn_app (goodIn_of _ (by decide +kernel)) ggX8_slot_X8_isLifter
set_option maxRecDepth 20000 in
theorem ggX8_slot_X4_waits : GoodIn wsX8_slot wsX4_waits := goodIn_r _ [12, 13, 14, 45, 46, 47, 48, 49, 50, 51, 52, 53, 54, 55, 56, 57, 58, 59, 60] (by decide +kernel) (by decide +kernel)
set_option maxRecDepth 20000 in
theorem gX8_slot_X4_waits : GoodIn wsX8_slot (wsV RX8 140 RX4 yX4_waits wsX4_waits) := goodIn_app (goodIn_of _ (by decide +kernel)) ggX8_slot_X4_waits
set_option maxRecDepth 20000 in
theorem ggX8_slot_X4_leastOf : GoodIn wsX8_slot wsX4_leastOf := goodIn_r _ [18, 13, 14, 19, 20, 21, 22, 23, 24, 45, 46, 47, 48, 49, 50, 51, 52, 53, 54, 55, 56, 57, 58, 59, 60] (by decide +kernel) (by decide +kernel)
set_option maxRecDepth 20000 in
theorem gX8_slot_X4_leastOf : GoodIn wsX8_slot (wsV RX8 133 RX4 yX4_leastOf wsX4_leastOf) := goodIn_app (goodIn_of _ (by decide +kernel)) ggX8_slot_X4_leastOf
set_option maxRecDepth 20000 in
theorem ggX8_slot_X4_sooner : GoodIn wsX8_slot wsX4_sooner := goodIn_r _ [28, 29, 13, 30, 31, 32, 9, 10, 11, 12, 14, 45, 46, 47, 48, 49, 50, 51, 52, 53, 54, 55, 56, 57, 58, 59, 60, 61, 62, 63, 64] (by decide +kernel) (by decide +kernel)
set_option maxRecDepth 20000 in
theorem gX8_slot_X4_sooner : GoodIn wsX8_slot (wsV RX8 161 RX4 yX4_sooner wsX4_sooner) := goodIn_app (goodIn_of _ (by decide +kernel)) ggX8_slot_X4_sooner
theorem dX8_slot_0 : decode cX8_slot 0 = .ok (.aload_n 0, 1) := by decide +kernel
theorem dX8_slot_1 : decode cX8_slot 1 = .ok (.iload_n 1, 1) := by decide +kernel
theorem dX8_slot_2 : decode cX8_slot 2 = .ok (.invokevirtual 97, 3) := by decide +kernel
theorem dX8_slot_5 : decode cX8_slot 5 = .ok (.ifCond .eq 7, 3) := by decide +kernel
theorem dX8_slot_8 : decode cX8_slot 8 = .ok (.iload_n 2, 1) := by decide +kernel
theorem dX8_slot_9 : decode cX8_slot 9 = .ok (.ifCond .ge 5, 3) := by decide +kernel
theorem dX8_slot_12 : decode cX8_slot 12 = .ok (.iconst (-1), 1) := by decide +kernel
theorem dX8_slot_13 : decode cX8_slot 13 = .ok (.ireturn, 1) := by decide +kernel
theorem dX8_slot_14 : decode cX8_slot 14 = .ok (.aload_n 0, 1) := by decide +kernel
theorem dX8_slot_15 : decode cX8_slot 15 = .ok (.getfield 28, 3) := by decide +kernel
theorem dX8_slot_18 : decode cX8_slot 18 = .ok (.iload_n 1, 1) := by decide +kernel
theorem dX8_slot_19 : decode cX8_slot 19 = .ok (.invokevirtual 140, 3) := by decide +kernel
theorem dX8_slot_22 : decode cX8_slot 22 = .ok (.ifCond .ne 6, 3) := by decide +kernel
theorem dX8_slot_25 : decode cX8_slot 25 = .ok (.bipush (-2), 2) := by decide +kernel
theorem dX8_slot_27 : decode cX8_slot 27 = .ok (.ireturn, 1) := by decide +kernel
theorem dX8_slot_28 : decode cX8_slot 28 = .ok (.aload_n 0, 1) := by decide +kernel
theorem dX8_slot_29 : decode cX8_slot 29 = .ok (.getfield 28, 3) := by decide +kernel
theorem dX8_slot_32 : decode cX8_slot 32 = .ok (.iload_n 1, 1) := by decide +kernel
theorem dX8_slot_33 : decode cX8_slot 33 = .ok (.invokevirtual 133, 3) := by decide +kernel
theorem dX8_slot_36 : decode cX8_slot 36 = .ok (.istore_n 3, 1) := by decide +kernel
theorem dX8_slot_37 : decode cX8_slot 37 = .ok (.iload_n 3, 1) := by decide +kernel
theorem dX8_slot_38 : decode cX8_slot 38 = .ok (.bipush 40, 2) := by decide +kernel
theorem dX8_slot_40 : decode cX8_slot 40 = .ok (.if_icmp .gt 24, 3) := by decide +kernel
theorem dX8_slot_43 : decode cX8_slot 43 = .ok (.aload_n 0, 1) := by decide +kernel
theorem dX8_slot_44 : decode cX8_slot 44 = .ok (.getfield 28, 3) := by decide +kernel
theorem dX8_slot_47 : decode cX8_slot 47 = .ok (.iload_n 1, 1) := by decide +kernel
theorem dX8_slot_48 : decode cX8_slot 48 = .ok (.iload_n 3, 1) := by decide +kernel
theorem dX8_slot_49 : decode cX8_slot 49 = .ok (.invokevirtual 161, 3) := by decide +kernel
theorem dX8_slot_52 : decode cX8_slot 52 = .ok (.iload_n 2, 1) := by decide +kernel
theorem dX8_slot_53 : decode cX8_slot 53 = .ok (.if_icmp .ne 5, 3) := by decide +kernel
theorem dX8_slot_56 : decode cX8_slot 56 = .ok (.iload_n 3, 1) := by decide +kernel
theorem dX8_slot_57 : decode cX8_slot 57 = .ok (.ireturn, 1) := by decide +kernel
theorem dX8_slot_58 : decode cX8_slot 58 = .ok (.iinc 3 1, 3) := by decide +kernel
theorem dX8_slot_61 : decode cX8_slot 61 = .ok (.goto (-24), 3) := by decide +kernel
theorem dX8_slot_64 : decode cX8_slot 64 = .ok (.bipush (-3), 2) := by decide +kernel
theorem dX8_slot_66 : decode cX8_slot 66 = .ok (.ireturn, 1) := by decide +kernel
set_option maxRecDepth 20000 in
theorem ggX8_needs_X8_isLifter : GoodIn wsX8_needs wsX8_isLifter := goodIn_r _ [7, 1, 8, 45, 46, 47, 48, 49, 50, 51, 52, 53, 54, 55, 56, 57, 58, 59, 60, 61, 62, 63, 64, 65, 66, 67, 68, 69, 70, 71, 72] (by decide +kernel) (by decide +kernel)
set_option maxRecDepth 20000 in
theorem gX8_needs_X8_isLifter : GoodIn wsX8_needs (wsV RX8 97 RX8 yX8_isLifter wsX8_isLifter) := goodIn_app (goodIn_of _ (by decide +kernel)) ggX8_needs_X8_isLifter
set_option maxRecDepth 20000 in
theorem ggX8_needs_X4_isAhead : GoodIn wsX8_needs wsX4_isAhead := goodIn_r _ [13, 14, 15, 16, 17, 18, 12, 19, 20, 21, 22, 23, 24, 25, 26, 27, 57, 58, 59, 60, 61, 62, 63, 64, 65, 66, 67, 68, 69, 70, 71, 72, 73, 74, 75, 76] (by decide +kernel) (by decide +kernel)
set_option maxRecDepth 20000 in
theorem gX8_needs_X4_isAhead : GoodIn wsX8_needs (wsV RX8 184 RX4 yX4_isAhead wsX4_isAhead) := goodIn_app (goodIn_of _ (by decide +kernel)) ggX8_needs_X4_isAhead
set_option maxRecDepth 20000 in
theorem ggX8_needs_X4_leastOf : GoodIn wsX8_needs wsX4_leastOf := goodIn_r _ [31, 32, 33, 34, 35, 36, 37, 38, 39, 57, 58, 59, 60, 61, 62, 63, 64, 65, 66, 67, 68, 69, 70, 71, 72] (by decide +kernel) (by decide +kernel)
set_option maxRecDepth 20000 in
theorem gX8_needs_X4_leastOf : GoodIn wsX8_needs (wsV RX8 133 RX4 yX4_leastOf wsX4_leastOf) := goodIn_app (goodIn_of _ (by decide +kernel)) ggX8_needs_X4_leastOf
set_option maxRecDepth 20000 in
theorem ggX8_needs_X4_wouldLead : GoodIn wsX8_needs wsX4_wouldLead := goodIn_r _ [43, 44, 20, 36, 37, 38, 39, 15, 16, 17, 18, 12, 19, 14, 21, 22, 23, 24, 25, 26, 27, 57, 58, 59, 60, 61, 62, 63, 64, 65, 66, 67, 68, 69, 70, 71, 72, 73, 74, 75, 76] (by decide +kernel) (by decide +kernel)
set_option maxRecDepth 20000 in
theorem gX8_needs_X4_wouldLead : GoodIn wsX8_needs (wsV RX8 187 RX4 yX4_wouldLead wsX4_wouldLead) := goodIn_app (goodIn_of _ (by decide +kernel)) ggX8_needs_X4_wouldLead
theorem dX8_needs_0 : decode cX8_needs 0 = .ok (.aload_n 0, 1) := by decide +kernel
theorem dX8_needs_1 : decode cX8_needs 1 = .ok (.iload_n 1, 1) := by decide +kernel
theorem dX8_needs_2 : decode cX8_needs 2 = .ok (.invokevirtual 97, 3) := by decide +kernel
theorem dX8_needs_5 : decode cX8_needs 5 = .ok (.ifCond .eq 16, 3) := by decide +kernel
theorem dX8_needs_8 : decode cX8_needs 8 = .ok (.aload_n 0, 1) := by decide +kernel
theorem dX8_needs_9 : decode cX8_needs 9 = .ok (.iload_n 2, 1) := by decide +kernel
theorem dX8_needs_10 : decode cX8_needs 10 = .ok (.invokevirtual 97, 3) := by decide +kernel
theorem dX8_needs_13 : decode cX8_needs 13 = .ok (.ifCond .eq 8, 3) := by decide +kernel
theorem dX8_needs_16 : decode cX8_needs 16 = .ok (.iload_n 1, 1) := by decide +kernel
theorem dX8_needs_17 : decode cX8_needs 17 = .ok (.iload_n 2, 1) := by decide +kernel
theorem dX8_needs_18 : decode cX8_needs 18 = .ok (.if_icmp .ne 5, 3) := by decide +kernel
theorem dX8_needs_21 : decode cX8_needs 21 = .ok (.iconst (-1), 1) := by decide +kernel
theorem dX8_needs_22 : decode cX8_needs 22 = .ok (.ireturn, 1) := by decide +kernel
theorem dX8_needs_23 : decode cX8_needs 23 = .ok (.aload_n 0, 1) := by decide +kernel
theorem dX8_needs_24 : decode cX8_needs 24 = .ok (.getfield 28, 3) := by decide +kernel
theorem dX8_needs_27 : decode cX8_needs 27 = .ok (.iload_n 1, 1) := by decide +kernel
theorem dX8_needs_28 : decode cX8_needs 28 = .ok (.iload_n 2, 1) := by decide +kernel
theorem dX8_needs_29 : decode cX8_needs 29 = .ok (.invokevirtual 184, 3) := by decide +kernel
theorem dX8_needs_32 : decode cX8_needs 32 = .ok (.ifCond .eq 5, 3) := by decide +kernel
theorem dX8_needs_35 : decode cX8_needs 35 = .ok (.iconst 0, 1) := by decide +kernel
theorem dX8_needs_36 : decode cX8_needs 36 = .ok (.ireturn, 1) := by decide +kernel
theorem dX8_needs_37 : decode cX8_needs 37 = .ok (.aload_n 0, 1) := by decide +kernel
theorem dX8_needs_38 : decode cX8_needs 38 = .ok (.getfield 28, 3) := by decide +kernel
theorem dX8_needs_41 : decode cX8_needs 41 = .ok (.getfield 130, 3) := by decide +kernel
theorem dX8_needs_44 : decode cX8_needs 44 = .ok (.iload_n 1, 1) := by decide +kernel
theorem dX8_needs_45 : decode cX8_needs 45 = .ok (.iaload, 1) := by decide +kernel
theorem dX8_needs_46 : decode cX8_needs 46 = .ok (.ifCond .ne 6, 3) := by decide +kernel
theorem dX8_needs_49 : decode cX8_needs 49 = .ok (.bipush (-2), 2) := by decide +kernel
theorem dX8_needs_51 : decode cX8_needs 51 = .ok (.ireturn, 1) := by decide +kernel
theorem dX8_needs_52 : decode cX8_needs 52 = .ok (.aload_n 0, 1) := by decide +kernel
theorem dX8_needs_53 : decode cX8_needs 53 = .ok (.getfield 28, 3) := by decide +kernel
theorem dX8_needs_56 : decode cX8_needs 56 = .ok (.iload_n 1, 1) := by decide +kernel
theorem dX8_needs_57 : decode cX8_needs 57 = .ok (.invokevirtual 133, 3) := by decide +kernel
theorem dX8_needs_60 : decode cX8_needs 60 = .ok (.istore_n 3, 1) := by decide +kernel
theorem dX8_needs_61 : decode cX8_needs 61 = .ok (.iload_n 3, 1) := by decide +kernel
theorem dX8_needs_62 : decode cX8_needs 62 = .ok (.bipush 40, 2) := by decide +kernel
theorem dX8_needs_64 : decode cX8_needs 64 = .ok (.if_icmp .gt 24, 3) := by decide +kernel
theorem dX8_needs_67 : decode cX8_needs 67 = .ok (.aload_n 0, 1) := by decide +kernel
theorem dX8_needs_68 : decode cX8_needs 68 = .ok (.getfield 28, 3) := by decide +kernel
theorem dX8_needs_71 : decode cX8_needs 71 = .ok (.iload_n 1, 1) := by decide +kernel
theorem dX8_needs_72 : decode cX8_needs 72 = .ok (.iload_n 3, 1) := by decide +kernel
theorem dX8_needs_73 : decode cX8_needs 73 = .ok (.iload_n 2, 1) := by decide +kernel
theorem dX8_needs_74 : decode cX8_needs 74 = .ok (.invokevirtual 187, 3) := by decide +kernel
theorem dX8_needs_77 : decode cX8_needs 77 = .ok (.ifCond .eq 5, 3) := by decide +kernel
theorem dX8_needs_80 : decode cX8_needs 80 = .ok (.iload_n 3, 1) := by decide +kernel
theorem dX8_needs_81 : decode cX8_needs 81 = .ok (.ireturn, 1) := by decide +kernel
theorem dX8_needs_82 : decode cX8_needs 82 = .ok (.iinc 3 1, 3) := by decide +kernel
theorem dX8_needs_85 : decode cX8_needs 85 = .ok (.goto (-24), 3) := by decide +kernel
theorem dX8_needs_88 : decode cX8_needs 88 = .ok (.bipush (-3), 2) := by decide +kernel
theorem dX8_needs_90 : decode cX8_needs 90 = .ok (.ireturn, 1) := by decide +kernel
set_option maxRecDepth 20000 in
theorem ggX8_mass_X8_isLifter : GoodIn wsX8_mass wsX8_isLifter := goodIn_r _ [6, 7, 8, 108, 109, 110, 111, 112, 113, 114, 115, 116, 117, 118, 119, 120, 121, 122, 123, 124, 125, 126, 127, 128, 129, 130, 131, 132, 133, 134, 135] (by decide +kernel) (by decide +kernel)
set_option maxRecDepth 20000 in
theorem gX8_mass_X8_isLifter : GoodIn wsX8_mass (wsV RX8 97 RX8 yX8_isLifter wsX8_isLifter) := goodIn_app (goodIn_of _ (by decide +kernel)) ggX8_mass_X8_isLifter
set_option maxRecDepth 20000 in
theorem ggX8_mass_X0_beMass : GoodIn wsX8_mass wsX0_beMass := goodIn_r _ [13, 14, 15, 136, 137] (by decide +kernel) (by decide +kernel)
