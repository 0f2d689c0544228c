theorem dX0_place_12 : decode cX0_place 12 = .ok (.aload_n 0, 1) := by decide +kernel
theorem dX0_place_13 : decode cX0_place 13 = .ok (.getfield 9, 3) := by decide +kernel
theorem dX0_place_16 : decode cX0_place 16 = .ok (.iload_n 3, 1) := by decide +kernel
theorem dX0_place_17 : decode cX0_place 17 = .ok (.iaload, 1) := by decide +kernel
theorem dX0_place_18 : decode cX0_place 18 = .ok (.aload_n 0, 1) := by decide +kernel
theorem dX0_place_19 : decode cX0_place 19 = .ok (.getfield 9, 3) := by decide +kernel
theorem dX0_place_22 : decode cX0_place 22 = .ok (.iload_n 1, 1) := by decide +kernel
theorem dX0_place_23 : decode cX0_place 23 = .ok (.iaload, 1) := by decide +kernel
theorem dX0_place_24 : decode cX0_place 24 = .ok (.if_icmp .ne 15, 3) := by decide +kernel
theorem dX0_place_27 : decode cX0_place 27 = .ok (.aload_n 0, 1) := by decide +kernel
theorem dX0_place_28 : decode cX0_place 28 = .ok (.iload_n 3, 1) := by decide +kernel
theorem dX0_place_29 : decode cX0_place 29 = .ok (.iload_n 1, 1) := by decide +kernel
theorem dX0_place_30 : decode cX0_place 30 = .ok (.invokevirtual 80, 3) := by decide +kernel
theorem dX0_place_33 : decode cX0_place 33 = .ok (.ifCond .eq 6, 3) := by decide +kernel
theorem dX0_place_36 : decode cX0_place 36 = .ok (.iinc 2 1, 3) := by decide +kernel
theorem dX0_place_39 : decode cX0_place 39 = .ok (.iinc 3 1, 3) := by decide +kernel
theorem dX0_place_42 : decode cX0_place 42 = .ok (.goto (-38), 3) := by decide +kernel
theorem dX0_place_45 : decode cX0_place 45 = .ok (.iload_n 2, 1) := by decide +kernel
theorem dX0_place_46 : decode cX0_place 46 = .ok (.ireturn, 1) := by decide +kernel
theorem dX0_isAhead_0 : decode cX0_isAhead 0 = .ok (.aload_n 0, 1) := by decide +kernel
theorem dX0_isAhead_1 : decode cX0_isAhead 1 = .ok (.getfield 18, 3) := by decide +kernel
theorem dX0_isAhead_4 : decode cX0_isAhead 4 = .ok (.iload_n 1, 1) := by decide +kernel
theorem dX0_isAhead_5 : decode cX0_isAhead 5 = .ok (.iaload, 1) := by decide +kernel
theorem dX0_isAhead_6 : decode cX0_isAhead 6 = .ok (.aload_n 0, 1) := by decide +kernel
theorem dX0_isAhead_7 : decode cX0_isAhead 7 = .ok (.getfield 18, 3) := by decide +kernel
theorem dX0_isAhead_10 : decode cX0_isAhead 10 = .ok (.iload_n 2, 1) := by decide +kernel
theorem dX0_isAhead_11 : decode cX0_isAhead 11 = .ok (.iaload, 1) := by decide +kernel
theorem dX0_isAhead_12 : decode cX0_isAhead 12 = .ok (.if_icmp .eq 24, 3) := by decide +kernel
theorem dX0_isAhead_15 : decode cX0_isAhead 15 = .ok (.aload_n 0, 1) := by decide +kernel
theorem dX0_isAhead_16 : decode cX0_isAhead 16 = .ok (.getfield 18, 3) := by decide +kernel
theorem dX0_isAhead_19 : decode cX0_isAhead 19 = .ok (.iload_n 1, 1) := by decide +kernel
theorem dX0_isAhead_20 : decode cX0_isAhead 20 = .ok (.iaload, 1) := by decide +kernel
theorem dX0_isAhead_21 : decode cX0_isAhead 21 = .ok (.aload_n 0, 1) := by decide +kernel
theorem dX0_isAhead_22 : decode cX0_isAhead 22 = .ok (.getfield 18, 3) := by decide +kernel
theorem dX0_isAhead_25 : decode cX0_isAhead 25 = .ok (.iload_n 2, 1) := by decide +kernel
theorem dX0_isAhead_26 : decode cX0_isAhead 26 = .ok (.iaload, 1) := by decide +kernel
theorem dX0_isAhead_27 : decode cX0_isAhead 27 = .ok (.if_icmp .le 7, 3) := by decide +kernel
theorem dX0_isAhead_30 : decode cX0_isAhead 30 = .ok (.iconst 1, 1) := by decide +kernel
theorem dX0_isAhead_31 : decode cX0_isAhead 31 = .ok (.goto 4, 3) := by decide +kernel
theorem dX0_isAhead_34 : decode cX0_isAhead 34 = .ok (.iconst 0, 1) := by decide +kernel
theorem dX0_isAhead_35 : decode cX0_isAhead 35 = .ok (.ireturn, 1) := by decide +kernel
theorem dX0_isAhead_36 : decode cX0_isAhead 36 = .ok (.aload_n 0, 1) := by decide +kernel
theorem dX0_isAhead_37 : decode cX0_isAhead 37 = .ok (.getfield 15, 3) := by decide +kernel
theorem dX0_isAhead_40 : decode cX0_isAhead 40 = .ok (.iload_n 1, 1) := by decide +kernel
theorem dX0_isAhead_41 : decode cX0_isAhead 41 = .ok (.iaload, 1) := by decide +kernel
theorem dX0_isAhead_42 : decode cX0_isAhead 42 = .ok (.aload_n 0, 1) := by decide +kernel
theorem dX0_isAhead_43 : decode cX0_isAhead 43 = .ok (.getfield 15, 3) := by decide +kernel
theorem dX0_isAhead_46 : decode cX0_isAhead 46 = .ok (.iload_n 2, 1) := by decide +kernel
theorem dX0_isAhead_47 : decode cX0_isAhead 47 = .ok (.iaload, 1) := by decide +kernel
theorem dX0_isAhead_48 : decode cX0_isAhead 48 = .ok (.if_icmp .eq 24, 3) := by decide +kernel
theorem dX0_isAhead_51 : decode cX0_isAhead 51 = .ok (.aload_n 0, 1) := by decide +kernel
theorem dX0_isAhead_52 : decode cX0_isAhead 52 = .ok (.getfield 15, 3) := by decide +kernel
theorem dX0_isAhead_55 : decode cX0_isAhead 55 = .ok (.iload_n 1, 1) := by decide +kernel
theorem dX0_isAhead_56 : decode cX0_isAhead 56 = .ok (.iaload, 1) := by decide +kernel
theorem dX0_isAhead_57 : decode cX0_isAhead 57 = .ok (.aload_n 0, 1) := by decide +kernel
theorem dX0_isAhead_58 : decode cX0_isAhead 58 = .ok (.getfield 15, 3) := by decide +kernel
theorem dX0_isAhead_61 : decode cX0_isAhead 61 = .ok (.iload_n 2, 1) := by decide +kernel
theorem dX0_isAhead_62 : decode cX0_isAhead 62 = .ok (.iaload, 1) := by decide +kernel
theorem dX0_isAhead_63 : decode cX0_isAhead 63 = .ok (.if_icmp .le 7, 3) := by decide +kernel
theorem dX0_isAhead_66 : decode cX0_isAhead 66 = .ok (.iconst 1, 1) := by decide +kernel
theorem dX0_isAhead_67 : decode cX0_isAhead 67 = .ok (.goto 4, 3) := by decide +kernel
theorem dX0_isAhead_70 : decode cX0_isAhead 70 = .ok (.iconst 0, 1) := by decide +kernel
theorem dX0_isAhead_71 : decode cX0_isAhead 71 = .ok (.ireturn, 1) := by decide +kernel
theorem dX0_isAhead_72 : decode cX0_isAhead 72 = .ok (.iload_n 1, 1) := by decide +kernel
theorem dX0_isAhead_73 : decode cX0_isAhead 73 = .ok (.iload_n 2, 1) := by decide +kernel
theorem dX0_isAhead_74 : decode cX0_isAhead 74 = .ok (.if_icmp .ge 7, 3) := by decide +kernel
theorem dX0_isAhead_77 : decode cX0_isAhead 77 = .ok (.iconst 1, 1) := by decide +kernel
theorem dX0_isAhead_78 : decode cX0_isAhead 78 = .ok (.goto 4, 3) := by decide +kernel
theorem dX0_isAhead_81 : decode cX0_isAhead 81 = .ok (.iconst 0, 1) := by decide +kernel
theorem dX0_isAhead_82 : decode cX0_isAhead 82 = .ok (.ireturn, 1) := by decide +kernel
set_option maxRecDepth 20000 in
theorem ggX0_standingAt_X0_place : GoodIn wsX0_standingAt wsX0_place := goodIn_r _ [7, 1, 2, 8, 9, 10, 6, 11, 12, 13, 14, 15, 16, 17, 18, 19, 20, 21] (by decide +kernel) (by decide +kernel)
set_option maxRecDepth 20000 in
theorem gX0_standingAt_X0_place : GoodIn wsX0_standingAt (wsV RX0 84 RX0 yX0_place wsX0_place) := goodIn_app (goodIn_of _ (by decide +kernel)) ggX0_standingAt_X0_place
theorem dX0_standingAt_0 : decode cX0_standingAt 0 = .ok (.iconst 0, 1) := by decide +kernel
theorem dX0_standingAt_1 : decode cX0_standingAt 1 = .ok (.istore_n 3, 1) := by decide +kernel
theorem dX0_standingAt_2 : decode cX0_standingAt 2 = .ok (.iload_n 3, 1) := by decide +kernel
theorem dX0_standingAt_3 : decode cX0_standingAt 3 = .ok (.aload_n 0, 1) := by decide +kernel
theorem dX0_standingAt_4 : decode cX0_standingAt 4 = .ok (.getfield 33, 3) := by decide +kernel
theorem dX0_standingAt_7 : decode cX0_standingAt 7 = .ok (.if_icmp .ge 30, 3) := by decide +kernel
theorem dX0_standingAt_10 : decode cX0_standingAt 10 = .ok (.aload_n 0, 1) := by decide +kernel
theorem dX0_standingAt_11 : decode cX0_standingAt 11 = .ok (.getfield 9, 3) := by decide +kernel
theorem dX0_standingAt_14 : decode cX0_standingAt 14 = .ok (.iload_n 3, 1) := by decide +kernel
theorem dX0_standingAt_15 : decode cX0_standingAt 15 = .ok (.iaload, 1) := by decide +kernel
theorem dX0_standingAt_16 : decode cX0_standingAt 16 = .ok (.iload_n 1, 1) := by decide +kernel
theorem dX0_standingAt_17 : decode cX0_standingAt 17 = .ok (.if_icmp .ne 14, 3) := by decide +kernel
theorem dX0_standingAt_20 : decode cX0_standingAt 20 = .ok (.aload_n 0, 1) := by decide +kernel
theorem dX0_standingAt_21 : decode cX0_standingAt 21 = .ok (.iload_n 3, 1) := by decide +kernel
theorem dX0_standingAt_22 : decode cX0_standingAt 22 = .ok (.invokevirtual 84, 3) := by decide +kernel
theorem dX0_standingAt_25 : decode cX0_standingAt 25 = .ok (.iload_n 2, 1) := by decide +kernel
theorem dX0_standingAt_26 : decode cX0_standingAt 26 = .ok (.if_icmp .ne 5, 3) := by decide +kernel
theorem dX0_standingAt_29 : decode cX0_standingAt 29 = .ok (.iload_n 3, 1) := by decide +kernel
theorem dX0_standingAt_30 : decode cX0_standingAt 30 = .ok (.ireturn, 1) := by decide +kernel
theorem dX0_standingAt_31 : decode cX0_standingAt 31 = .ok (.iinc 3 1, 3) := by decide +kernel
theorem dX0_standingAt_34 : decode cX0_standingAt 34 = .ok (.goto (-32), 3) := by decide +kernel
theorem dX0_standingAt_37 : decode cX0_standingAt 37 = .ok (.iconst (-1), 1) := by decide +kernel
theorem dX0_standingAt_38 : decode cX0_standingAt 38 = .ok (.ireturn, 1) := by decide +kernel
theorem dX0_highest_0 : decode cX0_highest 0 = .ok (.iconst 0, 1) := by decide +kernel
theorem dX0_highest_1 : decode cX0_highest 1 = .ok (.istore_n 1, 1) := by decide +kernel
theorem dX0_highest_2 : decode cX0_highest 2 = .ok (.iconst 0, 1) := by decide +kernel
theorem dX0_highest_3 : decode cX0_highest 3 = .ok (.istore_n 2, 1) := by decide +kernel
theorem dX0_highest_4 : decode cX0_highest 4 = .ok (.iload_n 2, 1) := by decide +kernel
theorem dX0_highest_5 : decode cX0_highest 5 = .ok (.aload_n 0, 1) := by decide +kernel
theorem dX0_highest_6 : decode cX0_highest 6 = .ok (.getfield 33, 3) := by decide +kernel
theorem dX0_highest_9 : decode cX0_highest 9 = .ok (.if_icmp .ge 20, 3) := by decide +kernel
theorem dX0_highest_12 : decode cX0_highest 12 = .ok (.iload_n 1, 1) := by decide +kernel
theorem dX0_highest_13 : decode cX0_highest 13 = .ok (.aload_n 0, 1) := by decide +kernel
theorem dX0_highest_14 : decode cX0_highest 14 = .ok (.getfield 15, 3) := by decide +kernel
theorem dX0_highest_17 : decode cX0_highest 17 = .ok (.iload_n 2, 1) := by decide +kernel
theorem dX0_highest_18 : decode cX0_highest 18 = .ok (.iaload, 1) := by decide +kernel
theorem dX0_highest_19 : decode cX0_highest 19 = .ok (.invokestatic 37, 3) := by decide +kernel
theorem dX0_highest_22 : decode cX0_highest 22 = .ok (.istore_n 1, 1) := by decide +kernel
theorem dX0_highest_23 : decode cX0_highest 23 = .ok (.iinc 2 1, 3) := by decide +kernel
theorem dX0_highest_26 : decode cX0_highest 26 = .ok (.goto (-22), 3) := by decide +kernel
theorem dX0_highest_29 : decode cX0_highest 29 = .ok (.iload_n 1, 1) := by decide +kernel
theorem dX0_highest_30 : decode cX0_highest 30 = .ok (.ireturn, 1) := by decide +kernel
theorem dX0_lowest_0 : decode cX0_lowest 0 = .ok (.aload_n 0, 1) := by decide +kernel
theorem dX0_lowest_1 : decode cX0_lowest 1 = .ok (.getfield 33, 3) := by decide +kernel
theorem dX0_lowest_4 : decode cX0_lowest 4 = .ok (.ifCond .ne 7, 3) := by decide +kernel
theorem dX0_lowest_7 : decode cX0_lowest 7 = .ok (.iconst 0, 1) := by decide +kernel
theorem dX0_lowest_8 : decode cX0_lowest 8 = .ok (.goto 6, 3) := by decide +kernel
theorem dX0_lowest_11 : decode cX0_lowest 11 = .ok (.sipush 3000, 3) := by decide +kernel
theorem dX0_lowest_14 : decode cX0_lowest 14 = .ok (.istore_n 1, 1) := by decide +kernel
theorem dX0_lowest_15 : decode cX0_lowest 15 = .ok (.iconst 0, 1) := by decide +kernel
theorem dX0_lowest_16 : decode cX0_lowest 16 = .ok (.istore_n 2, 1) := by decide +kernel
theorem dX0_lowest_17 : decode cX0_lowest 17 = .ok (.iload_n 2, 1) := by decide +kernel
theorem dX0_lowest_18 : decode cX0_lowest 18 = .ok (.aload_n 0, 1) := by decide +kernel
theorem dX0_lowest_19 : decode cX0_lowest 19 = .ok (.getfield 33, 3) := by decide +kernel
theorem dX0_lowest_22 : decode cX0_lowest 22 = .ok (.if_icmp .ge 20, 3) := by decide +kernel
theorem dX0_lowest_25 : decode cX0_lowest 25 = .ok (.iload_n 1, 1) := by decide +kernel
theorem dX0_lowest_26 : decode cX0_lowest 26 = .ok (.aload_n 0, 1) := by decide +kernel
theorem dX0_lowest_27 : decode cX0_lowest 27 = .ok (.getfield 15, 3) := by decide +kernel
theorem dX0_lowest_30 : decode cX0_lowest 30 = .ok (.iload_n 2, 1) := by decide +kernel
theorem dX0_lowest_31 : decode cX0_lowest 31 = .ok (.iaload, 1) := by decide +kernel
theorem dX0_lowest_32 : decode cX0_lowest 32 = .ok (.invokestatic 47, 3) := by decide +kernel
theorem dX0_lowest_35 : decode cX0_lowest 35 = .ok (.istore_n 1, 1) := by decide +kernel
theorem dX0_lowest_36 : decode cX0_lowest 36 = .ok (.iinc 2 1, 3) := by decide +kernel
theorem dX0_lowest_39 : decode cX0_lowest 39 = .ok (.goto (-22), 3) := by decide +kernel
theorem dX0_lowest_42 : decode cX0_lowest 42 = .ok (.iload_n 1, 1) := by decide +kernel
theorem dX0_lowest_43 : decode cX0_lowest 43 = .ok (.ireturn, 1) := by decide +kernel
theorem dX0_sumOfRatings_0 : decode cX0_sumOfRatings 0 = .ok (.iconst 0, 1) := by decide +kernel
theorem dX0_sumOfRatings_1 : decode cX0_sumOfRatings 1 = .ok (.istore_n 1, 1) := by decide +kernel
theorem dX0_sumOfRatings_2 : decode cX0_sumOfRatings 2 = .ok (.iconst 0, 1) := by decide +kernel
theorem dX0_sumOfRatings_3 : decode cX0_sumOfRatings 3 = .ok (.istore_n 2, 1) := by decide +kernel
theorem dX0_sumOfRatings_4 : decode cX0_sumOfRatings 4 = .ok (.iload_n 2, 1) := by decide +kernel
theorem dX0_sumOfRatings_5 : decode cX0_sumOfRatings 5 = .ok (.aload_n 0, 1) := by decide +kernel
theorem dX0_sumOfRatings_6 : decode cX0_sumOfRatings 6 = .ok (.getfield 33, 3) := by decide +kernel
theorem dX0_sumOfRatings_9 : decode cX0_sumOfRatings 9 = .ok (.if_icmp .ge 18, 3) := by decide +kernel
theorem dX0_sumOfRatings_12 : decode cX0_sumOfRatings 12 = .ok (.iload_n 1, 1) := by decide +kernel
theorem dX0_sumOfRatings_13 : decode cX0_sumOfRatings 13 = .ok (.aload_n 0, 1) := by decide +kernel
theorem dX0_sumOfRatings_14 : decode cX0_sumOfRatings 14 = .ok (.getfield 15, 3) := by decide +kernel
theorem dX0_sumOfRatings_17 : decode cX0_sumOfRatings 17 = .ok (.iload_n 2, 1) := by decide +kernel
theorem dX0_sumOfRatings_18 : decode cX0_sumOfRatings 18 = .ok (.iaload, 1) := by decide +kernel
theorem dX0_sumOfRatings_19 : decode cX0_sumOfRatings 19 = .ok (.iadd, 1) := by decide +kernel
theorem dX0_sumOfRatings_20 : decode cX0_sumOfRatings 20 = .ok (.istore_n 1, 1) := by decide +kernel
theorem dX0_sumOfRatings_21 : decode cX0_sumOfRatings 21 = .ok (.iinc 2 1, 3) := by decide +kernel
theorem dX0_sumOfRatings_24 : decode cX0_sumOfRatings 24 = .ok (.goto (-20), 3) := by decide +kernel
theorem dX0_sumOfRatings_27 : decode cX0_sumOfRatings 27 = .ok (.iload_n 1, 1) := by decide +kernel
theorem dX0_sumOfRatings_28 : decode cX0_sumOfRatings 28 = .ok (.ireturn, 1) := by decide +kernel
set_option maxRecDepth 20000 in
theorem ggX0_unevenness_X0_expectation : GoodIn wsX0_unevenness wsX0_expectation := goodIn_r _ [9, 10, 11, 12, 8, 13, 14, 15, 3, 16, 17, 18, 19, 20, 21, 22, 23, 24, 25] (by decide +kernel) (by decide +kernel)
set_option maxRecDepth 20000 in
theorem gX0_unevenness_X0_expectation : GoodIn wsX0_unevenness (wsV RX0 56 RX0 yX0_expectation wsX0_expectation) := goodIn_app (goodIn_of _ (by decide +kernel)) ggX0_unevenness_X0_expectation
theorem dX0_unevenness_0 : decode cX0_unevenness 0 = .ok (.aload_n 0, 1) := by decide +kernel
theorem dX0_unevenness_1 : decode cX0_unevenness 1 = .ok (.iload_n 1, 1) := by decide +kernel
theorem dX0_unevenness_2 : decode cX0_unevenness 2 = .ok (.iload_n 2, 1) := by decide +kernel
theorem dX0_unevenness_3 : decode cX0_unevenness 3 = .ok (.invokevirtual 56, 3) := by decide +kernel
theorem dX0_unevenness_6 : decode cX0_unevenness 6 = .ok (.sipush 500, 3) := by decide +kernel
theorem dX0_unevenness_9 : decode cX0_unevenness 9 = .ok (.isub, 1) := by decide +kernel
theorem dX0_unevenness_10 : decode cX0_unevenness 10 = .ok (.invokestatic 87, 3) := by decide +kernel
theorem dX0_unevenness_13 : decode cX0_unevenness 13 = .ok (.ireturn, 1) := by decide +kernel
set_option maxRecDepth 20000 in
theorem ggX0_evenest_X0_unevenness : GoodIn wsX0_evenest wsX0_unevenness := goodIn_r _ [7, 8, 9, 10, 11, 12, 13, 14, 6, 15, 16, 17, 18, 19, 20, 21, 22, 23, 24, 25, 26, 27, 28, 29, 30, 31] (by decide +kernel) (by decide +kernel)
set_option maxRecDepth 20000 in
theorem gX0_evenest_X0_unevenness : GoodIn wsX0_evenest (wsV RX0 90 RX0 yX0_unevenness wsX0_unevenness) := goodIn_app (goodIn_of _ (by decide +kernel)) ggX0_evenest_X0_unevenness
theorem dX0_evenest_0 : decode cX0_evenest 0 = .ok (.iconst (-1), 1) := by decide +kernel
theorem dX0_evenest_1 : decode cX0_evenest 1 = .ok (.istore_n 2, 1) := by decide +kernel
theorem dX0_evenest_2 : decode cX0_evenest 2 = .ok (.iconst 0, 1) := by decide +kernel
theorem dX0_evenest_3 : decode cX0_evenest 3 = .ok (.istore_n 3, 1) := by decide +kernel
theorem dX0_evenest_4 : decode cX0_evenest 4 = .ok (.iload_n 3, 1) := by decide +kernel
theorem dX0_evenest_5 : decode cX0_evenest 5 = .ok (.aload_n 0, 1) := by decide +kernel
theorem dX0_evenest_6 : decode cX0_evenest 6 = .ok (.getfield 33, 3) := by decide +kernel
theorem dX0_evenest_9 : decode cX0_evenest 9 = .ok (.if_icmp .ge 54, 3) := by decide +kernel
theorem dX0_evenest_12 : decode cX0_evenest 12 = .ok (.iload_n 3, 1) := by decide +kernel
theorem dX0_evenest_13 : decode cX0_evenest 13 = .ok (.iload_n 1, 1) := by decide +kernel
theorem dX0_evenest_14 : decode cX0_evenest 14 = .ok (.if_icmp .eq 43, 3) := by decide +kernel
theorem dX0_evenest_17 : decode cX0_evenest 17 = .ok (.aload_n 0, 1) := by decide +kernel
theorem dX0_evenest_18 : decode cX0_evenest 18 = .ok (.getfield 9, 3) := by decide +kernel
theorem dX0_evenest_21 : decode cX0_evenest 21 = .ok (.iload_n 3, 1) := by decide +kernel
theorem dX0_evenest_22 : decode cX0_evenest 22 = .ok (.iaload, 1) := by decide +kernel
theorem dX0_evenest_23 : decode cX0_evenest 23 = .ok (.aload_n 0, 1) := by decide +kernel
theorem dX0_evenest_24 : decode cX0_evenest 24 = .ok (.getfield 9, 3) := by decide +kernel
theorem dX0_evenest_27 : decode cX0_evenest 27 = .ok (.iload_n 1, 1) := by decide +kernel
theorem dX0_evenest_28 : decode cX0_evenest 28 = .ok (.iaload, 1) := by decide +kernel
theorem dX0_evenest_29 : decode cX0_evenest 29 = .ok (.if_icmp .eq 6, 3) := by decide +kernel
theorem dX0_evenest_32 : decode cX0_evenest 32 = .ok (.goto 25, 3) := by decide +kernel
theorem dX0_evenest_35 : decode cX0_evenest 35 = .ok (.iload_n 2, 1) := by decide +kernel
theorem dX0_evenest_36 : decode cX0_evenest 36 = .ok (.iconst (-1), 1) := by decide +kernel
theorem dX0_evenest_37 : decode cX0_evenest 37 = .ok (.if_icmp .eq 18, 3) := by decide +kernel
theorem dX0_evenest_40 : decode cX0_evenest 40 = .ok (.aload_n 0, 1) := by decide +kernel
theorem dX0_evenest_41 : decode cX0_evenest 41 = .ok (.iload_n 3, 1) := by decide +kernel
theorem dX0_evenest_42 : decode cX0_evenest 42 = .ok (.iload_n 1, 1) := by decide +kernel
theorem dX0_evenest_43 : decode cX0_evenest 43 = .ok (.invokevirtual 90, 3) := by decide +kernel
theorem dX0_evenest_46 : decode cX0_evenest 46 = .ok (.aload_n 0, 1) := by decide +kernel
theorem dX0_evenest_47 : decode cX0_evenest 47 = .ok (.iload_n 2, 1) := by decide +kernel
theorem dX0_evenest_48 : decode cX0_evenest 48 = .ok (.iload_n 1, 1) := by decide +kernel
theorem dX0_evenest_49 : decode cX0_evenest 49 = .ok (.invokevirtual 90, 3) := by decide +kernel
theorem dX0_evenest_52 : decode cX0_evenest 52 = .ok (.if_icmp .ge 5, 3) := by decide +kernel
theorem dX0_evenest_55 : decode cX0_evenest 55 = .ok (.iload_n 3, 1) := by decide +kernel
theorem dX0_evenest_56 : decode cX0_evenest 56 = .ok (.istore_n 2, 1) := by decide +kernel
theorem dX0_evenest_57 : decode cX0_evenest 57 = .ok (.iinc 3 1, 3) := by decide +kernel
theorem dX0_evenest_60 : decode cX0_evenest 60 = .ok (.goto (-56), 3) := by decide +kernel
theorem dX0_evenest_63 : decode cX0_evenest 63 = .ok (.iload_n 2, 1) := by decide +kernel
theorem dX0_evenest_64 : decode cX0_evenest 64 = .ok (.ireturn, 1) := by decide +kernel
set_option maxRecDepth 20000 in
theorem ggX0_bestPair_X0_unevenness : GoodIn wsX0_bestPair wsX0_unevenness := goodIn_r _ [8, 9, 10, 11, 12, 13, 14, 15, 7, 16, 17, 18, 19, 20, 21, 22, 23, 24, 25, 26, 27, 28, 29, 30, 31, 32] (by decide +kernel) (by decide +kernel)
set_option maxRecDepth 20000 in
theorem gX0_bestPair_X0_unevenness : GoodIn wsX0_bestPair (wsV RX0 90 RX0 yX0_unevenness wsX0_unevenness) := goodIn_app (goodIn_of _ (by decide +kernel)) ggX0_bestPair_X0_unevenness
theorem dX0_bestPair_0 : decode cX0_bestPair 0 = .ok (.iconst (-1), 1) := by decide +kernel
theorem dX0_bestPair_1 : decode cX0_bestPair 1 = .ok (.istore_n 1, 1) := by decide +kernel
theorem dX0_bestPair_2 : decode cX0_bestPair 2 = .ok (.iconst 0, 1) := by decide +kernel
theorem dX0_bestPair_3 : decode cX0_bestPair 3 = .ok (.istore_n 2, 1) := by decide +kernel
theorem dX0_bestPair_4 : decode cX0_bestPair 4 = .ok (.iconst 0, 1) := by decide +kernel
theorem dX0_bestPair_5 : decode cX0_bestPair 5 = .ok (.istore_n 3, 1) := by decide +kernel
theorem dX0_bestPair_6 : decode cX0_bestPair 6 = .ok (.iconst 0, 1) := by decide +kernel
theorem dX0_bestPair_7 : decode cX0_bestPair 7 = .ok (.istore 4, 2) := by decide +kernel
theorem dX0_bestPair_9 : decode cX0_bestPair 9 = .ok (.iload 4, 2) := by decide +kernel
theorem dX0_bestPair_11 : decode cX0_bestPair 11 = .ok (.aload_n 0, 1) := by decide +kernel
theorem dX0_bestPair_12 : decode cX0_bestPair 12 = .ok (.getfield 33, 3) := by decide +kernel
theorem dX0_bestPair_15 : decode cX0_bestPair 15 = .ok (.if_icmp .ge 115, 3) := by decide +kernel
theorem dX0_bestPair_18 : decode cX0_bestPair 18 = .ok (.iload 4, 2) := by decide +kernel
theorem dX0_bestPair_20 : decode cX0_bestPair 20 = .ok (.iconst 1, 1) := by decide +kernel
theorem dX0_bestPair_21 : decode cX0_bestPair 21 = .ok (.iadd, 1) := by decide +kernel
theorem dX0_bestPair_22 : decode cX0_bestPair 22 = .ok (.istore 5, 2) := by decide +kernel
theorem dX0_bestPair_24 : decode cX0_bestPair 24 = .ok (.iload 5, 2) := by decide +kernel
theorem dX0_bestPair_26 : decode cX0_bestPair 26 = .ok (.aload_n 0, 1) := by decide +kernel
theorem dX0_bestPair_27 : decode cX0_bestPair 27 = .ok (.getfield 33, 3) := by decide +kernel
theorem dX0_bestPair_30 : decode cX0_bestPair 30 = .ok (.if_icmp .ge 94, 3) := by decide +kernel
theorem dX0_bestPair_33 : decode cX0_bestPair 33 = .ok (.aload_n 0, 1) := by decide +kernel
theorem dX0_bestPair_34 : decode cX0_bestPair 34 = .ok (.getfield 9, 3) := by decide +kernel
theorem dX0_bestPair_37 : decode cX0_bestPair 37 = .ok (.iload 4, 2) := by decide +kernel
theorem dX0_bestPair_39 : decode cX0_bestPair 39 = .ok (.iaload, 1) := by decide +kernel
theorem dX0_bestPair_40 : decode cX0_bestPair 40 = .ok (.aload_n 0, 1) := by decide +kernel
theorem dX0_bestPair_41 : decode cX0_bestPair 41 = .ok (.getfield 9, 3) := by decide +kernel
theorem dX0_bestPair_44 : decode cX0_bestPair 44 = .ok (.iload 5, 2) := by decide +kernel
theorem dX0_bestPair_46 : decode cX0_bestPair 46 = .ok (.iaload, 1) := by decide +kernel
theorem dX0_bestPair_47 : decode cX0_bestPair 47 = .ok (.if_icmp .eq 6, 3) := by decide +kernel
theorem dX0_bestPair_50 : decode cX0_bestPair 50 = .ok (.goto 68, 3) := by decide +kernel
theorem dX0_bestPair_53 : decode cX0_bestPair 53 = .ok (.aload_n 0, 1) := by decide +kernel
theorem dX0_bestPair_54 : decode cX0_bestPair 54 = .ok (.getfield 24, 3) := by decide +kernel
theorem dX0_bestPair_57 : decode cX0_bestPair 57 = .ok (.iload 4, 2) := by decide +kernel
theorem dX0_bestPair_59 : decode cX0_bestPair 59 = .ok (.iaload, 1) := by decide +kernel
theorem dX0_bestPair_60 : decode cX0_bestPair 60 = .ok (.aload_n 0, 1) := by decide +kernel
theorem dX0_bestPair_61 : decode cX0_bestPair 61 = .ok (.getfield 24, 3) := by decide +kernel
theorem dX0_bestPair_64 : decode cX0_bestPair 64 = .ok (.iload 5, 2) := by decide +kernel
theorem dX0_bestPair_66 : decode cX0_bestPair 66 = .ok (.iaload, 1) := by decide +kernel
theorem dX0_bestPair_67 : decode cX0_bestPair 67 = .ok (.iadd, 1) := by decide +kernel
theorem dX0_bestPair_68 : decode cX0_bestPair 68 = .ok (.istore 6, 2) := by decide +kernel
theorem dX0_bestPair_70 : decode cX0_bestPair 70 = .ok (.aload_n 0, 1) := by decide +kernel
theorem dX0_bestPair_71 : decode cX0_bestPair 71 = .ok (.iload 4, 2) := by decide +kernel
theorem dX0_bestPair_73 : decode cX0_bestPair 73 = .ok (.iload 5, 2) := by decide +kernel
theorem dX0_bestPair_75 : decode cX0_bestPair 75 = .ok (.invokevirtual 90, 3) := by decide +kernel
theorem dX0_bestPair_78 : decode cX0_bestPair 78 = .ok (.istore 7, 2) := by decide +kernel
theorem dX0_bestPair_80 : decode cX0_bestPair 80 = .ok (.iload_n 1, 1) := by decide +kernel
theorem dX0_bestPair_81 : decode cX0_bestPair 81 = .ok (.iconst (-1), 1) := by decide +kernel
theorem dX0_bestPair_82 : decode cX0_bestPair 82 = .ok (.if_icmp .eq 21, 3) := by decide +kernel
theorem dX0_bestPair_85 : decode cX0_bestPair 85 = .ok (.iload 6, 2) := by decide +kernel
theorem dX0_bestPair_87 : decode cX0_bestPair 87 = .ok (.iload_n 2, 1) := by decide +kernel
theorem dX0_bestPair_88 : decode cX0_bestPair 88 = .ok (.if_icmp .lt 15, 3) := by decide +kernel
theorem dX0_bestPair_91 : decode cX0_bestPair 91 = .ok (.iload 6, 2) := by decide +kernel
theorem dX0_bestPair_93 : decode cX0_bestPair 93 = .ok (.iload_n 2, 1) := by decide +kernel
theorem dX0_bestPair_94 : decode cX0_bestPair 94 = .ok (.if_icmp .ne 24, 3) := by decide +kernel
theorem dX0_bestPair_97 : decode cX0_bestPair 97 = .ok (.iload 7, 2) := by decide +kernel
theorem dX0_bestPair_99 : decode cX0_bestPair 99 = .ok (.iload_n 3, 1) := by decide +kernel
theorem dX0_bestPair_100 : decode cX0_bestPair 100 = .ok (.if_icmp .ge 18, 3) := by decide +kernel
theorem dX0_bestPair_103 : decode cX0_bestPair 103 = .ok (.iload 4, 2) := by decide +kernel
theorem dX0_bestPair_105 : decode cX0_bestPair 105 = .ok (.bipush 12, 2) := by decide +kernel
theorem dX0_bestPair_107 : decode cX0_bestPair 107 = .ok (.imul, 1) := by decide +kernel
theorem dX0_bestPair_108 : decode cX0_bestPair 108 = .ok (.iload 5, 2) := by decide +kernel
theorem dX0_bestPair_110 : decode cX0_bestPair 110 = .ok (.iadd, 1) := by decide +kernel
theorem dX0_bestPair_111 : decode cX0_bestPair 111 = .ok (.istore_n 1, 1) := by decide +kernel
theorem dX0_bestPair_112 : decode cX0_bestPair 112 = .ok (.iload 6, 2) := by decide +kernel
theorem dX0_bestPair_114 : decode cX0_bestPair 114 = .ok (.istore_n 2, 1) := by decide +kernel
theorem dX0_bestPair_115 : decode cX0_bestPair 115 = .ok (.iload 7, 2) := by decide +kernel
theorem dX0_bestPair_117 : decode cX0_bestPair 117 = .ok (.istore_n 3, 1) := by decide +kernel
theorem dX0_bestPair_118 : decode cX0_bestPair 118 = .ok (.iinc 5 1, 3) := by decide +kernel
theorem dX0_bestPair_121 : decode cX0_bestPair 121 = .ok (.goto (-97), 3) := by decide +kernel
theorem dX0_bestPair_124 : decode cX0_bestPair 124 = .ok (.iinc 4 1, 3) := by decide +kernel
theorem dX0_bestPair_127 : decode cX0_bestPair 127 = .ok (.goto (-118), 3) := by decide +kernel
theorem dX0_bestPair_130 : decode cX0_bestPair 130 = .ok (.iload_n 1, 1) := by decide +kernel
theorem dX0_bestPair_131 : decode cX0_bestPair 131 = .ok (.ireturn, 1) := by decide +kernel
set_option maxRecDepth 20000 in
theorem ggX1_init_X0_init : GoodIn wsX1_init wsX0_init := goodIn_r _ [12, 13, 2, 3, 9, 14, 15, 16, 17, 18, 19, 20, 21, 22, 23, 24, 25, 26, 27, 28] (by decide +kernel) (by decide +kernel)
set_option maxRecDepth 20000 in
theorem gX1_init_X0_init_n9 : GoodIn wsX1_init (wsX0_init) := ggX1_init_X0_init
theorem dX1_init_0 : decode cX1_init 0 = .ok (.aload_n 0, 1) := by decide +kernel
theorem dX1_init_1 : decode cX1_init 1 = .ok (.invokespecial 1, 3) := by decide +kernel
theorem dX1_init_4 : decode cX1_init 4 = .ok (.aload_n 0, 1) := by decide +kernel
theorem dX1_init_5 : decode cX1_init 5 = .ok (.new 7, 3) := by decide +kernel
theorem dX1_init_8 : decode cX1_init 8 = .ok (.dup, 1) := by decide +kernel
theorem dX1_init_9 : decode cX1_init 9 = .ok (.invokespecial 9, 3) := by decide +kernel
theorem dX1_init_12 : decode cX1_init 12 = .ok (.putfield 10, 3) := by decide +kernel
theorem dX1_init_15 : decode cX1_init 15 = .ok (.aload_n 0, 1) := by decide +kernel
theorem dX1_init_16 : decode cX1_init 16 = .ok (.new 7, 3) := by decide +kernel
theorem dX1_init_19 : decode cX1_init 19 = .ok (.dup, 1) := by decide +kernel
theorem dX1_init_20 : decode cX1_init 20 = .ok (.invokespecial 9, 3) := by decide +kernel
theorem dX1_init_23 : decode cX1_init 23 = .ok (.putfield 16, 3) := by decide +kernel
theorem dX1_init_26 : decode cX1_init 26 = .ok (.aload_n 0, 1) := by decide +kernel
theorem dX1_init_27 : decode cX1_init 27 = .ok (.bipush 10, 2) := by decide +kernel
theorem dX1_init_29 : decode cX1_init 29 = .ok (.newarray .int, 2) := by decide +kernel
theorem dX1_init_31 : decode cX1_init 31 = .ok (.putfield 19, 3) := by decide +kernel
theorem dX1_init_34 : decode cX1_init 34 = .ok (.return_, 1) := by decide +kernel
set_option maxRecDepth 20000 in
theorem ggX1_join_X1_isLeague : GoodIn wsX1_join wsX1_isLeague := goodIn_r _ [9] (by decide +kernel) (by decide +kernel)
set_option maxRecDepth 20000 in
theorem gX1_join_X1_isLeague : GoodIn wsX1_join (va_wsS RX1 23 yX1_isLeague wsX1_isLeague) := goodIn_app (goodIn_of _ (by decide +kernel)) ggX1_join_X1_isLeague
set_option maxRecDepth 20000 in
theorem ggX1_join_X0_isFull : GoodIn wsX1_join wsX0_isFull := goodIn_r _ [14, 15, 29, 30, 31, 32, 33, 34, 35, 36] (by decide +kernel) (by decide +kernel)
set_option maxRecDepth 20000 in
theorem gX1_join_X0_isFull : GoodIn wsX1_join (wsV RX1 34 RX0 yX0_isFull wsX0_isFull) := goodIn_app (goodIn_of _ (by decide +kernel)) ggX1_join_X0_isFull
set_option maxRecDepth 20000 in
theorem ggX1_join_X0_add : GoodIn wsX1_join wsX0_add := goodIn_r _ [19, 15, 20, 21, 22, 29, 30, 31, 32, 33, 34, 35, 36] (by decide +kernel) (by decide +kernel)
set_option maxRecDepth 20000 in
theorem gX1_join_X0_add : GoodIn wsX1_join (wsV RX1 43 RX0 yX0_add wsX0_add) := goodIn_app (goodIn_of _ (by decide +kernel)) ggX1_join_X0_add
theorem dX1_join_0 : decode cX1_join 0 = .ok (.iload_n 1, 1) := by decide +kernel
theorem dX1_join_1 : decode cX1_join 1 = .ok (.invokestatic 23, 3) := by decide +kernel
theorem dX1_join_4 : decode cX1_join 4 = .ok (.ifCond .ne 13, 3) := by decide +kernel
theorem dX1_join_7 : decode cX1_join 7 = .ok (.new 27, 3) := by decide +kernel
theorem dX1_join_10 : decode cX1_join 10 = .ok (.dup, 1) := by decide +kernel
theorem dX1_join_11 : decode cX1_join 11 = .ok (.ldc 29, 2) := by decide +kernel
theorem dX1_join_13 : decode cX1_join 13 = .ok (.invokespecial 31, 3) := by decide +kernel
