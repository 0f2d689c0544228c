theorem dX0_highest_2 : decode cX0_highest 2 = .ok (.iconst 0, 1) := by decide +kernel
theorem dX0_highest_3 : decode cX0_highest 3 = .ok (.istore_n 2, 1) := by decide +kernel
theorem dX0_highest_4 : decode cX0_highest 4 = .ok (.iload_n 2, 1) := by decide +kernel
theorem dX0_highest_5 : decode cX0_highest 5 = .ok (.aload_n 0, 1) := by decide +kernel
theorem dX0_highest_6 : decode cX0_highest 6 = .ok (.getfield 33, 3) := by decide +kernel
theorem dX0_highest_9 : decode cX0_highest 9 = .ok (.if_icmp .ge 20, 3) := by decide +kernel
theorem dX0_highest_12 : decode cX0_highest 12 = .ok (.iload_n 1, 1) := by decide +kernel
theorem dX0_highest_13 : decode cX0_highest 13 = .ok (.aload_n 0, 1) := by decide +kernel
theorem dX0_highest_14 : decode cX0_highest 14 = .ok (.getfield 15, 3) := by decide +kernel
theorem dX0_highest_17 : decode cX0_highest 17 = .ok (.iload_n 2, 1) := by decide +kernel
theorem dX0_highest_18 : decode cX0_highest 18 = .ok (.iaload, 1) := by decide +kernel
theorem dX0_highest_19 : decode cX0_highest 19 = .ok (.invokestatic 37, 3) := by decide +kernel
theorem dX0_highest_22 : decode cX0_highest 22 = .ok (.istore_n 1, 1) := by decide +kernel
theorem dX0_highest_23 : decode cX0_highest 23 = .ok (.iinc 2 1, 3) := by decide +kernel
theorem dX0_highest_26 : decode cX0_highest 26 = .ok (.goto (-22), 3) := by decide +kernel
theorem dX0_highest_29 : decode cX0_highest 29 = .ok (.iload_n 1, 1) := by decide +kernel
theorem dX0_highest_30 : decode cX0_highest 30 = .ok (.ireturn, 1) := by decide +kernel
theorem dX0_lowest_0 : decode cX0_lowest 0 = .ok (.aload_n 0, 1) := by decide +kernel
theorem dX0_lowest_1 : decode cX0_lowest 1 = .ok (.getfield 33, 3) := by decide +kernel
theorem dX0_lowest_4 : decode cX0_lowest 4 = .ok (.ifCond .ne 7, 3) := by decide +kernel
theorem dX0_lowest_7 : decode cX0_lowest 7 = .ok (.iconst 0, 1) := by decide +kernel
theorem dX0_lowest_8 : decode cX0_lowest 8 = .ok (.goto 6, 3) := by decide +kernel
theorem dX0_lowest_11 : decode cX0_lowest 11 = .ok (.sipush 3000, 3) := by decide +kernel
theorem dX0_lowest_14 : decode cX0_lowest 14 = .ok (.istore_n 1, 1) := by decide +kernel
theorem dX0_lowest_15 : decode cX0_lowest 15 = .ok (.iconst 0, 1) := by decide +kernel
theorem dX0_lowest_16 : decode cX0_lowest 16 = .ok (.istore_n 2, 1) := by decide +kernel
theorem dX0_lowest_17 : decode cX0_lowest 17 = .ok (.iload_n 2, 1) := by decide +kernel
theorem dX0_lowest_18 : decode cX0_lowest 18 = .ok (.aload_n 0, 1) := by decide +kernel
theorem dX0_lowest_19 : decode cX0_lowest 19 = .ok (.getfield 33, 3) := by decide +kernel
theorem dX0_lowest_22 : decode cX0_lowest 22 = .ok (.if_icmp .ge 20, 3) := by decide +kernel
theorem dX0_lowest_25 : decode cX0_lowest 25 = .ok (.iload_n 1, 1) := by decide +kernel
theorem dX0_lowest_26 : decode cX0_lowest 26 = .ok (.aload_n 0, 1) := by decide +kernel
theorem dX0_lowest_27 : decode cX0_lowest 27 = .ok (.getfield 15, 3) := by decide +kernel
theorem dX0_lowest_30 : decode cX0_lowest 30 = .ok (.iload_n 2, 1) := by decide +kernel
theorem dX0_lowest_31 : decode cX0_lowest 31 = .ok (.iaload, 1) := by decide +kernel
theorem dX0_lowest_32 : decode cX0_lowest 32 = .ok (.invokestatic 47, 3) := by decide +kernel
theorem dX0_lowest_35 : decode cX0_lowest 35 = .ok (.istore_n 1, 1) := by decide +kernel
theorem dX0_lowest_36 : decode cX0_lowest 36 = .ok (.iinc 2 1, 3) := by decide +kernel
theorem dX0_lowest_39 : decode cX0_lowest 39 = .ok (.goto (-22), 3) := by decide +kernel
theorem dX0_lowest_42 : decode cX0_lowest 42 = .ok (.iload_n 1, 1) := by decide +kernel
theorem dX0_lowest_43 : decode cX0_lowest 43 = .ok (.ireturn, 1) := by decide +kernel
theorem dX0_sumOfRatings_0 : decode cX0_sumOfRatings 0 = .ok (.iconst 0, 1) := by decide +kernel
theorem dX0_sumOfRatings_1 : decode cX0_sumOfRatings 1 = .ok (.istore_n 1, 1) := by decide +kernel
theorem dX0_sumOfRatings_2 : decode cX0_sumOfRatings 2 = .ok (.iconst 0, 1) := by decide +kernel
theorem dX0_sumOfRatings_3 : decode cX0_sumOfRatings 3 = .ok (.istore_n 2, 1) := by decide +kernel
theorem dX0_sumOfRatings_4 : decode cX0_sumOfRatings 4 = .ok (.iload_n 2, 1) := by decide +kernel
theorem dX0_sumOfRatings_5 : decode cX0_sumOfRatings 5 = .ok (.aload_n 0, 1) := by decide +kernel
theorem dX0_sumOfRatings_6 : decode cX0_sumOfRatings 6 = .ok (.getfield 33, 3) := by decide +kernel
theorem dX0_sumOfRatings_9 : decode cX0_sumOfRatings 9 = .ok (.if_icmp .ge 18, 3) := by decide +kernel
theorem dX0_sumOfRatings_12 : decode cX0_sumOfRatings 12 = .ok (.iload_n 1, 1) := by decide +kernel
theorem dX0_sumOfRatings_13 : decode cX0_sumOfRatings 13 = .ok (.aload_n 0, 1) := by decide +kernel
theorem dX0_sumOfRatings_14 : decode cX0_sumOfRatings 14 = .ok (.getfield 15, 3) := by decide +kernel
theorem dX0_sumOfRatings_17 : decode cX0_sumOfRatings 17 = .ok (.iload_n 2, 1) := by decide +kernel
theorem dX0_sumOfRatings_18 : decode cX0_sumOfRatings 18 = .ok (.iaload, 1) := by decide +kernel
theorem dX0_sumOfRatings_19 : decode cX0_sumOfRatings 19 = .ok (.iadd, 1) := by decide +kernel
theorem dX0_sumOfRatings_20 : decode cX0_sumOfRatings 20 = .ok (.istore_n 1, 1) := by decide +kernel
theorem dX0_sumOfRatings_21 : decode cX0_sumOfRatings 21 = .ok (.iinc 2 1, 3) := by decide +kernel
theorem dX0_sumOfRatings_24 : decode cX0_sumOfRatings 24 = .ok (.goto (-20), 3) := by decide +kernel
theorem dX0_sumOfRatings_27 : decode cX0_sumOfRatings 27 = .ok (.iload_n 1, 1) := by decide +kernel
theorem dX0_sumOfRatings_28 : decode cX0_sumOfRatings 28 = .ok (.ireturn, 1) := by decide +kernel
set_option maxRecDepth 20000 in
theorem ggX0_unevenness_X0_expectation : GoodIn wsX0_unevenness wsX0_expectation := goodIn_r _ [9, 10, 11, 12, 8, 13, 14, 15, 3, 16, 17, 18, 19, 20, 21, 22, 23, 24, 25] (by decide +kernel) (by decide +kernel)
set_option maxRecDepth 20000 in
theorem gX0_unevenness_X0_expectation : GoodIn wsX0_unevenness (wsV RX0 56 RX0 yX0_expectation wsX0_expectation) := goodIn_app (goodIn_of _ (by decide +kernel)) ggX0_unevenness_X0_expectation
theorem dX0_unevenness_0 : decode cX0_unevenness 0 = .ok (.aload_n 0, 1) := by decide +kernel
theorem dX0_unevenness_1 : decode cX0_unevenness 1 = .ok (.iload_n 1, 1) := by decide +kernel
theorem dX0_unevenness_2 : decode cX0_unevenness 2 = .ok (.iload_n 2, 1) := by decide +kernel
theorem dX0_unevenness_3 : decode cX0_unevenness 3 = .ok (.invokevirtual 56, 3) := by decide +kernel
theorem dX0_unevenness_6 : decode cX0_unevenness 6 = .ok (.sipush 500, 3) := by decide +kernel
theorem dX0_unevenness_9 : decode cX0_unevenness 9 = .ok (.isub, 1) := by decide +kernel
theorem dX0_unevenness_10 : decode cX0_unevenness 10 = .ok (.invokestatic 87, 3) := by decide +kernel
theorem dX0_unevenness_13 : decode cX0_unevenness 13 = .ok (.ireturn, 1) := by decide +kernel
set_option maxRecDepth 20000 in
theorem ggX0_evenest_X0_unevenness : GoodIn wsX0_evenest wsX0_unevenness := goodIn_r _ [7, 8, 9, 10, 11, 12, 13, 14, 6, 15, 16, 17, 18, 19, 20, 21, 22, 23, 24, 25, 26, 27, 28, 29, 30, 31] (by decide +kernel) (by decide +kernel)
set_option maxRecDepth 20000 in
theorem gX0_evenest_X0_unevenness : GoodIn wsX0_evenest (wsV RX0 90 RX0 yX0_unevenness wsX0_unevenness) := goodIn_app (goodIn_of _ (by decide +kernel)) ggX0_evenest_X0_unevenness
theorem dX0_evenest_0 : decode cX0_evenest 0 = .ok (.iconst (-1), 1) := by decide +kernel
theorem dX0_evenest_1 : decode cX0_evenest 1 = .ok (.istore_n 2, 1) := by decide +kernel
theorem dX0_evenest_2 : decode cX0_evenest 2 = .ok (.iconst 0, 1) := by decide +kernel
theorem dX0_evenest_3 : decode cX0_evenest 3 = .ok (.istore_n 3, 1) := by decide +kernel
theorem dX0_evenest_4 : decode cX0_evenest 4 = .ok (.iload_n 3, 1) := by decide +kernel
theorem dX0_evenest_5 : decode cX0_evenest 5 = .ok (.aload_n 0, 1) := by decide +kernel
theorem dX0_evenest_6 : decode cX0_evenest 6 = .ok (.getfield 33, 3) := by decide +kernel
theorem dX0_evenest_9 : decode cX0_evenest 9 = .ok (.if_icmp .ge 54, 3) := by decide +kernel
theorem dX0_evenest_12 : decode cX0_evenest 12 = .ok (.iload_n 3, 1) := by decide +kernel
theorem dX0_evenest_13 : decode cX0_evenest 13 = .ok (.iload_n 1, 1) := by decide +kernel
theorem dX0_evenest_14 : decode cX0_evenest 14 = .ok (.if_icmp .eq 43, 3) := by decide +kernel
theorem dX0_evenest_17 : decode cX0_evenest 17 = .ok (.aload_n 0, 1) := by decide +kernel
theorem dX0_evenest_18 : decode cX0_evenest 18 = .ok (.getfield 9, 3) := by decide +kernel
theorem dX0_evenest_21 : decode cX0_evenest 21 = .ok (.iload_n 3, 1) := by decide +kernel
theorem dX0_evenest_22 : decode cX0_evenest 22 = .ok (.iaload, 1) := by decide +kernel
theorem dX0_evenest_23 : decode cX0_evenest 23 = .ok (.aload_n 0, 1) := by decide +kernel
theorem dX0_evenest_24 : decode cX0_evenest 24 = .ok (.getfield 9, 3) := by decide +kernel
theorem dX0_evenest_27 : decode cX0_evenest 27 = .ok (.iload_n 1, 1) := by decide +kernel
theorem dX0_evenest_28 : decode cX0_evenest 28 = .ok (.iaload, 1) := by decide +kernel
theorem dX0_evenest_29 : decode cX0_evenest 29 = .ok (.if_icmp .eq 6, 3) := by decide +kernel
theorem dX0_evenest_32 : decode cX0_evenest 32 = .ok (.goto 25, 3) := by decide +kernel
theorem dX0_evenest_35 : decode cX0_evenest 35 = .ok (.iload_n 2, 1) := by decide +kernel
theorem dX0_evenest_36 : decode cX0_evenest 36 = .ok (.iconst (-1), 1) := by decide +kernel
theorem dX0_evenest_37 : decode cX0_evenest 37 = .ok (.if_icmp .eq 18, 3) := by decide +kernel
theorem dX0_evenest_40 : decode cX0_evenest 40 = .ok (.aload_n 0, 1) := by decide +kernel
theorem dX0_evenest_41 : decode cX0_evenest 41 = .ok (.iload_n 3, 1) := by decide +kernel
theorem dX0_evenest_42 : decode cX0_evenest 42 = .ok (.iload_n 1, 1) := by decide +kernel
theorem dX0_evenest_43 : decode cX0_evenest 43 = .ok (.invokevirtual 90, 3) := by decide +kernel
theorem dX0_evenest_46 : decode cX0_evenest 46 = .ok (.aload_n 0, 1) := by decide +kernel
theorem dX0_evenest_47 : decode cX0_evenest 47 = .ok (.iload_n 2, 1) := by decide +kernel
theorem dX0_evenest_48 : decode cX0_evenest 48 = .ok (.iload_n 1, 1) := by decide +kernel
theorem dX0_evenest_49 : decode cX0_evenest 49 = .ok (.invokevirtual 90, 3) := by decide +kernel
theorem dX0_evenest_52 : decode cX0_evenest 52 = .ok (.if_icmp .ge 5, 3) := by decide +kernel
theorem dX0_evenest_55 : decode cX0_evenest 55 = .ok (.iload_n 3, 1) := by decide +kernel
theorem dX0_evenest_56 : decode cX0_evenest 56 = .ok (.istore_n 2, 1) := by decide +kernel
theorem dX0_evenest_57 : decode cX0_evenest 57 = .ok (.iinc 3 1, 3) := by decide +kernel
theorem dX0_evenest_60 : decode cX0_evenest 60 = .ok (.goto (-56), 3) := by decide +kernel
theorem dX0_evenest_63 : decode cX0_evenest 63 = .ok (.iload_n 2, 1) := by decide +kernel
theorem dX0_evenest_64 : decode cX0_evenest 64 = .ok (.ireturn, 1) := by decide +kernel
set_option maxRecDepth 20000 in
theorem ggX0_bestPair_X0_unevenness : GoodIn wsX0_bestPair wsX0_unevenness := goodIn_r _ [8, 9, 10, 11, 12, 13, 14, 15, 7, 16, 17, 18, 19, 20, 21, 22, 23, 24, 25, 26, 27, 28, 29, 30, 31, 32] (by decide +kernel) (by decide +kernel)
set_option maxRecDepth 20000 in
theorem gX0_bestPair_X0_unevenness : GoodIn wsX0_bestPair (wsV RX0 90 RX0 yX0_unevenness wsX0_unevenness) := goodIn_app (goodIn_of _ (by decide +kernel)) ggX0_bestPair_X0_unevenness
theorem dX0_bestPair_0 : decode cX0_bestPair 0 = .ok (.iconst (-1), 1) := by decide +kernel
theorem dX0_bestPair_1 : decode cX0_bestPair 1 = .ok (.istore_n 1, 1) := by decide +kernel
theorem dX0_bestPair_2 : decode cX0_bestPair 2 = .ok (.iconst 0, 1) := by decide +kernel
theorem dX0_bestPair_3 : decode cX0_bestPair 3 = .ok (.istore_n 2, 1) := by decide +kernel
theorem dX0_bestPair_4 : decode cX0_bestPair 4 = .ok (.iconst 0, 1) := by decide +kernel
theorem dX0_bestPair_5 : decode cX0_bestPair 5 = .ok (.istore_n 3, 1) := by decide +kernel
theorem dX0_bestPair_6 : decode cX0_bestPair 6 = .ok (.iconst 0, 1) := by decide +kernel
theorem dX0_bestPair_7 : decode cX0_bestPair 7 = .ok (.istore 4, 2) := by decide +kernel
theorem dX0_bestPair_9 : decode cX0_bestPair 9 = .ok (.iload 4, 2) := by decide +kernel
theorem dX0_bestPair_11 : decode cX0_bestPair 11 = .ok (.aload_n 0, 1) := by decide +kernel
theorem dX0_bestPair_12 : decode cX0_bestPair 12 = .ok (.getfield 33, 3) := by decide +kernel
theorem dX0_bestPair_15 : decode cX0_bestPair 15 = .ok (.if_icmp .ge 115, 3) := by decide +kernel
theorem dX0_bestPair_18 : decode cX0_bestPair 18 = .ok (.iload 4, 2) := by decide +kernel
theorem dX0_bestPair_20 : decode cX0_bestPair 20 = .ok (.iconst 1, 1) := by decide +kernel
theorem dX0_bestPair_21 : decode cX0_bestPair 21 = .ok (.iadd, 1) := by decide +kernel
theorem dX0_bestPair_22 : decode cX0_bestPair 22 = .ok (.istore 5, 2) := by decide +kernel
theorem dX0_bestPair_24 : decode cX0_bestPair 24 = .ok (.iload 5, 2) := by decide +kernel
theorem dX0_bestPair_26 : decode cX0_bestPair 26 = .ok (.aload_n 0, 1) := by decide +kernel
theorem dX0_bestPair_27 : decode cX0_bestPair 27 = .ok (.getfield 33, 3) := by decide +kernel
theorem dX0_bestPair_30 : decode cX0_bestPair 30 = .ok (.if_icmp .ge 94, 3) := by decide +kernel
theorem dX0_bestPair_33 : decode cX0_bestPair 33 = .ok (.aload_n 0, 1) := by decide +kernel
theorem dX0_bestPair_34 : decode cX0_bestPair 34 = .ok (.getfield 9, 3) := by decide +kernel
theorem dX0_bestPair_37 : decode cX0_bestPair 37 = .ok (.iload 4, 2) := by decide +kernel
theorem dX0_bestPair_39 : decode cX0_bestPair 39 = .ok (.iaload, 1) := by decide +kernel
theorem dX0_bestPair_40 : decode cX0_bestPair 40 = .ok (.aload_n 0, 1) := by decide +kernel
theorem dX0_bestPair_41 : decode cX0_bestPair 41 = .ok (.getfield 9, 3) := by decide +kernel
theorem dX0_bestPair_44 : decode cX0_bestPair 44 = .ok (.iload 5, 2) := by decide +kernel
theorem dX0_bestPair_46 : decode cX0_bestPair 46 = .ok (.iaload, 1) := by decide +kernel
theorem dX0_bestPair_47 : decode cX0_bestPair 47 = .ok (.if_icmp .eq 6, 3) := by decide +kernel
theorem dX0_bestPair_50 : decode cX0_bestPair 50 = .ok (.goto 68, 3) := by decide +kernel
theorem dX0_bestPair_53 : decode cX0_bestPair 53 = .ok (.aload_n 0, 1) := by decide +kernel
theorem dX0_bestPair_54 : decode cX0_bestPair 54 = .ok (.getfield 24, 3) := by decide +kernel
theorem dX0_bestPair_57 : decode cX0_bestPair 57 = .ok (.iload 4, 2) := by decide +kernel
theorem dX0_bestPair_59 : decode cX0_bestPair 59 = .ok (.iaload, 1) := by decide +kernel
theorem dX0_bestPair_60 : decode cX0_bestPair 60 = .ok (.aload_n 0, 1) := by decide +kernel
theorem dX0_bestPair_61 : decode cX0_bestPair 61 = .ok (.getfield 24, 3) := by decide +kernel
theorem dX0_bestPair_64 : decode cX0_bestPair 64 = .ok (.iload 5, 2) := by decide +kernel
theorem dX0_bestPair_66 : decode cX0_bestPair 66 = .ok (.iaload, 1) := by decide +kernel
theorem dX0_bestPair_67 : decode cX0_bestPair 67 = .ok (.iadd, 1) := by decide +kernel
theorem dX0_bestPair_68 : decode cX0_bestPair 68 = .ok (.istore 6, 2) := by decide +kernel
theorem dX0_bestPair_70 : decode cX0_bestPair 70 = .ok (.aload_n 0, 1) := by decide +kernel
theorem dX0_bestPair_71 : decode cX0_bestPair 71 = .ok (.iload 4, 2) := by decide +kernel
theorem dX0_bestPair_73 : decode cX0_bestPair 73 = .ok (.iload 5, 2) := by decide +kernel
theorem dX0_bestPair_75 : decode cX0_bestPair 75 = .ok (.invokevirtual 90, 3) := by decide +kernel
theorem dX0_bestPair_78 : decode cX0_bestPair 78 = .ok (.istore 7, 2) := by decide +kernel
theorem dX0_bestPair_80 : decode cX0_bestPair 80 = .ok (.iload_n 1, 1) := by decide +kernel
theorem dX0_bestPair_81 : decode cX0_bestPair 81 = .ok (.iconst (-1), 1) := by decide +kernel
theorem dX0_bestPair_82 : decode cX0_bestPair 82 = .ok (.if_icmp .eq 21, 3) := by decide +kernel
theorem dX0_bestPair_85 : decode cX0_bestPair 85 = .ok (.iload 6, 2) := by decide +kernel
theorem dX0_bestPair_87 : decode cX0_bestPair 87 = .ok (.iload_n 2, 1) := by decide +kernel
theorem dX0_bestPair_88 : decode cX0_bestPair 88 = .ok (.if_icmp .lt 15, 3) := by decide +kernel
theorem dX0_bestPair_91 : decode cX0_bestPair 91 = .ok (.iload 6, 2) := by decide +kernel
theorem dX0_bestPair_93 : decode cX0_bestPair 93 = .ok (.iload_n 2, 1) := by decide +kernel
theorem dX0_bestPair_94 : decode cX0_bestPair 94 = .ok (.if_icmp .ne 24, 3) := by decide +kernel
theorem dX0_bestPair_97 : decode cX0_bestPair 97 = .ok (.iload 7, 2) := by decide +kernel
theorem dX0_bestPair_99 : decode cX0_bestPair 99 = .ok (.iload_n 3, 1) := by decide +kernel
theorem dX0_bestPair_100 : decode cX0_bestPair 100 = .ok (.if_icmp .ge 18, 3) := by decide +kernel
theorem dX0_bestPair_103 : decode cX0_bestPair 103 = .ok (.iload 4, 2) := by decide +kernel
theorem dX0_bestPair_105 : decode cX0_bestPair 105 = .ok (.bipush 12, 2) := by decide +kernel
theorem dX0_bestPair_107 : decode cX0_bestPair 107 = .ok (.imul, 1) := by decide +kernel
theorem dX0_bestPair_108 : decode cX0_bestPair 108 = .ok (.iload 5, 2) := by decide +kernel
theorem dX0_bestPair_110 : decode cX0_bestPair 110 = .ok (.iadd, 1) := by decide +kernel
theorem dX0_bestPair_111 : decode cX0_bestPair 111 = .ok (.istore_n 1, 1) := by decide +kernel
theorem dX0_bestPair_112 : decode cX0_bestPair 112 = .ok (.iload 6, 2) := by decide +kernel
theorem dX0_bestPair_114 : decode cX0_bestPair 114 = .ok (.istore_n 2, 1) := by decide +kernel
theorem dX0_bestPair_115 : decode cX0_bestPair 115 = .ok (.iload 7, 2) := by decide +kernel
theorem dX0_bestPair_117 : decode cX0_bestPair 117 = .ok (.istore_n 3, 1) := by decide +kernel
theorem dX0_bestPair_118 : decode cX0_bestPair 118 = .ok (.iinc 5 1, 3) := by decide +kernel
theorem dX0_bestPair_121 : decode cX0_bestPair 121 = .ok (.goto (-97), 3) := by decide +kernel
theorem dX0_bestPair_124 : decode cX0_bestPair 124 = .ok (.iinc 4 1, 3) := by decide +kernel
theorem dX0_bestPair_127 : decode cX0_bestPair 127 = .ok (.goto (-118), 3) := by decide +kernel
theorem dX0_bestPair_130 : decode cX0_bestPair 130 = .ok (.iload_n 1, 1) := by decide +kernel
theorem dX0_bestPair_131 : decode cX0_bestPair 131 = .ok (.ireturn, 1) := by decide +kernel
set_option maxRecDepth 20000 in
theorem ggX1_init_X0_init : GoodIn wsX1_init wsX0_init := goodIn_r _ [12, 13, 2, 3, 9, 14, 15, 16, 17, 18, 19, 20, 21, 22, 23, 24, 25, 26, 27, 28] (by decide +kernel) (by decide +kernel)
set_option maxRecDepth 20000 in
theorem gX1_init_X0_init_n9 : GoodIn wsX1_init (wsX0_init) := ggX1_init_X0_init
theorem dX1_init_0 : decode cX1_init 0 = .ok (.aload_n 0, 1) := by decide +kernel
theorem dX1_init_1 : decode cX1_init 1 = .ok (.invokespecial 1, 3) := by decide +kernel
theorem dX1_init_4 : decode cX1_init 4 = .ok (.aload_n 0, 1) := by decide +kernel
theorem dX1_init_5 : decode cX1_init 5 = .ok (.new 7, 3) := by decide +kernel
theorem dX1_init_8 : decode cX1_init 8 = .ok (.dup, 1) := by decide +kernel
theorem dX1_init_9 : decode cX1_init 9 = .ok (.invokespecial 9, 3) := by decide +kernel
theorem dX1_init_12 : decode cX1_init 12 = .ok (.putfield 10, 3) := by decide +kernel
theorem dX1_init_15 : decode cX1_init 15 = .ok (.aload_n 0, 1) := by decide +kernel
theorem dX1_init_16 : decode cX1_init 16 = .ok (.new 7, 3) := by decide +kernel
theorem dX1_init_19 : decode cX1_init 19 = .ok (.dup, 1) := by decide +kernel
theorem dX1_init_20 : decode cX1_init 20 = .ok (.invokespecial 9, 3) := by decide +kernel
theorem dX1_init_23 : decode cX1_init 23 = .ok (.putfield 16, 3) := by decide +kernel
theorem dX1_init_26 : decode cX1_init 26 = .ok (.aload_n 0, 1) := by decide +kernel
theorem dX1_init_27 : decode cX1_init 27 = .ok (.bipush 10, 2) := by decide +kernel
theorem dX1_init_29 : decode cX1_init 29 = .ok (.newarray .int, 2) := by decide +kernel
theorem dX1_init_31 : decode cX1_init 31 = .ok (.putfield 19, 3) := by decide +kernel
theorem dX1_init_34 : decode cX1_init 34 = .ok (.return_, 1) := by decide +kernel
set_option maxRecDepth 20000 in
theorem ggX1_join_X1_isLeague : GoodIn wsX1_join wsX1_isLeague := goodIn_r _ [9] (by decide +kernel) (by decide +kernel)
set_option maxRecDepth 20000 in
theorem gX1_join_X1_isLeague : GoodIn wsX1_join (va_wsS RX1 23 yX1_isLeague wsX1_isLeague) := goodIn_app (goodIn_of _ (by decide +kernel)) ggX1_join_X1_isLeague
set_option maxRecDepth 20000 in
theorem ggX1_join_X0_isFull : GoodIn wsX1_join wsX0_isFull := goodIn_r _ [14, 15, 29, 30, 31, 32, 33, 34, 35, 36] (by decide +kernel) (by decide +kernel)
set_option maxRecDepth 20000 in
theorem gX1_join_X0_isFull : GoodIn wsX1_join (wsV RX1 34 RX0 yX0_isFull wsX0_isFull) := goodIn_app (goodIn_of _ (by decide +kernel)) ggX1_join_X0_isFull
set_option maxRecDepth 20000 in
theorem ggX1_join_X0_add : GoodIn wsX1_join wsX0_add := goodIn_r _ [19, 15, 20, 21, 22, 29, 30, 31, 32, 33, 34, 35, 36] (by decide +kernel) (by decide +kernel)
set_option maxRecDepth 20000 in
theorem gX1_join_X0_add : GoodIn wsX1_join (wsV RX1 43 RX0 yX0_add wsX0_add) := goodIn_app (goodIn_of _ (by decide +kernel)) ggX1_join_X0_add
theorem dX1_join_0 : decode cX1_join 0 = .ok (.iload_n 1, 1) := by decide +kernel
theorem dX1_join_1 : decode cX1_join 1 = .ok (.invokestatic 23, 3) := by decide +kernel
theorem dX1_join_4 : decode cX1_join 4 = .ok (.ifCond .ne 13, 3) := by decide +kernel
theorem dX1_join_7 : decode cX1_join 7 = .ok (.new 27, 3) := by decide +kernel
theorem dX1_join_10 : decode cX1_join 10 = .ok (.dup, 1) := by decide +kernel
theorem dX1_join_11 : decode cX1_join 11 = .ok (.ldc 29, 2) := by decide +kernel
theorem dX1_join_13 : decode cX1_join 13 = .ok (.invokespecial 31, 3) := by decide +kernel
theorem dX1_join_16 : decode cX1_join 16 = .ok (.athrow, 1) := by decide +kernel
theorem dX1_join_17 : decode cX1_join 17 = .ok (.aload_n 0, 1) := by decide +kernel
theorem dX1_join_18 : decode cX1_join 18 = .ok (.getfield 10, 3) := by decide +kernel
theorem dX1_join_21 : decode cX1_join 21 = .ok (.invokevirtual 34, 3) := by decide +kernel
theorem dX1_join_24 : decode cX1_join 24 = .ok (.ifCond .eq 13, 3) := by decide +kernel
theorem dX1_join_27 : decode cX1_join 27 = .ok (.new 38, 3) := by decide +kernel
theorem dX1_join_30 : decode cX1_join 30 = .ok (.dup, 1) := by decide +kernel
theorem dX1_join_31 : decode cX1_join 31 = .ok (.ldc 40, 2) := by decide +kernel
theorem dX1_join_33 : decode cX1_join 33 = .ok (.invokespecial 42, 3) := by decide +kernel
theorem dX1_join_36 : decode cX1_join 36 = .ok (.athrow, 1) := by decide +kernel
theorem dX1_join_37 : decode cX1_join 37 = .ok (.aload_n 0, 1) := by decide +kernel
theorem dX1_join_38 : decode cX1_join 38 = .ok (.getfield 10, 3) := by decide +kernel
theorem dX1_join_41 : decode cX1_join 41 = .ok (.iload_n 1, 1) := by decide +kernel
theorem dX1_join_42 : decode cX1_join 42 = .ok (.invokevirtual 43, 3) := by decide +kernel
theorem dX1_join_45 : decode cX1_join 45 = .ok (.ireturn, 1) := by decide +kernel
set_option maxRecDepth 20000 in
theorem ggX1_rate_X1_checkWrestler : GoodIn wsX1_rate wsX1_checkWrestler := goodIn_ca (goodIn_r _ [8, 9, 10, 3, 11, 12, 13, 14, 15, 16, 31, 32, 33, 34, 35, 36, 37, 38, 39, 40, 41, 42, 43, 44] (by decide +kernel) (by decide +kernel)) (goodIn_sub (fun _ h => List.mem_cons_of_mem _ (List.mem_append_right _ h)) (by decide +kernel))
set_option maxRecDepth 20000 in
theorem gX1_rate_X1_checkWrestler : GoodIn wsX1_rate (wsV RX1 47 RX1 yX1_checkWrestler wsX1_checkWrestler) := goodIn_app (goodIn_of _ (by decide +kernel)) ggX1_rate_X1_checkWrestler
set_option maxRecDepth 20000 in
theorem ggX1_rate_X0_rating : GoodIn wsX1_rate wsX0_rating := goodIn_r _ [20, 21, 37, 38, 39, 40, 41, 42, 43, 44] (by decide +kernel) (by decide +kernel)
set_option maxRecDepth 20000 in
theorem gX1_rate_X0_rating : GoodIn wsX1_rate (wsV RX1 53 RX0 yX0_rating wsX0_rating) := goodIn_app (goodIn_of _ (by decide +kernel)) ggX1_rate_X0_rating
set_option maxRecDepth 20000 in
theorem ggX1_rate_X0_setRating : GoodIn wsX1_rate wsX0_setRating := goodIn_r _ [25, 21, 26, 27, 28, 29, 30, 37, 38, 39, 40, 41, 42, 43, 44] (by decide +kernel) (by decide +kernel)
set_option maxRecDepth 20000 in
theorem gX1_rate_X0_setRating : GoodIn wsX1_rate (wsV RX1 56 RX0 yX0_setRating wsX0_setRating) := goodIn_app (goodIn_of _ (by decide +kernel)) ggX1_rate_X0_setRating
theorem dX1_rate_0 : decode cX1_rate 0 = .ok (.aload_n 0, 1) := by decide +kernel
theorem dX1_rate_1 : decode cX1_rate 1 = .ok (.iload_n 1, 1) := by decide +kernel
theorem dX1_rate_2 : decode cX1_rate 2 = .ok (.invokevirtual 47, 3) := by decide +kernel
theorem dX1_rate_5 : decode cX1_rate 5 = .ok (.iload_n 2, 1) := by decide +kernel
theorem dX1_rate_6 : decode cX1_rate 6 = .ok (.bipush 100, 2) := by decide +kernel
theorem dX1_rate_8 : decode cX1_rate 8 = .ok (.if_icmp .lt 10, 3) := by decide +kernel
theorem dX1_rate_11 : decode cX1_rate 11 = .ok (.iload_n 2, 1) := by decide +kernel
theorem dX1_rate_12 : decode cX1_rate 12 = .ok (.sipush 3000, 3) := by decide +kernel
theorem dX1_rate_15 : decode cX1_rate 15 = .ok (.if_icmp .le 13, 3) := by decide +kernel
theorem dX1_rate_18 : decode cX1_rate 18 = .ok (.new 27, 3) := by decide +kernel
theorem dX1_rate_21 : decode cX1_rate 21 = .ok (.dup, 1) := by decide +kernel
theorem dX1_rate_22 : decode cX1_rate 22 = .ok (.ldc 51, 2) := by decide +kernel
theorem dX1_rate_24 : decode cX1_rate 24 = .ok (.invokespecial 31, 3) := by decide +kernel
theorem dX1_rate_27 : decode cX1_rate 27 = .ok (.athrow, 1) := by decide +kernel
theorem dX1_rate_28 : decode cX1_rate 28 = .ok (.aload_n 0, 1) := by decide +kernel
theorem dX1_rate_29 : decode cX1_rate 29 = .ok (.getfield 10, 3) := by decide +kernel
theorem dX1_rate_32 : decode cX1_rate 32 = .ok (.iload_n 1, 1) := by decide +kernel
theorem dX1_rate_33 : decode cX1_rate 33 = .ok (.invokevirtual 53, 3) := by decide +kernel
theorem dX1_rate_36 : decode cX1_rate 36 = .ok (.istore_n 3, 1) := by decide +kernel
theorem dX1_rate_37 : decode cX1_rate 37 = .ok (.aload_n 0, 1) := by decide +kernel
theorem dX1_rate_38 : decode cX1_rate 38 = .ok (.getfield 10, 3) := by decide +kernel
theorem dX1_rate_41 : decode cX1_rate 41 = .ok (.iload_n 1, 1) := by decide +kernel
theorem dX1_rate_42 : decode cX1_rate 42 = .ok (.iload_n 2, 1) := by decide +kernel
theorem dX1_rate_43 : decode cX1_rate 43 = .ok (.invokevirtual 56, 3) := by decide +kernel
theorem dX1_rate_46 : decode cX1_rate 46 = .ok (.iload_n 3, 1) := by decide +kernel
theorem dX1_rate_47 : decode cX1_rate 47 = .ok (.ireturn, 1) := by decide +kernel
set_option maxRecDepth 20000 in
theorem ggX1_bout_X1_checkWrestler : GoodIn wsX1_bout wsX1_checkWrestler := goodIn_ca (goodIn_r _ [8, 9, 10, 1, 11, 12, 13, 14, 15, 16, 70, 71, 72, 73, 74, 75, 76, 77, 78, 79, 80, 81, 82, 83] (by decide +kernel) (by decide +kernel)) (goodIn_sub (fun _ h => List.mem_cons_of_mem _ (List.mem_append_left _ (List.mem_append_right _ h))) (by decide +kernel))
set_option maxRecDepth 20000 in
theorem gX1_bout_X1_checkWrestler : GoodIn wsX1_bout (wsV RX1 47 RX1 yX1_checkWrestler wsX1_checkWrestler) := goodIn_app (goodIn_of _ (by decide +kernel)) ggX1_bout_X1_checkWrestler
set_option maxRecDepth 20000 in
theorem ggX1_bout_X1_checkDifferent : GoodIn wsX1_bout wsX1_checkDifferent := goodIn_ca (goodIn_r _ [19, 20, 21] (by decide +kernel) (by decide +kernel)) (goodIn_sub (fun _ h => List.mem_cons_of_mem _ (List.mem_append_right _ h)) (by decide +kernel))
set_option maxRecDepth 20000 in
theorem gX1_bout_X1_checkDifferent : GoodIn wsX1_bout (va_wsS RX1 60 yX1_checkDifferent wsX1_checkDifferent) := goodIn_app (goodIn_of _ (by decide +kernel)) ggX1_bout_X1_checkDifferent
set_option maxRecDepth 20000 in
theorem ggX1_bout_X1_checkResult : GoodIn wsX1_bout wsX1_checkResult := goodIn_ca (goodIn_r _ [24, 20, 21] (by decide +kernel) (by decide +kernel)) (goodIn_sub (fun _ h => List.mem_cons_of_mem _ (List.mem_append_right _ h)) (by decide +kernel))
set_option maxRecDepth 20000 in
theorem gX1_bout_X1_checkResult : GoodIn wsX1_bout (va_wsS RX1 63 yX1_checkResult wsX1_checkResult) := goodIn_app (goodIn_of _ (by decide +kernel)) ggX1_bout_X1_checkResult
set_option maxRecDepth 20000 in
theorem ggX1_bout_X0_isUpset : GoodIn wsX1_bout wsX0_isUpset := goodIn_r _ [28, 29, 30, 31, 14, 32, 33, 34, 35, 36, 37, 38, 39, 40, 41, 76, 77, 78, 79, 80, 81, 82, 83] (by decide +kernel) (by decide +kernel)
set_option maxRecDepth 20000 in
theorem gX1_bout_X0_isUpset : GoodIn wsX1_bout (wsV RX1 66 RX0 yX0_isUpset wsX0_isUpset) := goodIn_app (goodIn_of _ (by decide +kernel)) ggX1_bout_X0_isUpset
set_option maxRecDepth 20000 in
theorem ggX1_bout_X0_hold : GoodIn wsX1_bout wsX0_hold := goodIn_r _ [45, 46, 47, 48, 14, 49, 33, 37, 38, 39, 40, 50, 51, 52, 53, 54, 55, 56, 57, 29, 30, 31, 32, 34, 35, 36, 41, 58, 59, 60, 61, 62, 63, 64, 65, 66, 67, 68, 69, 76, 77, 78, 79, 80, 81, 82, 83] (by decide +kernel) (by decide +kernel)
set_option maxRecDepth 20000 in
theorem gX1_bout_X0_hold : GoodIn wsX1_bout (wsV RX1 77 RX0 yX0_hold wsX0_hold) := goodIn_app (goodIn_of _ (by decide +kernel)) ggX1_bout_X0_hold
theorem dX1_bout_0 : decode cX1_bout 0 = .ok (.aload_n 0, 1) := by decide +kernel
theorem dX1_bout_1 : decode cX1_bout 1 = .ok (.iload_n 1, 1) := by decide +kernel
theorem dX1_bout_2 : decode cX1_bout 2 = .ok (.invokevirtual 47, 3) := by decide +kernel
theorem dX1_bout_5 : decode cX1_bout 5 = .ok (.aload_n 0, 1) := by decide +kernel
theorem dX1_bout_6 : decode cX1_bout 6 = .ok (.iload_n 2, 1) := by decide +kernel
theorem dX1_bout_7 : decode cX1_bout 7 = .ok (.invokevirtual 47, 3) := by decide +kernel
theorem dX1_bout_10 : decode cX1_bout 10 = .ok (.iload_n 1, 1) := by decide +kernel
theorem dX1_bout_11 : decode cX1_bout 11 = .ok (.iload_n 2, 1) := by decide +kernel
theorem dX1_bout_12 : decode cX1_bout 12 = .ok (.invokestatic 60, 3) := by decide +kernel
theorem dX1_bout_15 : decode cX1_bout 15 = .ok (.iload_n 3, 1) := by decide +kernel
theorem dX1_bout_16 : decode cX1_bout 16 = .ok (.invokestatic 63, 3) := by decide +kernel
theorem dX1_bout_19 : decode cX1_bout 19 = .ok (.aload_n 0, 1) := by decide +kernel
theorem dX1_bout_20 : decode cX1_bout 20 = .ok (.getfield 10, 3) := by decide +kernel
theorem dX1_bout_23 : decode cX1_bout 23 = .ok (.iload_n 1, 1) := by decide +kernel
theorem dX1_bout_24 : decode cX1_bout 24 = .ok (.iload_n 2, 1) := by decide +kernel
theorem dX1_bout_25 : decode cX1_bout 25 = .ok (.iload_n 3, 1) := by decide +kernel
theorem dX1_bout_26 : decode cX1_bout 26 = .ok (.invokevirtual 66, 3) := by decide +kernel
theorem dX1_bout_29 : decode cX1_bout 29 = .ok (.ifCond .eq 13, 3) := by decide +kernel
theorem dX1_bout_32 : decode cX1_bout 32 = .ok (.aload_n 0, 1) := by decide +kernel
theorem dX1_bout_33 : decode cX1_bout 33 = .ok (.dup, 1) := by decide +kernel
theorem dX1_bout_34 : decode cX1_bout 34 = .ok (.getfield 70, 3) := by decide +kernel
theorem dX1_bout_37 : decode cX1_bout 37 = .ok (.iconst 1, 1) := by decide +kernel
theorem dX1_bout_38 : decode cX1_bout 38 = .ok (.iadd, 1) := by decide +kernel
theorem dX1_bout_39 : decode cX1_bout 39 = .ok (.putfield 70, 3) := by decide +kernel
theorem dX1_bout_42 : decode cX1_bout 42 = .ok (.aload_n 0, 1) := by decide +kernel
theorem dX1_bout_43 : decode cX1_bout 43 = .ok (.dup, 1) := by decide +kernel
theorem dX1_bout_44 : decode cX1_bout 44 = .ok (.getfield 74, 3) := by decide +kernel
theorem dX1_bout_47 : decode cX1_bout 47 = .ok (.iconst 1, 1) := by decide +kernel
theorem dX1_bout_48 : decode cX1_bout 48 = .ok (.iadd, 1) := by decide +kernel
theorem dX1_bout_49 : decode cX1_bout 49 = .ok (.putfield 74, 3) := by decide +kernel
theorem dX1_bout_52 : decode cX1_bout 52 = .ok (.aload_n 0, 1) := by decide +kernel
theorem dX1_bout_53 : decode cX1_bout 53 = .ok (.getfield 10, 3) := by decide +kernel
theorem dX1_bout_56 : decode cX1_bout 56 = .ok (.iload_n 1, 1) := by decide +kernel
theorem dX1_bout_57 : decode cX1_bout 57 = .ok (.iload_n 2, 1) := by decide +kernel
theorem dX1_bout_58 : decode cX1_bout 58 = .ok (.iload_n 3, 1) := by decide +kernel
theorem dX1_bout_59 : decode cX1_bout 59 = .ok (.invokevirtual 77, 3) := by decide +kernel
theorem dX1_bout_62 : decode cX1_bout 62 = .ok (.ireturn, 1) := by decide +kernel
set_option maxRecDepth 20000 in
theorem ggX1_end_X0_drift : GoodIn wsX1_end wsX0_drift := goodIn_r _ [7, 8, 9, 10, 11, 12, 13, 6, 14, 15, 16, 17, 18, 19, 52, 53, 54, 55, 56, 57, 58, 59] (by decide +kernel) (by decide +kernel)
set_option maxRecDepth 20000 in
theorem gX1_end_X0_drift : GoodIn wsX1_end (wsV RX1 81 RX0 yX0_drift wsX0_drift) := goodIn_app (goodIn_of _ (by decide +kernel)) ggX1_end_X0_drift
set_option maxRecDepth 20000 in
theorem ggX1_end_X0_exchange : GoodIn wsX1_end wsX0_exchange := goodIn_r _ [23, 24, 25, 26, 27, 28, 6, 29, 8, 30, 31, 32, 33, 34, 35, 36, 37, 38, 39, 40, 41, 10, 52, 53, 54, 55, 56, 57, 58, 59] (by decide +kernel) (by decide +kernel)
set_option maxRecDepth 20000 in
theorem gX1_end_X0_exchange : GoodIn wsX1_end (wsV RX1 84 RX0 yX0_exchange wsX0_exchange) := goodIn_app (goodIn_of _ (by decide +kernel)) ggX1_end_X0_exchange
set_option maxRecDepth 20000 in
theorem ggX1_end_X0_clearSeason : GoodIn wsX1_end wsX0_clearSeason := goodIn_r _ [45, 8, 24, 9, 52, 53, 54, 55, 56, 57, 58, 59] (by decide +kernel) (by decide +kernel)
set_option maxRecDepth 20000 in
theorem gX1_end_X0_clearSeason : GoodIn wsX1_end (wsV RX1 87 RX0 yX0_clearSeason wsX0_clearSeason) := goodIn_app (goodIn_of _ (by decide +kernel)) ggX1_end_X0_clearSeason
theorem dX1_end_0 : decode cX1_end 0 = .ok (.aload_n 0, 1) := by decide +kernel
theorem dX1_end_1 : decode cX1_end 1 = .ok (.getfield 10, 3) := by decide +kernel
theorem dX1_end_4 : decode cX1_end 4 = .ok (.invokevirtual 81, 3) := by decide +kernel
theorem dX1_end_7 : decode cX1_end 7 = .ok (.iconst 0, 1) := by decide +kernel
theorem dX1_end_8 : decode cX1_end 8 = .ok (.istore_n 1, 1) := by decide +kernel
theorem dX1_end_9 : decode cX1_end 9 = .ok (.iconst 0, 1) := by decide +kernel
theorem dX1_end_10 : decode cX1_end 10 = .ok (.istore_n 2, 1) := by decide +kernel
theorem dX1_end_11 : decode cX1_end 11 = .ok (.iload_n 2, 1) := by decide +kernel
theorem dX1_end_12 : decode cX1_end 12 = .ok (.iconst 2, 1) := by decide +kernel
theorem dX1_end_13 : decode cX1_end 13 = .ok (.if_icmp .ge 23, 3) := by decide +kernel
theorem dX1_end_16 : decode cX1_end 16 = .ok (.aload_n 0, 1) := by decide +kernel
theorem dX1_end_17 : decode cX1_end 17 = .ok (.getfield 10, 3) := by decide +kernel
theorem dX1_end_20 : decode cX1_end 20 = .ok (.iload_n 2, 1) := by decide +kernel
theorem dX1_end_21 : decode cX1_end 21 = .ok (.invokevirtual 84, 3) := by decide +kernel
theorem dX1_end_24 : decode cX1_end 24 = .ok (.ifCond .eq 6, 3) := by decide +kernel
theorem dX1_end_27 : decode cX1_end 27 = .ok (.iinc 1 1, 3) := by decide +kernel
theorem dX1_end_30 : decode cX1_end 30 = .ok (.iinc 2 1, 3) := by decide +kernel
theorem dX1_end_33 : decode cX1_end 33 = .ok (.goto (-22), 3) := by decide +kernel
theorem dX1_end_36 : decode cX1_end 36 = .ok (.aload_n 0, 1) := by decide +kernel
theorem dX1_end_37 : decode cX1_end 37 = .ok (.getfield 10, 3) := by decide +kernel
theorem dX1_end_40 : decode cX1_end 40 = .ok (.invokevirtual 87, 3) := by decide +kernel
theorem dX1_end_43 : decode cX1_end 43 = .ok (.aload_n 0, 1) := by decide +kernel
theorem dX1_end_44 : decode cX1_end 44 = .ok (.dup, 1) := by decide +kernel
theorem dX1_end_45 : decode cX1_end 45 = .ok (.getfield 90, 3) := by decide +kernel
theorem dX1_end_48 : decode cX1_end 48 = .ok (.iconst 1, 1) := by decide +kernel
theorem dX1_end_49 : decode cX1_end 49 = .ok (.iadd, 1) := by decide +kernel
theorem dX1_end_50 : decode cX1_end 50 = .ok (.putfield 90, 3) := by decide +kernel
theorem dX1_end_53 : decode cX1_end 53 = .ok (.iload_n 1, 1) := by decide +kernel
theorem dX1_end_54 : decode cX1_end 54 = .ok (.ireturn, 1) := by decide +kernel
set_option maxRecDepth 20000 in
theorem ggX1_expected_X1_checkWrestler : GoodIn wsX1_expected wsX1_checkWrestler := goodIn_ca (goodIn_r _ [6, 7, 8, 1, 9, 10, 11, 12, 13, 14, 28, 29, 30, 31, 32, 33, 34, 35, 36, 37, 38, 39, 40, 41] (by decide +kernel) (by decide +kernel)) (goodIn_sub (fun _ h => List.mem_cons_of_mem _ (List.mem_append_right _ h)) (by decide +kernel))
set_option maxRecDepth 20000 in
theorem gX1_expected_X1_checkWrestler : GoodIn wsX1_expected (wsV RX1 47 RX1 yX1_checkWrestler wsX1_checkWrestler) := goodIn_app (goodIn_of _ (by decide +kernel)) ggX1_expected_X1_checkWrestler
set_option maxRecDepth 20000 in
theorem ggX1_expected_X0_expectation : GoodIn wsX1_expected wsX0_expectation := goodIn_r _ [18, 19, 20, 21, 12, 22, 23, 24, 25, 26, 27, 34, 35, 36, 37, 38, 39, 40, 41] (by decide +kernel) (by decide +kernel)
set_option maxRecDepth 20000 in
theorem gX1_expected_X0_expectation : GoodIn wsX1_expected (wsV RX1 93 RX0 yX0_expectation wsX0_expectation) := goodIn_app (goodIn_of _ (by decide +kernel)) ggX1_expected_X0_expectation
theorem dX1_expected_0 : decode cX1_expected 0 = .ok (.aload_n 0, 1) := by decide +kernel
theorem dX1_expected_1 : decode cX1_expected 1 = .ok (.iload_n 1, 1) := by decide +kernel
theorem dX1_expected_2 : decode cX1_expected 2 = .ok (.invokevirtual 47, 3) := by decide +kernel
theorem dX1_expected_5 : decode cX1_expected 5 = .ok (.aload_n 0, 1) := by decide +kernel
theorem dX1_expected_6 : decode cX1_expected 6 = .ok (.iload_n 2, 1) := by decide +kernel
theorem dX1_expected_7 : decode cX1_expected 7 = .ok (.invokevirtual 47, 3) := by decide +kernel
theorem dX1_expected_10 : decode cX1_expected 10 = .ok (.aload_n 0, 1) := by decide +kernel
theorem dX1_expected_11 : decode cX1_expected 11 = .ok (.getfield 10, 3) := by decide +kernel
theorem dX1_expected_14 : decode cX1_expected 14 = .ok (.iload_n 1, 1) := by decide +kernel
theorem dX1_expected_15 : decode cX1_expected 15 = .ok (.iload_n 2, 1) := by decide +kernel
theorem dX1_expected_16 : decode cX1_expected 16 = .ok (.invokevirtual 93, 3) := by decide +kernel
theorem dX1_expected_19 : decode cX1_expected 19 = .ok (.ireturn, 1) := by decide +kernel
set_option maxRecDepth 20000 in
theorem ggX1_told_X1_checkWrestler : GoodIn wsX1_told wsX1_checkWrestler := goodIn_ca (goodIn_r _ [8, 1, 2, 3, 9, 10, 11, 12, 13, 14, 62, 63, 64, 65, 66, 67, 68, 69, 70, 71, 72, 73, 74, 75] (by decide +kernel) (by decide +kernel)) (goodIn_sub (fun _ h => List.mem_cons_of_mem _ (List.mem_append_right _ h)) (by decide +kernel))
set_option maxRecDepth 20000 in
theorem gX1_told_X1_checkWrestler : GoodIn wsX1_told (wsV RX1 47 RX1 yX1_checkWrestler wsX1_checkWrestler) := goodIn_app (goodIn_of _ (by decide +kernel)) ggX1_told_X1_checkWrestler
set_option maxRecDepth 20000 in
theorem ggX1_told_X0_rating : GoodIn wsX1_told wsX0_rating := goodIn_r _ [18, 19, 68, 69, 70, 71, 72, 73, 74, 75] (by decide +kernel) (by decide +kernel)
set_option maxRecDepth 20000 in
theorem gX1_told_X0_rating : GoodIn wsX1_told (wsV RX1 53 RX0 yX0_rating wsX0_rating) := goodIn_app (goodIn_of _ (by decide +kernel)) ggX1_told_X0_rating
set_option maxRecDepth 20000 in
theorem ggX1_told_X0_league : GoodIn wsX1_told wsX0_league := goodIn_r _ [23, 24, 68, 69, 70, 71, 72, 73, 74, 75] (by decide +kernel) (by decide +kernel)
set_option maxRecDepth 20000 in
theorem gX1_told_X0_league : GoodIn wsX1_told (wsV RX1 97 RX0 yX0_league wsX0_league) := goodIn_app (goodIn_of _ (by decide +kernel)) ggX1_told_X0_league
set_option maxRecDepth 20000 in
theorem ggX1_told_X0_points : GoodIn wsX1_told wsX0_points := goodIn_r _ [28, 29, 68, 69, 70, 71, 72, 73, 74, 75] (by decide +kernel) (by decide +kernel)
set_option maxRecDepth 20000 in
theorem gX1_told_X0_points : GoodIn wsX1_told (wsV RX1 100 RX0 yX0_points wsX0_points) := goodIn_app (goodIn_of _ (by decide +kernel)) ggX1_told_X0_points
set_option maxRecDepth 20000 in
theorem ggX1_told_X0_bouts : GoodIn wsX1_told wsX0_bouts := goodIn_r _ [33, 34, 68, 69, 70, 71, 72, 73, 74, 75] (by decide +kernel) (by decide +kernel)
set_option maxRecDepth 20000 in
theorem gX1_told_X0_bouts : GoodIn wsX1_told (wsV RX1 103 RX0 yX0_bouts wsX0_bouts) := goodIn_app (goodIn_of _ (by decide +kernel)) ggX1_told_X0_bouts
set_option maxRecDepth 20000 in
theorem ggX1_told_X0_seasonBouts : GoodIn wsX1_told wsX0_seasonBouts := goodIn_r _ [38, 39, 68, 69, 70, 71, 72, 73, 74, 75] (by decide +kernel) (by decide +kernel)
set_option maxRecDepth 20000 in
theorem gX1_told_X0_seasonBouts : GoodIn wsX1_told (wsV RX1 106 RX0 yX0_seasonBouts wsX0_seasonBouts) := goodIn_app (goodIn_of _ (by decide +kernel)) ggX1_told_X0_seasonBouts
set_option maxRecDepth 20000 in
theorem ggX1_told_X0_winRow : GoodIn wsX1_told wsX0_winRow := goodIn_r _ [43, 44, 68, 69, 70, 71, 72, 73, 74, 75] (by decide +kernel) (by decide +kernel)
set_option maxRecDepth 20000 in
theorem gX1_told_X0_winRow : GoodIn wsX1_told (wsV RX1 109 RX0 yX0_winRow wsX0_winRow) := goodIn_app (goodIn_of _ (by decide +kernel)) ggX1_told_X0_winRow
set_option maxRecDepth 20000 in
theorem ggX1_told_X0_best : GoodIn wsX1_told wsX0_best := goodIn_r _ [48, 49, 68, 69, 70, 71, 72, 73, 74, 75] (by decide +kernel) (by decide +kernel)
set_option maxRecDepth 20000 in
theorem gX1_told_X0_best : GoodIn wsX1_told (wsV RX1 112 RX0 yX0_best wsX0_best) := goodIn_app (goodIn_of _ (by decide +kernel)) ggX1_told_X0_best
set_option maxRecDepth 20000 in
theorem ggX1_told_X0_place : GoodIn wsX1_told wsX0_place := goodIn_r _ [53, 14, 24, 54, 55, 56, 12, 57, 29, 19, 68, 69, 70, 71, 72, 73, 74, 75] (by decide +kernel) (by decide +kernel)
set_option maxRecDepth 20000 in
theorem gX1_told_X0_place : GoodIn wsX1_told (wsV RX1 115 RX0 yX0_place wsX0_place) := goodIn_app (goodIn_of _ (by decide +kernel)) ggX1_told_X0_place
set_option maxRecDepth 20000 in
theorem ggX1_told_X0_weight : GoodIn wsX1_told wsX0_weight := goodIn_r _ [61, 34, 19, 68, 69, 70, 71, 72, 73, 74, 75] (by decide +kernel) (by decide +kernel)
set_option maxRecDepth 20000 in
theorem gX1_told_X0_weight : GoodIn wsX1_told (wsV RX1 118 RX0 yX0_weight wsX0_weight) := goodIn_app (goodIn_of _ (by decide +kernel)) ggX1_told_X0_weight
theorem dX1_told_0 : decode cX1_told 0 = .ok (.aload_n 0, 1) := by decide +kernel
theorem dX1_told_1 : decode cX1_told 1 = .ok (.iload_n 1, 1) := by decide +kernel
theorem dX1_told_2 : decode cX1_told 2 = .ok (.invokevirtual 47, 3) := by decide +kernel
theorem dX1_told_5 : decode cX1_told 5 = .ok (.iload_n 2, 1) := by decide +kernel
theorem dX1_told_6 : decode cX1_told 6 = .ok (.tableswitch 131 0 8 #[50, 59, 68, 77, 86, 95, 104, 113, 122], 50) := by decide +kernel
theorem dX1_told_56 : decode cX1_told 56 = .ok (.aload_n 0, 1) := by decide +kernel
theorem dX1_told_57 : decode cX1_told 57 = .ok (.getfield 10, 3) := by decide +kernel
theorem dX1_told_60 : decode cX1_told 60 = .ok (.iload_n 1, 1) := by decide +kernel
theorem dX1_told_61 : decode cX1_told 61 = .ok (.invokevirtual 53, 3) := by decide +kernel
theorem dX1_told_64 : decode cX1_told 64 = .ok (.ireturn, 1) := by decide +kernel
theorem dX1_told_65 : decode cX1_told 65 = .ok (.aload_n 0, 1) := by decide +kernel
theorem dX1_told_66 : decode cX1_told 66 = .ok (.getfield 10, 3) := by decide +kernel
theorem dX1_told_69 : decode cX1_told 69 = .ok (.iload_n 1, 1) := by decide +kernel
theorem dX1_told_70 : decode cX1_told 70 = .ok (.invokevirtual 97, 3) := by decide +kernel
theorem dX1_told_73 : decode cX1_told 73 = .ok (.ireturn, 1) := by decide +kernel
theorem dX1_told_74 : decode cX1_told 74 = .ok (.aload_n 0, 1) := by decide +kernel
theorem dX1_told_75 : decode cX1_told 75 = .ok (.getfield 10, 3) := by decide +kernel
theorem dX1_told_78 : decode cX1_told 78 = .ok (.iload_n 1, 1) := by decide +kernel
theorem dX1_told_79 : decode cX1_told 79 = .ok (.invokevirtual 100, 3) := by decide +kernel
theorem dX1_told_82 : decode cX1_told 82 = .ok (.ireturn, 1) := by decide +kernel
theorem dX1_told_83 : decode cX1_told 83 = .ok (.aload_n 0, 1) := by decide +kernel
theorem dX1_told_84 : decode cX1_told 84 = .ok (.getfield 10, 3) := by decide +kernel
theorem dX1_told_87 : decode cX1_told 87 = .ok (.iload_n 1, 1) := by decide +kernel
theorem dX1_told_88 : decode cX1_told 88 = .ok (.invokevirtual 103, 3) := by decide +kernel
theorem dX1_told_91 : decode cX1_told 91 = .ok (.ireturn, 1) := by decide +kernel
theorem dX1_told_92 : decode cX1_told 92 = .ok (.aload_n 0, 1) := by decide +kernel
theorem dX1_told_93 : decode cX1_told 93 = .ok (.getfield 10, 3) := by decide +kernel
theorem dX1_told_96 : decode cX1_told 96 = .ok (.iload_n 1, 1) := by decide +kernel
theorem dX1_told_97 : decode cX1_told 97 = .ok (.invokevirtual 106, 3) := by decide +kernel
theorem dX1_told_100 : decode cX1_told 100 = .ok (.ireturn, 1) := by decide +kernel
theorem dX1_told_101 : decode cX1_told 101 = .ok (.aload_n 0, 1) := by decide +kernel
theorem dX1_told_102 : decode cX1_told 102 = .ok (.getfield 10, 3) := by decide +kernel
theorem dX1_told_105 : decode cX1_told 105 = .ok (.iload_n 1, 1) := by decide +kernel
theorem dX1_told_106 : decode cX1_told 106 = .ok (.invokevirtual 109, 3) := by decide +kernel
theorem dX1_told_109 : decode cX1_told 109 = .ok (.ireturn, 1) := by decide +kernel
theorem dX1_told_110 : decode cX1_told 110 = .ok (.aload_n 0, 1) := by decide +kernel
theorem dX1_told_111 : decode cX1_told 111 = .ok (.getfield 10, 3) := by decide +kernel
theorem dX1_told_114 : decode cX1_told 114 = .ok (.iload_n 1, 1) := by decide +kernel
theorem dX1_told_115 : decode cX1_told 115 = .ok (.invokevirtual 112, 3) := by decide +kernel
theorem dX1_told_118 : decode cX1_told 118 = .ok (.ireturn, 1) := by decide +kernel
theorem dX1_told_119 : decode cX1_told 119 = .ok (.aload_n 0, 1) := by decide +kernel
theorem dX1_told_120 : decode cX1_told 120 = .ok (.getfield 10, 3) := by decide +kernel
theorem dX1_told_123 : decode cX1_told 123 = .ok (.iload_n 1, 1) := by decide +kernel
theorem dX1_told_124 : decode cX1_told 124 = .ok (.invokevirtual 115, 3) := by decide +kernel
theorem dX1_told_127 : decode cX1_told 127 = .ok (.ireturn, 1) := by decide +kernel
theorem dX1_told_128 : decode cX1_told 128 = .ok (.aload_n 0, 1) := by decide +kernel
theorem dX1_told_129 : decode cX1_told 129 = .ok (.getfield 10, 3) := by decide +kernel
theorem dX1_told_132 : decode cX1_told 132 = .ok (.iload_n 1, 1) := by decide +kernel
theorem dX1_told_133 : decode cX1_told 133 = .ok (.invokevirtual 118, 3) := by decide +kernel
theorem dX1_told_136 : decode cX1_told 136 = .ok (.ireturn, 1) := by decide +kernel
theorem dX1_told_137 : decode cX1_told 137 = .ok (.new 121, 3) := by decide +kernel
theorem dX1_told_140 : decode cX1_told 140 = .ok (.dup, 1) := by decide +kernel
theorem dX1_told_141 : decode cX1_told 141 = .ok (.ldc 123, 2) := by decide +kernel
theorem dX1_told_143 : decode cX1_told 143 = .ok (.invokespecial 125, 3) := by decide +kernel
theorem dX1_told_146 : decode cX1_told 146 = .ok (.athrow, 1) := by decide +kernel
set_option maxRecDepth 20000 in
theorem ggX1_at_X1_isLeague : GoodIn wsX1_at wsX1_isLeague := goodIn_r _ [7] (by decide +kernel) (by decide +kernel)
set_option maxRecDepth 20000 in
theorem gX1_at_X1_isLeague : GoodIn wsX1_at (va_wsS RX1 23 yX1_isLeague wsX1_isLeague) := goodIn_app (goodIn_of _ (by decide +kernel)) ggX1_at_X1_isLeague
set_option maxRecDepth 20000 in
theorem ggX1_at_X0_standingAt : GoodIn wsX1_at wsX0_standingAt := goodIn_r _ [12, 13, 14, 15, 16, 17, 11, 18, 19, 20, 21, 22, 23, 24, 31, 32, 33, 34, 35, 36, 37, 38] (by decide +kernel) (by decide +kernel)
set_option maxRecDepth 20000 in
theorem gX1_at_X0_standingAt : GoodIn wsX1_at (wsV RX1 126 RX0 yX0_standingAt wsX0_standingAt) := goodIn_app (goodIn_of _ (by decide +kernel)) ggX1_at_X0_standingAt
theorem dX1_at_0 : decode cX1_at 0 = .ok (.iload_n 1, 1) := by decide +kernel
theorem dX1_at_1 : decode cX1_at 1 = .ok (.invokestatic 23, 3) := by decide +kernel
theorem dX1_at_4 : decode cX1_at 4 = .ok (.ifCond .ne 13, 3) := by decide +kernel
theorem dX1_at_7 : decode cX1_at 7 = .ok (.new 121, 3) := by decide +kernel
theorem dX1_at_10 : decode cX1_at 10 = .ok (.dup, 1) := by decide +kernel
theorem dX1_at_11 : decode cX1_at 11 = .ok (.ldc 29, 2) := by decide +kernel
theorem dX1_at_13 : decode cX1_at 13 = .ok (.invokespecial 125, 3) := by decide +kernel
theorem dX1_at_16 : decode cX1_at 16 = .ok (.athrow, 1) := by decide +kernel
theorem dX1_at_17 : decode cX1_at 17 = .ok (.aload_n 0, 1) := by decide +kernel
theorem dX1_at_18 : decode cX1_at 18 = .ok (.getfield 10, 3) := by decide +kernel
theorem dX1_at_21 : decode cX1_at 21 = .ok (.iload_n 1, 1) := by decide +kernel
theorem dX1_at_22 : decode cX1_at 22 = .ok (.iload_n 2, 1) := by decide +kernel
theorem dX1_at_23 : decode cX1_at 23 = .ok (.invokevirtual 126, 3) := by decide +kernel
theorem dX1_at_26 : decode cX1_at 26 = .ok (.istore_n 3, 1) := by decide +kernel
theorem dX1_at_27 : decode cX1_at 27 = .ok (.iload_n 3, 1) := by decide +kernel
theorem dX1_at_28 : decode cX1_at 28 = .ok (.iconst (-1), 1) := by decide +kernel
theorem dX1_at_29 : decode cX1_at 29 = .ok (.if_icmp .ne 13, 3) := by decide +kernel
theorem dX1_at_32 : decode cX1_at 32 = .ok (.new 121, 3) := by decide +kernel
theorem dX1_at_35 : decode cX1_at 35 = .ok (.dup, 1) := by decide +kernel
theorem dX1_at_36 : decode cX1_at 36 = .ok (.ldc 129, 2) := by decide +kernel
theorem dX1_at_38 : decode cX1_at 38 = .ok (.invokespecial 125, 3) := by decide +kernel
theorem dX1_at_41 : decode cX1_at 41 = .ok (.athrow, 1) := by decide +kernel
theorem dX1_at_42 : decode cX1_at 42 = .ok (.iload_n 3, 1) := by decide +kernel
theorem dX1_at_43 : decode cX1_at 43 = .ok (.ireturn, 1) := by decide +kernel
set_option maxRecDepth 20000 in
theorem ggX1_count_X0_size : GoodIn wsX1_count wsX0_size := goodIn_r _ [11, 12, 40, 41, 42, 43, 44, 45, 46, 47] (by decide +kernel) (by decide +kernel)
set_option maxRecDepth 20000 in
theorem gX1_count_X0_size : GoodIn wsX1_count (wsV RX1 131 RX0 yX0_size wsX0_size) := goodIn_app (goodIn_of _ (by decide +kernel)) ggX1_count_X0_size
set_option maxRecDepth 20000 in
theorem ggX1_count_X0_sizeOf : GoodIn wsX1_count wsX0_sizeOf := goodIn_r _ [16, 12, 17, 40, 41, 42, 43, 44, 45, 46, 47] (by decide +kernel) (by decide +kernel)
set_option maxRecDepth 20000 in
theorem gX1_count_X0_sizeOf : GoodIn wsX1_count (wsV RX1 135 RX0 yX0_sizeOf wsX0_sizeOf) := goodIn_app (goodIn_of _ (by decide +kernel)) ggX1_count_X0_sizeOf
set_option maxRecDepth 20000 in
theorem ggX1_count_X0_highest : GoodIn wsX1_count wsX0_highest := goodIn_r _ [21, 12, 22, 23, 24, 25, 26, 40, 41, 42, 43, 44, 45, 46, 47] (by decide +kernel) (by decide +kernel)
set_option maxRecDepth 20000 in
theorem gX1_count_X0_highest : GoodIn wsX1_count (wsV RX1 138 RX0 yX0_highest wsX0_highest) := goodIn_app (goodIn_of _ (by decide +kernel)) ggX1_count_X0_highest
set_option maxRecDepth 20000 in
theorem ggX1_count_X0_lowest : GoodIn wsX1_count wsX0_lowest := goodIn_r _ [30, 12, 22, 31, 32, 25, 33, 40, 41, 42, 43, 44, 45, 46, 47] (by decide +kernel) (by decide +kernel)
set_option maxRecDepth 20000 in
theorem gX1_count_X0_lowest : GoodIn wsX1_count (wsV RX1 141 RX0 yX0_lowest wsX0_lowest) := goodIn_app (goodIn_of _ (by decide +kernel)) ggX1_count_X0_lowest
theorem dX1_count_0 : decode cX1_count 0 = .ok (.iload_n 1, 1) := by decide +kernel
theorem dX1_count_1 : decode cX1_count 1 = .ok (.tableswitch 101 0 8 #[51, 56, 64, 69, 74, 74, 74, 85, 93], 51) := by decide +kernel
theorem dX1_count_52 : decode cX1_count 52 = .ok (.aload_n 0, 1) := by decide +kernel
theorem dX1_count_53 : decode cX1_count 53 = .ok (.getfield 90, 3) := by decide +kernel
theorem dX1_count_56 : decode cX1_count 56 = .ok (.ireturn, 1) := by decide +kernel
theorem dX1_count_57 : decode cX1_count 57 = .ok (.aload_n 0, 1) := by decide +kernel
theorem dX1_count_58 : decode cX1_count 58 = .ok (.getfield 10, 3) := by decide +kernel
theorem dX1_count_61 : decode cX1_count 61 = .ok (.invokevirtual 131, 3) := by decide +kernel
theorem dX1_count_64 : decode cX1_count 64 = .ok (.ireturn, 1) := by decide +kernel
theorem dX1_count_65 : decode cX1_count 65 = .ok (.aload_n 0, 1) := by decide +kernel
theorem dX1_count_66 : decode cX1_count 66 = .ok (.getfield 74, 3) := by decide +kernel
theorem dX1_count_69 : decode cX1_count 69 = .ok (.ireturn, 1) := by decide +kernel
theorem dX1_count_70 : decode cX1_count 70 = .ok (.aload_n 0, 1) := by decide +kernel
theorem dX1_count_71 : decode cX1_count 71 = .ok (.getfield 70, 3) := by decide +kernel
theorem dX1_count_74 : decode cX1_count 74 = .ok (.ireturn, 1) := by decide +kernel
theorem dX1_count_75 : decode cX1_count 75 = .ok (.aload_n 0, 1) := by decide +kernel
theorem dX1_count_76 : decode cX1_count 76 = .ok (.getfield 10, 3) := by decide +kernel
theorem dX1_count_79 : decode cX1_count 79 = .ok (.iload_n 1, 1) := by decide +kernel
theorem dX1_count_80 : decode cX1_count 80 = .ok (.iconst 4, 1) := by decide +kernel
theorem dX1_count_81 : decode cX1_count 81 = .ok (.isub, 1) := by decide +kernel
theorem dX1_count_82 : decode cX1_count 82 = .ok (.invokevirtual 135, 3) := by decide +kernel
theorem dX1_count_85 : decode cX1_count 85 = .ok (.ireturn, 1) := by decide +kernel
theorem dX1_count_86 : decode cX1_count 86 = .ok (.aload_n 0, 1) := by decide +kernel
theorem dX1_count_87 : decode cX1_count 87 = .ok (.getfield 10, 3) := by decide +kernel
theorem dX1_count_90 : decode cX1_count 90 = .ok (.invokevirtual 138, 3) := by decide +kernel
theorem dX1_count_93 : decode cX1_count 93 = .ok (.ireturn, 1) := by decide +kernel
theorem dX1_count_94 : decode cX1_count 94 = .ok (.aload_n 0, 1) := by decide +kernel
theorem dX1_count_95 : decode cX1_count 95 = .ok (.getfield 10, 3) := by decide +kernel
theorem dX1_count_98 : decode cX1_count 98 = .ok (.invokevirtual 141, 3) := by decide +kernel
theorem dX1_count_101 : decode cX1_count 101 = .ok (.ireturn, 1) := by decide +kernel
theorem dX1_count_102 : decode cX1_count 102 = .ok (.new 121, 3) := by decide +kernel
theorem dX1_count_105 : decode cX1_count 105 = .ok (.dup, 1) := by decide +kernel
theorem dX1_count_106 : decode cX1_count 106 = .ok (.ldc 144, 2) := by decide +kernel
theorem dX1_count_108 : decode cX1_count 108 = .ok (.invokespecial 125, 3) := by decide +kernel
theorem dX1_count_111 : decode cX1_count 111 = .ok (.athrow, 1) := by decide +kernel
set_option maxRecDepth 20000 in
theorem ggX1_would_X1_checkWrestler : GoodIn wsX1_would wsX1_checkWrestler := goodIn_ca (goodIn_r _ [8, 1, 2, 3, 9, 10, 11, 12, 13, 14, 48, 49, 50, 51, 52, 53, 54, 55, 56, 57, 58, 59, 60, 61] (by decide +kernel) (by decide +kernel)) (goodIn_sub (fun _ h => List.mem_cons_of_mem _ (List.mem_append_left _ (List.mem_append_right _ h))) (by decide +kernel))
set_option maxRecDepth 20000 in
theorem gX1_would_X1_checkWrestler : GoodIn wsX1_would (wsV RX1 47 RX1 yX1_checkWrestler wsX1_checkWrestler) := goodIn_app (goodIn_of _ (by decide +kernel)) ggX1_would_X1_checkWrestler
set_option maxRecDepth 20000 in
theorem ggX1_would_X1_checkDifferent : GoodIn wsX1_would wsX1_checkDifferent := goodIn_ca (goodIn_r _ [17, 18, 19] (by decide +kernel) (by decide +kernel)) (goodIn_sub (fun _ h => List.mem_cons_of_mem _ (List.mem_append_right _ h)) (by decide +kernel))
set_option maxRecDepth 20000 in
theorem gX1_would_X1_checkDifferent : GoodIn wsX1_would (va_wsS RX1 60 yX1_checkDifferent wsX1_checkDifferent) := goodIn_app (goodIn_of _ (by decide +kernel)) ggX1_would_X1_checkDifferent
set_option maxRecDepth 20000 in
theorem ggX1_would_X1_checkResult : GoodIn wsX1_would wsX1_checkResult := goodIn_ca (goodIn_r _ [22, 18, 19] (by decide +kernel) (by decide +kernel)) (goodIn_sub (fun _ h => List.mem_cons_of_mem _ (List.mem_append_right _ h)) (by decide +kernel))
set_option maxRecDepth 20000 in
theorem gX1_would_X1_checkResult : GoodIn wsX1_would (va_wsS RX1 63 yX1_checkResult wsX1_checkResult) := goodIn_app (goodIn_of _ (by decide +kernel)) ggX1_would_X1_checkResult
set_option maxRecDepth 20000 in
theorem ggX1_would_X0_gain : GoodIn wsX1_would wsX0_gain := goodIn_r _ [26, 27, 28, 29, 30, 31, 32, 33, 34, 35, 36, 37, 12, 38, 39, 40, 41, 42, 43, 44, 45, 46, 47, 54, 55, 56, 57, 58, 59, 60, 61] (by decide +kernel) (by decide +kernel)
set_option maxRecDepth 20000 in
theorem gX1_would_X0_gain : GoodIn wsX1_would (wsV RX1 148 RX0 yX0_gain wsX0_gain) := goodIn_app (goodIn_of _ (by decide +kernel)) ggX1_would_X0_gain
theorem dX1_would_0 : decode cX1_would 0 = .ok (.aload_n 0, 1) := by decide +kernel
theorem dX1_would_1 : decode cX1_would 1 = .ok (.iload_n 1, 1) := by decide +kernel
theorem dX1_would_2 : decode cX1_would 2 = .ok (.invokevirtual 47, 3) := by decide +kernel
theorem dX1_would_5 : decode cX1_would 5 = .ok (.aload_n 0, 1) := by decide +kernel
theorem dX1_would_6 : decode cX1_would 6 = .ok (.iload_n 2, 1) := by decide +kernel
theorem dX1_would_7 : decode cX1_would 7 = .ok (.invokevirtual 47, 3) := by decide +kernel
theorem dX1_would_10 : decode cX1_would 10 = .ok (.iload 4, 2) := by decide +kernel
theorem dX1_would_12 : decode cX1_would 12 = .ok (.ifCond .eq 19, 3) := by decide +kernel
theorem dX1_would_15 : decode cX1_would 15 = .ok (.iload 4, 2) := by decide +kernel
theorem dX1_would_17 : decode cX1_would 17 = .ok (.iconst 1, 1) := by decide +kernel
theorem dX1_would_18 : decode cX1_would 18 = .ok (.if_icmp .eq 13, 3) := by decide +kernel
theorem dX1_would_21 : decode cX1_would 21 = .ok (.new 121, 3) := by decide +kernel
theorem dX1_would_24 : decode cX1_would 24 = .ok (.dup, 1) := by decide +kernel
theorem dX1_would_25 : decode cX1_would 25 = .ok (.ldc 146, 2) := by decide +kernel
theorem dX1_would_27 : decode cX1_would 27 = .ok (.invokespecial 125, 3) := by decide +kernel
theorem dX1_would_30 : decode cX1_would 30 = .ok (.athrow, 1) := by decide +kernel
theorem dX1_would_31 : decode cX1_would 31 = .ok (.iload_n 1, 1) := by decide +kernel
theorem dX1_would_32 : decode cX1_would 32 = .ok (.iload_n 2, 1) := by decide +kernel
theorem dX1_would_33 : decode cX1_would 33 = .ok (.invokestatic 60, 3) := by decide +kernel
theorem dX1_would_36 : decode cX1_would 36 = .ok (.iload_n 3, 1) := by decide +kernel
theorem dX1_would_37 : decode cX1_would 37 = .ok (.invokestatic 63, 3) := by decide +kernel
theorem dX1_would_40 : decode cX1_would 40 = .ok (.iload 4, 2) := by decide +kernel
theorem dX1_would_42 : decode cX1_would 42 = .ok (.ifCond .ne 16, 3) := by decide +kernel
theorem dX1_would_45 : decode cX1_would 45 = .ok (.aload_n 0, 1) := by decide +kernel
theorem dX1_would_46 : decode cX1_would 46 = .ok (.getfield 10, 3) := by decide +kernel
theorem dX1_would_49 : decode cX1_would 49 = .ok (.iload_n 1, 1) := by decide +kernel
theorem dX1_would_50 : decode cX1_would 50 = .ok (.iload_n 2, 1) := by decide +kernel
theorem dX1_would_51 : decode cX1_would 51 = .ok (.iload_n 3, 1) := by decide +kernel
theorem dX1_would_52 : decode cX1_would 52 = .ok (.invokevirtual 148, 3) := by decide +kernel
theorem dX1_would_55 : decode cX1_would 55 = .ok (.goto 15, 3) := by decide +kernel
theorem dX1_would_58 : decode cX1_would 58 = .ok (.aload_n 0, 1) := by decide +kernel
theorem dX1_would_59 : decode cX1_would 59 = .ok (.getfield 10, 3) := by decide +kernel
theorem dX1_would_62 : decode cX1_would 62 = .ok (.iload_n 2, 1) := by decide +kernel
theorem dX1_would_63 : decode cX1_would 63 = .ok (.iload_n 1, 1) := by decide +kernel
theorem dX1_would_64 : decode cX1_would 64 = .ok (.iconst 2, 1) := by decide +kernel
theorem dX1_would_65 : decode cX1_would 65 = .ok (.iload_n 3, 1) := by decide +kernel
theorem dX1_would_66 : decode cX1_would 66 = .ok (.isub, 1) := by decide +kernel
theorem dX1_would_67 : decode cX1_would 67 = .ok (.invokevirtual 148, 3) := by decide +kernel
theorem dX1_would_70 : decode cX1_would 70 = .ok (.ireturn, 1) := by decide +kernel
set_option maxRecDepth 20000 in
theorem ggX1_match_X1_checkWrestler : GoodIn wsX1_match wsX1_checkWrestler := goodIn_ca (goodIn_r _ [6, 7, 8, 1, 9, 10, 11, 12, 13, 14, 40, 41, 42, 43, 44, 45, 46, 47, 48, 49, 50, 51, 52, 53] (by decide +kernel) (by decide +kernel)) (goodIn_sub (fun _ h => List.mem_cons_of_mem _ (List.mem_append_right _ h)) (by decide +kernel))
set_option maxRecDepth 20000 in
theorem gX1_match_X1_checkWrestler : GoodIn wsX1_match (wsV RX1 47 RX1 yX1_checkWrestler wsX1_checkWrestler) := goodIn_app (goodIn_of _ (by decide +kernel)) ggX1_match_X1_checkWrestler
set_option maxRecDepth 20000 in
theorem ggX1_match_X0_evenest : GoodIn wsX1_match wsX0_evenest := goodIn_r _ [18, 14, 19, 20, 21, 22, 12, 23, 24, 25, 26, 27, 28, 29, 30, 31, 32, 33, 34, 35, 36, 37, 38, 39, 46, 47, 48, 49, 50, 51, 52, 53] (by decide +kernel) (by decide +kernel)
set_option maxRecDepth 20000 in
theorem gX1_match_X0_evenest : GoodIn wsX1_match (wsV RX1 156 RX0 yX0_evenest wsX0_evenest) := goodIn_app (goodIn_of _ (by decide +kernel)) ggX1_match_X0_evenest
theorem dX1_match_0 : decode cX1_match 0 = .ok (.aload_n 0, 1) := by decide +kernel
theorem dX1_match_1 : decode cX1_match 1 = .ok (.iload_n 1, 1) := by decide +kernel
theorem dX1_match_2 : decode cX1_match 2 = .ok (.invokevirtual 47, 3) := by decide +kernel
theorem dX1_match_5 : decode cX1_match 5 = .ok (.aload_n 0, 1) := by decide +kernel
theorem dX1_match_6 : decode cX1_match 6 = .ok (.getfield 10, 3) := by decide +kernel
theorem dX1_match_9 : decode cX1_match 9 = .ok (.iload_n 1, 1) := by decide +kernel
theorem dX1_match_10 : decode cX1_match 10 = .ok (.invokevirtual 156, 3) := by decide +kernel
theorem dX1_match_13 : decode cX1_match 13 = .ok (.ireturn, 1) := by decide +kernel
set_option maxRecDepth 20000 in
theorem ggX1_next_X0_bestPair : GoodIn wsX1_next wsX0_bestPair := goodIn_r _ [6, 7, 8, 9, 10, 11, 12, 5, 13, 14, 15, 16, 17, 18, 19, 20, 21, 22, 23, 24, 25, 26, 27, 28, 29, 36, 37, 38, 39, 40, 41, 42, 43] (by decide +kernel) (by decide +kernel)
set_option maxRecDepth 20000 in
theorem gX1_next_X0_bestPair : GoodIn wsX1_next (wsV RX1 159 RX0 yX0_bestPair wsX0_bestPair) := goodIn_app (goodIn_of _ (by decide +kernel)) ggX1_next_X0_bestPair
theorem dX1_next_0 : decode cX1_next 0 = .ok (.aload_n 0, 1) := by decide +kernel
theorem dX1_next_1 : decode cX1_next 1 = .ok (.getfield 10, 3) := by decide +kernel
theorem dX1_next_4 : decode cX1_next 4 = .ok (.invokevirtual 159, 3) := by decide +kernel
theorem dX1_next_7 : decode cX1_next 7 = .ok (.ireturn, 1) := by decide +kernel
set_option maxRecDepth 20000 in
theorem ggX1_foresee_X0_copyFrom : GoodIn wsX1_foresee wsX0_copyFrom := goodIn_r _ [9, 10, 11, 12, 13, 14, 15, 16, 17, 78, 79, 80, 81, 82, 83, 84, 85] (by decide +kernel) (by decide +kernel)
set_option maxRecDepth 20000 in
theorem gX1_foresee_X0_copyFrom : GoodIn wsX1_foresee (wsV RX1 164 RX0 yX0_copyFrom wsX0_copyFrom) := goodIn_app (goodIn_of _ (by decide +kernel)) ggX1_foresee_X0_copyFrom
set_option maxRecDepth 20000 in
theorem ggX1_foresee_X0_bestPair : GoodIn wsX1_foresee wsX0_bestPair := goodIn_r _ [21, 10, 11, 15, 22, 23, 24, 8, 25, 26, 27, 28, 29, 30, 31, 32, 33, 12, 34, 35, 36, 37, 38, 39, 40, 78, 79, 80, 81, 82, 83, 84, 85] (by decide +kernel) (by decide +kernel)
set_option maxRecDepth 20000 in
theorem gX1_foresee_X0_bestPair : GoodIn wsX1_foresee (wsV RX1 159 RX0 yX0_bestPair wsX0_bestPair) := goodIn_app (goodIn_of _ (by decide +kernel)) ggX1_foresee_X0_bestPair
set_option maxRecDepth 20000 in
theorem ggX1_foresee_X0_holdAsRated : GoodIn wsX1_foresee wsX0_holdAsRated := goodIn_r _ [44, 12, 45, 46, 47, 8, 48, 49, 50, 51, 52, 37, 38, 28, 39, 53, 54, 55, 56, 57, 58, 59, 14, 30, 31, 32, 33, 34, 35, 36, 40, 60, 61, 62, 63, 13, 15, 16, 64, 65, 66, 67, 17, 78, 79, 80, 81, 82, 83, 84, 85] (by decide +kernel) (by decide +kernel)
set_option maxRecDepth 20000 in
theorem gX1_foresee_X0_holdAsRated : GoodIn wsX1_foresee (wsV RX1 168 RX0 yX0_holdAsRated wsX0_holdAsRated) := goodIn_app (goodIn_of _ (by decide +kernel)) ggX1_foresee_X0_holdAsRated
set_option maxRecDepth 20000 in
theorem ggX1_foresee_X0_highest : GoodIn wsX1_foresee wsX0_highest := goodIn_r _ [71, 10, 12, 53, 54, 28, 55, 78, 79, 80, 81, 82, 83, 84, 85] (by decide +kernel) (by decide +kernel)
set_option maxRecDepth 20000 in
theorem gX1_foresee_X0_highest : GoodIn wsX1_foresee (wsV RX1 138 RX0 yX0_highest wsX0_highest) := goodIn_app (goodIn_of _ (by decide +kernel)) ggX1_foresee_X0_highest
theorem dX1_foresee_0 : decode cX1_foresee 0 = .ok (.iload_n 1, 1) := by decide +kernel
theorem dX1_foresee_1 : decode cX1_foresee 1 = .ok (.iconst 1, 1) := by decide +kernel
theorem dX1_foresee_2 : decode cX1_foresee 2 = .ok (.if_icmp .lt 9, 3) := by decide +kernel
theorem dX1_foresee_5 : decode cX1_foresee 5 = .ok (.iload_n 1, 1) := by decide +kernel
theorem dX1_foresee_6 : decode cX1_foresee 6 = .ok (.bipush 40, 2) := by decide +kernel
theorem dX1_foresee_8 : decode cX1_foresee 8 = .ok (.if_icmp .le 13, 3) := by decide +kernel
theorem dX1_foresee_11 : decode cX1_foresee 11 = .ok (.new 27, 3) := by decide +kernel
theorem dX1_foresee_14 : decode cX1_foresee 14 = .ok (.dup, 1) := by decide +kernel
theorem dX1_foresee_15 : decode cX1_foresee 15 = .ok (.ldc 162, 2) := by decide +kernel
theorem dX1_foresee_17 : decode cX1_foresee 17 = .ok (.invokespecial 31, 3) := by decide +kernel
theorem dX1_foresee_20 : decode cX1_foresee 20 = .ok (.athrow, 1) := by decide +kernel
theorem dX1_foresee_21 : decode cX1_foresee 21 = .ok (.aload_n 0, 1) := by decide +kernel
theorem dX1_foresee_22 : decode cX1_foresee 22 = .ok (.getfield 16, 3) := by decide +kernel
theorem dX1_foresee_25 : decode cX1_foresee 25 = .ok (.aload_n 0, 1) := by decide +kernel
theorem dX1_foresee_26 : decode cX1_foresee 26 = .ok (.getfield 10, 3) := by decide +kernel
theorem dX1_foresee_29 : decode cX1_foresee 29 = .ok (.invokevirtual 164, 3) := by decide +kernel
theorem dX1_foresee_32 : decode cX1_foresee 32 = .ok (.iconst 0, 1) := by decide +kernel
theorem dX1_foresee_33 : decode cX1_foresee 33 = .ok (.istore_n 2, 1) := by decide +kernel
theorem dX1_foresee_34 : decode cX1_foresee 34 = .ok (.iload_n 2, 1) := by decide +kernel
theorem dX1_foresee_35 : decode cX1_foresee 35 = .ok (.iload_n 1, 1) := by decide +kernel
theorem dX1_foresee_36 : decode cX1_foresee 36 = .ok (.if_icmp .ge 40, 3) := by decide +kernel
theorem dX1_foresee_39 : decode cX1_foresee 39 = .ok (.aload_n 0, 1) := by decide +kernel
theorem dX1_foresee_40 : decode cX1_foresee 40 = .ok (.getfield 16, 3) := by decide +kernel
theorem dX1_foresee_43 : decode cX1_foresee 43 = .ok (.invokevirtual 159, 3) := by decide +kernel
theorem dX1_foresee_46 : decode cX1_foresee 46 = .ok (.istore_n 3, 1) := by decide +kernel
theorem dX1_foresee_47 : decode cX1_foresee 47 = .ok (.iload_n 3, 1) := by decide +kernel
theorem dX1_foresee_48 : decode cX1_foresee 48 = .ok (.iconst (-1), 1) := by decide +kernel
theorem dX1_foresee_49 : decode cX1_foresee 49 = .ok (.if_icmp .ne 6, 3) := by decide +kernel
theorem dX1_foresee_52 : decode cX1_foresee 52 = .ok (.goto 24, 3) := by decide +kernel
theorem dX1_foresee_55 : decode cX1_foresee 55 = .ok (.aload_n 0, 1) := by decide +kernel
theorem dX1_foresee_56 : decode cX1_foresee 56 = .ok (.getfield 16, 3) := by decide +kernel
theorem dX1_foresee_59 : decode cX1_foresee 59 = .ok (.iload_n 3, 1) := by decide +kernel
theorem dX1_foresee_60 : decode cX1_foresee 60 = .ok (.bipush 12, 2) := by decide +kernel
theorem dX1_foresee_62 : decode cX1_foresee 62 = .ok (.idiv, 1) := by decide +kernel
theorem dX1_foresee_63 : decode cX1_foresee 63 = .ok (.iload_n 3, 1) := by decide +kernel
theorem dX1_foresee_64 : decode cX1_foresee 64 = .ok (.bipush 12, 2) := by decide +kernel
theorem dX1_foresee_66 : decode cX1_foresee 66 = .ok (.irem, 1) := by decide +kernel
theorem dX1_foresee_67 : decode cX1_foresee 67 = .ok (.invokevirtual 168, 3) := by decide +kernel
theorem dX1_foresee_70 : decode cX1_foresee 70 = .ok (.iinc 2 1, 3) := by decide +kernel
theorem dX1_foresee_73 : decode cX1_foresee 73 = .ok (.goto (-39), 3) := by decide +kernel
theorem dX1_foresee_76 : decode cX1_foresee 76 = .ok (.aload_n 0, 1) := by decide +kernel
theorem dX1_foresee_77 : decode cX1_foresee 77 = .ok (.getfield 16, 3) := by decide +kernel
theorem dX1_foresee_80 : decode cX1_foresee 80 = .ok (.invokevirtual 138, 3) := by decide +kernel
theorem dX1_foresee_83 : decode cX1_foresee 83 = .ok (.ireturn, 1) := by decide +kernel
set_option maxRecDepth 20000 in
theorem ggX1_mean_X0_size : GoodIn wsX1_mean wsX0_size := goodIn_r _ [6, 7, 19, 20, 21, 22, 23, 24, 25, 26] (by decide +kernel) (by decide +kernel)
set_option maxRecDepth 20000 in
theorem gX1_mean_X0_size : GoodIn wsX1_mean (wsV RX1 131 RX0 yX0_size wsX0_size) := goodIn_app (goodIn_of _ (by decide +kernel)) ggX1_mean_X0_size
set_option maxRecDepth 20000 in
theorem ggX1_mean_X0_sumOfRatings : GoodIn wsX1_mean wsX0_sumOfRatings := goodIn_r _ [11, 7, 12, 19, 20, 21, 22, 23, 24, 25, 26] (by decide +kernel) (by decide +kernel)
set_option maxRecDepth 20000 in
theorem gX1_mean_X0_sumOfRatings : GoodIn wsX1_mean (wsV RX1 171 RX0 yX0_sumOfRatings wsX0_sumOfRatings) := goodIn_app (goodIn_of _ (by decide +kernel)) ggX1_mean_X0_sumOfRatings
theorem dX1_mean_0 : decode cX1_mean 0 = .ok (.aload_n 0, 1) := by decide +kernel
theorem dX1_mean_1 : decode cX1_mean 1 = .ok (.getfield 10, 3) := by decide +kernel
theorem dX1_mean_4 : decode cX1_mean 4 = .ok (.invokevirtual 131, 3) := by decide +kernel
theorem dX1_mean_7 : decode cX1_mean 7 = .ok (.istore_n 1, 1) := by decide +kernel
theorem dX1_mean_8 : decode cX1_mean 8 = .ok (.iload_n 1, 1) := by decide +kernel
theorem dX1_mean_9 : decode cX1_mean 9 = .ok (.ifCond .ne 7, 3) := by decide +kernel
theorem dX1_mean_12 : decode cX1_mean 12 = .ok (.dconst 0, 1) := by decide +kernel
theorem dX1_mean_13 : decode cX1_mean 13 = .ok (.goto 14, 3) := by decide +kernel
theorem dX1_mean_16 : decode cX1_mean 16 = .ok (.aload_n 0, 1) := by decide +kernel
theorem dX1_mean_17 : decode cX1_mean 17 = .ok (.getfield 10, 3) := by decide +kernel
theorem dX1_mean_20 : decode cX1_mean 20 = .ok (.invokevirtual 171, 3) := by decide +kernel
theorem dX1_mean_23 : decode cX1_mean 23 = .ok (.i2d, 1) := by decide +kernel
theorem dX1_mean_24 : decode cX1_mean 24 = .ok (.iload_n 1, 1) := by decide +kernel
theorem dX1_mean_25 : decode cX1_mean 25 = .ok (.i2d, 1) := by decide +kernel
theorem dX1_mean_26 : decode cX1_mean 26 = .ok (.ddiv, 1) := by decide +kernel
theorem dX1_mean_27 : decode cX1_mean 27 = .ok (.dreturn, 1) := by decide +kernel
set_option maxRecDepth 20000 in
theorem ggX1_digest_X1_count : GoodIn wsX1_digest wsX1_count := goodIn_ca (goodIn_r _ [8, 9, 10, 11, 3, 12, 13, 14, 15, 16, 17, 18, 19, 20, 21, 22, 23, 24, 25, 26, 27, 28, 29, 30, 31, 32, 33, 34, 35, 36, 37, 38, 39, 40, 121, 122, 123, 124, 125, 126, 127, 128, 129, 130, 131, 132, 133, 134] (by decide +kernel) (by decide +kernel)) (goodIn_sub (fun _ h => List.mem_cons_of_mem _ (List.mem_append_right _ h)) (by decide +kernel))
set_option maxRecDepth 20000 in
theorem gX1_digest_X1_count : GoodIn wsX1_digest (wsV RX1 178 RX1 yX1_count wsX1_count) := goodIn_app (goodIn_of _ (by decide +kernel)) ggX1_digest_X1_count
set_option maxRecDepth 20000 in
theorem ggX1_digest_X0_size : GoodIn wsX1_digest wsX0_size := goodIn_r _ [18, 19, 127, 128, 129, 130, 131, 132, 133, 134] (by decide +kernel) (by decide +kernel)
set_option maxRecDepth 20000 in
theorem gX1_digest_X0_size : GoodIn wsX1_digest (wsV RX1 131 RX0 yX0_size wsX0_size) := goodIn_app (goodIn_of _ (by decide +kernel)) ggX1_digest_X0_size
set_option maxRecDepth 20000 in
theorem ggX1_digest_X1_told : GoodIn wsX1_digest wsX1_told := goodIn_ca (goodIn_r _ [44, 9, 10, 3, 45, 46, 47, 7, 48, 49, 50, 51, 17, 52, 19, 53, 54, 55, 56, 29, 57, 58, 59, 60, 24, 61, 62, 63, 64, 65, 66, 67, 68, 69, 70, 71, 72, 73, 74, 75, 76, 77, 78, 79, 80, 81, 82, 83, 84, 85, 86, 87, 88, 89, 90, 91, 92, 93, 94, 95, 96, 97, 121, 122, 123, 124, 125, 126, 127, 128, 129, 130, 131, 132, 133, 134] (by decide +kernel) (by decide +kernel)) (goodIn_sub (fun _ h => List.mem_cons_of_mem _ (List.mem_append_right _ h)) (by decide +kernel))
set_option maxRecDepth 20000 in
theorem gX1_digest_X1_told : GoodIn wsX1_digest (wsV RX1 181 RX1 yX1_told wsX1_told) := goodIn_app (goodIn_of _ (by decide +kernel)) ggX1_digest_X1_told
set_option maxRecDepth 20000 in
theorem ggX1_digest_X1_next : GoodIn wsX1_digest wsX1_next := goodIn_r _ [101, 3, 102, 103, 104, 17, 105, 19, 24, 75, 106, 107, 108, 109, 110, 111, 32, 112, 113, 114, 115, 116, 29, 117, 118, 119, 38, 39, 40, 120, 121, 122, 123, 124, 125, 126, 127, 128, 129, 130, 131, 132, 133, 134] (by decide +kernel) (by decide +kernel)
set_option maxRecDepth 20000 in
theorem gX1_digest_X1_next : GoodIn wsX1_digest (wsV RX1 184 RX1 yX1_next wsX1_next) := goodIn_app (goodIn_of _ (by decide +kernel)) ggX1_digest_X1_next
theorem dX1_digest_0 : decode cX1_digest 0 = .ok (.ldc2_w 174, 3) := by decide +kernel
