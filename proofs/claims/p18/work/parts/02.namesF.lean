theorem dX1_count_79 : decode cX1_count 79 = .ok (.iload_n 1, 1) := by decide +kernel
theorem dX1_count_80 : decode cX1_count 80 = .ok (.iconst 4, 1) := by decide +kernel
theorem dX1_count_81 : decode cX1_count 81 = .ok (.isub, 1) := by decide +kernel
theorem dX1_count_82 : decode cX1_count 82 = .ok (.invokevirtual 135, 3) := by decide +kernel
theorem dX1_count_85 : decode cX1_count 85 = .ok (.ireturn, 1) := by decide +kernel
theorem dX1_count_86 : decode cX1_count 86 = .ok (.aload_n 0, 1) := by decide +kernel
theorem dX1_count_87 : decode cX1_count 87 = .ok (.getfield 10, 3) := by decide +kernel
theorem dX1_count_90 : decode cX1_count 90 = .ok (.invokevirtual 138, 3) := by decide +kernel
theorem dX1_count_93 : decode cX1_count 93 = .ok (.ireturn, 1) := by decide +kernel
theorem dX1_count_94 : decode cX1_count 94 = .ok (.aload_n 0, 1) := by decide +kernel
theorem dX1_count_95 : decode cX1_count 95 = .ok (.getfield 10, 3) := by decide +kernel
theorem dX1_count_98 : decode cX1_count 98 = .ok (.invokevirtual 141, 3) := by decide +kernel
theorem dX1_count_101 : decode cX1_count 101 = .ok (.ireturn, 1) := by decide +kernel
theorem dX1_count_102 : decode cX1_count 102 = .ok (.new 121, 3) := by decide +kernel
theorem dX1_count_105 : decode cX1_count 105 = .ok (.dup, 1) := by decide +kernel
theorem dX1_count_106 : decode cX1_count 106 = .ok (.ldc 144, 2) := by decide +kernel
theorem dX1_count_108 : decode cX1_count 108 = .ok (.invokespecial 125, 3) := by decide +kernel
theorem dX1_count_111 : decode cX1_count 111 = .ok (.athrow, 1) := by decide +kernel
set_option maxRecDepth 20000 in
theorem ggX1_would_X1_checkWrestler : GoodIn wsX1_would wsX1_checkWrestler := goodIn_ca (goodIn_r _ [8, 1, 2, 3, 9, 10, 11, 12, 13, 14, 48, 49, 50, 51, 52, 53, 54, 55, 56, 57, 58, 59, 60, 61] (by decide +kernel) (by decide +kernel)) (goodIn_sub (fun _ h => List.mem_cons_of_mem _ (List.mem_append_left _ (List.mem_append_right _ h))) (by decide +kernel))
set_option maxRecDepth 20000 in
theorem gX1_would_X1_checkWrestler : GoodIn wsX1_would (wsV RX1 47 RX1 yX1_checkWrestler wsX1_checkWrestler) := goodIn_app (goodIn_of _ (by decide +kernel)) ggX1_would_X1_checkWrestler
set_option maxRecDepth 20000 in
theorem ggX1_would_X1_checkDifferent : GoodIn wsX1_would wsX1_checkDifferent := goodIn_ca (goodIn_r _ [17, 18, 19] (by decide +kernel) (by decide +kernel)) (goodIn_sub (fun _ h => List.mem_cons_of_mem _ (List.mem_append_right _ h)) (by decide +kernel))
set_option maxRecDepth 20000 in
theorem gX1_would_X1_checkDifferent : GoodIn wsX1_would (va_wsS RX1 60 yX1_checkDifferent wsX1_checkDifferent) := goodIn_app (goodIn_of _ (by decide +kernel)) ggX1_would_X1_checkDifferent
set_option maxRecDepth 20000 in
theorem ggX1_would_X1_checkResult : GoodIn wsX1_would wsX1_checkResult := goodIn_ca (goodIn_r _ [22, 18, 19] (by decide +kernel) (by decide +kernel)) (goodIn_sub (fun _ h => List.mem_cons_of_mem _ (List.mem_append_right _ h)) (by decide +kernel))
set_option maxRecDepth 20000 in
theorem gX1_would_X1_checkResult : GoodIn wsX1_would (va_wsS RX1 63 yX1_checkResult wsX1_checkResult) := goodIn_app (goodIn_of _ (by decide +kernel)) ggX1_would_X1_checkResult
set_option maxRecDepth 20000 in
theorem ggX1_would_X0_gain : GoodIn wsX1_would wsX0_gain := goodIn_r _ [26, 27, 28, 29, 30, 31, 32, 33, 34, 35, 36, 37, 12, 38, 39, 40, 41, 42, 43, 44, 45, 46, 47, 54, 55, 56, 57, 58, 59, 60, 61] (by decide +kernel) (by decide +kernel)
set_option maxRecDepth 20000 in
theorem gX1_would_X0_gain : GoodIn wsX1_would (wsV RX1 148 RX0 yX0_gain wsX0_gain) := goodIn_app (goodIn_of _ (by decide +kernel)) ggX1_would_X0_gain
theorem dX1_would_0 : decode cX1_would 0 = .ok (.aload_n 0, 1) := by decide +kernel
theorem dX1_would_1 : decode cX1_would 1 = .ok (.iload_n 1, 1) := by decide +kernel
theorem dX1_would_2 : decode cX1_would 2 = .ok (.invokevirtual 47, 3) := by decide +kernel
theorem dX1_would_5 : decode cX1_would 5 = .ok (.aload_n 0, 1) := by decide +kernel
theorem dX1_would_6 : decode cX1_would 6 = .ok (.iload_n 2, 1) := by decide +kernel
theorem dX1_would_7 : decode cX1_would 7 = .ok (.invokevirtual 47, 3) := by decide +kernel
theorem dX1_would_10 : decode cX1_would 10 = .ok (.iload 4, 2) := by decide +kernel
theorem dX1_would_12 : decode cX1_would 12 = .ok (.ifCond .eq 19, 3) := by decide +kernel
theorem dX1_would_15 : decode cX1_would 15 = .ok (.iload 4, 2) := by decide +kernel
theorem dX1_would_17 : decode cX1_would 17 = .ok (.iconst 1, 1) := by decide +kernel
theorem dX1_would_18 : decode cX1_would 18 = .ok (.if_icmp .eq 13, 3) := by decide +kernel
theorem dX1_would_21 : decode cX1_would 21 = .ok (.new 121, 3) := by decide +kernel
theorem dX1_would_24 : decode cX1_would 24 = .ok (.dup, 1) := by decide +kernel
theorem dX1_would_25 : decode cX1_would 25 = .ok (.ldc 146, 2) := by decide +kernel
theorem dX1_would_27 : decode cX1_would 27 = .ok (.invokespecial 125, 3) := by decide +kernel
theorem dX1_would_30 : decode cX1_would 30 = .ok (.athrow, 1) := by decide +kernel
theorem dX1_would_31 : decode cX1_would 31 = .ok (.iload_n 1, 1) := by decide +kernel
theorem dX1_would_32 : decode cX1_would 32 = .ok (.iload_n 2, 1) := by decide +kernel
theorem dX1_would_33 : decode cX1_would 33 = .ok (.invokestatic 60, 3) := by decide +kernel
theorem dX1_would_36 : decode cX1_would 36 = .ok (.iload_n 3, 1) := by decide +kernel
theorem dX1_would_37 : decode cX1_would 37 = .ok (.invokestatic 63, 3) := by decide +kernel
theorem dX1_would_40 : decode cX1_would 40 = .ok (.iload 4, 2) := by decide +kernel
theorem dX1_would_42 : decode cX1_would 42 = .ok (.ifCond .ne 16, 3) := by decide +kernel
theorem dX1_would_45 : decode cX1_would 45 = .ok (.aload_n 0, 1) := by decide +kernel
theorem dX1_would_46 : decode cX1_would 46 = .ok (.getfield 10, 3) := by decide +kernel
theorem dX1_would_49 : decode cX1_would 49 = .ok (.iload_n 1, 1) := by decide +kernel
theorem dX1_would_50 : decode cX1_would 50 = .ok (.iload_n 2, 1) := by decide +kernel
theorem dX1_would_51 : decode cX1_would 51 = .ok (.iload_n 3, 1) := by decide +kernel
theorem dX1_would_52 : decode cX1_would 52 = .ok (.invokevirtual 148, 3) := by decide +kernel
theorem dX1_would_55 : decode cX1_would 55 = .ok (.goto 15, 3) := by decide +kernel
theorem dX1_would_58 : decode cX1_would 58 = .ok (.aload_n 0, 1) := by decide +kernel
theorem dX1_would_59 : decode cX1_would 59 = .ok (.getfield 10, 3) := by decide +kernel
theorem dX1_would_62 : decode cX1_would 62 = .ok (.iload_n 2, 1) := by decide +kernel
theorem dX1_would_63 : decode cX1_would 63 = .ok (.iload_n 1, 1) := by decide +kernel
theorem dX1_would_64 : decode cX1_would 64 = .ok (.iconst 2, 1) := by decide +kernel
theorem dX1_would_65 : decode cX1_would 65 = .ok (.iload_n 3, 1) := by decide +kernel
theorem dX1_would_66 : decode cX1_would 66 = .ok (.isub, 1) := by decide +kernel
theorem dX1_would_67 : decode cX1_would 67 = .ok (.invokevirtual 148, 3) := by decide +kernel
theorem dX1_would_70 : decode cX1_would 70 = .ok (.ireturn, 1) := by decide +kernel
set_option maxRecDepth 20000 in
theorem ggX1_match_X1_checkWrestler : GoodIn wsX1_match wsX1_checkWrestler := goodIn_ca (goodIn_r _ [6, 7, 8, 1, 9, 10, 11, 12, 13, 14, 40, 41, 42, 43, 44, 45, 46, 47, 48, 49, 50, 51, 52, 53] (by decide +kernel) (by decide +kernel)) (goodIn_sub (fun _ h => List.mem_cons_of_mem _ (List.mem_append_right _ h)) (by decide +kernel))
set_option maxRecDepth 20000 in
theorem gX1_match_X1_checkWrestler : GoodIn wsX1_match (wsV RX1 47 RX1 yX1_checkWrestler wsX1_checkWrestler) := goodIn_app (goodIn_of _ (by decide +kernel)) ggX1_match_X1_checkWrestler
set_option maxRecDepth 20000 in
theorem ggX1_match_X0_evenest : GoodIn wsX1_match wsX0_evenest := goodIn_r _ [18, 14, 19, 20, 21, 22, 12, 23, 24, 25, 26, 27, 28, 29, 30, 31, 32, 33, 34, 35, 36, 37, 38, 39, 46, 47, 48, 49, 50, 51, 52, 53] (by decide +kernel) (by decide +kernel)
set_option maxRecDepth 20000 in
theorem gX1_match_X0_evenest : GoodIn wsX1_match (wsV RX1 156 RX0 yX0_evenest wsX0_evenest) := goodIn_app (goodIn_of _ (by decide +kernel)) ggX1_match_X0_evenest
theorem dX1_match_0 : decode cX1_match 0 = .ok (.aload_n 0, 1) := by decide +kernel
theorem dX1_match_1 : decode cX1_match 1 = .ok (.iload_n 1, 1) := by decide +kernel
theorem dX1_match_2 : decode cX1_match 2 = .ok (.invokevirtual 47, 3) := by decide +kernel
theorem dX1_match_5 : decode cX1_match 5 = .ok (.aload_n 0, 1) := by decide +kernel
theorem dX1_match_6 : decode cX1_match 6 = .ok (.getfield 10, 3) := by decide +kernel
theorem dX1_match_9 : decode cX1_match 9 = .ok (.iload_n 1, 1) := by decide +kernel
theorem dX1_match_10 : decode cX1_match 10 = .ok (.invokevirtual 156, 3) := by decide +kernel
theorem dX1_match_13 : decode cX1_match 13 = .ok (.ireturn, 1) := by decide +kernel
set_option maxRecDepth 20000 in
theorem ggX1_next_X0_bestPair : GoodIn wsX1_next wsX0_bestPair := goodIn_r _ [6, 7, 8, 9, 10, 11, 12, 5, 13, 14, 15, 16, 17, 18, 19, 20, 21, 22, 23, 24, 25, 26, 27, 28, 29, 36, 37, 38, 39, 40, 41, 42, 43] (by decide +kernel) (by decide +kernel)
set_option maxRecDepth 20000 in
theorem gX1_next_X0_bestPair : GoodIn wsX1_next (wsV RX1 159 RX0 yX0_bestPair wsX0_bestPair) := goodIn_app (goodIn_of _ (by decide +kernel)) ggX1_next_X0_bestPair
theorem dX1_next_0 : decode cX1_next 0 = .ok (.aload_n 0, 1) := by decide +kernel
theorem dX1_next_1 : decode cX1_next 1 = .ok (.getfield 10, 3) := by decide +kernel
theorem dX1_next_4 : decode cX1_next 4 = .ok (.invokevirtual 159, 3) := by decide +kernel
theorem dX1_next_7 : decode cX1_next 7 = .ok (.ireturn, 1) := by decide +kernel
set_option maxRecDepth 20000 in
theorem ggX1_foresee_X0_copyFrom : GoodIn wsX1_foresee wsX0_copyFrom := goodIn_r _ [9, 10, 11, 12, 13, 14, 15, 16, 17, 78, 79, 80, 81, 82, 83, 84, 85] (by decide +kernel) (by decide +kernel)
set_option maxRecDepth 20000 in
theorem gX1_foresee_X0_copyFrom : GoodIn wsX1_foresee (wsV RX1 164 RX0 yX0_copyFrom wsX0_copyFrom) := goodIn_app (goodIn_of _ (by decide +kernel)) ggX1_foresee_X0_copyFrom
set_option maxRecDepth 20000 in
theorem ggX1_foresee_X0_bestPair : GoodIn wsX1_foresee wsX0_bestPair := goodIn_r _ [21, 10, 11, 15, 22, 23, 24, 8, 25, 26, 27, 28, 29, 30, 31, 32, 33, 12, 34, 35, 36, 37, 38, 39, 40, 78, 79, 80, 81, 82, 83, 84, 85] (by decide +kernel) (by decide +kernel)
set_option maxRecDepth 20000 in
theorem gX1_foresee_X0_bestPair : GoodIn wsX1_foresee (wsV RX1 159 RX0 yX0_bestPair wsX0_bestPair) := goodIn_app (goodIn_of _ (by decide +kernel)) ggX1_foresee_X0_bestPair
set_option maxRecDepth 20000 in
theorem ggX1_foresee_X0_holdAsRated : GoodIn wsX1_foresee wsX0_holdAsRated := goodIn_r _ [44, 12, 45, 46, 47, 8, 48, 49, 50, 51, 52, 37, 38, 28, 39, 53, 54, 55, 56, 57, 58, 59, 14, 30, 31, 32, 33, 34, 35, 36, 40, 60, 61, 62, 63, 13, 15, 16, 64, 65, 66, 67, 17, 78, 79, 80, 81, 82, 83, 84, 85] (by decide +kernel) (by decide +kernel)
set_option maxRecDepth 20000 in
theorem gX1_foresee_X0_holdAsRated : GoodIn wsX1_foresee (wsV RX1 168 RX0 yX0_holdAsRated wsX0_holdAsRated) := goodIn_app (goodIn_of _ (by decide +kernel)) ggX1_foresee_X0_holdAsRated
set_option maxRecDepth 20000 in
theorem ggX1_foresee_X0_highest : GoodIn wsX1_foresee wsX0_highest := goodIn_r _ [71, 10, 12, 53, 54, 28, 55, 78, 79, 80, 81, 82, 83, 84, 85] (by decide +kernel) (by decide +kernel)
set_option maxRecDepth 20000 in
theorem gX1_foresee_X0_highest : GoodIn wsX1_foresee (wsV RX1 138 RX0 yX0_highest wsX0_highest) := goodIn_app (goodIn_of _ (by decide +kernel)) ggX1_foresee_X0_highest
theorem dX1_foresee_0 : decode cX1_foresee 0 = .ok (.iload_n 1, 1) := by decide +kernel
theorem dX1_foresee_1 : decode cX1_foresee 1 = .ok (.iconst 1, 1) := by decide +kernel
theorem dX1_foresee_2 : decode cX1_foresee 2 = .ok (.if_icmp .lt 9, 3) := by decide +kernel
theorem dX1_foresee_5 : decode cX1_foresee 5 = .ok (.iload_n 1, 1) := by decide +kernel
theorem dX1_foresee_6 : decode cX1_foresee 6 = .ok (.bipush 40, 2) := by decide +kernel
theorem dX1_foresee_8 : decode cX1_foresee 8 = .ok (.if_icmp .le 13, 3) := by decide +kernel
theorem dX1_foresee_11 : decode cX1_foresee 11 = .ok (.new 27, 3) := by decide +kernel
theorem dX1_foresee_14 : decode cX1_foresee 14 = .ok (.dup, 1) := by decide +kernel
theorem dX1_foresee_15 : decode cX1_foresee 15 = .ok (.ldc 162, 2) := by decide +kernel
theorem dX1_foresee_17 : decode cX1_foresee 17 = .ok (.invokespecial 31, 3) := by decide +kernel
theorem dX1_foresee_20 : decode cX1_foresee 20 = .ok (.athrow, 1) := by decide +kernel
theorem dX1_foresee_21 : decode cX1_foresee 21 = .ok (.aload_n 0, 1) := by decide +kernel
theorem dX1_foresee_22 : decode cX1_foresee 22 = .ok (.getfield 16, 3) := by decide +kernel
theorem dX1_foresee_25 : decode cX1_foresee 25 = .ok (.aload_n 0, 1) := by decide +kernel
theorem dX1_foresee_26 : decode cX1_foresee 26 = .ok (.getfield 10, 3) := by decide +kernel
theorem dX1_foresee_29 : decode cX1_foresee 29 = .ok (.invokevirtual 164, 3) := by decide +kernel
theorem dX1_foresee_32 : decode cX1_foresee 32 = .ok (.iconst 0, 1) := by decide +kernel
theorem dX1_foresee_33 : decode cX1_foresee 33 = .ok (.istore_n 2, 1) := by decide +kernel
theorem dX1_foresee_34 : decode cX1_foresee 34 = .ok (.iload_n 2, 1) := by decide +kernel
theorem dX1_foresee_35 : decode cX1_foresee 35 = .ok (.iload_n 1, 1) := by decide +kernel
theorem dX1_foresee_36 : decode cX1_foresee 36 = .ok (.if_icmp .ge 40, 3) := by decide +kernel
theorem dX1_foresee_39 : decode cX1_foresee 39 = .ok (.aload_n 0, 1) := by decide +kernel
theorem dX1_foresee_40 : decode cX1_foresee 40 = .ok (.getfield 16, 3) := by decide +kernel
theorem dX1_foresee_43 : decode cX1_foresee 43 = .ok (.invokevirtual 159, 3) := by decide +kernel
theorem dX1_foresee_46 : decode cX1_foresee 46 = .ok (.istore_n 3, 1) := by decide +kernel
theorem dX1_foresee_47 : decode cX1_foresee 47 = .ok (.iload_n 3, 1) := by decide +kernel
theorem dX1_foresee_48 : decode cX1_foresee 48 = .ok (.iconst (-1), 1) := by decide +kernel
theorem dX1_foresee_49 : decode cX1_foresee 49 = .ok (.if_icmp .ne 6, 3) := by decide +kernel
theorem dX1_foresee_52 : decode cX1_foresee 52 = .ok (.goto 24, 3) := by decide +kernel
theorem dX1_foresee_55 : decode cX1_foresee 55 = .ok (.aload_n 0, 1) := by decide +kernel
theorem dX1_foresee_56 : decode cX1_foresee 56 = .ok (.getfield 16, 3) := by decide +kernel
theorem dX1_foresee_59 : decode cX1_foresee 59 = .ok (.iload_n 3, 1) := by decide +kernel
theorem dX1_foresee_60 : decode cX1_foresee 60 = .ok (.bipush 12, 2) := by decide +kernel
theorem dX1_foresee_62 : decode cX1_foresee 62 = .ok (.idiv, 1) := by decide +kernel
theorem dX1_foresee_63 : decode cX1_foresee 63 = .ok (.iload_n 3, 1) := by decide +kernel
theorem dX1_foresee_64 : decode cX1_foresee 64 = .ok (.bipush 12, 2) := by decide +kernel
theorem dX1_foresee_66 : decode cX1_foresee 66 = .ok (.irem, 1) := by decide +kernel
theorem dX1_foresee_67 : decode cX1_foresee 67 = .ok (.invokevirtual 168, 3) := by decide +kernel
theorem dX1_foresee_70 : decode cX1_foresee 70 = .ok (.iinc 2 1, 3) := by decide +kernel
theorem dX1_foresee_73 : decode cX1_foresee 73 = .ok (.goto (-39), 3) := by decide +kernel
theorem dX1_foresee_76 : decode cX1_foresee 76 = .ok (.aload_n 0, 1) := by decide +kernel
theorem dX1_foresee_77 : decode cX1_foresee 77 = .ok (.getfield 16, 3) := by decide +kernel
theorem dX1_foresee_80 : decode cX1_foresee 80 = .ok (.invokevirtual 138, 3) := by decide +kernel
theorem dX1_foresee_83 : decode cX1_foresee 83 = .ok (.ireturn, 1) := by decide +kernel
set_option maxRecDepth 20000 in
theorem ggX1_mean_X0_size : GoodIn wsX1_mean wsX0_size := goodIn_r _ [6, 7, 19, 20, 21, 22, 23, 24, 25, 26] (by decide +kernel) (by decide +kernel)
set_option maxRecDepth 20000 in
theorem gX1_mean_X0_size : GoodIn wsX1_mean (wsV RX1 131 RX0 yX0_size wsX0_size) := goodIn_app (goodIn_of _ (by decide +kernel)) ggX1_mean_X0_size
set_option maxRecDepth 20000 in
theorem ggX1_mean_X0_sumOfRatings : GoodIn wsX1_mean wsX0_sumOfRatings := goodIn_r _ [11, 7, 12, 19, 20, 21, 22, 23, 24, 25, 26] (by decide +kernel) (by decide +kernel)
set_option maxRecDepth 20000 in
theorem gX1_mean_X0_sumOfRatings : GoodIn wsX1_mean (wsV RX1 171 RX0 yX0_sumOfRatings wsX0_sumOfRatings) := goodIn_app (goodIn_of _ (by decide +kernel)) ggX1_mean_X0_sumOfRatings
theorem dX1_mean_0 : decode cX1_mean 0 = .ok (.aload_n 0, 1) := by decide +kernel
theorem dX1_mean_1 : decode cX1_mean 1 = .ok (.getfield 10, 3) := by decide +kernel
theorem dX1_mean_4 : decode cX1_mean 4 = .ok (.invokevirtual 131, 3) := by decide +kernel
theorem dX1_mean_7 : decode cX1_mean 7 = .ok (.istore_n 1, 1) := by decide +kernel
theorem dX1_mean_8 : decode cX1_mean 8 = .ok (.iload_n 1, 1) := by decide +kernel
theorem dX1_mean_9 : decode cX1_mean 9 = .ok (.ifCond .ne 7, 3) := by decide +kernel
theorem dX1_mean_12 : decode cX1_mean 12 = .ok (.dconst 0, 1) := by decide +kernel
theorem dX1_mean_13 : decode cX1_mean 13 = .ok (.goto 14, 3) := by decide +kernel
theorem dX1_mean_16 : decode cX1_mean 16 = .ok (.aload_n 0, 1) := by decide +kernel
theorem dX1_mean_17 : decode cX1_mean 17 = .ok (.getfield 10, 3) := by decide +kernel
theorem dX1_mean_20 : decode cX1_mean 20 = .ok (.invokevirtual 171, 3) := by decide +kernel
theorem dX1_mean_23 : decode cX1_mean 23 = .ok (.i2d, 1) := by decide +kernel
theorem dX1_mean_24 : decode cX1_mean 24 = .ok (.iload_n 1, 1) := by decide +kernel
theorem dX1_mean_25 : decode cX1_mean 25 = .ok (.i2d, 1) := by decide +kernel
theorem dX1_mean_26 : decode cX1_mean 26 = .ok (.ddiv, 1) := by decide +kernel
theorem dX1_mean_27 : decode cX1_mean 27 = .ok (.dreturn, 1) := by decide +kernel
set_option maxRecDepth 20000 in
theorem ggX1_digest_X1_count : GoodIn wsX1_digest wsX1_count := goodIn_ca (goodIn_r _ [8, 9, 10, 11, 3, 12, 13, 14, 15, 16, 17, 18, 19, 20, 21, 22, 23, 24, 25, 26, 27, 28, 29, 30, 31, 32, 33, 34, 35, 36, 37, 38, 39, 40, 121, 122, 123, 124, 125, 126, 127, 128, 129, 130, 131, 132, 133, 134] (by decide +kernel) (by decide +kernel)) (goodIn_sub (fun _ h => List.mem_cons_of_mem _ (List.mem_append_right _ h)) (by decide +kernel))
set_option maxRecDepth 20000 in
theorem gX1_digest_X1_count : GoodIn wsX1_digest (wsV RX1 178 RX1 yX1_count wsX1_count) := goodIn_app (goodIn_of _ (by decide +kernel)) ggX1_digest_X1_count
set_option maxRecDepth 20000 in
theorem ggX1_digest_X0_size : GoodIn wsX1_digest wsX0_size := goodIn_r _ [18, 19, 127, 128, 129, 130, 131, 132, 133, 134] (by decide +kernel) (by decide +kernel)
set_option maxRecDepth 20000 in
theorem gX1_digest_X0_size : GoodIn wsX1_digest (wsV RX1 131 RX0 yX0_size wsX0_size) := goodIn_app (goodIn_of _ (by decide +kernel)) ggX1_digest_X0_size
set_option maxRecDepth 20000 in
theorem ggX1_digest_X1_told : GoodIn wsX1_digest wsX1_told := goodIn_ca (goodIn_r _ [44, 9, 10, 3, 45, 46, 47, 7, 48, 49, 50, 51, 17, 52, 19, 53, 54, 55, 56, 29, 57, 58, 59, 60, 24, 61, 62, 63, 64, 65, 66, 67, 68, 69, 70, 71, 72, 73, 74, 75, 76, 77, 78, 79, 80, 81, 82, 83, 84, 85, 86, 87, 88, 89, 90, 91, 92, 93, 94, 95, 96, 97, 121, 122, 123, 124, 125, 126, 127, 128, 129, 130, 131, 132, 133, 134] (by decide +kernel) (by decide +kernel)) (goodIn_sub (fun _ h => List.mem_cons_of_mem _ (List.mem_append_right _ h)) (by decide +kernel))
set_option maxRecDepth 20000 in
theorem gX1_digest_X1_told : GoodIn wsX1_digest (wsV RX1 181 RX1 yX1_told wsX1_told) := goodIn_app (goodIn_of _ (by decide +kernel)) ggX1_digest_X1_told
set_option maxRecDepth 20000 in
theorem ggX1_digest_X1_next : GoodIn wsX1_digest wsX1_next := goodIn_r _ [101, 3, 102, 103, 104, 17, 105, 19, 24, 75, 106, 107, 108, 109, 110, 111, 32, 112, 113, 114, 115, 116, 29, 117, 118, 119, 38, 39, 40, 120, 121, 122, 123, 124, 125, 126, 127, 128, 129, 130, 131, 132, 133, 134] (by decide +kernel) (by decide +kernel)
set_option maxRecDepth 20000 in
theorem gX1_digest_X1_next : GoodIn wsX1_digest (wsV RX1 184 RX1 yX1_next wsX1_next) := goodIn_app (goodIn_of _ (by decide +kernel)) ggX1_digest_X1_next
theorem dX1_digest_0 : decode cX1_digest 0 = .ok (.ldc2_w 174, 3) := by decide +kernel
theorem dX1_digest_3 : decode cX1_digest 3 = .ok (.lstore_n 1, 1) := by decide +kernel
theorem dX1_digest_4 : decode cX1_digest 4 = .ok (.iconst 0, 1) := by decide +kernel
theorem dX1_digest_5 : decode cX1_digest 5 = .ok (.istore_n 3, 1) := by decide +kernel
theorem dX1_digest_6 : decode cX1_digest 6 = .ok (.iload_n 3, 1) := by decide +kernel
theorem dX1_digest_7 : decode cX1_digest 7 = .ok (.bipush 9, 2) := by decide +kernel
theorem dX1_digest_9 : decode cX1_digest 9 = .ok (.if_icmp .ge 22, 3) := by decide +kernel
theorem dX1_digest_12 : decode cX1_digest 12 = .ok (.lload_n 1, 1) := by decide +kernel
theorem dX1_digest_13 : decode cX1_digest 13 = .ok (.ldc2_w 176, 3) := by decide +kernel
theorem dX1_digest_16 : decode cX1_digest 16 = .ok (.lmul, 1) := by decide +kernel
theorem dX1_digest_17 : decode cX1_digest 17 = .ok (.aload_n 0, 1) := by decide +kernel
theorem dX1_digest_18 : decode cX1_digest 18 = .ok (.iload_n 3, 1) := by decide +kernel
theorem dX1_digest_19 : decode cX1_digest 19 = .ok (.invokevirtual 178, 3) := by decide +kernel
theorem dX1_digest_22 : decode cX1_digest 22 = .ok (.i2l, 1) := by decide +kernel
theorem dX1_digest_23 : decode cX1_digest 23 = .ok (.ladd, 1) := by decide +kernel
theorem dX1_digest_24 : decode cX1_digest 24 = .ok (.lstore_n 1, 1) := by decide +kernel
theorem dX1_digest_25 : decode cX1_digest 25 = .ok (.iinc 3 1, 3) := by decide +kernel
theorem dX1_digest_28 : decode cX1_digest 28 = .ok (.goto (-22), 3) := by decide +kernel
theorem dX1_digest_31 : decode cX1_digest 31 = .ok (.iconst 0, 1) := by decide +kernel
theorem dX1_digest_32 : decode cX1_digest 32 = .ok (.istore_n 3, 1) := by decide +kernel
theorem dX1_digest_33 : decode cX1_digest 33 = .ok (.iload_n 3, 1) := by decide +kernel
theorem dX1_digest_34 : decode cX1_digest 34 = .ok (.aload_n 0, 1) := by decide +kernel
theorem dX1_digest_35 : decode cX1_digest 35 = .ok (.getfield 10, 3) := by decide +kernel
theorem dX1_digest_38 : decode cX1_digest 38 = .ok (.invokevirtual 131, 3) := by decide +kernel
theorem dX1_digest_41 : decode cX1_digest 41 = .ok (.if_icmp .ge 40, 3) := by decide +kernel
theorem dX1_digest_44 : decode cX1_digest 44 = .ok (.iconst 0, 1) := by decide +kernel
theorem dX1_digest_45 : decode cX1_digest 45 = .ok (.istore 4, 2) := by decide +kernel
theorem dX1_digest_47 : decode cX1_digest 47 = .ok (.iload 4, 2) := by decide +kernel
theorem dX1_digest_49 : decode cX1_digest 49 = .ok (.bipush 9, 2) := by decide +kernel
theorem dX1_digest_51 : decode cX1_digest 51 = .ok (.if_icmp .ge 24, 3) := by decide +kernel
theorem dX1_digest_54 : decode cX1_digest 54 = .ok (.lload_n 1, 1) := by decide +kernel
theorem dX1_digest_55 : decode cX1_digest 55 = .ok (.ldc2_w 176, 3) := by decide +kernel
theorem dX1_digest_58 : decode cX1_digest 58 = .ok (.lmul, 1) := by decide +kernel
theorem dX1_digest_59 : decode cX1_digest 59 = .ok (.aload_n 0, 1) := by decide +kernel
theorem dX1_digest_60 : decode cX1_digest 60 = .ok (.iload_n 3, 1) := by decide +kernel
theorem dX1_digest_61 : decode cX1_digest 61 = .ok (.iload 4, 2) := by decide +kernel
theorem dX1_digest_63 : decode cX1_digest 63 = .ok (.invokevirtual 181, 3) := by decide +kernel
theorem dX1_digest_66 : decode cX1_digest 66 = .ok (.i2l, 1) := by decide +kernel
theorem dX1_digest_67 : decode cX1_digest 67 = .ok (.ladd, 1) := by decide +kernel
theorem dX1_digest_68 : decode cX1_digest 68 = .ok (.lstore_n 1, 1) := by decide +kernel
theorem dX1_digest_69 : decode cX1_digest 69 = .ok (.iinc 4 1, 3) := by decide +kernel
theorem dX1_digest_72 : decode cX1_digest 72 = .ok (.goto (-25), 3) := by decide +kernel
theorem dX1_digest_75 : decode cX1_digest 75 = .ok (.iinc 3 1, 3) := by decide +kernel
theorem dX1_digest_78 : decode cX1_digest 78 = .ok (.goto (-45), 3) := by decide +kernel
theorem dX1_digest_81 : decode cX1_digest 81 = .ok (.lload_n 1, 1) := by decide +kernel
theorem dX1_digest_82 : decode cX1_digest 82 = .ok (.ldc2_w 176, 3) := by decide +kernel
theorem dX1_digest_85 : decode cX1_digest 85 = .ok (.lmul, 1) := by decide +kernel
theorem dX1_digest_86 : decode cX1_digest 86 = .ok (.aload_n 0, 1) := by decide +kernel
theorem dX1_digest_87 : decode cX1_digest 87 = .ok (.invokevirtual 184, 3) := by decide +kernel
theorem dX1_digest_90 : decode cX1_digest 90 = .ok (.i2l, 1) := by decide +kernel
theorem dX1_digest_91 : decode cX1_digest 91 = .ok (.ladd, 1) := by decide +kernel
theorem dX1_digest_92 : decode cX1_digest 92 = .ok (.lreturn, 1) := by decide +kernel
set_option maxRecDepth 20000 in
theorem ggX1_checkWrestler_X0_has : GoodIn wsX1_checkWrestler wsX0_has := goodIn_r _ [8, 9, 16, 17, 18, 19, 20, 21, 22, 23] (by decide +kernel) (by decide +kernel)
set_option maxRecDepth 20000 in
theorem gX1_checkWrestler_X0_has : GoodIn wsX1_checkWrestler (wsV RX1 187 RX0 yX0_has wsX0_has) := goodIn_app (goodIn_of _ (by decide +kernel)) ggX1_checkWrestler_X0_has
theorem dX1_checkWrestler_0 : decode cX1_checkWrestler 0 = .ok (.aload_n 0, 1) := by decide +kernel
theorem dX1_checkWrestler_1 : decode cX1_checkWrestler 1 = .ok (.getfield 10, 3) := by decide +kernel
theorem dX1_checkWrestler_4 : decode cX1_checkWrestler 4 = .ok (.iload_n 1, 1) := by decide +kernel
theorem dX1_checkWrestler_5 : decode cX1_checkWrestler 5 = .ok (.invokevirtual 187, 3) := by decide +kernel
theorem dX1_checkWrestler_8 : decode cX1_checkWrestler 8 = .ok (.ifCond .ne 13, 3) := by decide +kernel
theorem dX1_checkWrestler_11 : decode cX1_checkWrestler 11 = .ok (.new 121, 3) := by decide +kernel
theorem dX1_checkWrestler_14 : decode cX1_checkWrestler 14 = .ok (.dup, 1) := by decide +kernel
theorem dX1_checkWrestler_15 : decode cX1_checkWrestler 15 = .ok (.ldc 190, 2) := by decide +kernel
theorem dX1_checkWrestler_17 : decode cX1_checkWrestler 17 = .ok (.invokespecial 125, 3) := by decide +kernel
theorem dX1_checkWrestler_20 : decode cX1_checkWrestler 20 = .ok (.athrow, 1) := by decide +kernel
theorem dX1_checkWrestler_21 : decode cX1_checkWrestler 21 = .ok (.return_, 1) := by decide +kernel
theorem dX1_checkDifferent_0 : decode cX1_checkDifferent 0 = .ok (.iload_n 0, 1) := by decide +kernel
theorem dX1_checkDifferent_1 : decode cX1_checkDifferent 1 = .ok (.iload_n 1, 1) := by decide +kernel
theorem dX1_checkDifferent_2 : decode cX1_checkDifferent 2 = .ok (.if_icmp .ne 13, 3) := by decide +kernel
theorem dX1_checkDifferent_5 : decode cX1_checkDifferent 5 = .ok (.new 27, 3) := by decide +kernel
theorem dX1_checkDifferent_8 : decode cX1_checkDifferent 8 = .ok (.dup, 1) := by decide +kernel
theorem dX1_checkDifferent_9 : decode cX1_checkDifferent 9 = .ok (.ldc 192, 2) := by decide +kernel
theorem dX1_checkDifferent_11 : decode cX1_checkDifferent 11 = .ok (.invokespecial 31, 3) := by decide +kernel
theorem dX1_checkDifferent_14 : decode cX1_checkDifferent 14 = .ok (.athrow, 1) := by decide +kernel
theorem dX1_checkDifferent_15 : decode cX1_checkDifferent 15 = .ok (.return_, 1) := by decide +kernel
theorem dX1_checkResult_0 : decode cX1_checkResult 0 = .ok (.iload_n 0, 1) := by decide +kernel
theorem dX1_checkResult_1 : decode cX1_checkResult 1 = .ok (.ifCond .lt 8, 3) := by decide +kernel
theorem dX1_checkResult_4 : decode cX1_checkResult 4 = .ok (.iload_n 0, 1) := by decide +kernel
theorem dX1_checkResult_5 : decode cX1_checkResult 5 = .ok (.iconst 2, 1) := by decide +kernel
theorem dX1_checkResult_6 : decode cX1_checkResult 6 = .ok (.if_icmp .le 13, 3) := by decide +kernel
theorem dX1_checkResult_9 : decode cX1_checkResult 9 = .ok (.new 27, 3) := by decide +kernel
theorem dX1_checkResult_12 : decode cX1_checkResult 12 = .ok (.dup, 1) := by decide +kernel
theorem dX1_checkResult_13 : decode cX1_checkResult 13 = .ok (.ldc 194, 2) := by decide +kernel
theorem dX1_checkResult_15 : decode cX1_checkResult 15 = .ok (.invokespecial 31, 3) := by decide +kernel
theorem dX1_checkResult_18 : decode cX1_checkResult 18 = .ok (.athrow, 1) := by decide +kernel
theorem dX1_checkResult_19 : decode cX1_checkResult 19 = .ok (.return_, 1) := by decide +kernel
theorem dX1_isLeague_0 : decode cX1_isLeague 0 = .ok (.iload_n 0, 1) := by decide +kernel
theorem dX1_isLeague_1 : decode cX1_isLeague 1 = .ok (.ifCond .lt 12, 3) := by decide +kernel
theorem dX1_isLeague_4 : decode cX1_isLeague 4 = .ok (.iload_n 0, 1) := by decide +kernel
theorem dX1_isLeague_5 : decode cX1_isLeague 5 = .ok (.iconst 3, 1) := by decide +kernel
theorem dX1_isLeague_6 : decode cX1_isLeague 6 = .ok (.if_icmp .ge 7, 3) := by decide +kernel
theorem dX1_isLeague_9 : decode cX1_isLeague 9 = .ok (.iconst 1, 1) := by decide +kernel
theorem dX1_isLeague_10 : decode cX1_isLeague 10 = .ok (.goto 4, 3) := by decide +kernel
theorem dX1_isLeague_13 : decode cX1_isLeague 13 = .ok (.iconst 0, 1) := by decide +kernel
theorem dX1_isLeague_14 : decode cX1_isLeague 14 = .ok (.ireturn, 1) := by decide +kernel
theorem dX2_init_0 : decode cX2_init 0 = .ok (.aload_n 0, 1) := by decide +kernel
theorem dX2_init_1 : decode cX2_init 1 = .ok (.invokespecial 1, 3) := by decide +kernel
theorem dX2_init_4 : decode cX2_init 4 = .ok (.aload_n 0, 1) := by decide +kernel
theorem dX2_init_5 : decode cX2_init 5 = .ok (.iconst 0, 1) := by decide +kernel
theorem dX2_init_6 : decode cX2_init 6 = .ok (.anewarray 7, 3) := by decide +kernel
theorem dX2_init_9 : decode cX2_init 9 = .ok (.putfield 9, 3) := by decide +kernel
theorem dX2_init_12 : decode cX2_init 12 = .ok (.return_, 1) := by decide +kernel
set_option maxRecDepth 20000 in
theorem ggX2_expected_X2_expected : GoodIn wsX2_expected wsX2_expected := goodIn_r _ [0, 1, 2, 3, 4, 5, 6, 7, 8, 9, 10] (by decide +kernel) (by decide +kernel)
set_option maxRecDepth 20000 in
theorem gX2_expected_X2_expected : GoodIn wsX2_expected (wsV RX2 15 RX2 yX2_expected wsX2_expected) := goodIn_app (goodIn_of _ (by decide +kernel)) ggX2_expected_X2_expected
theorem dX2_expected_0 : decode cX2_expected 0 = .ok (.aload_n 0, 1) := by decide +kernel
theorem dX2_expected_1 : decode cX2_expected 1 = .ok (.getfield 9, 3) := by decide +kernel
theorem dX2_expected_4 : decode cX2_expected 4 = .ok (.iload_n 1, 1) := by decide +kernel
theorem dX2_expected_5 : decode cX2_expected 5 = .ok (.aaload, 1) := by decide +kernel
theorem dX2_expected_6 : decode cX2_expected 6 = .ok (.iconst 0, 1) := by decide +kernel
theorem dX2_expected_7 : decode cX2_expected 7 = .ok (.iaload, 1) := by decide +kernel
theorem dX2_expected_8 : decode cX2_expected 8 = .ok (.aload_n 0, 1) := by decide +kernel
theorem dX2_expected_9 : decode cX2_expected 9 = .ok (.getfield 9, 3) := by decide +kernel
theorem dX2_expected_12 : decode cX2_expected 12 = .ok (.iload_n 2, 1) := by decide +kernel
theorem dX2_expected_13 : decode cX2_expected 13 = .ok (.aaload, 1) := by decide +kernel
theorem dX2_expected_14 : decode cX2_expected 14 = .ok (.iconst 0, 1) := by decide +kernel
theorem dX2_expected_15 : decode cX2_expected 15 = .ok (.iaload, 1) := by decide +kernel
theorem dX2_expected_16 : decode cX2_expected 16 = .ok (.isub, 1) := by decide +kernel
theorem dX2_expected_17 : decode cX2_expected 17 = .ok (.istore_n 3, 1) := by decide +kernel
theorem dX2_expected_18 : decode cX2_expected 18 = .ok (.iload_n 3, 1) := by decide +kernel
theorem dX2_expected_19 : decode cX2_expected 19 = .ok (.ifCond .ge 14, 3) := by decide +kernel
theorem dX2_expected_22 : decode cX2_expected 22 = .ok (.sipush 1000, 3) := by decide +kernel
theorem dX2_expected_25 : decode cX2_expected 25 = .ok (.aload_n 0, 1) := by decide +kernel
theorem dX2_expected_26 : decode cX2_expected 26 = .ok (.iload_n 2, 1) := by decide +kernel
theorem dX2_expected_27 : decode cX2_expected 27 = .ok (.iload_n 1, 1) := by decide +kernel
theorem dX2_expected_28 : decode cX2_expected 28 = .ok (.invokevirtual 15, 3) := by decide +kernel
theorem dX2_expected_31 : decode cX2_expected 31 = .ok (.isub, 1) := by decide +kernel
theorem dX2_expected_32 : decode cX2_expected 32 = .ok (.ireturn, 1) := by decide +kernel
theorem dX2_expected_33 : decode cX2_expected 33 = .ok (.bipush 9, 2) := by decide +kernel
theorem dX2_expected_35 : decode cX2_expected 35 = .ok (.newarray .int, 2) := by decide +kernel
theorem dX2_expected_37 : decode cX2_expected 37 = .ok (.dup, 1) := by decide +kernel
theorem dX2_expected_38 : decode cX2_expected 38 = .ok (.iconst 0, 1) := by decide +kernel
