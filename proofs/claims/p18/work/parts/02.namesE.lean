theorem dX1_join_16 : decode cX1_join 16 = .ok (.athrow, 1) := by decide +kernel
theorem dX1_join_17 : decode cX1_join 17 = .ok (.aload_n 0, 1) := by decide +kernel
theorem dX1_join_18 : decode cX1_join 18 = .ok (.getfield 10, 3) := by decide +kernel
theorem dX1_join_21 : decode cX1_join 21 = .ok (.invokevirtual 34, 3) := by decide +kernel
theorem dX1_join_24 : decode cX1_join 24 = .ok (.ifCond .eq 13, 3) := by decide +kernel
theorem dX1_join_27 : decode cX1_join 27 = .ok (.new 38, 3) := by decide +kernel
theorem dX1_join_30 : decode cX1_join 30 = .ok (.dup, 1) := by decide +kernel
theorem dX1_join_31 : decode cX1_join 31 = .ok (.ldc 40, 2) := by decide +kernel
theorem dX1_join_33 : decode cX1_join 33 = .ok (.invokespecial 42, 3) := by decide +kernel
theorem dX1_join_36 : decode cX1_join 36 = .ok (.athrow, 1) := by decide +kernel
theorem dX1_join_37 : decode cX1_join 37 = .ok (.aload_n 0, 1) := by decide +kernel
theorem dX1_join_38 : decode cX1_join 38 = .ok (.getfield 10, 3) := by decide +kernel
theorem dX1_join_41 : decode cX1_join 41 = .ok (.iload_n 1, 1) := by decide +kernel
theorem dX1_join_42 : decode cX1_join 42 = .ok (.invokevirtual 43, 3) := by decide +kernel
theorem dX1_join_45 : decode cX1_join 45 = .ok (.ireturn, 1) := by decide +kernel
set_option maxRecDepth 20000 in
theorem ggX1_rate_X1_checkWrestler : GoodIn wsX1_rate wsX1_checkWrestler := goodIn_ca (goodIn_r _ [8, 9, 10, 3, 11, 12, 13, 14, 15, 16, 31, 32, 33, 34, 35, 36, 37, 38, 39, 40, 41, 42, 43, 44] (by decide +kernel) (by decide +kernel)) (goodIn_sub (fun _ h => List.mem_cons_of_mem _ (List.mem_append_right _ h)) (by decide +kernel))
set_option maxRecDepth 20000 in
theorem gX1_rate_X1_checkWrestler : GoodIn wsX1_rate (wsV RX1 47 RX1 yX1_checkWrestler wsX1_checkWrestler) := goodIn_app (goodIn_of _ (by decide +kernel)) ggX1_rate_X1_checkWrestler
set_option maxRecDepth 20000 in
theorem ggX1_rate_X0_rating : GoodIn wsX1_rate wsX0_rating := goodIn_r _ [20, 21, 37, 38, 39, 40, 41, 42, 43, 44] (by decide +kernel) (by decide +kernel)
set_option maxRecDepth 20000 in
theorem gX1_rate_X0_rating : GoodIn wsX1_rate (wsV RX1 53 RX0 yX0_rating wsX0_rating) := goodIn_app (goodIn_of _ (by decide +kernel)) ggX1_rate_X0_rating
set_option maxRecDepth 20000 in
theorem ggX1_rate_X0_setRating : GoodIn wsX1_rate wsX0_setRating := goodIn_r _ [25, 21, 26, 27, 28, 29, 30, 37, 38, 39, 40, 41, 42, 43, 44] (by decide +kernel) (by decide +kernel)
set_option maxRecDepth 20000 in
theorem gX1_rate_X0_setRating : GoodIn wsX1_rate (wsV RX1 56 RX0 yX0_setRating wsX0_setRating) := goodIn_app (goodIn_of _ (by decide +kernel)) ggX1_rate_X0_setRating
theorem dX1_rate_0 : decode cX1_rate 0 = .ok (.aload_n 0, 1) := by decide +kernel
theorem dX1_rate_1 : decode cX1_rate 1 = .ok (.iload_n 1, 1) := by decide +kernel
theorem dX1_rate_2 : decode cX1_rate 2 = .ok (.invokevirtual 47, 3) := by decide +kernel
theorem dX1_rate_5 : decode cX1_rate 5 = .ok (.iload_n 2, 1) := by decide +kernel
theorem dX1_rate_6 : decode cX1_rate 6 = .ok (.bipush 100, 2) := by decide +kernel
theorem dX1_rate_8 : decode cX1_rate 8 = .ok (.if_icmp .lt 10, 3) := by decide +kernel
theorem dX1_rate_11 : decode cX1_rate 11 = .ok (.iload_n 2, 1) := by decide +kernel
theorem dX1_rate_12 : decode cX1_rate 12 = .ok (.sipush 3000, 3) := by decide +kernel
theorem dX1_rate_15 : decode cX1_rate 15 = .ok (.if_icmp .le 13, 3) := by decide +kernel
theorem dX1_rate_18 : decode cX1_rate 18 = .ok (.new 27, 3) := by decide +kernel
theorem dX1_rate_21 : decode cX1_rate 21 = .ok (.dup, 1) := by decide +kernel
theorem dX1_rate_22 : decode cX1_rate 22 = .ok (.ldc 51, 2) := by decide +kernel
theorem dX1_rate_24 : decode cX1_rate 24 = .ok (.invokespecial 31, 3) := by decide +kernel
theorem dX1_rate_27 : decode cX1_rate 27 = .ok (.athrow, 1) := by decide +kernel
theorem dX1_rate_28 : decode cX1_rate 28 = .ok (.aload_n 0, 1) := by decide +kernel
theorem dX1_rate_29 : decode cX1_rate 29 = .ok (.getfield 10, 3) := by decide +kernel
theorem dX1_rate_32 : decode cX1_rate 32 = .ok (.iload_n 1, 1) := by decide +kernel
theorem dX1_rate_33 : decode cX1_rate 33 = .ok (.invokevirtual 53, 3) := by decide +kernel
theorem dX1_rate_36 : decode cX1_rate 36 = .ok (.istore_n 3, 1) := by decide +kernel
theorem dX1_rate_37 : decode cX1_rate 37 = .ok (.aload_n 0, 1) := by decide +kernel
theorem dX1_rate_38 : decode cX1_rate 38 = .ok (.getfield 10, 3) := by decide +kernel
theorem dX1_rate_41 : decode cX1_rate 41 = .ok (.iload_n 1, 1) := by decide +kernel
theorem dX1_rate_42 : decode cX1_rate 42 = .ok (.iload_n 2, 1) := by decide +kernel
theorem dX1_rate_43 : decode cX1_rate 43 = .ok (.invokevirtual 56, 3) := by decide +kernel
theorem dX1_rate_46 : decode cX1_rate 46 = .ok (.iload_n 3, 1) := by decide +kernel
theorem dX1_rate_47 : decode cX1_rate 47 = .ok (.ireturn, 1) := by decide +kernel
set_option maxRecDepth 20000 in
theorem ggX1_bout_X1_checkWrestler : GoodIn wsX1_bout wsX1_checkWrestler := goodIn_ca (goodIn_r _ [8, 9, 10, 1, 11, 12, 13, 14, 15, 16, 70, 71, 72, 73, 74, 75, 76, 77, 78, 79, 80, 81, 82, 83] (by decide +kernel) (by decide +kernel)) (goodIn_sub (fun _ h => List.mem_cons_of_mem _ (List.mem_append_left _ (List.mem_append_right _ h))) (by decide +kernel))
set_option maxRecDepth 20000 in
theorem gX1_bout_X1_checkWrestler : GoodIn wsX1_bout (wsV RX1 47 RX1 yX1_checkWrestler wsX1_checkWrestler) := goodIn_app (goodIn_of _ (by decide +kernel)) ggX1_bout_X1_checkWrestler
set_option maxRecDepth 20000 in
theorem ggX1_bout_X1_checkDifferent : GoodIn wsX1_bout wsX1_checkDifferent := goodIn_ca (goodIn_r _ [19, 20, 21] (by decide +kernel) (by decide +kernel)) (goodIn_sub (fun _ h => List.mem_cons_of_mem _ (List.mem_append_right _ h)) (by decide +kernel))
set_option maxRecDepth 20000 in
theorem gX1_bout_X1_checkDifferent : GoodIn wsX1_bout (va_wsS RX1 60 yX1_checkDifferent wsX1_checkDifferent) := goodIn_app (goodIn_of _ (by decide +kernel)) ggX1_bout_X1_checkDifferent
set_option maxRecDepth 20000 in
theorem ggX1_bout_X1_checkResult : GoodIn wsX1_bout wsX1_checkResult := goodIn_ca (goodIn_r _ [24, 20, 21] (by decide +kernel) (by decide +kernel)) (goodIn_sub (fun _ h => List.mem_cons_of_mem _ (List.mem_append_right _ h)) (by decide +kernel))
set_option maxRecDepth 20000 in
theorem gX1_bout_X1_checkResult : GoodIn wsX1_bout (va_wsS RX1 63 yX1_checkResult wsX1_checkResult) := goodIn_app (goodIn_of _ (by decide +kernel)) ggX1_bout_X1_checkResult
set_option maxRecDepth 20000 in
theorem ggX1_bout_X0_isUpset : GoodIn wsX1_bout wsX0_isUpset := goodIn_r _ [28, 29, 30, 31, 14, 32, 33, 34, 35, 36, 37, 38, 39, 40, 41, 76, 77, 78, 79, 80, 81, 82, 83] (by decide +kernel) (by decide +kernel)
set_option maxRecDepth 20000 in
theorem gX1_bout_X0_isUpset : GoodIn wsX1_bout (wsV RX1 66 RX0 yX0_isUpset wsX0_isUpset) := goodIn_app (goodIn_of _ (by decide +kernel)) ggX1_bout_X0_isUpset
set_option maxRecDepth 20000 in
theorem ggX1_bout_X0_hold : GoodIn wsX1_bout wsX0_hold := goodIn_r _ [45, 46, 47, 48, 14, 49, 33, 37, 38, 39, 40, 50, 51, 52, 53, 54, 55, 56, 57, 29, 30, 31, 32, 34, 35, 36, 41, 58, 59, 60, 61, 62, 63, 64, 65, 66, 67, 68, 69, 76, 77, 78, 79, 80, 81, 82, 83] (by decide +kernel) (by decide +kernel)
set_option maxRecDepth 20000 in
theorem gX1_bout_X0_hold : GoodIn wsX1_bout (wsV RX1 77 RX0 yX0_hold wsX0_hold) := goodIn_app (goodIn_of _ (by decide +kernel)) ggX1_bout_X0_hold
theorem dX1_bout_0 : decode cX1_bout 0 = .ok (.aload_n 0, 1) := by decide +kernel
theorem dX1_bout_1 : decode cX1_bout 1 = .ok (.iload_n 1, 1) := by decide +kernel
theorem dX1_bout_2 : decode cX1_bout 2 = .ok (.invokevirtual 47, 3) := by decide +kernel
theorem dX1_bout_5 : decode cX1_bout 5 = .ok (.aload_n 0, 1) := by decide +kernel
theorem dX1_bout_6 : decode cX1_bout 6 = .ok (.iload_n 2, 1) := by decide +kernel
theorem dX1_bout_7 : decode cX1_bout 7 = .ok (.invokevirtual 47, 3) := by decide +kernel
theorem dX1_bout_10 : decode cX1_bout 10 = .ok (.iload_n 1, 1) := by decide +kernel
theorem dX1_bout_11 : decode cX1_bout 11 = .ok (.iload_n 2, 1) := by decide +kernel
theorem dX1_bout_12 : decode cX1_bout 12 = .ok (.invokestatic 60, 3) := by decide +kernel
theorem dX1_bout_15 : decode cX1_bout 15 = .ok (.iload_n 3, 1) := by decide +kernel
theorem dX1_bout_16 : decode cX1_bout 16 = .ok (.invokestatic 63, 3) := by decide +kernel
theorem dX1_bout_19 : decode cX1_bout 19 = .ok (.aload_n 0, 1) := by decide +kernel
theorem dX1_bout_20 : decode cX1_bout 20 = .ok (.getfield 10, 3) := by decide +kernel
theorem dX1_bout_23 : decode cX1_bout 23 = .ok (.iload_n 1, 1) := by decide +kernel
theorem dX1_bout_24 : decode cX1_bout 24 = .ok (.iload_n 2, 1) := by decide +kernel
theorem dX1_bout_25 : decode cX1_bout 25 = .ok (.iload_n 3, 1) := by decide +kernel
theorem dX1_bout_26 : decode cX1_bout 26 = .ok (.invokevirtual 66, 3) := by decide +kernel
theorem dX1_bout_29 : decode cX1_bout 29 = .ok (.ifCond .eq 13, 3) := by decide +kernel
theorem dX1_bout_32 : decode cX1_bout 32 = .ok (.aload_n 0, 1) := by decide +kernel
theorem dX1_bout_33 : decode cX1_bout 33 = .ok (.dup, 1) := by decide +kernel
theorem dX1_bout_34 : decode cX1_bout 34 = .ok (.getfield 70, 3) := by decide +kernel
theorem dX1_bout_37 : decode cX1_bout 37 = .ok (.iconst 1, 1) := by decide +kernel
theorem dX1_bout_38 : decode cX1_bout 38 = .ok (.iadd, 1) := by decide +kernel
theorem dX1_bout_39 : decode cX1_bout 39 = .ok (.putfield 70, 3) := by decide +kernel
theorem dX1_bout_42 : decode cX1_bout 42 = .ok (.aload_n 0, 1) := by decide +kernel
theorem dX1_bout_43 : decode cX1_bout 43 = .ok (.dup, 1) := by decide +kernel
theorem dX1_bout_44 : decode cX1_bout 44 = .ok (.getfield 74, 3) := by decide +kernel
theorem dX1_bout_47 : decode cX1_bout 47 = .ok (.iconst 1, 1) := by decide +kernel
theorem dX1_bout_48 : decode cX1_bout 48 = .ok (.iadd, 1) := by decide +kernel
theorem dX1_bout_49 : decode cX1_bout 49 = .ok (.putfield 74, 3) := by decide +kernel
theorem dX1_bout_52 : decode cX1_bout 52 = .ok (.aload_n 0, 1) := by decide +kernel
theorem dX1_bout_53 : decode cX1_bout 53 = .ok (.getfield 10, 3) := by decide +kernel
theorem dX1_bout_56 : decode cX1_bout 56 = .ok (.iload_n 1, 1) := by decide +kernel
theorem dX1_bout_57 : decode cX1_bout 57 = .ok (.iload_n 2, 1) := by decide +kernel
theorem dX1_bout_58 : decode cX1_bout 58 = .ok (.iload_n 3, 1) := by decide +kernel
theorem dX1_bout_59 : decode cX1_bout 59 = .ok (.invokevirtual 77, 3) := by decide +kernel
theorem dX1_bout_62 : decode cX1_bout 62 = .ok (.ireturn, 1) := by decide +kernel
set_option maxRecDepth 20000 in
theorem ggX1_end_X0_drift : GoodIn wsX1_end wsX0_drift := goodIn_r _ [7, 8, 9, 10, 11, 12, 13, 6, 14, 15, 16, 17, 18, 19, 52, 53, 54, 55, 56, 57, 58, 59] (by decide +kernel) (by decide +kernel)
set_option maxRecDepth 20000 in
theorem gX1_end_X0_drift : GoodIn wsX1_end (wsV RX1 81 RX0 yX0_drift wsX0_drift) := goodIn_app (goodIn_of _ (by decide +kernel)) ggX1_end_X0_drift
set_option maxRecDepth 20000 in
theorem ggX1_end_X0_exchange : GoodIn wsX1_end wsX0_exchange := goodIn_r _ [23, 24, 25, 26, 27, 28, 6, 29, 8, 30, 31, 32, 33, 34, 35, 36, 37, 38, 39, 40, 41, 10, 52, 53, 54, 55, 56, 57, 58, 59] (by decide +kernel) (by decide +kernel)
set_option maxRecDepth 20000 in
theorem gX1_end_X0_exchange : GoodIn wsX1_end (wsV RX1 84 RX0 yX0_exchange wsX0_exchange) := goodIn_app (goodIn_of _ (by decide +kernel)) ggX1_end_X0_exchange
set_option maxRecDepth 20000 in
theorem ggX1_end_X0_clearSeason : GoodIn wsX1_end wsX0_clearSeason := goodIn_r _ [45, 8, 24, 9, 52, 53, 54, 55, 56, 57, 58, 59] (by decide +kernel) (by decide +kernel)
set_option maxRecDepth 20000 in
theorem gX1_end_X0_clearSeason : GoodIn wsX1_end (wsV RX1 87 RX0 yX0_clearSeason wsX0_clearSeason) := goodIn_app (goodIn_of _ (by decide +kernel)) ggX1_end_X0_clearSeason
theorem dX1_end_0 : decode cX1_end 0 = .ok (.aload_n 0, 1) := by decide +kernel
theorem dX1_end_1 : decode cX1_end 1 = .ok (.getfield 10, 3) := by decide +kernel
theorem dX1_end_4 : decode cX1_end 4 = .ok (.invokevirtual 81, 3) := by decide +kernel
theorem dX1_end_7 : decode cX1_end 7 = .ok (.iconst 0, 1) := by decide +kernel
theorem dX1_end_8 : decode cX1_end 8 = .ok (.istore_n 1, 1) := by decide +kernel
theorem dX1_end_9 : decode cX1_end 9 = .ok (.iconst 0, 1) := by decide +kernel
theorem dX1_end_10 : decode cX1_end 10 = .ok (.istore_n 2, 1) := by decide +kernel
theorem dX1_end_11 : decode cX1_end 11 = .ok (.iload_n 2, 1) := by decide +kernel
theorem dX1_end_12 : decode cX1_end 12 = .ok (.iconst 2, 1) := by decide +kernel
theorem dX1_end_13 : decode cX1_end 13 = .ok (.if_icmp .ge 23, 3) := by decide +kernel
theorem dX1_end_16 : decode cX1_end 16 = .ok (.aload_n 0, 1) := by decide +kernel
theorem dX1_end_17 : decode cX1_end 17 = .ok (.getfield 10, 3) := by decide +kernel
theorem dX1_end_20 : decode cX1_end 20 = .ok (.iload_n 2, 1) := by decide +kernel
theorem dX1_end_21 : decode cX1_end 21 = .ok (.invokevirtual 84, 3) := by decide +kernel
theorem dX1_end_24 : decode cX1_end 24 = .ok (.ifCond .eq 6, 3) := by decide +kernel
theorem dX1_end_27 : decode cX1_end 27 = .ok (.iinc 1 1, 3) := by decide +kernel
theorem dX1_end_30 : decode cX1_end 30 = .ok (.iinc 2 1, 3) := by decide +kernel
theorem dX1_end_33 : decode cX1_end 33 = .ok (.goto (-22), 3) := by decide +kernel
theorem dX1_end_36 : decode cX1_end 36 = .ok (.aload_n 0, 1) := by decide +kernel
theorem dX1_end_37 : decode cX1_end 37 = .ok (.getfield 10, 3) := by decide +kernel
theorem dX1_end_40 : decode cX1_end 40 = .ok (.invokevirtual 87, 3) := by decide +kernel
theorem dX1_end_43 : decode cX1_end 43 = .ok (.aload_n 0, 1) := by decide +kernel
theorem dX1_end_44 : decode cX1_end 44 = .ok (.dup, 1) := by decide +kernel
theorem dX1_end_45 : decode cX1_end 45 = .ok (.getfield 90, 3) := by decide +kernel
theorem dX1_end_48 : decode cX1_end 48 = .ok (.iconst 1, 1) := by decide +kernel
theorem dX1_end_49 : decode cX1_end 49 = .ok (.iadd, 1) := by decide +kernel
theorem dX1_end_50 : decode cX1_end 50 = .ok (.putfield 90, 3) := by decide +kernel
theorem dX1_end_53 : decode cX1_end 53 = .ok (.iload_n 1, 1) := by decide +kernel
theorem dX1_end_54 : decode cX1_end 54 = .ok (.ireturn, 1) := by decide +kernel
set_option maxRecDepth 20000 in
theorem ggX1_expected_X1_checkWrestler : GoodIn wsX1_expected wsX1_checkWrestler := goodIn_ca (goodIn_r _ [6, 7, 8, 1, 9, 10, 11, 12, 13, 14, 28, 29, 30, 31, 32, 33, 34, 35, 36, 37, 38, 39, 40, 41] (by decide +kernel) (by decide +kernel)) (goodIn_sub (fun _ h => List.mem_cons_of_mem _ (List.mem_append_right _ h)) (by decide +kernel))
set_option maxRecDepth 20000 in
theorem gX1_expected_X1_checkWrestler : GoodIn wsX1_expected (wsV RX1 47 RX1 yX1_checkWrestler wsX1_checkWrestler) := goodIn_app (goodIn_of _ (by decide +kernel)) ggX1_expected_X1_checkWrestler
set_option maxRecDepth 20000 in
theorem ggX1_expected_X0_expectation : GoodIn wsX1_expected wsX0_expectation := goodIn_r _ [18, 19, 20, 21, 12, 22, 23, 24, 25, 26, 27, 34, 35, 36, 37, 38, 39, 40, 41] (by decide +kernel) (by decide +kernel)
set_option maxRecDepth 20000 in
theorem gX1_expected_X0_expectation : GoodIn wsX1_expected (wsV RX1 93 RX0 yX0_expectation wsX0_expectation) := goodIn_app (goodIn_of _ (by decide +kernel)) ggX1_expected_X0_expectation
theorem dX1_expected_0 : decode cX1_expected 0 = .ok (.aload_n 0, 1) := by decide +kernel
theorem dX1_expected_1 : decode cX1_expected 1 = .ok (.iload_n 1, 1) := by decide +kernel
theorem dX1_expected_2 : decode cX1_expected 2 = .ok (.invokevirtual 47, 3) := by decide +kernel
theorem dX1_expected_5 : decode cX1_expected 5 = .ok (.aload_n 0, 1) := by decide +kernel
theorem dX1_expected_6 : decode cX1_expected 6 = .ok (.iload_n 2, 1) := by decide +kernel
theorem dX1_expected_7 : decode cX1_expected 7 = .ok (.invokevirtual 47, 3) := by decide +kernel
theorem dX1_expected_10 : decode cX1_expected 10 = .ok (.aload_n 0, 1) := by decide +kernel
theorem dX1_expected_11 : decode cX1_expected 11 = .ok (.getfield 10, 3) := by decide +kernel
theorem dX1_expected_14 : decode cX1_expected 14 = .ok (.iload_n 1, 1) := by decide +kernel
theorem dX1_expected_15 : decode cX1_expected 15 = .ok (.iload_n 2, 1) := by decide +kernel
theorem dX1_expected_16 : decode cX1_expected 16 = .ok (.invokevirtual 93, 3) := by decide +kernel
theorem dX1_expected_19 : decode cX1_expected 19 = .ok (.ireturn, 1) := by decide +kernel
set_option maxRecDepth 20000 in
theorem ggX1_told_X1_checkWrestler : GoodIn wsX1_told wsX1_checkWrestler := goodIn_ca (goodIn_r _ [8, 1, 2, 3, 9, 10, 11, 12, 13, 14, 62, 63, 64, 65, 66, 67, 68, 69, 70, 71, 72, 73, 74, 75] (by decide +kernel) (by decide +kernel)) (goodIn_sub (fun _ h => List.mem_cons_of_mem _ (List.mem_append_right _ h)) (by decide +kernel))
set_option maxRecDepth 20000 in
theorem gX1_told_X1_checkWrestler : GoodIn wsX1_told (wsV RX1 47 RX1 yX1_checkWrestler wsX1_checkWrestler) := goodIn_app (goodIn_of _ (by decide +kernel)) ggX1_told_X1_checkWrestler
set_option maxRecDepth 20000 in
theorem ggX1_told_X0_rating : GoodIn wsX1_told wsX0_rating := goodIn_r _ [18, 19, 68, 69, 70, 71, 72, 73, 74, 75] (by decide +kernel) (by decide +kernel)
set_option maxRecDepth 20000 in
theorem gX1_told_X0_rating : GoodIn wsX1_told (wsV RX1 53 RX0 yX0_rating wsX0_rating) := goodIn_app (goodIn_of _ (by decide +kernel)) ggX1_told_X0_rating
set_option maxRecDepth 20000 in
theorem ggX1_told_X0_league : GoodIn wsX1_told wsX0_league := goodIn_r _ [23, 24, 68, 69, 70, 71, 72, 73, 74, 75] (by decide +kernel) (by decide +kernel)
set_option maxRecDepth 20000 in
theorem gX1_told_X0_league : GoodIn wsX1_told (wsV RX1 97 RX0 yX0_league wsX0_league) := goodIn_app (goodIn_of _ (by decide +kernel)) ggX1_told_X0_league
set_option maxRecDepth 20000 in
theorem ggX1_told_X0_points : GoodIn wsX1_told wsX0_points := goodIn_r _ [28, 29, 68, 69, 70, 71, 72, 73, 74, 75] (by decide +kernel) (by decide +kernel)
set_option maxRecDepth 20000 in
theorem gX1_told_X0_points : GoodIn wsX1_told (wsV RX1 100 RX0 yX0_points wsX0_points) := goodIn_app (goodIn_of _ (by decide +kernel)) ggX1_told_X0_points
set_option maxRecDepth 20000 in
theorem ggX1_told_X0_bouts : GoodIn wsX1_told wsX0_bouts := goodIn_r _ [33, 34, 68, 69, 70, 71, 72, 73, 74, 75] (by decide +kernel) (by decide +kernel)
set_option maxRecDepth 20000 in
theorem gX1_told_X0_bouts : GoodIn wsX1_told (wsV RX1 103 RX0 yX0_bouts wsX0_bouts) := goodIn_app (goodIn_of _ (by decide +kernel)) ggX1_told_X0_bouts
set_option maxRecDepth 20000 in
theorem ggX1_told_X0_seasonBouts : GoodIn wsX1_told wsX0_seasonBouts := goodIn_r _ [38, 39, 68, 69, 70, 71, 72, 73, 74, 75] (by decide +kernel) (by decide +kernel)
set_option maxRecDepth 20000 in
theorem gX1_told_X0_seasonBouts : GoodIn wsX1_told (wsV RX1 106 RX0 yX0_seasonBouts wsX0_seasonBouts) := goodIn_app (goodIn_of _ (by decide +kernel)) ggX1_told_X0_seasonBouts
set_option maxRecDepth 20000 in
theorem ggX1_told_X0_winRow : GoodIn wsX1_told wsX0_winRow := goodIn_r _ [43, 44, 68, 69, 70, 71, 72, 73, 74, 75] (by decide +kernel) (by decide +kernel)
set_option maxRecDepth 20000 in
theorem gX1_told_X0_winRow : GoodIn wsX1_told (wsV RX1 109 RX0 yX0_winRow wsX0_winRow) := goodIn_app (goodIn_of _ (by decide +kernel)) ggX1_told_X0_winRow
set_option maxRecDepth 20000 in
theorem ggX1_told_X0_best : GoodIn wsX1_told wsX0_best := goodIn_r _ [48, 49, 68, 69, 70, 71, 72, 73, 74, 75] (by decide +kernel) (by decide +kernel)
set_option maxRecDepth 20000 in
theorem gX1_told_X0_best : GoodIn wsX1_told (wsV RX1 112 RX0 yX0_best wsX0_best) := goodIn_app (goodIn_of _ (by decide +kernel)) ggX1_told_X0_best
set_option maxRecDepth 20000 in
theorem ggX1_told_X0_place : GoodIn wsX1_told wsX0_place := goodIn_r _ [53, 14, 24, 54, 55, 56, 12, 57, 29, 19, 68, 69, 70, 71, 72, 73, 74, 75] (by decide +kernel) (by decide +kernel)
set_option maxRecDepth 20000 in
theorem gX1_told_X0_place : GoodIn wsX1_told (wsV RX1 115 RX0 yX0_place wsX0_place) := goodIn_app (goodIn_of _ (by decide +kernel)) ggX1_told_X0_place
set_option maxRecDepth 20000 in
theorem ggX1_told_X0_weight : GoodIn wsX1_told wsX0_weight := goodIn_r _ [61, 34, 19, 68, 69, 70, 71, 72, 73, 74, 75] (by decide +kernel) (by decide +kernel)
set_option maxRecDepth 20000 in
theorem gX1_told_X0_weight : GoodIn wsX1_told (wsV RX1 118 RX0 yX0_weight wsX0_weight) := goodIn_app (goodIn_of _ (by decide +kernel)) ggX1_told_X0_weight
theorem dX1_told_0 : decode cX1_told 0 = .ok (.aload_n 0, 1) := by decide +kernel
theorem dX1_told_1 : decode cX1_told 1 = .ok (.iload_n 1, 1) := by decide +kernel
theorem dX1_told_2 : decode cX1_told 2 = .ok (.invokevirtual 47, 3) := by decide +kernel
theorem dX1_told_5 : decode cX1_told 5 = .ok (.iload_n 2, 1) := by decide +kernel
theorem dX1_told_6 : decode cX1_told 6 = .ok (.tableswitch 131 0 8 #[50, 59, 68, 77, 86, 95, 104, 113, 122], 50) := by decide +kernel
theorem dX1_told_56 : decode cX1_told 56 = .ok (.aload_n 0, 1) := by decide +kernel
theorem dX1_told_57 : decode cX1_told 57 = .ok (.getfield 10, 3) := by decide +kernel
theorem dX1_told_60 : decode cX1_told 60 = .ok (.iload_n 1, 1) := by decide +kernel
theorem dX1_told_61 : decode cX1_told 61 = .ok (.invokevirtual 53, 3) := by decide +kernel
theorem dX1_told_64 : decode cX1_told 64 = .ok (.ireturn, 1) := by decide +kernel
theorem dX1_told_65 : decode cX1_told 65 = .ok (.aload_n 0, 1) := by decide +kernel
theorem dX1_told_66 : decode cX1_told 66 = .ok (.getfield 10, 3) := by decide +kernel
theorem dX1_told_69 : decode cX1_told 69 = .ok (.iload_n 1, 1) := by decide +kernel
theorem dX1_told_70 : decode cX1_told 70 = .ok (.invokevirtual 97, 3) := by decide +kernel
theorem dX1_told_73 : decode cX1_told 73 = .ok (.ireturn, 1) := by decide +kernel
theorem dX1_told_74 : decode cX1_told 74 = .ok (.aload_n 0, 1) := by decide +kernel
theorem dX1_told_75 : decode cX1_told 75 = .ok (.getfield 10, 3) := by decide +kernel
theorem dX1_told_78 : decode cX1_told 78 = .ok (.iload_n 1, 1) := by decide +kernel
theorem dX1_told_79 : decode cX1_told 79 = .ok (.invokevirtual 100, 3) := by decide +kernel
theorem dX1_told_82 : decode cX1_told 82 = .ok (.ireturn, 1) := by decide +kernel
theorem dX1_told_83 : decode cX1_told 83 = .ok (.aload_n 0, 1) := by decide +kernel
theorem dX1_told_84 : decode cX1_told 84 = .ok (.getfield 10, 3) := by decide +kernel
theorem dX1_told_87 : decode cX1_told 87 = .ok (.iload_n 1, 1) := by decide +kernel
theorem dX1_told_88 : decode cX1_told 88 = .ok (.invokevirtual 103, 3) := by decide +kernel
theorem dX1_told_91 : decode cX1_told 91 = .ok (.ireturn, 1) := by decide +kernel
theorem dX1_told_92 : decode cX1_told 92 = .ok (.aload_n 0, 1) := by decide +kernel
theorem dX1_told_93 : decode cX1_told 93 = .ok (.getfield 10, 3) := by decide +kernel
theorem dX1_told_96 : decode cX1_told 96 = .ok (.iload_n 1, 1) := by decide +kernel
theorem dX1_told_97 : decode cX1_told 97 = .ok (.invokevirtual 106, 3) := by decide +kernel
theorem dX1_told_100 : decode cX1_told 100 = .ok (.ireturn, 1) := by decide +kernel
theorem dX1_told_101 : decode cX1_told 101 = .ok (.aload_n 0, 1) := by decide +kernel
theorem dX1_told_102 : decode cX1_told 102 = .ok (.getfield 10, 3) := by decide +kernel
theorem dX1_told_105 : decode cX1_told 105 = .ok (.iload_n 1, 1) := by decide +kernel
theorem dX1_told_106 : decode cX1_told 106 = .ok (.invokevirtual 109, 3) := by decide +kernel
theorem dX1_told_109 : decode cX1_told 109 = .ok (.ireturn, 1) := by decide +kernel
theorem dX1_told_110 : decode cX1_told 110 = .ok (.aload_n 0, 1) := by decide +kernel
theorem dX1_told_111 : decode cX1_told 111 = .ok (.getfield 10, 3) := by decide +kernel
theorem dX1_told_114 : decode cX1_told 114 = .ok (.iload_n 1, 1) := by decide +kernel
theorem dX1_told_115 : decode cX1_told 115 = .ok (.invokevirtual 112, 3) := by decide +kernel
theorem dX1_told_118 : decode cX1_told 118 = .ok (.ireturn, 1) := by decide +kernel
theorem dX1_told_119 : decode cX1_told 119 = .ok (.aload_n 0, 1) := by decide +kernel
theorem dX1_told_120 : decode cX1_told 120 = .ok (.getfield 10, 3) := by decide +kernel
theorem dX1_told_123 : decode cX1_told 123 = .ok (.iload_n 1, 1) := by decide +kernel
theorem dX1_told_124 : decode cX1_told 124 = .ok (.invokevirtual 115, 3) := by decide +kernel
theorem dX1_told_127 : decode cX1_told 127 = .ok (.ireturn, 1) := by decide +kernel
theorem dX1_told_128 : decode cX1_told 128 = .ok (.aload_n 0, 1) := by decide +kernel
theorem dX1_told_129 : decode cX1_told 129 = .ok (.getfield 10, 3) := by decide +kernel
theorem dX1_told_132 : decode cX1_told 132 = .ok (.iload_n 1, 1) := by decide +kernel
theorem dX1_told_133 : decode cX1_told 133 = .ok (.invokevirtual 118, 3) := by decide +kernel
theorem dX1_told_136 : decode cX1_told 136 = .ok (.ireturn, 1) := by decide +kernel
theorem dX1_told_137 : decode cX1_told 137 = .ok (.new 121, 3) := by decide +kernel
theorem dX1_told_140 : decode cX1_told 140 = .ok (.dup, 1) := by decide +kernel
theorem dX1_told_141 : decode cX1_told 141 = .ok (.ldc 123, 2) := by decide +kernel
theorem dX1_told_143 : decode cX1_told 143 = .ok (.invokespecial 125, 3) := by decide +kernel
theorem dX1_told_146 : decode cX1_told 146 = .ok (.athrow, 1) := by decide +kernel
set_option maxRecDepth 20000 in
theorem ggX1_at_X1_isLeague : GoodIn wsX1_at wsX1_isLeague := goodIn_r _ [7] (by decide +kernel) (by decide +kernel)
set_option maxRecDepth 20000 in
theorem gX1_at_X1_isLeague : GoodIn wsX1_at (va_wsS RX1 23 yX1_isLeague wsX1_isLeague) := goodIn_app (goodIn_of _ (by decide +kernel)) ggX1_at_X1_isLeague
set_option maxRecDepth 20000 in
theorem ggX1_at_X0_standingAt : GoodIn wsX1_at wsX0_standingAt := goodIn_r _ [12, 13, 14, 15, 16, 17, 11, 18, 19, 20, 21, 22, 23, 24, 31, 32, 33, 34, 35, 36, 37, 38] (by decide +kernel) (by decide +kernel)
set_option maxRecDepth 20000 in
theorem gX1_at_X0_standingAt : GoodIn wsX1_at (wsV RX1 126 RX0 yX0_standingAt wsX0_standingAt) := goodIn_app (goodIn_of _ (by decide +kernel)) ggX1_at_X0_standingAt
theorem dX1_at_0 : decode cX1_at 0 = .ok (.iload_n 1, 1) := by decide +kernel
theorem dX1_at_1 : decode cX1_at 1 = .ok (.invokestatic 23, 3) := by decide +kernel
theorem dX1_at_4 : decode cX1_at 4 = .ok (.ifCond .ne 13, 3) := by decide +kernel
theorem dX1_at_7 : decode cX1_at 7 = .ok (.new 121, 3) := by decide +kernel
theorem dX1_at_10 : decode cX1_at 10 = .ok (.dup, 1) := by decide +kernel
theorem dX1_at_11 : decode cX1_at 11 = .ok (.ldc 29, 2) := by decide +kernel
theorem dX1_at_13 : decode cX1_at 13 = .ok (.invokespecial 125, 3) := by decide +kernel
theorem dX1_at_16 : decode cX1_at 16 = .ok (.athrow, 1) := by decide +kernel
theorem dX1_at_17 : decode cX1_at 17 = .ok (.aload_n 0, 1) := by decide +kernel
theorem dX1_at_18 : decode cX1_at 18 = .ok (.getfield 10, 3) := by decide +kernel
theorem dX1_at_21 : decode cX1_at 21 = .ok (.iload_n 1, 1) := by decide +kernel
theorem dX1_at_22 : decode cX1_at 22 = .ok (.iload_n 2, 1) := by decide +kernel
theorem dX1_at_23 : decode cX1_at 23 = .ok (.invokevirtual 126, 3) := by decide +kernel
theorem dX1_at_26 : decode cX1_at 26 = .ok (.istore_n 3, 1) := by decide +kernel
theorem dX1_at_27 : decode cX1_at 27 = .ok (.iload_n 3, 1) := by decide +kernel
theorem dX1_at_28 : decode cX1_at 28 = .ok (.iconst (-1), 1) := by decide +kernel
theorem dX1_at_29 : decode cX1_at 29 = .ok (.if_icmp .ne 13, 3) := by decide +kernel
theorem dX1_at_32 : decode cX1_at 32 = .ok (.new 121, 3) := by decide +kernel
theorem dX1_at_35 : decode cX1_at 35 = .ok (.dup, 1) := by decide +kernel
theorem dX1_at_36 : decode cX1_at 36 = .ok (.ldc 129, 2) := by decide +kernel
theorem dX1_at_38 : decode cX1_at 38 = .ok (.invokespecial 125, 3) := by decide +kernel
theorem dX1_at_41 : decode cX1_at 41 = .ok (.athrow, 1) := by decide +kernel
theorem dX1_at_42 : decode cX1_at 42 = .ok (.iload_n 3, 1) := by decide +kernel
theorem dX1_at_43 : decode cX1_at 43 = .ok (.ireturn, 1) := by decide +kernel
set_option maxRecDepth 20000 in
theorem ggX1_count_X0_size : GoodIn wsX1_count wsX0_size := goodIn_r _ [11, 12, 40, 41, 42, 43, 44, 45, 46, 47] (by decide +kernel) (by decide +kernel)
set_option maxRecDepth 20000 in
theorem gX1_count_X0_size : GoodIn wsX1_count (wsV RX1 131 RX0 yX0_size wsX0_size) := goodIn_app (goodIn_of _ (by decide +kernel)) ggX1_count_X0_size
set_option maxRecDepth 20000 in
theorem ggX1_count_X0_sizeOf : GoodIn wsX1_count wsX0_sizeOf := goodIn_r _ [16, 12, 17, 40, 41, 42, 43, 44, 45, 46, 47] (by decide +kernel) (by decide +kernel)
set_option maxRecDepth 20000 in
theorem gX1_count_X0_sizeOf : GoodIn wsX1_count (wsV RX1 135 RX0 yX0_sizeOf wsX0_sizeOf) := goodIn_app (goodIn_of _ (by decide +kernel)) ggX1_count_X0_sizeOf
set_option maxRecDepth 20000 in
theorem ggX1_count_X0_highest : GoodIn wsX1_count wsX0_highest := goodIn_r _ [21, 12, 22, 23, 24, 25, 26, 40, 41, 42, 43, 44, 45, 46, 47] (by decide +kernel) (by decide +kernel)
set_option maxRecDepth 20000 in
theorem gX1_count_X0_highest : GoodIn wsX1_count (wsV RX1 138 RX0 yX0_highest wsX0_highest) := goodIn_app (goodIn_of _ (by decide +kernel)) ggX1_count_X0_highest
set_option maxRecDepth 20000 in
theorem ggX1_count_X0_lowest : GoodIn wsX1_count wsX0_lowest := goodIn_r _ [30, 12, 22, 31, 32, 25, 33, 40, 41, 42, 43, 44, 45, 46, 47] (by decide +kernel) (by decide +kernel)
set_option maxRecDepth 20000 in
theorem gX1_count_X0_lowest : GoodIn wsX1_count (wsV RX1 141 RX0 yX0_lowest wsX0_lowest) := goodIn_app (goodIn_of _ (by decide +kernel)) ggX1_count_X0_lowest
theorem dX1_count_0 : decode cX1_count 0 = .ok (.iload_n 1, 1) := by decide +kernel
theorem dX1_count_1 : decode cX1_count 1 = .ok (.tableswitch 101 0 8 #[51, 56, 64, 69, 74, 74, 74, 85, 93], 51) := by decide +kernel
theorem dX1_count_52 : decode cX1_count 52 = .ok (.aload_n 0, 1) := by decide +kernel
theorem dX1_count_53 : decode cX1_count 53 = .ok (.getfield 90, 3) := by decide +kernel
theorem dX1_count_56 : decode cX1_count 56 = .ok (.ireturn, 1) := by decide +kernel
theorem dX1_count_57 : decode cX1_count 57 = .ok (.aload_n 0, 1) := by decide +kernel
theorem dX1_count_58 : decode cX1_count 58 = .ok (.getfield 10, 3) := by decide +kernel
theorem dX1_count_61 : decode cX1_count 61 = .ok (.invokevirtual 131, 3) := by decide +kernel
theorem dX1_count_64 : decode cX1_count 64 = .ok (.ireturn, 1) := by decide +kernel
theorem dX1_count_65 : decode cX1_count 65 = .ok (.aload_n 0, 1) := by decide +kernel
theorem dX1_count_66 : decode cX1_count 66 = .ok (.getfield 74, 3) := by decide +kernel
theorem dX1_count_69 : decode cX1_count 69 = .ok (.ireturn, 1) := by decide +kernel
theorem dX1_count_70 : decode cX1_count 70 = .ok (.aload_n 0, 1) := by decide +kernel
theorem dX1_count_71 : decode cX1_count 71 = .ok (.getfield 70, 3) := by decide +kernel
theorem dX1_count_74 : decode cX1_count 74 = .ok (.ireturn, 1) := by decide +kernel
theorem dX1_count_75 : decode cX1_count 75 = .ok (.aload_n 0, 1) := by decide +kernel
theorem dX1_count_76 : decode cX1_count 76 = .ok (.getfield 10, 3) := by decide +kernel
