theorem dX0_weight_6 : decode cX0_weight 6 = .ok (.bipush 10, 2) := by decide +kernel
theorem dX0_weight_8 : decode cX0_weight 8 = .ok (.if_icmp .ge 6, 3) := by decide +kernel
theorem dX0_weight_11 : decode cX0_weight 11 = .ok (.bipush 40, 2) := by decide +kernel
theorem dX0_weight_13 : decode cX0_weight 13 = .ok (.ireturn, 1) := by decide +kernel
theorem dX0_weight_14 : decode cX0_weight 14 = .ok (.aload_n 0, 1) := by decide +kernel
theorem dX0_weight_15 : decode cX0_weight 15 = .ok (.getfield 15, 3) := by decide +kernel
theorem dX0_weight_18 : decode cX0_weight 18 = .ok (.iload_n 1, 1) := by decide +kernel
theorem dX0_weight_19 : decode cX0_weight 19 = .ok (.iaload, 1) := by decide +kernel
theorem dX0_weight_20 : decode cX0_weight 20 = .ok (.sipush 2000, 3) := by decide +kernel
theorem dX0_weight_23 : decode cX0_weight 23 = .ok (.if_icmp .lt 8, 3) := by decide +kernel
theorem dX0_weight_26 : decode cX0_weight 26 = .ok (.bipush 10, 2) := by decide +kernel
theorem dX0_weight_28 : decode cX0_weight 28 = .ok (.goto 5, 3) := by decide +kernel
theorem dX0_weight_31 : decode cX0_weight 31 = .ok (.bipush 20, 2) := by decide +kernel
theorem dX0_weight_33 : decode cX0_weight 33 = .ok (.ireturn, 1) := by decide +kernel
set_option maxRecDepth 20000 in
theorem ggX0_gain_X0_weight : GoodIn wsX0_gain wsX0_weight := goodIn_r _ [13, 14, 1, 23, 24, 25, 26, 27, 28, 29, 30] (by decide +kernel) (by decide +kernel)
set_option maxRecDepth 20000 in
theorem gX0_gain_X0_weight : GoodIn wsX0_gain (wsV RX0 53 RX0 yX0_weight wsX0_weight) := goodIn_app (goodIn_of _ (by decide +kernel)) ggX0_gain_X0_weight
set_option maxRecDepth 20000 in
theorem ggX0_gain_X0_expectation : GoodIn wsX0_gain wsX0_expectation := goodIn_r _ [18, 1, 19, 20, 12, 21, 2, 3, 4, 5, 22, 23, 24, 25, 26, 27, 28, 29, 30] (by decide +kernel) (by decide +kernel)
set_option maxRecDepth 20000 in
theorem gX0_gain_X0_expectation : GoodIn wsX0_gain (wsV RX0 56 RX0 yX0_expectation wsX0_expectation) := goodIn_app (goodIn_of _ (by decide +kernel)) ggX0_gain_X0_expectation
theorem dX0_gain_0 : decode cX0_gain 0 = .ok (.iload_n 3, 1) := by decide +kernel
theorem dX0_gain_1 : decode cX0_gain 1 = .ok (.sipush 500, 3) := by decide +kernel
theorem dX0_gain_4 : decode cX0_gain 4 = .ok (.imul, 1) := by decide +kernel
theorem dX0_gain_5 : decode cX0_gain 5 = .ok (.istore 4, 2) := by decide +kernel
theorem dX0_gain_7 : decode cX0_gain 7 = .ok (.aload_n 0, 1) := by decide +kernel
theorem dX0_gain_8 : decode cX0_gain 8 = .ok (.getfield 15, 3) := by decide +kernel
theorem dX0_gain_11 : decode cX0_gain 11 = .ok (.iload_n 1, 1) := by decide +kernel
theorem dX0_gain_12 : decode cX0_gain 12 = .ok (.iaload, 1) := by decide +kernel
theorem dX0_gain_13 : decode cX0_gain 13 = .ok (.aload_n 0, 1) := by decide +kernel
theorem dX0_gain_14 : decode cX0_gain 14 = .ok (.iload_n 1, 1) := by decide +kernel
theorem dX0_gain_15 : decode cX0_gain 15 = .ok (.invokevirtual 53, 3) := by decide +kernel
theorem dX0_gain_18 : decode cX0_gain 18 = .ok (.iload 4, 2) := by decide +kernel
theorem dX0_gain_20 : decode cX0_gain 20 = .ok (.aload_n 0, 1) := by decide +kernel
theorem dX0_gain_21 : decode cX0_gain 21 = .ok (.iload_n 1, 1) := by decide +kernel
theorem dX0_gain_22 : decode cX0_gain 22 = .ok (.iload_n 2, 1) := by decide +kernel
theorem dX0_gain_23 : decode cX0_gain 23 = .ok (.invokevirtual 56, 3) := by decide +kernel
theorem dX0_gain_26 : decode cX0_gain 26 = .ok (.isub, 1) := by decide +kernel
theorem dX0_gain_27 : decode cX0_gain 27 = .ok (.imul, 1) := by decide +kernel
theorem dX0_gain_28 : decode cX0_gain 28 = .ok (.sipush 1000, 3) := by decide +kernel
theorem dX0_gain_31 : decode cX0_gain 31 = .ok (.idiv, 1) := by decide +kernel
theorem dX0_gain_32 : decode cX0_gain 32 = .ok (.iadd, 1) := by decide +kernel
theorem dX0_gain_33 : decode cX0_gain 33 = .ok (.istore 5, 2) := by decide +kernel
theorem dX0_gain_35 : decode cX0_gain 35 = .ok (.bipush 100, 2) := by decide +kernel
theorem dX0_gain_37 : decode cX0_gain 37 = .ok (.sipush 3000, 3) := by decide +kernel
theorem dX0_gain_40 : decode cX0_gain 40 = .ok (.iload 5, 2) := by decide +kernel
theorem dX0_gain_42 : decode cX0_gain 42 = .ok (.invokestatic 47, 3) := by decide +kernel
theorem dX0_gain_45 : decode cX0_gain 45 = .ok (.invokestatic 37, 3) := by decide +kernel
theorem dX0_gain_48 : decode cX0_gain 48 = .ok (.istore 6, 2) := by decide +kernel
theorem dX0_gain_50 : decode cX0_gain 50 = .ok (.iload 6, 2) := by decide +kernel
theorem dX0_gain_52 : decode cX0_gain 52 = .ok (.aload_n 0, 1) := by decide +kernel
theorem dX0_gain_53 : decode cX0_gain 53 = .ok (.getfield 15, 3) := by decide +kernel
theorem dX0_gain_56 : decode cX0_gain 56 = .ok (.iload_n 1, 1) := by decide +kernel
theorem dX0_gain_57 : decode cX0_gain 57 = .ok (.iaload, 1) := by decide +kernel
theorem dX0_gain_58 : decode cX0_gain 58 = .ok (.isub, 1) := by decide +kernel
theorem dX0_gain_59 : decode cX0_gain 59 = .ok (.ireturn, 1) := by decide +kernel
set_option maxRecDepth 20000 in
theorem ggX0_isUpset_X0_expectation : GoodIn wsX0_isUpset wsX0_expectation := goodIn_r _ [5, 6, 7, 8, 4, 9, 10, 11, 12, 13, 14, 15, 16, 17, 18, 19, 20, 21, 22] (by decide +kernel) (by decide +kernel)
set_option maxRecDepth 20000 in
theorem gX0_isUpset_X0_expectation : GoodIn wsX0_isUpset (wsV RX0 56 RX0 yX0_expectation wsX0_expectation) := goodIn_app (goodIn_of _ (by decide +kernel)) ggX0_isUpset_X0_expectation
theorem dX0_isUpset_0 : decode cX0_isUpset 0 = .ok (.iload_n 3, 1) := by decide +kernel
theorem dX0_isUpset_1 : decode cX0_isUpset 1 = .ok (.iconst 2, 1) := by decide +kernel
theorem dX0_isUpset_2 : decode cX0_isUpset 2 = .ok (.if_icmp .ne 15, 3) := by decide +kernel
theorem dX0_isUpset_5 : decode cX0_isUpset 5 = .ok (.aload_n 0, 1) := by decide +kernel
theorem dX0_isUpset_6 : decode cX0_isUpset 6 = .ok (.iload_n 1, 1) := by decide +kernel
theorem dX0_isUpset_7 : decode cX0_isUpset 7 = .ok (.iload_n 2, 1) := by decide +kernel
theorem dX0_isUpset_8 : decode cX0_isUpset 8 = .ok (.invokevirtual 56, 3) := by decide +kernel
theorem dX0_isUpset_11 : decode cX0_isUpset 11 = .ok (.sipush 400, 3) := by decide +kernel
theorem dX0_isUpset_14 : decode cX0_isUpset 14 = .ok (.if_icmp .lt 19, 3) := by decide +kernel
theorem dX0_isUpset_17 : decode cX0_isUpset 17 = .ok (.iload_n 3, 1) := by decide +kernel
theorem dX0_isUpset_18 : decode cX0_isUpset 18 = .ok (.ifCond .ne 19, 3) := by decide +kernel
theorem dX0_isUpset_21 : decode cX0_isUpset 21 = .ok (.aload_n 0, 1) := by decide +kernel
theorem dX0_isUpset_22 : decode cX0_isUpset 22 = .ok (.iload_n 2, 1) := by decide +kernel
theorem dX0_isUpset_23 : decode cX0_isUpset 23 = .ok (.iload_n 1, 1) := by decide +kernel
theorem dX0_isUpset_24 : decode cX0_isUpset 24 = .ok (.invokevirtual 56, 3) := by decide +kernel
theorem dX0_isUpset_27 : decode cX0_isUpset 27 = .ok (.sipush 400, 3) := by decide +kernel
theorem dX0_isUpset_30 : decode cX0_isUpset 30 = .ok (.if_icmp .ge 7, 3) := by decide +kernel
theorem dX0_isUpset_33 : decode cX0_isUpset 33 = .ok (.iconst 1, 1) := by decide +kernel
theorem dX0_isUpset_34 : decode cX0_isUpset 34 = .ok (.goto 4, 3) := by decide +kernel
theorem dX0_isUpset_37 : decode cX0_isUpset 37 = .ok (.iconst 0, 1) := by decide +kernel
theorem dX0_isUpset_38 : decode cX0_isUpset 38 = .ok (.ireturn, 1) := by decide +kernel
set_option maxRecDepth 20000 in
theorem ggX0_hold_X0_gain : GoodIn wsX0_hold wsX0_gain := goodIn_r _ [5, 6, 7, 8, 9, 10, 11, 12, 13, 14, 15, 16, 4, 17, 18, 19, 20, 21, 22, 23, 24, 25, 26, 39, 40, 41, 42, 43, 44, 45, 46] (by decide +kernel) (by decide +kernel)
set_option maxRecDepth 20000 in
theorem gX0_hold_X0_gain : GoodIn wsX0_hold (wsV RX0 59 RX0 yX0_gain wsX0_gain) := goodIn_app (goodIn_of _ (by decide +kernel)) ggX0_hold_X0_gain
set_option maxRecDepth 20000 in
theorem ggX0_hold_X0_enter : GoodIn wsX0_hold wsX0_enter := goodIn_r _ [30, 6, 31, 18, 32, 33, 34, 35, 36, 4, 37, 38, 11, 12, 9, 13, 39, 40, 41, 42, 43, 44, 45, 46] (by decide +kernel) (by decide +kernel)
set_option maxRecDepth 20000 in
theorem gX0_hold_X0_enter : GoodIn wsX0_hold (wsV RX0 63 RX0 yX0_enter wsX0_enter) := goodIn_app (goodIn_of _ (by decide +kernel)) ggX0_hold_X0_enter
theorem dX0_hold_0 : decode cX0_hold 0 = .ok (.aload_n 0, 1) := by decide +kernel
theorem dX0_hold_1 : decode cX0_hold 1 = .ok (.iload_n 1, 1) := by decide +kernel
theorem dX0_hold_2 : decode cX0_hold 2 = .ok (.iload_n 2, 1) := by decide +kernel
theorem dX0_hold_3 : decode cX0_hold 3 = .ok (.iload_n 3, 1) := by decide +kernel
theorem dX0_hold_4 : decode cX0_hold 4 = .ok (.invokevirtual 59, 3) := by decide +kernel
theorem dX0_hold_7 : decode cX0_hold 7 = .ok (.istore 4, 2) := by decide +kernel
theorem dX0_hold_9 : decode cX0_hold 9 = .ok (.aload_n 0, 1) := by decide +kernel
theorem dX0_hold_10 : decode cX0_hold 10 = .ok (.iload_n 2, 1) := by decide +kernel
theorem dX0_hold_11 : decode cX0_hold 11 = .ok (.iload_n 1, 1) := by decide +kernel
theorem dX0_hold_12 : decode cX0_hold 12 = .ok (.iconst 2, 1) := by decide +kernel
theorem dX0_hold_13 : decode cX0_hold 13 = .ok (.iload_n 3, 1) := by decide +kernel
theorem dX0_hold_14 : decode cX0_hold 14 = .ok (.isub, 1) := by decide +kernel
theorem dX0_hold_15 : decode cX0_hold 15 = .ok (.invokevirtual 59, 3) := by decide +kernel
theorem dX0_hold_18 : decode cX0_hold 18 = .ok (.istore 5, 2) := by decide +kernel
theorem dX0_hold_20 : decode cX0_hold 20 = .ok (.aload_n 0, 1) := by decide +kernel
theorem dX0_hold_21 : decode cX0_hold 21 = .ok (.iload_n 1, 1) := by decide +kernel
theorem dX0_hold_22 : decode cX0_hold 22 = .ok (.iload 4, 2) := by decide +kernel
theorem dX0_hold_24 : decode cX0_hold 24 = .ok (.iload_n 3, 1) := by decide +kernel
theorem dX0_hold_25 : decode cX0_hold 25 = .ok (.invokevirtual 63, 3) := by decide +kernel
theorem dX0_hold_28 : decode cX0_hold 28 = .ok (.aload_n 0, 1) := by decide +kernel
theorem dX0_hold_29 : decode cX0_hold 29 = .ok (.iload_n 2, 1) := by decide +kernel
theorem dX0_hold_30 : decode cX0_hold 30 = .ok (.iload 5, 2) := by decide +kernel
theorem dX0_hold_32 : decode cX0_hold 32 = .ok (.iconst 2, 1) := by decide +kernel
theorem dX0_hold_33 : decode cX0_hold 33 = .ok (.iload_n 3, 1) := by decide +kernel
theorem dX0_hold_34 : decode cX0_hold 34 = .ok (.isub, 1) := by decide +kernel
theorem dX0_hold_35 : decode cX0_hold 35 = .ok (.invokevirtual 63, 3) := by decide +kernel
theorem dX0_hold_38 : decode cX0_hold 38 = .ok (.iload 4, 2) := by decide +kernel
theorem dX0_hold_40 : decode cX0_hold 40 = .ok (.ireturn, 1) := by decide +kernel
set_option maxRecDepth 20000 in
theorem ggX0_holdAsRated_X0_hold : GoodIn wsX0_holdAsRated wsX0_hold := goodIn_r _ [6, 7, 8, 9, 5, 10, 1, 11, 12, 13, 14, 15, 16, 17, 18, 19, 20, 21, 22, 23, 24, 25, 26, 27, 28, 29, 30, 31, 32, 33, 34, 35, 36, 37, 38, 39, 40, 41, 42, 43, 44, 45, 46, 47, 48, 49, 50] (by decide +kernel) (by decide +kernel)
set_option maxRecDepth 20000 in
theorem gX0_holdAsRated_X0_hold : GoodIn wsX0_holdAsRated (wsV RX0 67 RX0 yX0_hold wsX0_hold) := goodIn_app (goodIn_of _ (by decide +kernel)) ggX0_holdAsRated_X0_hold
theorem dX0_holdAsRated_0 : decode cX0_holdAsRated 0 = .ok (.aload_n 0, 1) := by decide +kernel
theorem dX0_holdAsRated_1 : decode cX0_holdAsRated 1 = .ok (.iload_n 1, 1) := by decide +kernel
theorem dX0_holdAsRated_2 : decode cX0_holdAsRated 2 = .ok (.iload_n 2, 1) := by decide +kernel
theorem dX0_holdAsRated_3 : decode cX0_holdAsRated 3 = .ok (.aload_n 0, 1) := by decide +kernel
theorem dX0_holdAsRated_4 : decode cX0_holdAsRated 4 = .ok (.getfield 15, 3) := by decide +kernel
theorem dX0_holdAsRated_7 : decode cX0_holdAsRated 7 = .ok (.iload_n 1, 1) := by decide +kernel
theorem dX0_holdAsRated_8 : decode cX0_holdAsRated 8 = .ok (.iaload, 1) := by decide +kernel
theorem dX0_holdAsRated_9 : decode cX0_holdAsRated 9 = .ok (.aload_n 0, 1) := by decide +kernel
theorem dX0_holdAsRated_10 : decode cX0_holdAsRated 10 = .ok (.getfield 15, 3) := by decide +kernel
theorem dX0_holdAsRated_13 : decode cX0_holdAsRated 13 = .ok (.iload_n 2, 1) := by decide +kernel
theorem dX0_holdAsRated_14 : decode cX0_holdAsRated 14 = .ok (.iaload, 1) := by decide +kernel
theorem dX0_holdAsRated_15 : decode cX0_holdAsRated 15 = .ok (.if_icmp .lt 7, 3) := by decide +kernel
theorem dX0_holdAsRated_18 : decode cX0_holdAsRated 18 = .ok (.iconst 2, 1) := by decide +kernel
theorem dX0_holdAsRated_19 : decode cX0_holdAsRated 19 = .ok (.goto 4, 3) := by decide +kernel
theorem dX0_holdAsRated_22 : decode cX0_holdAsRated 22 = .ok (.iconst 0, 1) := by decide +kernel
theorem dX0_holdAsRated_23 : decode cX0_holdAsRated 23 = .ok (.invokevirtual 67, 3) := by decide +kernel
theorem dX0_holdAsRated_26 : decode cX0_holdAsRated 26 = .ok (.pop, 1) := by decide +kernel
theorem dX0_holdAsRated_27 : decode cX0_holdAsRated 27 = .ok (.return_, 1) := by decide +kernel
set_option maxRecDepth 20000 in
theorem ggX0_enter_X0_setRating : GoodIn wsX0_enter wsX0_setRating := goodIn_r _ [10, 1, 11, 12, 13, 14, 15, 16, 17, 18, 19, 20, 21, 22, 23] (by decide +kernel) (by decide +kernel)
set_option maxRecDepth 20000 in
theorem gX0_enter_X0_setRating : GoodIn wsX0_enter (wsV RX0 70 RX0 yX0_setRating wsX0_setRating) := goodIn_app (goodIn_of _ (by decide +kernel)) ggX0_enter_X0_setRating
theorem dX0_enter_0 : decode cX0_enter 0 = .ok (.aload_n 0, 1) := by decide +kernel
theorem dX0_enter_1 : decode cX0_enter 1 = .ok (.iload_n 1, 1) := by decide +kernel
theorem dX0_enter_2 : decode cX0_enter 2 = .ok (.aload_n 0, 1) := by decide +kernel
theorem dX0_enter_3 : decode cX0_enter 3 = .ok (.getfield 15, 3) := by decide +kernel
theorem dX0_enter_6 : decode cX0_enter 6 = .ok (.iload_n 1, 1) := by decide +kernel
theorem dX0_enter_7 : decode cX0_enter 7 = .ok (.iaload, 1) := by decide +kernel
theorem dX0_enter_8 : decode cX0_enter 8 = .ok (.iload_n 2, 1) := by decide +kernel
theorem dX0_enter_9 : decode cX0_enter 9 = .ok (.iadd, 1) := by decide +kernel
theorem dX0_enter_10 : decode cX0_enter 10 = .ok (.invokevirtual 70, 3) := by decide +kernel
theorem dX0_enter_13 : decode cX0_enter 13 = .ok (.aload_n 0, 1) := by decide +kernel
theorem dX0_enter_14 : decode cX0_enter 14 = .ok (.getfield 18, 3) := by decide +kernel
theorem dX0_enter_17 : decode cX0_enter 17 = .ok (.iload_n 1, 1) := by decide +kernel
theorem dX0_enter_18 : decode cX0_enter 18 = .ok (.dup2, 1) := by decide +kernel
theorem dX0_enter_19 : decode cX0_enter 19 = .ok (.iaload, 1) := by decide +kernel
theorem dX0_enter_20 : decode cX0_enter 20 = .ok (.iload_n 3, 1) := by decide +kernel
theorem dX0_enter_21 : decode cX0_enter 21 = .ok (.iadd, 1) := by decide +kernel
theorem dX0_enter_22 : decode cX0_enter 22 = .ok (.iastore, 1) := by decide +kernel
theorem dX0_enter_23 : decode cX0_enter 23 = .ok (.aload_n 0, 1) := by decide +kernel
theorem dX0_enter_24 : decode cX0_enter 24 = .ok (.getfield 21, 3) := by decide +kernel
theorem dX0_enter_27 : decode cX0_enter 27 = .ok (.iload_n 1, 1) := by decide +kernel
theorem dX0_enter_28 : decode cX0_enter 28 = .ok (.dup2, 1) := by decide +kernel
theorem dX0_enter_29 : decode cX0_enter 29 = .ok (.iaload, 1) := by decide +kernel
theorem dX0_enter_30 : decode cX0_enter 30 = .ok (.iconst 1, 1) := by decide +kernel
theorem dX0_enter_31 : decode cX0_enter 31 = .ok (.iadd, 1) := by decide +kernel
theorem dX0_enter_32 : decode cX0_enter 32 = .ok (.iastore, 1) := by decide +kernel
theorem dX0_enter_33 : decode cX0_enter 33 = .ok (.aload_n 0, 1) := by decide +kernel
theorem dX0_enter_34 : decode cX0_enter 34 = .ok (.getfield 24, 3) := by decide +kernel
theorem dX0_enter_37 : decode cX0_enter 37 = .ok (.iload_n 1, 1) := by decide +kernel
theorem dX0_enter_38 : decode cX0_enter 38 = .ok (.dup2, 1) := by decide +kernel
theorem dX0_enter_39 : decode cX0_enter 39 = .ok (.iaload, 1) := by decide +kernel
theorem dX0_enter_40 : decode cX0_enter 40 = .ok (.iconst 1, 1) := by decide +kernel
theorem dX0_enter_41 : decode cX0_enter 41 = .ok (.iadd, 1) := by decide +kernel
theorem dX0_enter_42 : decode cX0_enter 42 = .ok (.iastore, 1) := by decide +kernel
theorem dX0_enter_43 : decode cX0_enter 43 = .ok (.aload_n 0, 1) := by decide +kernel
theorem dX0_enter_44 : decode cX0_enter 44 = .ok (.getfield 27, 3) := by decide +kernel
theorem dX0_enter_47 : decode cX0_enter 47 = .ok (.iload_n 1, 1) := by decide +kernel
theorem dX0_enter_48 : decode cX0_enter 48 = .ok (.iload_n 3, 1) := by decide +kernel
theorem dX0_enter_49 : decode cX0_enter 49 = .ok (.iconst 2, 1) := by decide +kernel
theorem dX0_enter_50 : decode cX0_enter 50 = .ok (.if_icmp .ne 14, 3) := by decide +kernel
theorem dX0_enter_53 : decode cX0_enter 53 = .ok (.aload_n 0, 1) := by decide +kernel
theorem dX0_enter_54 : decode cX0_enter 54 = .ok (.getfield 27, 3) := by decide +kernel
theorem dX0_enter_57 : decode cX0_enter 57 = .ok (.iload_n 1, 1) := by decide +kernel
theorem dX0_enter_58 : decode cX0_enter 58 = .ok (.iaload, 1) := by decide +kernel
theorem dX0_enter_59 : decode cX0_enter 59 = .ok (.iconst 1, 1) := by decide +kernel
theorem dX0_enter_60 : decode cX0_enter 60 = .ok (.iadd, 1) := by decide +kernel
theorem dX0_enter_61 : decode cX0_enter 61 = .ok (.goto 4, 3) := by decide +kernel
theorem dX0_enter_64 : decode cX0_enter 64 = .ok (.iconst 0, 1) := by decide +kernel
theorem dX0_enter_65 : decode cX0_enter 65 = .ok (.iastore, 1) := by decide +kernel
theorem dX0_enter_66 : decode cX0_enter 66 = .ok (.return_, 1) := by decide +kernel
set_option maxRecDepth 20000 in
theorem ggX0_drift_X0_setRating : GoodIn wsX0_drift wsX0_setRating := goodIn_r _ [8, 3, 9, 10, 11, 12, 13, 14, 15, 16, 17, 18, 19, 20, 21] (by decide +kernel) (by decide +kernel)
set_option maxRecDepth 20000 in
theorem gX0_drift_X0_setRating : GoodIn wsX0_drift (wsV RX0 70 RX0 yX0_setRating wsX0_setRating) := goodIn_app (goodIn_of _ (by decide +kernel)) ggX0_drift_X0_setRating
theorem dX0_drift_0 : decode cX0_drift 0 = .ok (.iconst 0, 1) := by decide +kernel
theorem dX0_drift_1 : decode cX0_drift 1 = .ok (.istore_n 1, 1) := by decide +kernel
theorem dX0_drift_2 : decode cX0_drift 2 = .ok (.iload_n 1, 1) := by decide +kernel
theorem dX0_drift_3 : decode cX0_drift 3 = .ok (.aload_n 0, 1) := by decide +kernel
theorem dX0_drift_4 : decode cX0_drift 4 = .ok (.getfield 33, 3) := by decide +kernel
theorem dX0_drift_7 : decode cX0_drift 7 = .ok (.if_icmp .ge 44, 3) := by decide +kernel
theorem dX0_drift_10 : decode cX0_drift 10 = .ok (.aload_n 0, 1) := by decide +kernel
theorem dX0_drift_11 : decode cX0_drift 11 = .ok (.getfield 24, 3) := by decide +kernel
theorem dX0_drift_14 : decode cX0_drift 14 = .ok (.iload_n 1, 1) := by decide +kernel
theorem dX0_drift_15 : decode cX0_drift 15 = .ok (.iaload, 1) := by decide +kernel
theorem dX0_drift_16 : decode cX0_drift 16 = .ok (.iconst 3, 1) := by decide +kernel
theorem dX0_drift_17 : decode cX0_drift 17 = .ok (.if_icmp .ge 28, 3) := by decide +kernel
theorem dX0_drift_20 : decode cX0_drift 20 = .ok (.aload_n 0, 1) := by decide +kernel
theorem dX0_drift_21 : decode cX0_drift 21 = .ok (.iload_n 1, 1) := by decide +kernel
theorem dX0_drift_22 : decode cX0_drift 22 = .ok (.aload_n 0, 1) := by decide +kernel
theorem dX0_drift_23 : decode cX0_drift 23 = .ok (.getfield 15, 3) := by decide +kernel
theorem dX0_drift_26 : decode cX0_drift 26 = .ok (.iload_n 1, 1) := by decide +kernel
theorem dX0_drift_27 : decode cX0_drift 27 = .ok (.iaload, 1) := by decide +kernel
theorem dX0_drift_28 : decode cX0_drift 28 = .ok (.aload_n 0, 1) := by decide +kernel
theorem dX0_drift_29 : decode cX0_drift 29 = .ok (.getfield 15, 3) := by decide +kernel
theorem dX0_drift_32 : decode cX0_drift 32 = .ok (.iload_n 1, 1) := by decide +kernel
theorem dX0_drift_33 : decode cX0_drift 33 = .ok (.iaload, 1) := by decide +kernel
theorem dX0_drift_34 : decode cX0_drift 34 = .ok (.sipush 1000, 3) := by decide +kernel
theorem dX0_drift_37 : decode cX0_drift 37 = .ok (.isub, 1) := by decide +kernel
theorem dX0_drift_38 : decode cX0_drift 38 = .ok (.bipush 8, 2) := by decide +kernel
theorem dX0_drift_40 : decode cX0_drift 40 = .ok (.idiv, 1) := by decide +kernel
theorem dX0_drift_41 : decode cX0_drift 41 = .ok (.isub, 1) := by decide +kernel
theorem dX0_drift_42 : decode cX0_drift 42 = .ok (.invokevirtual 70, 3) := by decide +kernel
theorem dX0_drift_45 : decode cX0_drift 45 = .ok (.iinc 1 1, 3) := by decide +kernel
theorem dX0_drift_48 : decode cX0_drift 48 = .ok (.goto (-46), 3) := by decide +kernel
theorem dX0_drift_51 : decode cX0_drift 51 = .ok (.return_, 1) := by decide +kernel
set_option maxRecDepth 20000 in
theorem ggX0_exchange_X0_sizeOf : GoodIn wsX0_exchange wsX0_sizeOf := goodIn_r _ [7, 8, 2, 22, 23, 24, 25, 26, 27, 28, 29] (by decide +kernel) (by decide +kernel)
set_option maxRecDepth 20000 in
theorem gX0_exchange_X0_sizeOf : GoodIn wsX0_exchange (wsV RX0 74 RX0 yX0_sizeOf wsX0_sizeOf) := goodIn_app (goodIn_of _ (by decide +kernel)) ggX0_exchange_X0_sizeOf
set_option maxRecDepth 20000 in
theorem ggX0_exchange_X0_standingAt : GoodIn wsX0_exchange wsX0_standingAt := goodIn_r _ [12, 8, 2, 13, 14, 15, 6, 16, 17, 18, 19, 20, 1, 21, 22, 23, 24, 25, 26, 27, 28, 29] (by decide +kernel) (by decide +kernel)
set_option maxRecDepth 20000 in
theorem gX0_exchange_X0_standingAt : GoodIn wsX0_exchange (wsV RX0 77 RX0 yX0_standingAt wsX0_standingAt) := goodIn_app (goodIn_of _ (by decide +kernel)) ggX0_exchange_X0_standingAt
theorem dX0_exchange_0 : decode cX0_exchange 0 = .ok (.aload_n 0, 1) := by decide +kernel
theorem dX0_exchange_1 : decode cX0_exchange 1 = .ok (.iload_n 1, 1) := by decide +kernel
theorem dX0_exchange_2 : decode cX0_exchange 2 = .ok (.aload_n 0, 1) := by decide +kernel
theorem dX0_exchange_3 : decode cX0_exchange 3 = .ok (.iload_n 1, 1) := by decide +kernel
theorem dX0_exchange_4 : decode cX0_exchange 4 = .ok (.invokevirtual 74, 3) := by decide +kernel
theorem dX0_exchange_7 : decode cX0_exchange 7 = .ok (.invokevirtual 77, 3) := by decide +kernel
theorem dX0_exchange_10 : decode cX0_exchange 10 = .ok (.istore_n 2, 1) := by decide +kernel
theorem dX0_exchange_11 : decode cX0_exchange 11 = .ok (.aload_n 0, 1) := by decide +kernel
theorem dX0_exchange_12 : decode cX0_exchange 12 = .ok (.iload_n 1, 1) := by decide +kernel
theorem dX0_exchange_13 : decode cX0_exchange 13 = .ok (.iconst 1, 1) := by decide +kernel
theorem dX0_exchange_14 : decode cX0_exchange 14 = .ok (.iadd, 1) := by decide +kernel
theorem dX0_exchange_15 : decode cX0_exchange 15 = .ok (.iconst 1, 1) := by decide +kernel
theorem dX0_exchange_16 : decode cX0_exchange 16 = .ok (.invokevirtual 77, 3) := by decide +kernel
theorem dX0_exchange_19 : decode cX0_exchange 19 = .ok (.istore_n 3, 1) := by decide +kernel
theorem dX0_exchange_20 : decode cX0_exchange 20 = .ok (.iload_n 2, 1) := by decide +kernel
theorem dX0_exchange_21 : decode cX0_exchange 21 = .ok (.iconst (-1), 1) := by decide +kernel
theorem dX0_exchange_22 : decode cX0_exchange 22 = .ok (.if_icmp .eq 23, 3) := by decide +kernel
theorem dX0_exchange_25 : decode cX0_exchange 25 = .ok (.iload_n 3, 1) := by decide +kernel
theorem dX0_exchange_26 : decode cX0_exchange 26 = .ok (.iconst (-1), 1) := by decide +kernel
theorem dX0_exchange_27 : decode cX0_exchange 27 = .ok (.if_icmp .eq 18, 3) := by decide +kernel
theorem dX0_exchange_30 : decode cX0_exchange 30 = .ok (.aload_n 0, 1) := by decide +kernel
theorem dX0_exchange_31 : decode cX0_exchange 31 = .ok (.getfield 18, 3) := by decide +kernel
theorem dX0_exchange_34 : decode cX0_exchange 34 = .ok (.iload_n 3, 1) := by decide +kernel
theorem dX0_exchange_35 : decode cX0_exchange 35 = .ok (.iaload, 1) := by decide +kernel
theorem dX0_exchange_36 : decode cX0_exchange 36 = .ok (.aload_n 0, 1) := by decide +kernel
theorem dX0_exchange_37 : decode cX0_exchange 37 = .ok (.getfield 18, 3) := by decide +kernel
theorem dX0_exchange_40 : decode cX0_exchange 40 = .ok (.iload_n 2, 1) := by decide +kernel
theorem dX0_exchange_41 : decode cX0_exchange 41 = .ok (.iaload, 1) := by decide +kernel
theorem dX0_exchange_42 : decode cX0_exchange 42 = .ok (.if_icmp .gt 5, 3) := by decide +kernel
theorem dX0_exchange_45 : decode cX0_exchange 45 = .ok (.iconst 0, 1) := by decide +kernel
theorem dX0_exchange_46 : decode cX0_exchange 46 = .ok (.ireturn, 1) := by decide +kernel
theorem dX0_exchange_47 : decode cX0_exchange 47 = .ok (.aload_n 0, 1) := by decide +kernel
theorem dX0_exchange_48 : decode cX0_exchange 48 = .ok (.getfield 9, 3) := by decide +kernel
theorem dX0_exchange_51 : decode cX0_exchange 51 = .ok (.iload_n 2, 1) := by decide +kernel
theorem dX0_exchange_52 : decode cX0_exchange 52 = .ok (.iload_n 1, 1) := by decide +kernel
theorem dX0_exchange_53 : decode cX0_exchange 53 = .ok (.iconst 1, 1) := by decide +kernel
theorem dX0_exchange_54 : decode cX0_exchange 54 = .ok (.iadd, 1) := by decide +kernel
theorem dX0_exchange_55 : decode cX0_exchange 55 = .ok (.iastore, 1) := by decide +kernel
theorem dX0_exchange_56 : decode cX0_exchange 56 = .ok (.aload_n 0, 1) := by decide +kernel
theorem dX0_exchange_57 : decode cX0_exchange 57 = .ok (.getfield 9, 3) := by decide +kernel
theorem dX0_exchange_60 : decode cX0_exchange 60 = .ok (.iload_n 3, 1) := by decide +kernel
theorem dX0_exchange_61 : decode cX0_exchange 61 = .ok (.iload_n 1, 1) := by decide +kernel
theorem dX0_exchange_62 : decode cX0_exchange 62 = .ok (.iastore, 1) := by decide +kernel
theorem dX0_exchange_63 : decode cX0_exchange 63 = .ok (.iconst 1, 1) := by decide +kernel
theorem dX0_exchange_64 : decode cX0_exchange 64 = .ok (.ireturn, 1) := by decide +kernel
theorem dX0_clearSeason_0 : decode cX0_clearSeason 0 = .ok (.iconst 0, 1) := by decide +kernel
theorem dX0_clearSeason_1 : decode cX0_clearSeason 1 = .ok (.istore_n 1, 1) := by decide +kernel
theorem dX0_clearSeason_2 : decode cX0_clearSeason 2 = .ok (.iload_n 1, 1) := by decide +kernel
theorem dX0_clearSeason_3 : decode cX0_clearSeason 3 = .ok (.aload_n 0, 1) := by decide +kernel
theorem dX0_clearSeason_4 : decode cX0_clearSeason 4 = .ok (.getfield 33, 3) := by decide +kernel
theorem dX0_clearSeason_7 : decode cX0_clearSeason 7 = .ok (.if_icmp .ge 23, 3) := by decide +kernel
theorem dX0_clearSeason_10 : decode cX0_clearSeason 10 = .ok (.aload_n 0, 1) := by decide +kernel
theorem dX0_clearSeason_11 : decode cX0_clearSeason 11 = .ok (.getfield 18, 3) := by decide +kernel
theorem dX0_clearSeason_14 : decode cX0_clearSeason 14 = .ok (.iload_n 1, 1) := by decide +kernel
theorem dX0_clearSeason_15 : decode cX0_clearSeason 15 = .ok (.iconst 0, 1) := by decide +kernel
theorem dX0_clearSeason_16 : decode cX0_clearSeason 16 = .ok (.iastore, 1) := by decide +kernel
theorem dX0_clearSeason_17 : decode cX0_clearSeason 17 = .ok (.aload_n 0, 1) := by decide +kernel
theorem dX0_clearSeason_18 : decode cX0_clearSeason 18 = .ok (.getfield 24, 3) := by decide +kernel
theorem dX0_clearSeason_21 : decode cX0_clearSeason 21 = .ok (.iload_n 1, 1) := by decide +kernel
theorem dX0_clearSeason_22 : decode cX0_clearSeason 22 = .ok (.iconst 0, 1) := by decide +kernel
theorem dX0_clearSeason_23 : decode cX0_clearSeason 23 = .ok (.iastore, 1) := by decide +kernel
theorem dX0_clearSeason_24 : decode cX0_clearSeason 24 = .ok (.iinc 1 1, 3) := by decide +kernel
theorem dX0_clearSeason_27 : decode cX0_clearSeason 27 = .ok (.goto (-25), 3) := by decide +kernel
theorem dX0_clearSeason_30 : decode cX0_clearSeason 30 = .ok (.return_, 1) := by decide +kernel
theorem dX0_sizeOf_0 : decode cX0_sizeOf 0 = .ok (.iconst 0, 1) := by decide +kernel
theorem dX0_sizeOf_1 : decode cX0_sizeOf 1 = .ok (.istore_n 2, 1) := by decide +kernel
theorem dX0_sizeOf_2 : decode cX0_sizeOf 2 = .ok (.iconst 0, 1) := by decide +kernel
theorem dX0_sizeOf_3 : decode cX0_sizeOf 3 = .ok (.istore_n 3, 1) := by decide +kernel
theorem dX0_sizeOf_4 : decode cX0_sizeOf 4 = .ok (.iload_n 3, 1) := by decide +kernel
theorem dX0_sizeOf_5 : decode cX0_sizeOf 5 = .ok (.aload_n 0, 1) := by decide +kernel
theorem dX0_sizeOf_6 : decode cX0_sizeOf 6 = .ok (.getfield 33, 3) := by decide +kernel
theorem dX0_sizeOf_9 : decode cX0_sizeOf 9 = .ok (.if_icmp .ge 22, 3) := by decide +kernel
theorem dX0_sizeOf_12 : decode cX0_sizeOf 12 = .ok (.aload_n 0, 1) := by decide +kernel
theorem dX0_sizeOf_13 : decode cX0_sizeOf 13 = .ok (.getfield 9, 3) := by decide +kernel
theorem dX0_sizeOf_16 : decode cX0_sizeOf 16 = .ok (.iload_n 3, 1) := by decide +kernel
theorem dX0_sizeOf_17 : decode cX0_sizeOf 17 = .ok (.iaload, 1) := by decide +kernel
theorem dX0_sizeOf_18 : decode cX0_sizeOf 18 = .ok (.iload_n 1, 1) := by decide +kernel
theorem dX0_sizeOf_19 : decode cX0_sizeOf 19 = .ok (.if_icmp .ne 6, 3) := by decide +kernel
theorem dX0_sizeOf_22 : decode cX0_sizeOf 22 = .ok (.iinc 2 1, 3) := by decide +kernel
theorem dX0_sizeOf_25 : decode cX0_sizeOf 25 = .ok (.iinc 3 1, 3) := by decide +kernel
theorem dX0_sizeOf_28 : decode cX0_sizeOf 28 = .ok (.goto (-24), 3) := by decide +kernel
theorem dX0_sizeOf_31 : decode cX0_sizeOf 31 = .ok (.iload_n 2, 1) := by decide +kernel
theorem dX0_sizeOf_32 : decode cX0_sizeOf 32 = .ok (.ireturn, 1) := by decide +kernel
set_option maxRecDepth 20000 in
theorem ggX0_place_X0_isAhead : GoodIn wsX0_place wsX0_isAhead := goodIn_r _ [7, 8, 9, 10, 11, 12, 13, 14, 15, 16, 17] (by decide +kernel) (by decide +kernel)
set_option maxRecDepth 20000 in
theorem gX0_place_X0_isAhead : GoodIn wsX0_place (wsV RX0 80 RX0 yX0_isAhead wsX0_isAhead) := goodIn_app (goodIn_of _ (by decide +kernel)) ggX0_place_X0_isAhead
theorem dX0_place_0 : decode cX0_place 0 = .ok (.iconst 1, 1) := by decide +kernel
theorem dX0_place_1 : decode cX0_place 1 = .ok (.istore_n 2, 1) := by decide +kernel
theorem dX0_place_2 : decode cX0_place 2 = .ok (.iconst 0, 1) := by decide +kernel
theorem dX0_place_3 : decode cX0_place 3 = .ok (.istore_n 3, 1) := by decide +kernel
theorem dX0_place_4 : decode cX0_place 4 = .ok (.iload_n 3, 1) := by decide +kernel
theorem dX0_place_5 : decode cX0_place 5 = .ok (.aload_n 0, 1) := by decide +kernel
theorem dX0_place_6 : decode cX0_place 6 = .ok (.getfield 33, 3) := by decide +kernel
theorem dX0_place_9 : decode cX0_place 9 = .ok (.if_icmp .ge 36, 3) := by decide +kernel
